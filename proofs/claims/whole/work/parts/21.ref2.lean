/-! OPEN -/
def s_at (S : sT) (t u : Nat) : Bool := t == u || s_ab S t u
def s_arnd (S : sT) (f t : Nat) : Bool := (s_ch S f).any (fun x => s_at S x t)
def s_op1 (S : sT) (f x o : Nat) : Bool := if S.1 51 x = 0 then s_top S f == s_top S x else if S.1 51 x = 1 then S.1 48 f == S.1 48 x else S.1 51 x == 3 || S.1 48 f == S.1 48 x || s_arnd S f o
def s_opT (S : sT) (f x : Nat) : Bool := if S.1 51 x = 1 then S.1 48 f == S.1 48 x else S.1 45 (S.1 48 f) == S.1 45 (S.1 48 x) || (S.2.1 44 (6 * S.1 45 (S.1 48 f) + S.1 45 (S.1 48 x)) && (S.2.1 47 (S.1 48 x) || S.2.1 46 (6 * S.1 48 x + S.1 45 (S.1 48 f))))
def s_opx (S : sT) (f x : Nat) : Bool := match s_ou S x with
  | some o => s_op1 S f x o
  | none => s_opT S f x
def s_open (S : sT) (f t : Nat) : Bool := (s_ch S t).all (fun x => s_opx S f x)
def s_opM (S : sT) (f : Nat) (how : Int32) (q m : Nat) : Bool := if S.1 60 m = 3 then true else if S.1 60 m = 0 then s_top S f == s_top S (S.1 57 m) else if S.1 48 f = S.1 48 (S.1 57 m) then true else S.1 60 m == 2 && (s_ch S f).any (fun s => s_at S s (S.1 57 m) && (s_has (S.1 61 m) 1 || !(how == 0) || s_at S q s))
theorem s_top_lt {S : sT} (hW : Wf S) : ∀ (n t : Nat), t < n → t < s_nT S → s_top S t < s_nT S
  | 0, t, h, _ => by omega
  | n + 1, t, h, ht => by
    cases e : s_ou S t with
    | none => unfold s_top; rw [s_ch_none e]; exact ht
    | some o =>
      have h3 := (hW.2.2.2.2.2.1 t ht).2.2.2.2.2.2.1 o e
      have h4 := s_top_lt hW n o (by omega) (by omega)
      have : s_top S t = s_top S o := by
        unfold s_top
        rw [s_ch_some hW ht e]
        cases hc : s_ch S o with
        | nil => unfold s_ch at hc; cases o <;> simp [s_chF] at hc
        | cons b r => simp [List.getLast?_cons]
      omega
section R2
variable {l : Launch} {ω : ab_W} {S : sT} {μ : ab_M} {Q : Int32 → ab_M → Prop}
theorem r_isAround (hω : ω.2.2.2 = ab_SH) (R : RepR S μ) (hW : Wf S) {x y : Int32} {f t : Nat} (ex : x = nI f) (ey : y = nI t) (hf : f < s_nT S) (ht : t < s_nT S) (hQ : Q (ab_z (s_arnd S f t)) μ) : ab_CI l ω mX11_isAround [.ref 43, .int x, .int y] μ Q := by
  subst ex ey
  refine ab_intro (sh := ab_SH) (cd := kX11_isAround) hω vX11_isAround (by decide +kernel) rfl (Nat.le_of_ble_eq_true rfl) (fun j hj hw => ?_)
  have hjx : ∀ i ll st μ, i ∉ ([2] : List Nat) → _ → j i ll st μ := fun i ll st μ _ h => hj i ll st μ h
  obtain ⟨r44, r45, r46, r47, r48, r49, r50, r51, r52, r53, r54, r55, r56, r57, r58, r59, r60, r61, g0, g2, g6, g16⟩ := RepR_fs R
  have hT := hW.2.2.1.2
  have fin : ∀ x : Int32, x < 0 → Q 0 μ → j 2 [some (.ref 43), some (.int (nI f)), some (.int (nI t)), some (.int x)] [] μ := by
    intro x hx hQ
    refine hj _ _ _ _ ?_
    repeat' (first | refine hjx _ _ _ _ (by decide) ?_ | (refine br_c (fun h => ?_) (fun h => ?_) <;> (try simp (disch := omega) only [nI_clamp, li_2, li_3, li_4, li_5, li_6, li_7, li_8, li_9, li_10, li_40, li_120, pk_mul, nI_add, nI_1, ix_eq, ix_lt, ix_le, ix_l0, ix_l1, ix_n0, ix_p0, ix_1lt, ix_lt1, ix_1le, ix_le1, ix_le0, ix_0lt, ab_z0, ab_z1, ab_zt, ab_zf, ab_ozn, ab_ozp, ab_o_some, not_true_eq_false, not_false_eq_true, Bool.not_eq_false, Bool.not_eq_true, r44, r45, r46, r47, r48, r49, r50, r51, r52, r53, r54, r55, r56, r57, r58, r59, r60, r61, g0, g2, g6, g16] at h)) | (refine br_n (fun h => ?_) (fun h => ?_) <;> (try simp (disch := omega) only [nI_clamp, li_2, li_3, li_4, li_5, li_6, li_7, li_8, li_9, li_10, li_40, li_120, pk_mul, nI_add, nI_1, ix_eq, ix_lt, ix_le, ix_l0, ix_l1, ix_n0, ix_p0, ix_1lt, ix_lt1, ix_1le, ix_le1, ix_le0, ix_0lt, ab_z0, ab_z1, ab_zt, ab_zf, ab_ozn, ab_ozp, ab_o_some, not_true_eq_false, not_false_eq_true, Bool.not_eq_false, Bool.not_eq_true, r44, r45, r46, r47, r48, r49, r50, r51, r52, r53, r54, r55, r56, r57, r58, r59, r60, r61, g0, g2, g6, g16] at h)) | refine ab_sd (by first | (with_reducible refine vp_in_nI ?_ ?_ <;> omega) | (simp (disch := omega) only [nI_clamp, li_2, li_3, li_4, li_5, li_6, li_7, li_8, li_9, li_10, li_40, li_120, pk_mul, nI_add, nI_1, ix_eq, ix_lt, ix_le, ix_l0, ix_l1, ix_n0, ix_p0, ix_1lt, ix_lt1, ix_1le, ix_le1, ix_le0, ix_0lt, ab_z0, ab_z1, ab_zt, ab_zf, ab_ozn, ab_ozp, ab_o_some, not_true_eq_false, not_false_eq_true, Bool.not_eq_false, Bool.not_eq_true, r44, r45, r46, r47, r48, r49, r50, r51, r52, r53, r54, r55, r56, r57, r58, r59, r60, r61, g0, g2, g6, g16]; with_reducible refine vp_in_nI ?_ ?_ <;> omega)) ?_ | refine ab_sd ?_ ?_ | refine ab_sz (Or.inl rfl) ?_ | refine ab_sz (Or.inr rfl) ?_ | refine ab_sz ?_ ?_)
    · exact hQ
    all_goals grind
  have loop : ∀ n' a, a < n' → a < s_nT S → Q (ab_z (s_arnd S a t)) μ → j 2 [some (.ref 43), some (.int (nI f)), some (.int (nI t)), some (.int (nI a))] [] μ := by
    intro n'
    induction n' with
    | zero => intro a h1; omega
    | succ n' ih =>
      intro a h1 h2 hQ
      have ho := (hW.2.2.2.2.2.1 a h2).2.2.2.2.2.2.1
      refine hj _ _ _ _ ?_
      repeat' (first | refine hjx _ _ _ _ (by decide) ?_ | (refine br_c (fun h => ?_) (fun h => ?_) <;> (try simp (disch := omega) only [nI_clamp, li_2, li_3, li_4, li_5, li_6, li_7, li_8, li_9, li_10, li_40, li_120, pk_mul, nI_add, nI_1, ix_eq, ix_lt, ix_le, ix_l0, ix_l1, ix_n0, ix_p0, ix_1lt, ix_lt1, ix_1le, ix_le1, ix_le0, ix_0lt, ab_z0, ab_z1, ab_zt, ab_zf, ab_ozn, ab_ozp, ab_o_some, not_true_eq_false, not_false_eq_true, Bool.not_eq_false, Bool.not_eq_true, r44, r45, r46, r47, r48, r49, r50, r51, r52, r53, r54, r55, r56, r57, r58, r59, r60, r61, g0, g2, g6, g16] at h)) | (refine br_n (fun h => ?_) (fun h => ?_) <;> (try simp (disch := omega) only [nI_clamp, li_2, li_3, li_4, li_5, li_6, li_7, li_8, li_9, li_10, li_40, li_120, pk_mul, nI_add, nI_1, ix_eq, ix_lt, ix_le, ix_l0, ix_l1, ix_n0, ix_p0, ix_1lt, ix_lt1, ix_1le, ix_le1, ix_le0, ix_0lt, ab_z0, ab_z1, ab_zt, ab_zf, ab_ozn, ab_ozp, ab_o_some, not_true_eq_false, not_false_eq_true, Bool.not_eq_false, Bool.not_eq_true, r44, r45, r46, r47, r48, r49, r50, r51, r52, r53, r54, r55, r56, r57, r58, r59, r60, r61, g0, g2, g6, g16] at h)) | refine ab_sd (by first | (with_reducible refine vp_in_nI ?_ ?_ <;> omega) | (simp (disch := omega) only [nI_clamp, li_2, li_3, li_4, li_5, li_6, li_7, li_8, li_9, li_10, li_40, li_120, pk_mul, nI_add, nI_1, ix_eq, ix_lt, ix_le, ix_l0, ix_l1, ix_n0, ix_p0, ix_1lt, ix_lt1, ix_1le, ix_le1, ix_le0, ix_0lt, ab_z0, ab_z1, ab_zt, ab_zf, ab_ozn, ab_ozp, ab_o_some, not_true_eq_false, not_false_eq_true, Bool.not_eq_false, Bool.not_eq_true, r44, r45, r46, r47, r48, r49, r50, r51, r52, r53, r54, r55, r56, r57, r58, r59, r60, r61, g0, g2, g6, g16]; with_reducible refine vp_in_nI ?_ ?_ <;> omega)) ?_ | refine r_isAt hω R rfl rfl (by omega) (by omega) ?_ | refine ab_sd ?_ ?_ | refine ab_sz (Or.inl rfl) ?_ | refine ab_sz (Or.inr rfl) ?_ | refine ab_sz ?_ ?_)
      · simp (disch := omega) only [nI_clamp, li_2, li_3, li_4, li_5, li_6, li_7, li_8, li_9, li_10, li_40, li_120, pk_mul, nI_add, nI_1, ix_eq, ix_lt, ix_le, ix_l0, ix_l1, ix_n0, ix_p0, ix_1lt, ix_lt1, ix_1le, ix_le1, ix_le0, ix_0lt, ab_z0, ab_z1, ab_zt, ab_zf, ab_ozn, ab_ozp, ab_o_some, not_true_eq_false, not_false_eq_true, Bool.not_eq_false, Bool.not_eq_true, r44, r45, r46, r47, r48, r49, r50, r51, r52, r53, r54, r55, r56, r57, r58, r59, r60, r61, g0, g2, g6, g16]
        cases e : s_ou S a with
        | none =>
          refine fin _ (by decide) (q_of hQ ?_)
          unfold s_arnd s_at
          rw [s_ch_none e]
          simp [h, ab_z]
        | some o =>
          have h3 := ho o e
          refine ih o (by omega) (by omega) (q_of hQ ?_)
          unfold s_arnd s_at
          rw [s_ch_some hW h2 e, List.any_cons, h, Bool.false_or]
      · refine q_of hQ ?_
        cases e : s_ou S a with
        | none => unfold s_arnd s_at; rw [s_ch_none e]; simp only [List.any_cons, h]; rfl
        | some o => unfold s_arnd s_at; rw [s_ch_some hW h2 e]; simp only [List.any_cons, h]; rfl
  repeat' (first | refine hjx _ _ _ _ (by decide) ?_ | (refine br_c (fun h => ?_) (fun h => ?_) <;> (try simp (disch := omega) only [nI_clamp, li_2, li_3, li_4, li_5, li_6, li_7, li_8, li_9, li_10, li_40, li_120, pk_mul, nI_add, nI_1, ix_eq, ix_lt, ix_le, ix_l0, ix_l1, ix_n0, ix_p0, ix_1lt, ix_lt1, ix_1le, ix_le1, ix_le0, ix_0lt, ab_z0, ab_z1, ab_zt, ab_zf, ab_ozn, ab_ozp, ab_o_some, not_true_eq_false, not_false_eq_true, Bool.not_eq_false, Bool.not_eq_true, r44, r45, r46, r47, r48, r49, r50, r51, r52, r53, r54, r55, r56, r57, r58, r59, r60, r61, g0, g2, g6, g16] at h)) | (refine br_n (fun h => ?_) (fun h => ?_) <;> (try simp (disch := omega) only [nI_clamp, li_2, li_3, li_4, li_5, li_6, li_7, li_8, li_9, li_10, li_40, li_120, pk_mul, nI_add, nI_1, ix_eq, ix_lt, ix_le, ix_l0, ix_l1, ix_n0, ix_p0, ix_1lt, ix_lt1, ix_1le, ix_le1, ix_le0, ix_0lt, ab_z0, ab_z1, ab_zt, ab_zf, ab_ozn, ab_ozp, ab_o_some, not_true_eq_false, not_false_eq_true, Bool.not_eq_false, Bool.not_eq_true, r44, r45, r46, r47, r48, r49, r50, r51, r52, r53, r54, r55, r56, r57, r58, r59, r60, r61, g0, g2, g6, g16] at h)) | refine ab_sd (by first | (with_reducible refine vp_in_nI ?_ ?_ <;> omega) | (simp (disch := omega) only [nI_clamp, li_2, li_3, li_4, li_5, li_6, li_7, li_8, li_9, li_10, li_40, li_120, pk_mul, nI_add, nI_1, ix_eq, ix_lt, ix_le, ix_l0, ix_l1, ix_n0, ix_p0, ix_1lt, ix_lt1, ix_1le, ix_le1, ix_le0, ix_0lt, ab_z0, ab_z1, ab_zt, ab_zf, ab_ozn, ab_ozp, ab_o_some, not_true_eq_false, not_false_eq_true, Bool.not_eq_false, Bool.not_eq_true, r44, r45, r46, r47, r48, r49, r50, r51, r52, r53, r54, r55, r56, r57, r58, r59, r60, r61, g0, g2, g6, g16]; with_reducible refine vp_in_nI ?_ ?_ <;> omega)) ?_ | refine ab_sd ?_ ?_ | refine ab_sz (Or.inl rfl) ?_ | refine ab_sz (Or.inr rfl) ?_ | refine ab_sz ?_ ?_)
  exact loop (f + 1) f (by omega) hf hQ
theorem r_isOpen (hω : ω.2.2.2 = ab_SH) (R : RepR S μ) (hW : Wf S) {x y : Int32} {f t : Nat} (ex : x = nI f) (ey : y = nI t) (hf : f < s_nT S) (ht : t < s_nT S) (hQ : Q (ab_z (s_open S f t)) μ) : ab_CI l ω mX11_isOpen [.ref 43, .int x, .int y] μ Q := by
  subst ex ey
  refine ab_intro (sh := ab_SH) (cd := kX11_isOpen) hω vX11_isOpen (by decide +kernel) rfl (Nat.le_of_ble_eq_true rfl) (fun j hj hw => ?_)
  have hjx : ∀ i ll st μ, i ∉ ([2] : List Nat) → _ → j i ll st μ := fun i ll st μ _ h => hj i ll st μ h
  obtain ⟨r44, r45, r46, r47, r48, r49, r50, r51, r52, r53, r54, r55, r56, r57, r58, r59, r60, r61, g0, g2, g6, g16⟩ := RepR_fs R
  have hT := hW.2.2.1.2
  have hM := hW.1.2
  have hP := hW.2.1.2
  have ft := s_top_lt hW _ f (Nat.lt_succ_self _) hf
  obtain ⟨f1, f2, f3, f4, -⟩ := hW.2.2.2.2.2.1 f hf
  have f5 := hW.2.2.2.2.1 _ f1
  have loop : ∀ n' a, a < n' → a < s_nT S → Q (ab_z (s_open S f a)) μ → ∀ v4 v5 v6, j 2 [some (.ref 43), some (.int (nI f)), some (.int (nI t)), some (.int (nI a)), v4, v5, v6] [] μ := by
    intro n'
    induction n' with
    | zero => intro a h1; omega
    | succ n' ih =>
      intro a h1 h2 hQ v4 v5 v6
      refine hw _ _ [some (.ref 43), some (.int (nI f)), some (.int (nI t)), some (.int (nI a)), none, none, none] _ _ ⟨rfl, rfl, rfl, rfl, trivial⟩ ?_
      obtain ⟨a1, a2, a3, a4, -, -, ho, -⟩ := hW.2.2.2.2.2.1 a h2
      have a5 := hW.2.2.2.2.1 _ a1
      have at' := s_top_lt hW _ a (Nat.lt_succ_self _) h2
      cases e : s_ou S a with
      | none =>
        have hs : s_open S f a = s_opT S f a := by unfold s_open; rw [s_ch_none e]; simp [s_opx, e]
        rw [hs] at hQ
        clear ih
        refine hj _ _ _ _ ?_
        repeat' (first | refine hjx _ _ _ _ (by decide) ?_ | (refine br_c (fun h => ?_) (fun h => ?_) <;> (try simp (disch := omega) only [nI_clamp, li_2, li_3, li_4, li_5, li_6, li_7, li_8, li_9, li_10, li_40, li_120, pk_mul, nI_add, nI_1, ix_eq, ix_lt, ix_le, ix_l0, ix_l1, ix_n0, ix_p0, ix_1lt, ix_lt1, ix_1le, ix_le1, ix_le0, ix_0lt, ab_z0, ab_z1, ab_zt, ab_zf, ab_ozn, ab_ozp, ab_o_some, not_true_eq_false, not_false_eq_true, Bool.not_eq_false, Bool.not_eq_true, r44, r45, r46, r47, r48, r49, r50, r51, r52, r53, r54, r55, r56, r57, r58, r59, r60, r61, g0, g2, g6, g16, e] at h)) | (refine br_n (fun h => ?_) (fun h => ?_) <;> (try simp (disch := omega) only [nI_clamp, li_2, li_3, li_4, li_5, li_6, li_7, li_8, li_9, li_10, li_40, li_120, pk_mul, nI_add, nI_1, ix_eq, ix_lt, ix_le, ix_l0, ix_l1, ix_n0, ix_p0, ix_1lt, ix_lt1, ix_1le, ix_le1, ix_le0, ix_0lt, ab_z0, ab_z1, ab_zt, ab_zf, ab_ozn, ab_ozp, ab_o_some, not_true_eq_false, not_false_eq_true, Bool.not_eq_false, Bool.not_eq_true, r44, r45, r46, r47, r48, r49, r50, r51, r52, r53, r54, r55, r56, r57, r58, r59, r60, r61, g0, g2, g6, g16, e] at h)) | refine ab_sd (by first | (with_reducible refine vp_in_nI ?_ ?_ <;> omega) | (simp (disch := omega) only [nI_clamp, li_2, li_3, li_4, li_5, li_6, li_7, li_8, li_9, li_10, li_40, li_120, pk_mul, nI_add, nI_1, ix_eq, ix_lt, ix_le, ix_l0, ix_l1, ix_n0, ix_p0, ix_1lt, ix_lt1, ix_1le, ix_le1, ix_le0, ix_0lt, ab_z0, ab_z1, ab_zt, ab_zf, ab_ozn, ab_ozp, ab_o_some, not_true_eq_false, not_false_eq_true, Bool.not_eq_false, Bool.not_eq_true, r44, r45, r46, r47, r48, r49, r50, r51, r52, r53, r54, r55, r56, r57, r58, r59, r60, r61, g0, g2, g6, g16, e]; with_reducible refine vp_in_nI ?_ ?_ <;> omega)) ?_ | refine ab_sd ?_ ?_ | refine ab_sz (Or.inl rfl) ?_ | refine ab_sz (Or.inr rfl) ?_ | refine ab_sz ?_ ?_)
        all_goals (refine q_of hQ ?_; unfold s_opT ab_z; simp [*])
      | some o =>
        have h3 := ho o e
        have hs : s_open S f a = (s_op1 S f a o && s_open S f o) := by unfold s_open; rw [s_ch_some hW h2 e, List.all_cons]; simp [s_opx, e]
        rw [hs] at hQ
        have ih := ih o (by omega) (by omega)
        refine hj _ _ _ _ ?_
        repeat' (first | refine hjx _ _ _ _ (by decide) ?_ | (refine br_c (fun h => ?_) (fun h => ?_) <;> (try simp (disch := omega) only [nI_clamp, li_2, li_3, li_4, li_5, li_6, li_7, li_8, li_9, li_10, li_40, li_120, pk_mul, nI_add, nI_1, ix_eq, ix_lt, ix_le, ix_l0, ix_l1, ix_n0, ix_p0, ix_1lt, ix_lt1, ix_1le, ix_le1, ix_le0, ix_0lt, ab_z0, ab_z1, ab_zt, ab_zf, ab_ozn, ab_ozp, ab_o_some, not_true_eq_false, not_false_eq_true, Bool.not_eq_false, Bool.not_eq_true, r44, r45, r46, r47, r48, r49, r50, r51, r52, r53, r54, r55, r56, r57, r58, r59, r60, r61, g0, g2, g6, g16, e] at h)) | (refine br_n (fun h => ?_) (fun h => ?_) <;> (try simp (disch := omega) only [nI_clamp, li_2, li_3, li_4, li_5, li_6, li_7, li_8, li_9, li_10, li_40, li_120, pk_mul, nI_add, nI_1, ix_eq, ix_lt, ix_le, ix_l0, ix_l1, ix_n0, ix_p0, ix_1lt, ix_lt1, ix_1le, ix_le1, ix_le0, ix_0lt, ab_z0, ab_z1, ab_zt, ab_zf, ab_ozn, ab_ozp, ab_o_some, not_true_eq_false, not_false_eq_true, Bool.not_eq_false, Bool.not_eq_true, r44, r45, r46, r47, r48, r49, r50, r51, r52, r53, r54, r55, r56, r57, r58, r59, r60, r61, g0, g2, g6, g16, e] at h)) | refine ab_sd (by first | (with_reducible refine vp_in_nI ?_ ?_ <;> omega) | (simp (disch := omega) only [nI_clamp, li_2, li_3, li_4, li_5, li_6, li_7, li_8, li_9, li_10, li_40, li_120, pk_mul, nI_add, nI_1, ix_eq, ix_lt, ix_le, ix_l0, ix_l1, ix_n0, ix_p0, ix_1lt, ix_lt1, ix_1le, ix_le1, ix_le0, ix_0lt, ab_z0, ab_z1, ab_zt, ab_zf, ab_ozn, ab_ozp, ab_o_some, not_true_eq_false, not_false_eq_true, Bool.not_eq_false, Bool.not_eq_true, r44, r45, r46, r47, r48, r49, r50, r51, r52, r53, r54, r55, r56, r57, r58, r59, r60, r61, g0, g2, g6, g16, e]; with_reducible refine vp_in_nI ?_ ?_ <;> omega)) ?_ | refine r_topOf hω R hW (t := f) rfl hf ?_ | refine r_topOf hω R hW (t := a) rfl h2 ?_ | refine r_isAround hω R hW (f := f) (t := o) rfl (by simp (disch := omega) only [nI_clamp, li_2, li_3, li_4, li_5, li_6, li_7, li_8, li_9, li_10, li_40, li_120, pk_mul, nI_add, nI_1, ix_eq, ix_lt, ix_le, ix_l0, ix_l1, ix_n0, ix_p0, ix_1lt, ix_lt1, ix_1le, ix_le1, ix_le0, ix_0lt, ab_z0, ab_z1, ab_zt, ab_zf, ab_ozn, ab_ozp, ab_o_some, not_true_eq_false, not_false_eq_true, Bool.not_eq_false, Bool.not_eq_true, r44, r45, r46, r47, r48, r49, r50, r51, r52, r53, r54, r55, r56, r57, r58, r59, r60, r61, g0, g2, g6, g16, e]) hf (by omega) ?_ | refine ab_sd ?_ ?_ | refine ab_sz (Or.inl rfl) ?_ | refine ab_sz (Or.inr rfl) ?_ | refine ab_sz ?_ ?_)
        all_goals first | (refine q_of hQ ?_; unfold s_op1 ab_z; simp [*]; done) | (simp (disch := omega) only [nI_clamp, li_2, li_3, li_4, li_5, li_6, li_7, li_8, li_9, li_10, li_40, li_120, pk_mul, nI_add, nI_1, ix_eq, ix_lt, ix_le, ix_l0, ix_l1, ix_n0, ix_p0, ix_1lt, ix_lt1, ix_1le, ix_le1, ix_le0, ix_0lt, ab_z0, ab_z1, ab_zt, ab_zf, ab_ozn, ab_ozp, ab_o_some, not_true_eq_false, not_false_eq_true, Bool.not_eq_false, Bool.not_eq_true, r44, r45, r46, r47, r48, r49, r50, r51, r52, r53, r54, r55, r56, r57, r58, r59, r60, r61, g0, g2, g6, g16, e]; refine ih (q_of hQ ?_) _ _ _; unfold s_op1; simp [*]; done)
  repeat' (first | refine hjx _ _ _ _ (by decide) ?_ | (refine br_c (fun h => ?_) (fun h => ?_) <;> (try simp (disch := omega) only [nI_clamp, li_2, li_3, li_4, li_5, li_6, li_7, li_8, li_9, li_10, li_40, li_120, pk_mul, nI_add, nI_1, ix_eq, ix_lt, ix_le, ix_l0, ix_l1, ix_n0, ix_p0, ix_1lt, ix_lt1, ix_1le, ix_le1, ix_le0, ix_0lt, ab_z0, ab_z1, ab_zt, ab_zf, ab_ozn, ab_ozp, ab_o_some, not_true_eq_false, not_false_eq_true, Bool.not_eq_false, Bool.not_eq_true, r44, r45, r46, r47, r48, r49, r50, r51, r52, r53, r54, r55, r56, r57, r58, r59, r60, r61, g0, g2, g6, g16] at h)) | (refine br_n (fun h => ?_) (fun h => ?_) <;> (try simp (disch := omega) only [nI_clamp, li_2, li_3, li_4, li_5, li_6, li_7, li_8, li_9, li_10, li_40, li_120, pk_mul, nI_add, nI_1, ix_eq, ix_lt, ix_le, ix_l0, ix_l1, ix_n0, ix_p0, ix_1lt, ix_lt1, ix_1le, ix_le1, ix_le0, ix_0lt, ab_z0, ab_z1, ab_zt, ab_zf, ab_ozn, ab_ozp, ab_o_some, not_true_eq_false, not_false_eq_true, Bool.not_eq_false, Bool.not_eq_true, r44, r45, r46, r47, r48, r49, r50, r51, r52, r53, r54, r55, r56, r57, r58, r59, r60, r61, g0, g2, g6, g16] at h)) | refine ab_sd (by first | (with_reducible refine vp_in_nI ?_ ?_ <;> omega) | (simp (disch := omega) only [nI_clamp, li_2, li_3, li_4, li_5, li_6, li_7, li_8, li_9, li_10, li_40, li_120, pk_mul, nI_add, nI_1, ix_eq, ix_lt, ix_le, ix_l0, ix_l1, ix_n0, ix_p0, ix_1lt, ix_lt1, ix_1le, ix_le1, ix_le0, ix_0lt, ab_z0, ab_z1, ab_zt, ab_zf, ab_ozn, ab_ozp, ab_o_some, not_true_eq_false, not_false_eq_true, Bool.not_eq_false, Bool.not_eq_true, r44, r45, r46, r47, r48, r49, r50, r51, r52, r53, r54, r55, r56, r57, r58, r59, r60, r61, g0, g2, g6, g16]; with_reducible refine vp_in_nI ?_ ?_ <;> omega)) ?_ | refine ab_sd ?_ ?_ | refine ab_sz (Or.inl rfl) ?_ | refine ab_sz (Or.inr rfl) ?_ | refine ab_sz ?_ ?_)
  exact loop (t + 1) t (by omega) ht hQ _ _ _
end R2
