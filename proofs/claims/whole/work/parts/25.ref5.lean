/-! ABOVE grows -/
def s_w56 (S : sT) (f : Nat → Bool) : sT := (S.1, fun k j => if k = 56 then f j else S.2.1 k j, S.2.2)
def s_rsB (S : sT) (t a j : Nat) : Bool := S.2.1 56 j || (decide (j / 40 < s_nT S) && decide (j % 40 < s_nT S) && s_at S (j / 40) t && s_at S a (j % 40))
def s_raise (S : sT) (t a : Nat) : sT := s_w56 S (s_rsB S t a)
def s_fo (S : sT) (t a x j : Nat) : Bool := if j / 40 < x then s_rsB S t a j else S.2.1 56 j
def s_fi (S : sT) (t a x u j : Nat) : Bool := if j / 40 < x then s_rsB S t a j else if j / 40 = x then (S.2.1 56 j || (decide (j % 40 = a) || (decide (j % 40 < u) && S.2.1 56 (40 * a + j % 40)))) else S.2.1 56 j
theorem s_w56_up {S : sT} {f : Nat → Bool} {k : Nat} {v : Bool} {g : Nat → Bool} (h : ∀ j, g j = if j = k then v else f j) : s_ub (s_w56 S f) 56 k v = s_w56 S g := by
  unfold s_ub s_w56
  simp only [Prod.mk.injEq, true_and, and_true]
  funext a b
  by_cases ha : a = 56
  · subst ha
    simp only [true_and, if_true, h]
  · simp [ha]
theorem w_nT {S : sT} {f : Nat → Bool} : s_nT (s_w56 S f) = s_nT S := rfl
theorem w_nM {S : sT} {f : Nat → Bool} : s_nM (s_w56 S f) = s_nM S := rfl
theorem w_nP {S : sT} {f : Nat → Bool} : s_nP (s_w56 S f) = s_nP S := rfl
theorem w_nX {S : sT} {f : Nat → Bool} : s_nX (s_w56 S f) = s_nX S := rfl
theorem w_ou {S : sT} {f : Nat → Bool} {j : Nat} : s_ou (s_w56 S f) j = s_ou S j := rfl
theorem w_pa {S : sT} {f : Nat → Bool} {j : Nat} : s_pa (s_w56 S f) j = s_pa S j := rfl
theorem w_1 {S : sT} {f : Nat → Bool} : (s_w56 S f).1 = S.1 := rfl
theorem w_44 {S : sT} {f : Nat → Bool} {j : Nat} : (s_w56 S f).2.1 44 j = S.2.1 44 j := rfl
theorem w_46 {S : sT} {f : Nat → Bool} {j : Nat} : (s_w56 S f).2.1 46 j = S.2.1 46 j := rfl
theorem w_47 {S : sT} {f : Nat → Bool} {j : Nat} : (s_w56 S f).2.1 47 j = S.2.1 47 j := rfl
theorem w_56 {S : sT} {f : Nat → Bool} {j : Nat} : (s_w56 S f).2.1 56 j = f j := rfl
theorem s_w56_id {S : sT} {f : Nat → Bool} (h : ∀ j, f j = S.2.1 56 j) : s_w56 S f = S := by
  unfold s_w56
  have : (fun k j => if k = 56 then f j else S.2.1 k j) = S.2.1 := by
    funext k j
    by_cases hk : k = 56
    · subst hk; simp [h]
    · simp [hk]
  rw [this]
theorem s_w56_eq {S : sT} {f g : Nat → Bool} (h : ∀ j, f j = g j) : s_w56 S f = s_w56 S g := by
  rw [show f = g from funext h]
theorem s_fo_skip {S : sT} {t a x : Nat} (h : s_at S x t = false) (j : Nat) : s_fo S t a (x + 1) j = s_fo S t a x j := by
  unfold s_fo s_rsB
  by_cases h1 : j / 40 < x
  · simp [h1, show j / 40 < x + 1 by omega]
  · by_cases h2 : j / 40 = x
    · subst h2; simp [h]
    · simp [h1, show ¬ j / 40 < x + 1 by omega]
theorem s_fo_in {S : sT} {t a x : Nat} (hx : x < s_nT S) (ha : a < s_nT S) (h : s_at S x t = true) (j : Nat) : s_fo S t a (x + 1) j = s_fi S t a x (s_nT S) j := by
  unfold s_fo s_fi
  by_cases h1 : j / 40 < x
  · simp [h1, show j / 40 < x + 1 by omega]
  · by_cases h2 : j / 40 = x
    · subst h2
      simp only [Nat.lt_irrefl, if_false, if_true, show j / 40 < j / 40 + 1 by omega]
      unfold s_rsB
      rw [h]
      simp only [hx, decide_true, Bool.true_and, Bool.and_true]
      unfold s_at
      by_cases h3 : j % 40 = a
      · simp [h3, ha]
      · have h4 : ¬ a = j % 40 := fun q => h3 q.symm
        simp only [h3, decide_false, Bool.false_or, show (a == j % 40) = false by simp [h4]]
    · simp [h1, h2, show ¬ j / 40 < x + 1 by omega]
theorem s_fi_0 {S : sT} {t a x : Nat} (ha : a < 40) (j : Nat) : s_fi S t a x 0 j = if j = 40 * x + a then true else s_fo S t a x j := by
  unfold s_fi s_fo
  by_cases h0 : j = 40 * x + a
  · have e1 : j / 40 = x := by omega
    have e2 : j % 40 = a := by omega
    simp [h0, show (40 * x + a) / 40 = x by omega, show (40 * x + a) % 40 = a by omega]
  · rw [if_neg h0]
    by_cases h1 : j / 40 < x
    · simp [h1]
    · by_cases h2 : j / 40 = x
      · have : ¬ j % 40 = a := by omega
        simp [h2, this]
      · simp [h1, h2]
theorem s_fi_s {S : sT} {t a x u : Nat} (hu : u < 40) (j : Nat) : s_fi S t a x (u + 1) j = if j = 40 * x + u then (s_fi S t a x u (40 * x + u) || S.2.1 56 (40 * a + u)) else s_fi S t a x u j := by
  unfold s_fi
  by_cases h0 : j = 40 * x + u
  · subst h0
    simp only [show (40 * x + u) / 40 = x by omega, show (40 * x + u) % 40 = u by omega, Nat.lt_irrefl, if_false, if_true, Nat.lt_succ_self, decide_true, decide_false, Bool.true_and, Bool.false_and, Bool.or_false]
    cases S.2.1 56 (40 * x + u) <;> cases decide (u = a) <;> simp
  · rw [if_neg h0]
    by_cases h1 : j / 40 < x
    · simp [h1]
    · by_cases h2 : j / 40 = x
      · have : (j % 40 < u + 1) ↔ (j % 40 < u) := by omega
        simp [h2, this]
      · simp [h1, h2]
theorem s_fi_a {S : sT} {t a x u : Nat} (ha : s_at S a t = false) (hx : s_at S x t = true) (hu : u < 40) : s_fi S t a x u (40 * a + u) = S.2.1 56 (40 * a + u) := by
  have hax : a ≠ x := fun q => by rw [q, hx] at ha; cases ha
  unfold s_fi s_rsB
  simp [show (40 * a + u) / 40 = a by omega, show (40 * a + u) % 40 = u by omega, hax, ha]
section R5
variable {l : Launch} {ω : ab_W} {S : sT} {μ : ab_M}
set_option maxHeartbeats 2000000 in
theorem r_raise {Q : ab_M → Prop} (hω : ω.2.2.2 = ab_SH) (R : RepR S μ) (hT : s_nT S ≤ 40) {x y : Int32} {t a : Nat} (ex : x = nI t) (ey : y = nI a) (ht : t < s_nT S) (ha : a < s_nT S) (hat : s_at S a t = false) (hQ : ∀ μ', RepR (s_raise S t a) μ' → SameD μ μ' → μ'.1 43 22 = 0 → Q μ') : ab_CV l ω mX11_raise [.ref 43, .int x, .int y] μ Q := by
  subst ex ey
  refine ab_intro (sh := ab_SH) (cd := kX11_raise) hω vX11_raise (by decide +kernel) rfl (Nat.le_of_ble_eq_true rfl) (fun j hj hw => ?_)
  have hjx : ∀ i ll st μ, i ∉ ([2, 30] : List Nat) → _ → j i ll st μ := fun i ll st μ _ h => hj i ll st μ h
  have loop : ∀ n' x μ', s_nT S + 1 ≤ x + n' → x ≤ s_nT S → RepR (s_w56 S (s_fo S t a x)) μ' → SameD μ μ' → ∀ v4, j 2 [some (.ref 43), some (.int (nI t)), some (.int (nI a)), some (.int (nI x)), v4] [] μ' := by
    intro n'
    induction n' with
    | zero => intro x μ' h1 h2; omega
    | succ n' ih =>
      intro x μ' h1 h2 R hC v4
      refine hw _ _ [some (.ref 43), some (.int (nI t)), some (.int (nI a)), some (.int (nI x)), none] _ _ ⟨rfl, rfl, rfl, rfl, trivial⟩ ?_
      by_cases hx : x < s_nT S
      · have inner : ∀ m' u μ', s_nT S + 1 ≤ u + m' → u ≤ s_nT S → s_at S x t = true → RepR (s_w56 S (s_fi S t a x u)) μ' → SameD μ μ' → j 30 [some (.ref 43), some (.int (nI t)), some (.int (nI a)), some (.int (nI x)), some (.int (nI u))] [] μ' := by
          intro m'
          induction m' with
          | zero => intro u μ' h1 h2; omega
          | succ m' ih2 =>
            intro u μ' h3 h4 hxt R hC
            have R2 := RepR_fs R
            simp only [w_nT, w_nM, w_nP, w_nX, w_ou, w_pa, w_1, w_44, w_46, w_47, w_56] at R2
            obtain ⟨r44, r45, r46, r47, r48, r49, r50, r51, r52, r53, r54, r55, r56, r57, r58, r59, r60, r61, g0, g2, g6, g16⟩ := R2
            by_cases hu : u < s_nT S
            · refine hj _ _ _ _ ?_
              repeat' (first | refine hjx _ _ _ _ (by decide) ?_ | (refine br_c (fun h => ?_) (fun h => ?_) <;> (try simp (disch := omega) only [nI_clamp, li_2, li_3, li_4, li_5, li_6, li_7, li_8, li_9, li_10, li_40, li_120, pk_mul, nI_add, nI_1, ix_eq, ix_lt, ix_le, ix_l0, ix_l1, ix_n0, ix_p0, ix_1lt, ix_lt1, ix_1le, ix_le1, ix_le0, ix_0lt, ab_z0, ab_z1, ab_zt, ab_zf, ab_ozn, ab_ozp, ab_o_some, not_true_eq_false, not_false_eq_true, Bool.not_eq_false, Bool.not_eq_true, Bool.not_eq_false', Bool.not_eq_true', Bool.false_eq_true, Bool.true_eq_false, reduceCtorEq, Option.isSome_some, Option.isSome_none, r44, r45, r46, r47, r48, r49, r50, r51, r52, r53, r54, r55, r56, r57, r58, r59, r60, r61, g0, g2, g6, g16] at h) <;> (try omega)) | (refine br_n (fun h => ?_) (fun h => ?_) <;> (try simp (disch := omega) only [nI_clamp, li_2, li_3, li_4, li_5, li_6, li_7, li_8, li_9, li_10, li_40, li_120, pk_mul, nI_add, nI_1, ix_eq, ix_lt, ix_le, ix_l0, ix_l1, ix_n0, ix_p0, ix_1lt, ix_lt1, ix_1le, ix_le1, ix_le0, ix_0lt, ab_z0, ab_z1, ab_zt, ab_zf, ab_ozn, ab_ozp, ab_o_some, not_true_eq_false, not_false_eq_true, Bool.not_eq_false, Bool.not_eq_true, Bool.not_eq_false', Bool.not_eq_true', Bool.false_eq_true, Bool.true_eq_false, reduceCtorEq, Option.isSome_some, Option.isSome_none, r44, r45, r46, r47, r48, r49, r50, r51, r52, r53, r54, r55, r56, r57, r58, r59, r60, r61, g0, g2, g6, g16] at h) <;> (try omega)) | refine ab_sd (by first | (with_reducible refine vp_in_nI ?_ ?_ <;> omega) | (simp (disch := omega) only [nI_clamp, li_2, li_3, li_4, li_5, li_6, li_7, li_8, li_9, li_10, li_40, li_120, pk_mul, nI_add, nI_1, ix_eq, ix_lt, ix_le, ix_l0, ix_l1, ix_n0, ix_p0, ix_1lt, ix_lt1, ix_1le, ix_le1, ix_le0, ix_0lt, ab_z0, ab_z1, ab_zt, ab_zf, ab_ozn, ab_ozp, ab_o_some, not_true_eq_false, not_false_eq_true, Bool.not_eq_false, Bool.not_eq_true, Bool.not_eq_false', Bool.not_eq_true', Bool.false_eq_true, Bool.true_eq_false, reduceCtorEq, Option.isSome_some, Option.isSome_none, r44, r45, r46, r47, r48, r49, r50, r51, r52, r53, r54, r55, r56, r57, r58, r59, r60, r61, g0, g2, g6, g16]; with_reducible refine vp_in_nI ?_ ?_ <;> omega)) ?_ | refine ab_sd ?_ ?_ | refine ab_sz (Or.inl rfl) ?_ | refine ab_sz (Or.inr rfl) ?_ | refine ab_sz ?_ ?_)
              · simp (disch := omega) only [nI_clamp, li_2, li_3, li_4, li_5, li_6, li_7, li_8, li_9, li_10, li_40, li_120, pk_mul, nI_add, nI_1, ix_eq, ix_lt, ix_le, ix_l0, ix_l1, ix_n0, ix_p0, ix_1lt, ix_lt1, ix_1le, ix_le1, ix_le0, ix_0lt, ab_z0, ab_z1, ab_zt, ab_zf, ab_ozn, ab_ozp, ab_o_some, not_true_eq_false, not_false_eq_true, Bool.not_eq_false, Bool.not_eq_true, Bool.not_eq_false', Bool.not_eq_true', Bool.false_eq_true, Bool.true_eq_false, reduceCtorEq, Option.isSome_some, Option.isSome_none, r44, r45, r46, r47, r48, r49, r50, r51, r52, r53, r54, r55, r56, r57, r58, r59, r60, r61, g0, g2, g6, g16, ab_zor]
                grind
              · show j 30 _ _ _
                simp (disch := omega) only [nI_clamp, li_2, li_3, li_4, li_5, li_6, li_7, li_8, li_9, li_10, li_40, li_120, pk_mul, nI_add, nI_1, ix_eq, ix_lt, ix_le, ix_l0, ix_l1, ix_n0, ix_p0, ix_1lt, ix_lt1, ix_1le, ix_le1, ix_le0, ix_0lt, ab_z0, ab_z1, ab_zt, ab_zf, ab_ozn, ab_ozp, ab_o_some, not_true_eq_false, not_false_eq_true, Bool.not_eq_false, Bool.not_eq_true, Bool.not_eq_false', Bool.not_eq_true', Bool.false_eq_true, Bool.true_eq_false, reduceCtorEq, Option.isSome_some, Option.isSome_none, r44, r45, r46, r47, r48, r49, r50, r51, r52, r53, r54, r55, r56, r57, r58, r59, r60, r61, g0, g2, g6, g16, ab_zor]
                refine ih2 (u + 1) _ (by omega) (by omega) hxt ?_ (SameD.mi hC (k := 56) (by omega))
                rw [← s_w56_up (fun j => s_fi_s (by omega) j)]
                have := rep_ub (k := 56) (j := 40 * x + u) (v := s_fi S t a x u (40 * x + u) || s_fi S t a x u (40 * a + u)) R rfl
                rw [s_fi_a hat hxt (by omega)] at this
                rw [s_fi_a hat hxt (by omega)]
                exact this
            · have hu2 : u = s_nT S := by omega
              refine hj _ _ _ _ ?_
              repeat' (first | refine hjx _ _ _ _ (by decide) ?_ | (refine br_c (fun h => ?_) (fun h => ?_) <;> (try simp (disch := omega) only [nI_clamp, li_2, li_3, li_4, li_5, li_6, li_7, li_8, li_9, li_10, li_40, li_120, pk_mul, nI_add, nI_1, ix_eq, ix_lt, ix_le, ix_l0, ix_l1, ix_n0, ix_p0, ix_1lt, ix_lt1, ix_1le, ix_le1, ix_le0, ix_0lt, ab_z0, ab_z1, ab_zt, ab_zf, ab_ozn, ab_ozp, ab_o_some, not_true_eq_false, not_false_eq_true, Bool.not_eq_false, Bool.not_eq_true, Bool.not_eq_false', Bool.not_eq_true', Bool.false_eq_true, Bool.true_eq_false, reduceCtorEq, Option.isSome_some, Option.isSome_none, r44, r45, r46, r47, r48, r49, r50, r51, r52, r53, r54, r55, r56, r57, r58, r59, r60, r61, g0, g2, g6, g16] at h) <;> (try omega)) | (refine br_n (fun h => ?_) (fun h => ?_) <;> (try simp (disch := omega) only [nI_clamp, li_2, li_3, li_4, li_5, li_6, li_7, li_8, li_9, li_10, li_40, li_120, pk_mul, nI_add, nI_1, ix_eq, ix_lt, ix_le, ix_l0, ix_l1, ix_n0, ix_p0, ix_1lt, ix_lt1, ix_1le, ix_le1, ix_le0, ix_0lt, ab_z0, ab_z1, ab_zt, ab_zf, ab_ozn, ab_ozp, ab_o_some, not_true_eq_false, not_false_eq_true, Bool.not_eq_false, Bool.not_eq_true, Bool.not_eq_false', Bool.not_eq_true', Bool.false_eq_true, Bool.true_eq_false, reduceCtorEq, Option.isSome_some, Option.isSome_none, r44, r45, r46, r47, r48, r49, r50, r51, r52, r53, r54, r55, r56, r57, r58, r59, r60, r61, g0, g2, g6, g16] at h) <;> (try omega)) | refine ab_sd (by first | (with_reducible refine vp_in_nI ?_ ?_ <;> omega) | (simp (disch := omega) only [nI_clamp, li_2, li_3, li_4, li_5, li_6, li_7, li_8, li_9, li_10, li_40, li_120, pk_mul, nI_add, nI_1, ix_eq, ix_lt, ix_le, ix_l0, ix_l1, ix_n0, ix_p0, ix_1lt, ix_lt1, ix_1le, ix_le1, ix_le0, ix_0lt, ab_z0, ab_z1, ab_zt, ab_zf, ab_ozn, ab_ozp, ab_o_some, not_true_eq_false, not_false_eq_true, Bool.not_eq_false, Bool.not_eq_true, Bool.not_eq_false', Bool.not_eq_true', Bool.false_eq_true, Bool.true_eq_false, reduceCtorEq, Option.isSome_some, Option.isSome_none, r44, r45, r46, r47, r48, r49, r50, r51, r52, r53, r54, r55, r56, r57, r58, r59, r60, r61, g0, g2, g6, g16]; with_reducible refine vp_in_nI ?_ ?_ <;> omega)) ?_ | refine ab_sd ?_ ?_ | refine ab_sz (Or.inl rfl) ?_ | refine ab_sz (Or.inr rfl) ?_ | refine ab_sz ?_ ?_)
              · show j 2 _ _ _
                rw [nI_1]
                refine ih (x + 1) _ (by omega) (by omega) ?_ hC _
                rw [s_w56_eq (fun j => s_fo_in hx ha hxt j), ← hu2]
                exact R
        have R2 := RepR_fs R
        simp only [w_nT, w_nM, w_nP, w_nX, w_ou, w_pa, w_1, w_44, w_46, w_47, w_56] at R2
        obtain ⟨r44, r45, r46, r47, r48, r49, r50, r51, r52, r53, r54, r55, r56, r57, r58, r59, r60, r61, g0, g2, g6, g16⟩ := R2
        have c1 : s_fo S t a x (40 * x + t) = s_ab S x t := by
          unfold s_fo
          rw [if_neg (by omega)]
        have enter : s_at S x t = true → j 30 [some (.ref 43), some (.int (nI t)), some (.int (nI a)), some (.int (nI x)), some (.int (nI 0))] [] (ab_mi μ' 56 (40 * x + a) 1) := by
          intro hxt
          refine inner (s_nT S + 1) 0 _ (by omega) (by omega) hxt ?_ (hC.mi (by omega))
          rw [← s_w56_up (fun j => s_fi_0 (by omega) j)]
          exact rep_ub (k := 56) (j := 40 * x + a) (v := true) R rfl
        refine hj _ _ _ _ ?_
        repeat' (first | refine hjx _ _ _ _ (by decide) ?_ | (refine br_c (fun h => ?_) (fun h => ?_) <;> (try simp (disch := omega) only [nI_clamp, li_2, li_3, li_4, li_5, li_6, li_7, li_8, li_9, li_10, li_40, li_120, pk_mul, nI_add, nI_1, ix_eq, ix_lt, ix_le, ix_l0, ix_l1, ix_n0, ix_p0, ix_1lt, ix_lt1, ix_1le, ix_le1, ix_le0, ix_0lt, ab_z0, ab_z1, ab_zt, ab_zf, ab_ozn, ab_ozp, ab_o_some, not_true_eq_false, not_false_eq_true, Bool.not_eq_false, Bool.not_eq_true, Bool.not_eq_false', Bool.not_eq_true', Bool.false_eq_true, Bool.true_eq_false, reduceCtorEq, Option.isSome_some, Option.isSome_none, r44, r45, r46, r47, r48, r49, r50, r51, r52, r53, r54, r55, r56, r57, r58, r59, r60, r61, g0, g2, g6, g16, c1] at h) <;> (try omega)) | (refine br_n (fun h => ?_) (fun h => ?_) <;> (try simp (disch := omega) only [nI_clamp, li_2, li_3, li_4, li_5, li_6, li_7, li_8, li_9, li_10, li_40, li_120, pk_mul, nI_add, nI_1, ix_eq, ix_lt, ix_le, ix_l0, ix_l1, ix_n0, ix_p0, ix_1lt, ix_lt1, ix_1le, ix_le1, ix_le0, ix_0lt, ab_z0, ab_z1, ab_zt, ab_zf, ab_ozn, ab_ozp, ab_o_some, not_true_eq_false, not_false_eq_true, Bool.not_eq_false, Bool.not_eq_true, Bool.not_eq_false', Bool.not_eq_true', Bool.false_eq_true, Bool.true_eq_false, reduceCtorEq, Option.isSome_some, Option.isSome_none, r44, r45, r46, r47, r48, r49, r50, r51, r52, r53, r54, r55, r56, r57, r58, r59, r60, r61, g0, g2, g6, g16, c1] at h) <;> (try omega)) | refine ab_sd (by first | (with_reducible refine vp_in_nI ?_ ?_ <;> omega) | (simp (disch := omega) only [nI_clamp, li_2, li_3, li_4, li_5, li_6, li_7, li_8, li_9, li_10, li_40, li_120, pk_mul, nI_add, nI_1, ix_eq, ix_lt, ix_le, ix_l0, ix_l1, ix_n0, ix_p0, ix_1lt, ix_lt1, ix_1le, ix_le1, ix_le0, ix_0lt, ab_z0, ab_z1, ab_zt, ab_zf, ab_ozn, ab_ozp, ab_o_some, not_true_eq_false, not_false_eq_true, Bool.not_eq_false, Bool.not_eq_true, Bool.not_eq_false', Bool.not_eq_true', Bool.false_eq_true, Bool.true_eq_false, reduceCtorEq, Option.isSome_some, Option.isSome_none, r44, r45, r46, r47, r48, r49, r50, r51, r52, r53, r54, r55, r56, r57, r58, r59, r60, r61, g0, g2, g6, g16, c1]; with_reducible refine vp_in_nI ?_ ?_ <;> omega)) ?_ | refine ab_sd ?_ ?_ | refine ab_sz (Or.inl rfl) ?_ | refine ab_sz (Or.inr rfl) ?_ | refine ab_sz ?_ ?_)
        · show j 30 _ _ _
          simp (disch := omega) only [nI_clamp, li_2, li_3, li_4, li_5, li_6, li_7, li_8, li_9, li_10, li_40, li_120, pk_mul, nI_add, nI_1, ix_eq, ix_lt, ix_le, ix_l0, ix_l1, ix_n0, ix_p0, ix_1lt, ix_lt1, ix_1le, ix_le1, ix_le0, ix_0lt, ab_z0, ab_z1, ab_zt, ab_zf, ab_ozn, ab_ozp, ab_o_some, not_true_eq_false, not_false_eq_true, Bool.not_eq_false, Bool.not_eq_true, Bool.not_eq_false', Bool.not_eq_true', Bool.false_eq_true, Bool.true_eq_false, reduceCtorEq, Option.isSome_some, Option.isSome_none, r44, r45, r46, r47, r48, r49, r50, r51, r52, r53, r54, r55, r56, r57, r58, r59, r60, r61, g0, g2, g6, g16]
          exact enter (by simp [s_at, h])
        · show j 30 _ _ _
          simp (disch := omega) only [nI_clamp, li_2, li_3, li_4, li_5, li_6, li_7, li_8, li_9, li_10, li_40, li_120, pk_mul, nI_add, nI_1, ix_eq, ix_lt, ix_le, ix_l0, ix_l1, ix_n0, ix_p0, ix_1lt, ix_lt1, ix_1le, ix_le1, ix_le0, ix_0lt, ab_z0, ab_z1, ab_zt, ab_zf, ab_ozn, ab_ozp, ab_o_some, not_true_eq_false, not_false_eq_true, Bool.not_eq_false, Bool.not_eq_true, Bool.not_eq_false', Bool.not_eq_true', Bool.false_eq_true, Bool.true_eq_false, reduceCtorEq, Option.isSome_some, Option.isSome_none, r44, r45, r46, r47, r48, r49, r50, r51, r52, r53, r54, r55, r56, r57, r58, r59, r60, r61, g0, g2, g6, g16]
          exact enter (by simp [s_at, h])
        · show j 2 _ _ _
          rw [nI_1]
          refine ih (x + 1) _ (by omega) (by omega) ?_ hC _
          rw [s_w56_eq (fun j => s_fo_skip (by simp [s_at, *]) j)]
          exact R
      · have hx2 : x = s_nT S := by omega
        have R2 := RepR_fs R
        simp only [w_nT, w_nM, w_nP, w_nX, w_ou, w_pa, w_1, w_44, w_46, w_47, w_56] at R2
        obtain ⟨r44, r45, r46, r47, r48, r49, r50, r51, r52, r53, r54, r55, r56, r57, r58, r59, r60, r61, g0, g2, g6, g16⟩ := R2
        refine hj _ _ _ _ ?_
        repeat' (first | refine hjx _ _ _ _ (by decide) ?_ | (refine br_c (fun h => ?_) (fun h => ?_) <;> (try simp (disch := omega) only [nI_clamp, li_2, li_3, li_4, li_5, li_6, li_7, li_8, li_9, li_10, li_40, li_120, pk_mul, nI_add, nI_1, ix_eq, ix_lt, ix_le, ix_l0, ix_l1, ix_n0, ix_p0, ix_1lt, ix_lt1, ix_1le, ix_le1, ix_le0, ix_0lt, ab_z0, ab_z1, ab_zt, ab_zf, ab_ozn, ab_ozp, ab_o_some, not_true_eq_false, not_false_eq_true, Bool.not_eq_false, Bool.not_eq_true, Bool.not_eq_false', Bool.not_eq_true', Bool.false_eq_true, Bool.true_eq_false, reduceCtorEq, Option.isSome_some, Option.isSome_none, r44, r45, r46, r47, r48, r49, r50, r51, r52, r53, r54, r55, r56, r57, r58, r59, r60, r61, g0, g2, g6, g16] at h) <;> (try omega)) | (refine br_n (fun h => ?_) (fun h => ?_) <;> (try simp (disch := omega) only [nI_clamp, li_2, li_3, li_4, li_5, li_6, li_7, li_8, li_9, li_10, li_40, li_120, pk_mul, nI_add, nI_1, ix_eq, ix_lt, ix_le, ix_l0, ix_l1, ix_n0, ix_p0, ix_1lt, ix_lt1, ix_1le, ix_le1, ix_le0, ix_0lt, ab_z0, ab_z1, ab_zt, ab_zf, ab_ozn, ab_ozp, ab_o_some, not_true_eq_false, not_false_eq_true, Bool.not_eq_false, Bool.not_eq_true, Bool.not_eq_false', Bool.not_eq_true', Bool.false_eq_true, Bool.true_eq_false, reduceCtorEq, Option.isSome_some, Option.isSome_none, r44, r45, r46, r47, r48, r49, r50, r51, r52, r53, r54, r55, r56, r57, r58, r59, r60, r61, g0, g2, g6, g16] at h) <;> (try omega)) | refine ab_sd (by first | (with_reducible refine vp_in_nI ?_ ?_ <;> omega) | (simp (disch := omega) only [nI_clamp, li_2, li_3, li_4, li_5, li_6, li_7, li_8, li_9, li_10, li_40, li_120, pk_mul, nI_add, nI_1, ix_eq, ix_lt, ix_le, ix_l0, ix_l1, ix_n0, ix_p0, ix_1lt, ix_lt1, ix_1le, ix_le1, ix_le0, ix_0lt, ab_z0, ab_z1, ab_zt, ab_zf, ab_ozn, ab_ozp, ab_o_some, not_true_eq_false, not_false_eq_true, Bool.not_eq_false, Bool.not_eq_true, Bool.not_eq_false', Bool.not_eq_true', Bool.false_eq_true, Bool.true_eq_false, reduceCtorEq, Option.isSome_some, Option.isSome_none, r44, r45, r46, r47, r48, r49, r50, r51, r52, r53, r54, r55, r56, r57, r58, r59, r60, r61, g0, g2, g6, g16]; with_reducible refine vp_in_nI ?_ ?_ <;> omega)) ?_ | refine ab_sd ?_ ?_ | refine ab_sz (Or.inl rfl) ?_ | refine ab_sz (Or.inr rfl) ?_ | refine ab_sz ?_ ?_)
        refine hQ _ (rep_c ?_ rfl rfl ⟨by decide, by decide⟩) (hC.mi (by omega)) mi_eq
        unfold s_raise
        rw [s_w56_eq (g := s_fo S t a x)]
        · exact R
        · intro j
          unfold s_fo
          by_cases hj : j / 40 < x
          · rw [if_pos hj]
          · rw [if_neg hj]
            unfold s_rsB
            simp [show ¬ j / 40 < s_nT S by omega]
  repeat' (first | refine hjx _ _ _ _ (by decide) ?_ | (refine br_c (fun h => ?_) (fun h => ?_) <;> (try simp (disch := omega) only [nI_clamp, li_2, li_3, li_4, li_5, li_6, li_7, li_8, li_9, li_10, li_40, li_120, pk_mul, nI_add, nI_1, ix_eq, ix_lt, ix_le, ix_l0, ix_l1, ix_n0, ix_p0, ix_1lt, ix_lt1, ix_1le, ix_le1, ix_le0, ix_0lt, ab_z0, ab_z1, ab_zt, ab_zf, ab_ozn, ab_ozp, ab_o_some, not_true_eq_false, not_false_eq_true, Bool.not_eq_false, Bool.not_eq_true, Bool.not_eq_false', Bool.not_eq_true', Bool.false_eq_true, Bool.true_eq_false, reduceCtorEq, Option.isSome_some, Option.isSome_none] at h) <;> (try omega)) | (refine br_n (fun h => ?_) (fun h => ?_) <;> (try simp (disch := omega) only [nI_clamp, li_2, li_3, li_4, li_5, li_6, li_7, li_8, li_9, li_10, li_40, li_120, pk_mul, nI_add, nI_1, ix_eq, ix_lt, ix_le, ix_l0, ix_l1, ix_n0, ix_p0, ix_1lt, ix_lt1, ix_1le, ix_le1, ix_le0, ix_0lt, ab_z0, ab_z1, ab_zt, ab_zf, ab_ozn, ab_ozp, ab_o_some, not_true_eq_false, not_false_eq_true, Bool.not_eq_false, Bool.not_eq_true, Bool.not_eq_false', Bool.not_eq_true', Bool.false_eq_true, Bool.true_eq_false, reduceCtorEq, Option.isSome_some, Option.isSome_none] at h) <;> (try omega)) | refine ab_sd (by first | (with_reducible refine vp_in_nI ?_ ?_ <;> omega) | (simp (disch := omega) only [nI_clamp, li_2, li_3, li_4, li_5, li_6, li_7, li_8, li_9, li_10, li_40, li_120, pk_mul, nI_add, nI_1, ix_eq, ix_lt, ix_le, ix_l0, ix_l1, ix_n0, ix_p0, ix_1lt, ix_lt1, ix_1le, ix_le1, ix_le0, ix_0lt, ab_z0, ab_z1, ab_zt, ab_zf, ab_ozn, ab_ozp, ab_o_some, not_true_eq_false, not_false_eq_true, Bool.not_eq_false, Bool.not_eq_true, Bool.not_eq_false', Bool.not_eq_true', Bool.false_eq_true, Bool.true_eq_false, reduceCtorEq, Option.isSome_some, Option.isSome_none]; with_reducible refine vp_in_nI ?_ ?_ <;> omega)) ?_ | refine ab_sd ?_ ?_ | refine ab_sz (Or.inl rfl) ?_ | refine ab_sz (Or.inr rfl) ?_ | refine ab_sz ?_ ?_)
  refine loop (s_nT S + 1) 0 μ (by omega) (by omega) ?_ SameD.rf _
  rw [s_w56_id (fun j => by simp [s_fo])]
  exact R
end R5
