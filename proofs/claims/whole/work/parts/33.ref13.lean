/-! findMembers -/
def s_A (S : sT) (O : Nat → Bool) (t m : Nat) : Bool := S.1 57 m == t || (!(S.1 58 m == 2) && (s_dec S t (S.1 58 m) (S.1 59 m)).isNone && s_cfp S O t m)
def s_X (S : sT) (O : Nat → Bool) (t m : Nat) : Bool := !s_A S O t m && (!(S.1 58 m == 2) && (s_dec S t (S.1 58 m) (S.1 59 m)).isNone && (s_iof S O t m && (S.1 58 m == 0 || (s_pl S m && !s_bh S O t m))))
theorem s_AX (S : sT) (O : Nat → Bool) (t m : Nat) : (s_A S O t m || s_X S O t m) = s_ofS S O t m := by
  unfold s_X s_A s_ofS
  generalize (S.1 57 m == t) = a
  generalize (!(S.1 58 m == 2) && (s_dec S t (S.1 58 m) (S.1 59 m)).isNone) = b
  generalize s_cfp S O t m = c
  generalize (s_iof S O t m && (S.1 58 m == 0 || (s_pl S m && !s_bh S O t m))) = d
  cases a <;> cases b <;> cases c <;> cases d <;> rfl
/-- two pictures that differ at most in row t -/
def s_eqr (O O' : Nat → Bool) (t : Nat) : Prop := ∀ p m, p ≠ t → m < 120 → O (120 * p + m) = O' (120 * p + m)
theorem s_cfp_c {S : sT} {O O' : Nat → Bool} {t m : Nat} (h : s_eqr O O' t) (hp : ∀ p, s_pa S t = some p → p ≠ t) (hm : m < 120) : s_cfp S O t m = s_cfp S O' t m := by
  unfold s_cfp
  cases e : s_pa S t with
  | none => rfl
  | some p => simp only [h p m (hp p e) hm]
theorem s_ofp_c {S : sT} {O O' : Nat → Bool} {t m : Nat} (h : s_eqr O O' t) (hp : ∀ p, s_pa S t = some p → p ≠ t) (hm : m < 120) : s_ofp S O t m = s_ofp S O' t m := by
  unfold s_ofp
  cases e : s_pa S t with
  | none => rfl
  | some p => simp only [h p m (hp p e) hm]
theorem s_iof_c {S : sT} {O O' : Nat → Bool} {t m : Nat} (h : s_eqr O O' t) (hf : ∀ k, k < S.1 55 t → S.1 54 (4 * t + k) ≠ t) (hm : m < 120) : s_iof S O t m = s_iof S O' t m := by
  unfold s_iof
  exact ab_ex_congr (fun k hk => h _ m (hf k hk) hm)
theorem s_bh_c {S : sT} {O O' : Nat → Bool} {t m : Nat} (hX : s_nX S ≤ 120) (h : s_eqr O O' t) (hp : ∀ p, s_pa S t = some p → p ≠ t) (hf : ∀ k, k < S.1 55 t → S.1 54 (4 * t + k) ≠ t) : s_bh S O t m = s_bh S O' t m := by
  unfold s_bh
  refine ab_ex_congr (fun x hx => ?_)
  unfold s_bh1
  rw [s_cfp_c h hp (by omega), s_ofp_c h hp (by omega), s_iof_c h hf (by omega)]
theorem s_A_c {S : sT} {O O' : Nat → Bool} {t m : Nat} (h : s_eqr O O' t) (hp : ∀ p, s_pa S t = some p → p ≠ t) (hm : m < 120) : s_A S O t m = s_A S O' t m := by
  unfold s_A
  rw [s_cfp_c h hp hm]
/-- what find's helpers keep -/
def FR (μ μ' : ab_M) : Prop := SameC μ μ' ∧ μ'.1 63 = μ.1 63 ∧ μ'.1 64 = μ.1 64 ∧ μ'.1 43 22 = μ.1 43 22
theorem FR.rf {μ : ab_M} : FR μ μ := ⟨SameC.rf, rfl, rfl, rfl⟩
theorem FR.mi {μ μ' : ab_M} (h : FR μ μ') {k j : Nat} {x : Int32} (hk : k = 62 ∨ k = 65) : FR μ (ab_mi μ' k j x) := by
  refine ⟨h.1.mi (by omega), ?_, ?_, ?_⟩
  · rw [← h.2.1]; funext b; rcases hk with hk | hk <;> simp [ab_mi, hk]
  · rw [← h.2.2.1]; funext b; rcases hk with hk | hk <;> simp [ab_mi, hk]
  · rw [← h.2.2.2]; rcases hk with hk | hk <;> simp [ab_mi, hk]
theorem bool_up {μ : ab_M} {k : Nat} {O O' : Nat → Bool} {i : Nat} {v : Bool} (h : ∀ j, μ.1 k j = ab_z (O j)) (hO : ∀ j, O' j = if j = i then v else O j) : ∀ j, (ab_mi μ k i (ab_z v)).1 k j = ab_z (O' j) := by
  intro j
  rw [hO j]
  by_cases e : j = i
  · subst e; simp [ab_mi]
  · simp [ab_mi, e, h]
section R13
variable {l : Launch} {ω : ab_W} {S : sT} {μ : ab_M}
def s_o1 (S : sT) (O : Nat → Bool) (t a j : Nat) : Bool := if j / 120 = t ∧ j % 120 < a then s_A S O t (j % 120) else O j
def s_o3 (S : sT) (O : Nat → Bool) (t a j : Nat) : Bool := if j / 120 = t ∧ j % 120 < s_nX S then s_A S O t (j % 120) || (decide (j % 120 < a) && s_X S O t (j % 120)) else O j
theorem s_o1_eqr {S : sT} {O : Nat → Bool} {t a : Nat} : s_eqr (s_o1 S O t a) O t := by
  intro p m hp hm
  unfold s_o1
  rw [if_neg (by omega)]
theorem s_o1_s {S : sT} {O : Nat → Bool} {t a : Nat} (ha : a < 120) (j : Nat) : s_o1 S O t (a + 1) j = if j = 120 * t + a then s_A S O t a else s_o1 S O t a j := by
  unfold s_o1
  by_cases e : j = 120 * t + a
  · subst e
    simp only [show (120 * t + a) / 120 = t by omega, show (120 * t + a) % 120 = a by omega, if_true, Nat.lt_succ_self, and_self]
  · rw [if_neg e]
    by_cases h1 : j / 120 = t ∧ j % 120 < a
    · rw [if_pos h1, if_pos (by omega)]
    · rw [if_neg h1, if_neg (by omega)]
theorem s_o3_s {S : sT} {O : Nat → Bool} {t a : Nat} (ha : a < s_nX S) (hX : s_nX S ≤ 120) (j : Nat) : s_o3 S O t (a + 1) j = if j = 120 * t + a then s_o3 S O t a (120 * t + a) || s_X S O t a else s_o3 S O t a j := by
  unfold s_o3
  by_cases e : j = 120 * t + a
  · subst e
    simp only [show (120 * t + a) / 120 = t by omega, show (120 * t + a) % 120 = a by omega, if_true, Nat.lt_succ_self, and_self, ha, decide_true, Bool.true_and, Nat.lt_irrefl, decide_false, Bool.false_and, Bool.or_false]
  · rw [if_neg e]
    by_cases h1 : j / 120 = t ∧ j % 120 < s_nX S
    · rw [if_pos h1, if_pos h1]
      have : (j % 120 < a + 1) ↔ (j % 120 < a) := by omega
      simp only [this]
    · rw [if_neg h1, if_neg h1]
theorem s_o1_o3 {S : sT} {O : Nat → Bool} {t j : Nat} : s_o1 S O t (s_nX S) j = s_o3 S O t 0 j := by
  unfold s_o1 s_o3
  simp
set_option maxHeartbeats 4000000 in
theorem r_findMembers {Q : ab_M → Prop} {O : Nat → Bool} (hω : ω.2.2.2 = ab_SH) (R : RepR S μ) (hW : Wf S) (r62 : ∀ j, μ.1 62 j = ab_z (O j)) (r65 : ∃ C : Nat → Bool, ∀ j, μ.1 65 j = ab_z (C j)) {x : Int32} {t : Nat} (ex : x = nI t) (ht : t < s_nT S) (hpt : ∀ p, s_pa S t = some p → p ≠ t) (hft : ∀ k, k < S.1 55 t → S.1 54 (4 * t + k) ≠ t)
    (hQ : ∀ μ', RepR S μ' → FR μ μ' → (∃ C : Nat → Bool, ∀ j, μ'.1 65 j = ab_z (C j)) → (∀ j, μ'.1 62 j = ab_z (if j / 120 = t ∧ j % 120 < s_nX S then s_ofS S O t (j % 120) else O j)) → Q μ') : ab_CV l ω mX11_findMembers [.ref 43, .int x] μ Q := by
  subst ex
  refine ab_intro (sh := ab_SH) (cd := kX11_findMembers) hω vX11_findMembers (by decide +kernel) rfl (Nat.le_of_ble_eq_true rfl) (fun j hj hw => ?_)
  have hjx : ∀ i ll st μ, i ∉ ([2, 50, 117] : List Nat) → _ → j i ll st μ := fun i ll st μ _ h => hj i ll st μ h
  have hT := hW.2.2.1.2
  have hX := hW.2.2.2.1
  obtain ⟨t1, t2, t3, t4, t5, t6, -, t8⟩ := hW.2.2.2.2.2.1 t ht
  have loop3 : ∀ n' a μ', s_nX S + 1 ≤ a + n' → a ≤ s_nX S → RepR S μ' → FR μ μ' → (∃ C : Nat → Bool, (∀ j, μ'.1 65 j = ab_z (C j)) ∧ ∀ m, m < s_nX S → C m = s_X S O t m) → (∀ j, μ'.1 62 j = ab_z (s_o3 S O t a j)) → j 117 [some (.ref 43), some (.int (nI t)), some (.int (nI a))] [] μ' := by
    intro n'
    induction n' with
    | zero => intro a μ' h1 h2; omega
    | succ n' ih =>
      intro a μ' h1 h2 R hF hC r62
      obtain ⟨C, r65, hC⟩ := hC
      obtain ⟨r44, r45, r46, r47, r48, r49, r50, r51, r52, r53, r54, r55, r56, r57, r58, r59, r60, r61, g0, g2, g6, g16⟩ := RepR_fs R
      by_cases ha : a < s_nX S
      · have hca := hC a ha
        refine hj _ _ _ _ ?_
        repeat' (first | refine hjx _ _ _ _ (by decide) ?_ | (refine br_c (fun h => ?_) (fun h => ?_) <;> (try simp (disch := omega) only [nI_clamp, li_2, li_3, li_4, li_5, li_6, li_7, li_8, li_9, li_10, li_40, li_120, pk_mul, nI_add, nI_1, ix_eq, ix_lt, ix_le, ix_l0, ix_l1, ix_n0, ix_p0, ix_1lt, ix_lt1, ix_1le, ix_le1, ix_le0, ix_0lt, ab_z0, ab_z1, i_10, i_01, eq_self, ab_ozn, ab_ozp, ab_o_some, not_true_eq_false, not_false_eq_true, Bool.not_eq_false, Bool.not_eq_true, Bool.not_eq_false', Bool.not_eq_true', Bool.false_eq_true, Bool.true_eq_false, reduceCtorEq, Option.isSome_some, Option.isSome_none, r44, r45, r46, r47, r48, r49, r50, r51, r52, r53, r54, r55, r56, r57, r58, r59, r60, r61, g0, g2, g6, g16, r62, r65] at h) <;> (try omega)) | (refine br_n (fun h => ?_) (fun h => ?_) <;> (try simp (disch := omega) only [nI_clamp, li_2, li_3, li_4, li_5, li_6, li_7, li_8, li_9, li_10, li_40, li_120, pk_mul, nI_add, nI_1, ix_eq, ix_lt, ix_le, ix_l0, ix_l1, ix_n0, ix_p0, ix_1lt, ix_lt1, ix_1le, ix_le1, ix_le0, ix_0lt, ab_z0, ab_z1, i_10, i_01, eq_self, ab_ozn, ab_ozp, ab_o_some, not_true_eq_false, not_false_eq_true, Bool.not_eq_false, Bool.not_eq_true, Bool.not_eq_false', Bool.not_eq_true', Bool.false_eq_true, Bool.true_eq_false, reduceCtorEq, Option.isSome_some, Option.isSome_none, r44, r45, r46, r47, r48, r49, r50, r51, r52, r53, r54, r55, r56, r57, r58, r59, r60, r61, g0, g2, g6, g16, r62, r65] at h) <;> (try omega)) | refine ab_sd (by first | (with_reducible refine vp_in_nI ?_ ?_ <;> omega) | (simp (disch := omega) only [nI_clamp, li_2, li_3, li_4, li_5, li_6, li_7, li_8, li_9, li_10, li_40, li_120, pk_mul, nI_add, nI_1, ix_eq, ix_lt, ix_le, ix_l0, ix_l1, ix_n0, ix_p0, ix_1lt, ix_lt1, ix_1le, ix_le1, ix_le0, ix_0lt, ab_z0, ab_z1, i_10, i_01, eq_self, ab_ozn, ab_ozp, ab_o_some, not_true_eq_false, not_false_eq_true, Bool.not_eq_false, Bool.not_eq_true, Bool.not_eq_false', Bool.not_eq_true', Bool.false_eq_true, Bool.true_eq_false, reduceCtorEq, Option.isSome_some, Option.isSome_none, r44, r45, r46, r47, r48, r49, r50, r51, r52, r53, r54, r55, r56, r57, r58, r59, r60, r61, g0, g2, g6, g16, r62, r65]; with_reducible refine vp_in_nI ?_ ?_ <;> omega)) ?_ | refine ab_sd ?_ ?_ | refine ab_sz (Or.inl rfl) ?_ | refine ab_sz (Or.inr rfl) ?_ | refine ab_sz ?_ ?_)
        · simp (disch := omega) only [nI_clamp, li_2, li_3, li_4, li_5, li_6, li_7, li_8, li_9, li_10, li_40, li_120, pk_mul, nI_add, nI_1, ix_eq, ix_lt, ix_le, ix_l0, ix_l1, ix_n0, ix_p0, ix_1lt, ix_lt1, ix_1le, ix_le1, ix_le0, ix_0lt, ab_z0, ab_z1, i_10, i_01, eq_self, ab_ozn, ab_ozp, ab_o_some, not_true_eq_false, not_false_eq_true, Bool.not_eq_false, Bool.not_eq_true, Bool.not_eq_false', Bool.not_eq_true', Bool.false_eq_true, Bool.true_eq_false, reduceCtorEq, Option.isSome_some, Option.isSome_none, r44, r45, r46, r47, r48, r49, r50, r51, r52, r53, r54, r55, r56, r57, r58, r59, r60, r61, g0, g2, g6, g16, r62, r65, ab_zor]
          grind
        · show j 117 _ _ _
          simp (disch := omega) only [nI_clamp, li_2, li_3, li_4, li_5, li_6, li_7, li_8, li_9, li_10, li_40, li_120, pk_mul, nI_add, nI_1, ix_eq, ix_lt, ix_le, ix_l0, ix_l1, ix_n0, ix_p0, ix_1lt, ix_lt1, ix_1le, ix_le1, ix_le0, ix_0lt, ab_z0, ab_z1, i_10, i_01, eq_self, ab_ozn, ab_ozp, ab_o_some, not_true_eq_false, not_false_eq_true, Bool.not_eq_false, Bool.not_eq_true, Bool.not_eq_false', Bool.not_eq_true', Bool.false_eq_true, Bool.true_eq_false, reduceCtorEq, Option.isSome_some, Option.isSome_none, r44, r45, r46, r47, r48, r49, r50, r51, r52, r53, r54, r55, r56, r57, r58, r59, r60, r61, g0, g2, g6, g16, r62, r65, ab_zor]
          refine ih (a + 1) _ (by omega) (by omega) (rep_c R rfl rfl ⟨by decide, by decide⟩) (hF.mi (Or.inl rfl)) ⟨C, fun j => by rw [mi_ne (by omega)]; exact r65 j, hC⟩ ?_
          rw [hca]
          exact bool_up r62 (s_o3_s ha hX)
      · have ha2 : a = s_nX S := by omega
        refine hj _ _ _ _ ?_
        repeat' (first | refine hjx _ _ _ _ (by decide) ?_ | (refine br_c (fun h => ?_) (fun h => ?_) <;> (try simp (disch := omega) only [nI_clamp, li_2, li_3, li_4, li_5, li_6, li_7, li_8, li_9, li_10, li_40, li_120, pk_mul, nI_add, nI_1, ix_eq, ix_lt, ix_le, ix_l0, ix_l1, ix_n0, ix_p0, ix_1lt, ix_lt1, ix_1le, ix_le1, ix_le0, ix_0lt, ab_z0, ab_z1, i_10, i_01, eq_self, ab_ozn, ab_ozp, ab_o_some, not_true_eq_false, not_false_eq_true, Bool.not_eq_false, Bool.not_eq_true, Bool.not_eq_false', Bool.not_eq_true', Bool.false_eq_true, Bool.true_eq_false, reduceCtorEq, Option.isSome_some, Option.isSome_none, r44, r45, r46, r47, r48, r49, r50, r51, r52, r53, r54, r55, r56, r57, r58, r59, r60, r61, g0, g2, g6, g16] at h) <;> (try omega)) | (refine br_n (fun h => ?_) (fun h => ?_) <;> (try simp (disch := omega) only [nI_clamp, li_2, li_3, li_4, li_5, li_6, li_7, li_8, li_9, li_10, li_40, li_120, pk_mul, nI_add, nI_1, ix_eq, ix_lt, ix_le, ix_l0, ix_l1, ix_n0, ix_p0, ix_1lt, ix_lt1, ix_1le, ix_le1, ix_le0, ix_0lt, ab_z0, ab_z1, i_10, i_01, eq_self, ab_ozn, ab_ozp, ab_o_some, not_true_eq_false, not_false_eq_true, Bool.not_eq_false, Bool.not_eq_true, Bool.not_eq_false', Bool.not_eq_true', Bool.false_eq_true, Bool.true_eq_false, reduceCtorEq, Option.isSome_some, Option.isSome_none, r44, r45, r46, r47, r48, r49, r50, r51, r52, r53, r54, r55, r56, r57, r58, r59, r60, r61, g0, g2, g6, g16] at h) <;> (try omega)) | refine ab_sd (by first | (with_reducible refine vp_in_nI ?_ ?_ <;> omega) | (simp (disch := omega) only [nI_clamp, li_2, li_3, li_4, li_5, li_6, li_7, li_8, li_9, li_10, li_40, li_120, pk_mul, nI_add, nI_1, ix_eq, ix_lt, ix_le, ix_l0, ix_l1, ix_n0, ix_p0, ix_1lt, ix_lt1, ix_1le, ix_le1, ix_le0, ix_0lt, ab_z0, ab_z1, i_10, i_01, eq_self, ab_ozn, ab_ozp, ab_o_some, not_true_eq_false, not_false_eq_true, Bool.not_eq_false, Bool.not_eq_true, Bool.not_eq_false', Bool.not_eq_true', Bool.false_eq_true, Bool.true_eq_false, reduceCtorEq, Option.isSome_some, Option.isSome_none, r44, r45, r46, r47, r48, r49, r50, r51, r52, r53, r54, r55, r56, r57, r58, r59, r60, r61, g0, g2, g6, g16]; with_reducible refine vp_in_nI ?_ ?_ <;> omega)) ?_ | refine ab_sd ?_ ?_ | refine ab_sz (Or.inl rfl) ?_ | refine ab_sz (Or.inr rfl) ?_ | refine ab_sz ?_ ?_)
        refine hQ μ' R hF ⟨C, r65⟩ (fun j => ?_)
        rw [r62 j, ha2]
        unfold s_o3
        by_cases h9 : j / 120 = t ∧ j % 120 < s_nX S
        · rw [if_pos h9, if_pos h9, ← s_AX]
          simp [h9.2]
        · rw [if_neg h9, if_neg h9]
  have loop2 : ∀ n' a μ', s_nX S + 1 ≤ a + n' → a ≤ s_nX S → RepR S μ' → FR μ μ' → (∃ C : Nat → Bool, (∀ j, μ'.1 65 j = ab_z (C j)) ∧ ∀ m, m < a → C m = s_X S O t m) → (∀ j, μ'.1 62 j = ab_z (s_o1 S O t (s_nX S) j)) → j 50 [some (.ref 43), some (.int (nI t)), some (.int (nI a))] [] μ' := by
    intro n'
    induction n' with
    | zero => intro a μ' h1 h2; omega
    | succ n' ih =>
      intro a μ' h1 h2 R hF hC r62
      obtain ⟨C, r65, hC⟩ := hC
      obtain ⟨r44, r45, r46, r47, r48, r49, r50, r51, r52, r53, r54, r55, r56, r57, r58, r59, r60, r61, g0, g2, g6, g16⟩ := RepR_fs R
      by_cases ha : a < s_nX S
      · obtain ⟨a1, a2, a3, a4, a5⟩ := hW.2.2.2.2.2.2 a ha
        have c1 : s_o1 S O t (s_nX S) (120 * t + a) = s_A S O t a := by
          unfold s_o1
          rw [if_pos (by omega), show (120 * t + a) % 120 = a by omega]
        have c2 := s_iof_c (m := a) (s_o1_eqr (S := S) (O := O) (t := t) (a := s_nX S)) hft (by omega)
        have c3 := s_bh_c (m := a) hX (s_o1_eqr (S := S) (O := O) (t := t) (a := s_nX S)) hpt hft
        have dn : (s_dec S t (S.1 58 a) (S.1 59 a)).isNone = !(s_dec S t (S.1 58 a) (S.1 59 a)).isSome := by cases s_dec S t (S.1 58 a) (S.1 59 a) <;> rfl
        have d1 := ab_o_pos2 (o := s_dec S t (S.1 58 a) (S.1 59 a)) (fun m hm => by have := s_dec_lt hW hm; omega)
        have ih : ∀ b : Bool, b = s_X S O t a → j 50 [some (.ref 43), some (.int (nI t)), some (.int (nI (a + 1)))] [] (ab_mi μ' 65 a (ab_z b)) := by
          intro b hb
          refine ih (a + 1) _ (by omega) (by omega) (rep_c R rfl rfl ⟨by decide, by decide⟩) (hF.mi (Or.inr rfl)) ⟨fun j => if j = a then b else C j, bool_up r65 (fun j => rfl), fun m hm => ?_⟩ (fun j => by rw [mi_ne (by omega)]; exact r62 j)
          by_cases e : m = a
          · subst e; simp [hb]
          · simp only [e, if_false]; exact hC m (by omega)
        refine hj _ _ _ _ ?_
        repeat' (first | refine hjx _ _ _ _ (by decide) ?_ | (refine br_c (fun h => ?_) (fun h => ?_) <;> (try simp (disch := omega) only [nI_clamp, li_2, li_3, li_4, li_5, li_6, li_7, li_8, li_9, li_10, li_40, li_120, pk_mul, nI_add, nI_1, ix_eq, ix_lt, ix_le, ix_l0, ix_l1, ix_n0, ix_p0, ix_1lt, ix_lt1, ix_1le, ix_le1, ix_le0, ix_0lt, ab_z0, ab_z1, i_10, i_01, eq_self, ab_ozn, ab_ozp, ab_o_some, not_true_eq_false, not_false_eq_true, Bool.not_eq_false, Bool.not_eq_true, Bool.not_eq_false', Bool.not_eq_true', Bool.false_eq_true, Bool.true_eq_false, reduceCtorEq, Option.isSome_some, Option.isSome_none, r44, r45, r46, r47, r48, r49, r50, r51, r52, r53, r54, r55, r56, r57, r58, r59, r60, r61, g0, g2, g6, g16, r62, r65, c1, d1] at h) <;> (try omega)) | (refine br_n (fun h => ?_) (fun h => ?_) <;> (try simp (disch := omega) only [nI_clamp, li_2, li_3, li_4, li_5, li_6, li_7, li_8, li_9, li_10, li_40, li_120, pk_mul, nI_add, nI_1, ix_eq, ix_lt, ix_le, ix_l0, ix_l1, ix_n0, ix_p0, ix_1lt, ix_lt1, ix_1le, ix_le1, ix_le0, ix_0lt, ab_z0, ab_z1, i_10, i_01, eq_self, ab_ozn, ab_ozp, ab_o_some, not_true_eq_false, not_false_eq_true, Bool.not_eq_false, Bool.not_eq_true, Bool.not_eq_false', Bool.not_eq_true', Bool.false_eq_true, Bool.true_eq_false, reduceCtorEq, Option.isSome_some, Option.isSome_none, r44, r45, r46, r47, r48, r49, r50, r51, r52, r53, r54, r55, r56, r57, r58, r59, r60, r61, g0, g2, g6, g16, r62, r65, c1, d1] at h) <;> (try omega)) | refine ab_sd (by first | (with_reducible refine vp_in_nI ?_ ?_ <;> omega) | (simp (disch := omega) only [nI_clamp, li_2, li_3, li_4, li_5, li_6, li_7, li_8, li_9, li_10, li_40, li_120, pk_mul, nI_add, nI_1, ix_eq, ix_lt, ix_le, ix_l0, ix_l1, ix_n0, ix_p0, ix_1lt, ix_lt1, ix_1le, ix_le1, ix_le0, ix_0lt, ab_z0, ab_z1, i_10, i_01, eq_self, ab_ozn, ab_ozp, ab_o_some, not_true_eq_false, not_false_eq_true, Bool.not_eq_false, Bool.not_eq_true, Bool.not_eq_false', Bool.not_eq_true', Bool.false_eq_true, Bool.true_eq_false, reduceCtorEq, Option.isSome_some, Option.isSome_none, r44, r45, r46, r47, r48, r49, r50, r51, r52, r53, r54, r55, r56, r57, r58, r59, r60, r61, g0, g2, g6, g16, r62, r65, c1, d1]; with_reducible refine vp_in_nI ?_ ?_ <;> omega)) ?_ | refine r_declared hω R hW (t := t) (k := S.1 58 a) (n := S.1 59 a) rfl (by simp (disch := omega) only [nI_clamp, li_2, li_3, li_4, li_5, li_6, li_7, li_8, li_9, li_10, li_40, li_120, pk_mul, nI_add, nI_1, ix_eq, ix_lt, ix_le, ix_l0, ix_l1, ix_n0, ix_p0, ix_1lt, ix_lt1, ix_1le, ix_le1, ix_le0, ix_0lt, ab_z0, ab_z1, i_10, i_01, eq_self, ab_ozn, ab_ozp, ab_o_some, not_true_eq_false, not_false_eq_true, Bool.not_eq_false, Bool.not_eq_true, Bool.not_eq_false', Bool.not_eq_true', Bool.false_eq_true, Bool.true_eq_false, reduceCtorEq, Option.isSome_some, Option.isSome_none, r44, r45, r46, r47, r48, r49, r50, r51, r52, r53, r54, r55, r56, r57, r58, r59, r60, r61, g0, g2, g6, g16]) (by simp (disch := omega) only [nI_clamp, li_2, li_3, li_4, li_5, li_6, li_7, li_8, li_9, li_10, li_40, li_120, pk_mul, nI_add, nI_1, ix_eq, ix_lt, ix_le, ix_l0, ix_l1, ix_n0, ix_p0, ix_1lt, ix_lt1, ix_1le, ix_le1, ix_le0, ix_0lt, ab_z0, ab_z1, i_10, i_01, eq_self, ab_ozn, ab_ozp, ab_o_some, not_true_eq_false, not_false_eq_true, Bool.not_eq_false, Bool.not_eq_true, Bool.not_eq_false', Bool.not_eq_true', Bool.false_eq_true, Bool.true_eq_false, reduceCtorEq, Option.isSome_some, Option.isSome_none, r44, r45, r46, r47, r48, r49, r50, r51, r52, r53, r54, r55, r56, r57, r58, r59, r60, r61, g0, g2, g6, g16]) (by omega) (by omega) (by omega) ?_ | refine r_isOfFace hω R hW r62 (t := t) (m := a) rfl rfl ht (by omega) ?_ | refine r_isPlain hω R hW (m := a) rfl ha ?_ | refine r_isBehind hω R hW r62 (t := t) (m := a) rfl rfl ht ha ?_ | refine ab_sd ?_ ?_ | refine ab_sz (Or.inl rfl) ?_ | refine ab_sz (Or.inr rfl) ?_ | refine ab_sz ?_ ?_)
        all_goals (show j 50 _ _ _; simp (disch := omega) only [nI_clamp, li_2, li_3, li_4, li_5, li_6, li_7, li_8, li_9, li_10, li_40, li_120, pk_mul, nI_add, nI_1, ix_eq, ix_lt, ix_le, ix_l0, ix_l1, ix_n0, ix_p0, ix_1lt, ix_lt1, ix_1le, ix_le1, ix_le0, ix_0lt, ab_z0, ab_z1, i_10, i_01, eq_self, ab_ozn, ab_ozp, ab_o_some, not_true_eq_false, not_false_eq_true, Bool.not_eq_false, Bool.not_eq_true, Bool.not_eq_false', Bool.not_eq_true', Bool.false_eq_true, Bool.true_eq_false, reduceCtorEq, Option.isSome_some, Option.isSome_none, r44, r45, r46, r47, r48, r49, r50, r51, r52, r53, r54, r55, r56, r57, r58, r59, r60, r61, g0, g2, g6, g16]; first | exact ih true (by unfold s_X; rw [dn]; clear dn; simp_all) | exact ih false (by unfold s_X; rw [dn]; clear dn; simp_all))
      · have ha2 : a = s_nX S := by omega
        refine hj _ _ _ _ ?_
        repeat' (first | refine hjx _ _ _ _ (by decide) ?_ | (refine br_c (fun h => ?_) (fun h => ?_) <;> (try simp (disch := omega) only [nI_clamp, li_2, li_3, li_4, li_5, li_6, li_7, li_8, li_9, li_10, li_40, li_120, pk_mul, nI_add, nI_1, ix_eq, ix_lt, ix_le, ix_l0, ix_l1, ix_n0, ix_p0, ix_1lt, ix_lt1, ix_1le, ix_le1, ix_le0, ix_0lt, ab_z0, ab_z1, i_10, i_01, eq_self, ab_ozn, ab_ozp, ab_o_some, not_true_eq_false, not_false_eq_true, Bool.not_eq_false, Bool.not_eq_true, Bool.not_eq_false', Bool.not_eq_true', Bool.false_eq_true, Bool.true_eq_false, reduceCtorEq, Option.isSome_some, Option.isSome_none, r44, r45, r46, r47, r48, r49, r50, r51, r52, r53, r54, r55, r56, r57, r58, r59, r60, r61, g0, g2, g6, g16] at h) <;> (try omega)) | (refine br_n (fun h => ?_) (fun h => ?_) <;> (try simp (disch := omega) only [nI_clamp, li_2, li_3, li_4, li_5, li_6, li_7, li_8, li_9, li_10, li_40, li_120, pk_mul, nI_add, nI_1, ix_eq, ix_lt, ix_le, ix_l0, ix_l1, ix_n0, ix_p0, ix_1lt, ix_lt1, ix_1le, ix_le1, ix_le0, ix_0lt, ab_z0, ab_z1, i_10, i_01, eq_self, ab_ozn, ab_ozp, ab_o_some, not_true_eq_false, not_false_eq_true, Bool.not_eq_false, Bool.not_eq_true, Bool.not_eq_false', Bool.not_eq_true', Bool.false_eq_true, Bool.true_eq_false, reduceCtorEq, Option.isSome_some, Option.isSome_none, r44, r45, r46, r47, r48, r49, r50, r51, r52, r53, r54, r55, r56, r57, r58, r59, r60, r61, g0, g2, g6, g16] at h) <;> (try omega)) | refine ab_sd (by first | (with_reducible refine vp_in_nI ?_ ?_ <;> omega) | (simp (disch := omega) only [nI_clamp, li_2, li_3, li_4, li_5, li_6, li_7, li_8, li_9, li_10, li_40, li_120, pk_mul, nI_add, nI_1, ix_eq, ix_lt, ix_le, ix_l0, ix_l1, ix_n0, ix_p0, ix_1lt, ix_lt1, ix_1le, ix_le1, ix_le0, ix_0lt, ab_z0, ab_z1, i_10, i_01, eq_self, ab_ozn, ab_ozp, ab_o_some, not_true_eq_false, not_false_eq_true, Bool.not_eq_false, Bool.not_eq_true, Bool.not_eq_false', Bool.not_eq_true', Bool.false_eq_true, Bool.true_eq_false, reduceCtorEq, Option.isSome_some, Option.isSome_none, r44, r45, r46, r47, r48, r49, r50, r51, r52, r53, r54, r55, r56, r57, r58, r59, r60, r61, g0, g2, g6, g16]; with_reducible refine vp_in_nI ?_ ?_ <;> omega)) ?_ | refine ab_sd ?_ ?_ | refine ab_sz (Or.inl rfl) ?_ | refine ab_sz (Or.inr rfl) ?_ | refine ab_sz ?_ ?_)
        refine loop3 (s_nX S + 1) 0 μ' (by omega) (by omega) R hF ⟨C, r65, fun m hm => hC m (by omega)⟩ (fun j => ?_)
        rw [r62 j, s_o1_o3]
  have loop1 : ∀ n' a μ', s_nX S + 1 ≤ a + n' → a ≤ s_nX S → RepR S μ' → FR μ μ' → (∃ C : Nat → Bool, ∀ j, μ'.1 65 j = ab_z (C j)) → (∀ j, μ'.1 62 j = ab_z (s_o1 S O t a j)) → j 2 [some (.ref 43), some (.int (nI t)), some (.int (nI a))] [] μ' := by
    intro n'
    induction n' with
    | zero => intro a μ' h1 h2; omega
    | succ n' ih =>
      intro a μ' h1 h2 R hF hC r62
      obtain ⟨C, r65⟩ := hC
      obtain ⟨r44, r45, r46, r47, r48, r49, r50, r51, r52, r53, r54, r55, r56, r57, r58, r59, r60, r61, g0, g2, g6, g16⟩ := RepR_fs R
      by_cases ha : a < s_nX S
      · obtain ⟨a1, a2, a3, a4, a5⟩ := hW.2.2.2.2.2.2 a ha
        have c2 := s_cfp_c (m := a) (s_o1_eqr (S := S) (O := O) (t := t) (a := a)) hpt (by omega)
        have dn : (s_dec S t (S.1 58 a) (S.1 59 a)).isNone = !(s_dec S t (S.1 58 a) (S.1 59 a)).isSome := by cases s_dec S t (S.1 58 a) (S.1 59 a) <;> rfl
        have d1 := ab_o_pos2 (o := s_dec S t (S.1 58 a) (S.1 59 a)) (fun m hm => by have := s_dec_lt hW hm; omega)
        have ih : ∀ b : Bool, b = s_A S O t a → j 2 [some (.ref 43), some (.int (nI t)), some (.int (nI (a + 1)))] [] (ab_mi μ' 62 (120 * t + a) (ab_z b)) := by
          intro b hb
          refine ih (a + 1) _ (by omega) (by omega) (rep_c R rfl rfl ⟨by decide, by decide⟩) (hF.mi (Or.inl rfl)) ⟨C, fun j => by rw [mi_ne (by omega)]; exact r65 j⟩ ?_
          rw [hb]
          exact bool_up r62 (s_o1_s (by omega))
        refine hj _ _ _ _ ?_
        repeat' (first | refine hjx _ _ _ _ (by decide) ?_ | (refine br_c (fun h => ?_) (fun h => ?_) <;> (try simp (disch := omega) only [nI_clamp, li_2, li_3, li_4, li_5, li_6, li_7, li_8, li_9, li_10, li_40, li_120, pk_mul, nI_add, nI_1, ix_eq, ix_lt, ix_le, ix_l0, ix_l1, ix_n0, ix_p0, ix_1lt, ix_lt1, ix_1le, ix_le1, ix_le0, ix_0lt, ab_z0, ab_z1, i_10, i_01, eq_self, ab_ozn, ab_ozp, ab_o_some, not_true_eq_false, not_false_eq_true, Bool.not_eq_false, Bool.not_eq_true, Bool.not_eq_false', Bool.not_eq_true', Bool.false_eq_true, Bool.true_eq_false, reduceCtorEq, Option.isSome_some, Option.isSome_none, r44, r45, r46, r47, r48, r49, r50, r51, r52, r53, r54, r55, r56, r57, r58, r59, r60, r61, g0, g2, g6, g16, r62, r65, d1] at h) <;> (try omega)) | (refine br_n (fun h => ?_) (fun h => ?_) <;> (try simp (disch := omega) only [nI_clamp, li_2, li_3, li_4, li_5, li_6, li_7, li_8, li_9, li_10, li_40, li_120, pk_mul, nI_add, nI_1, ix_eq, ix_lt, ix_le, ix_l0, ix_l1, ix_n0, ix_p0, ix_1lt, ix_lt1, ix_1le, ix_le1, ix_le0, ix_0lt, ab_z0, ab_z1, i_10, i_01, eq_self, ab_ozn, ab_ozp, ab_o_some, not_true_eq_false, not_false_eq_true, Bool.not_eq_false, Bool.not_eq_true, Bool.not_eq_false', Bool.not_eq_true', Bool.false_eq_true, Bool.true_eq_false, reduceCtorEq, Option.isSome_some, Option.isSome_none, r44, r45, r46, r47, r48, r49, r50, r51, r52, r53, r54, r55, r56, r57, r58, r59, r60, r61, g0, g2, g6, g16, r62, r65, d1] at h) <;> (try omega)) | refine ab_sd (by first | (with_reducible refine vp_in_nI ?_ ?_ <;> omega) | (simp (disch := omega) only [nI_clamp, li_2, li_3, li_4, li_5, li_6, li_7, li_8, li_9, li_10, li_40, li_120, pk_mul, nI_add, nI_1, ix_eq, ix_lt, ix_le, ix_l0, ix_l1, ix_n0, ix_p0, ix_1lt, ix_lt1, ix_1le, ix_le1, ix_le0, ix_0lt, ab_z0, ab_z1, i_10, i_01, eq_self, ab_ozn, ab_ozp, ab_o_some, not_true_eq_false, not_false_eq_true, Bool.not_eq_false, Bool.not_eq_true, Bool.not_eq_false', Bool.not_eq_true', Bool.false_eq_true, Bool.true_eq_false, reduceCtorEq, Option.isSome_some, Option.isSome_none, r44, r45, r46, r47, r48, r49, r50, r51, r52, r53, r54, r55, r56, r57, r58, r59, r60, r61, g0, g2, g6, g16, r62, r65, d1]; with_reducible refine vp_in_nI ?_ ?_ <;> omega)) ?_ | refine r_declared hω R hW (t := t) (k := S.1 58 a) (n := S.1 59 a) rfl (by simp (disch := omega) only [nI_clamp, li_2, li_3, li_4, li_5, li_6, li_7, li_8, li_9, li_10, li_40, li_120, pk_mul, nI_add, nI_1, ix_eq, ix_lt, ix_le, ix_l0, ix_l1, ix_n0, ix_p0, ix_1lt, ix_lt1, ix_1le, ix_le1, ix_le0, ix_0lt, ab_z0, ab_z1, i_10, i_01, eq_self, ab_ozn, ab_ozp, ab_o_some, not_true_eq_false, not_false_eq_true, Bool.not_eq_false, Bool.not_eq_true, Bool.not_eq_false', Bool.not_eq_true', Bool.false_eq_true, Bool.true_eq_false, reduceCtorEq, Option.isSome_some, Option.isSome_none, r44, r45, r46, r47, r48, r49, r50, r51, r52, r53, r54, r55, r56, r57, r58, r59, r60, r61, g0, g2, g6, g16]) (by simp (disch := omega) only [nI_clamp, li_2, li_3, li_4, li_5, li_6, li_7, li_8, li_9, li_10, li_40, li_120, pk_mul, nI_add, nI_1, ix_eq, ix_lt, ix_le, ix_l0, ix_l1, ix_n0, ix_p0, ix_1lt, ix_lt1, ix_1le, ix_le1, ix_le0, ix_0lt, ab_z0, ab_z1, i_10, i_01, eq_self, ab_ozn, ab_ozp, ab_o_some, not_true_eq_false, not_false_eq_true, Bool.not_eq_false, Bool.not_eq_true, Bool.not_eq_false', Bool.not_eq_true', Bool.false_eq_true, Bool.true_eq_false, reduceCtorEq, Option.isSome_some, Option.isSome_none, r44, r45, r46, r47, r48, r49, r50, r51, r52, r53, r54, r55, r56, r57, r58, r59, r60, r61, g0, g2, g6, g16]) (by omega) (by omega) (by omega) ?_ | refine r_comesFromParent hω R hW r62 (t := t) (m := a) rfl rfl ht ha ?_ | refine ab_sd ?_ ?_ | refine ab_sz (Or.inl rfl) ?_ | refine ab_sz (Or.inr rfl) ?_ | refine ab_sz ?_ ?_)
        all_goals (show j 2 _ _ _; simp (disch := omega) only [nI_clamp, li_2, li_3, li_4, li_5, li_6, li_7, li_8, li_9, li_10, li_40, li_120, pk_mul, nI_add, nI_1, ix_eq, ix_lt, ix_le, ix_l0, ix_l1, ix_n0, ix_p0, ix_1lt, ix_lt1, ix_1le, ix_le1, ix_le0, ix_0lt, ab_z0, ab_z1, i_10, i_01, eq_self, ab_ozn, ab_ozp, ab_o_some, not_true_eq_false, not_false_eq_true, Bool.not_eq_false, Bool.not_eq_true, Bool.not_eq_false', Bool.not_eq_true', Bool.false_eq_true, Bool.true_eq_false, reduceCtorEq, Option.isSome_some, Option.isSome_none, r44, r45, r46, r47, r48, r49, r50, r51, r52, r53, r54, r55, r56, r57, r58, r59, r60, r61, g0, g2, g6, g16]; first | exact ih true (by unfold s_A; rw [dn]; clear dn; simp_all) | exact ih false (by unfold s_A; rw [dn]; clear dn; simp_all))
      · have ha2 : a = s_nX S := by omega
        refine hj _ _ _ _ ?_
        repeat' (first | refine hjx _ _ _ _ (by decide) ?_ | (refine br_c (fun h => ?_) (fun h => ?_) <;> (try simp (disch := omega) only [nI_clamp, li_2, li_3, li_4, li_5, li_6, li_7, li_8, li_9, li_10, li_40, li_120, pk_mul, nI_add, nI_1, ix_eq, ix_lt, ix_le, ix_l0, ix_l1, ix_n0, ix_p0, ix_1lt, ix_lt1, ix_1le, ix_le1, ix_le0, ix_0lt, ab_z0, ab_z1, i_10, i_01, eq_self, ab_ozn, ab_ozp, ab_o_some, not_true_eq_false, not_false_eq_true, Bool.not_eq_false, Bool.not_eq_true, Bool.not_eq_false', Bool.not_eq_true', Bool.false_eq_true, Bool.true_eq_false, reduceCtorEq, Option.isSome_some, Option.isSome_none, r44, r45, r46, r47, r48, r49, r50, r51, r52, r53, r54, r55, r56, r57, r58, r59, r60, r61, g0, g2, g6, g16] at h) <;> (try omega)) | (refine br_n (fun h => ?_) (fun h => ?_) <;> (try simp (disch := omega) only [nI_clamp, li_2, li_3, li_4, li_5, li_6, li_7, li_8, li_9, li_10, li_40, li_120, pk_mul, nI_add, nI_1, ix_eq, ix_lt, ix_le, ix_l0, ix_l1, ix_n0, ix_p0, ix_1lt, ix_lt1, ix_1le, ix_le1, ix_le0, ix_0lt, ab_z0, ab_z1, i_10, i_01, eq_self, ab_ozn, ab_ozp, ab_o_some, not_true_eq_false, not_false_eq_true, Bool.not_eq_false, Bool.not_eq_true, Bool.not_eq_false', Bool.not_eq_true', Bool.false_eq_true, Bool.true_eq_false, reduceCtorEq, Option.isSome_some, Option.isSome_none, r44, r45, r46, r47, r48, r49, r50, r51, r52, r53, r54, r55, r56, r57, r58, r59, r60, r61, g0, g2, g6, g16] at h) <;> (try omega)) | refine ab_sd (by first | (with_reducible refine vp_in_nI ?_ ?_ <;> omega) | (simp (disch := omega) only [nI_clamp, li_2, li_3, li_4, li_5, li_6, li_7, li_8, li_9, li_10, li_40, li_120, pk_mul, nI_add, nI_1, ix_eq, ix_lt, ix_le, ix_l0, ix_l1, ix_n0, ix_p0, ix_1lt, ix_lt1, ix_1le, ix_le1, ix_le0, ix_0lt, ab_z0, ab_z1, i_10, i_01, eq_self, ab_ozn, ab_ozp, ab_o_some, not_true_eq_false, not_false_eq_true, Bool.not_eq_false, Bool.not_eq_true, Bool.not_eq_false', Bool.not_eq_true', Bool.false_eq_true, Bool.true_eq_false, reduceCtorEq, Option.isSome_some, Option.isSome_none, r44, r45, r46, r47, r48, r49, r50, r51, r52, r53, r54, r55, r56, r57, r58, r59, r60, r61, g0, g2, g6, g16]; with_reducible refine vp_in_nI ?_ ?_ <;> omega)) ?_ | refine ab_sd ?_ ?_ | refine ab_sz (Or.inl rfl) ?_ | refine ab_sz (Or.inr rfl) ?_ | refine ab_sz ?_ ?_)
        exact loop2 (s_nX S + 1) 0 μ' (by omega) (by omega) R hF ⟨C, r65, fun m hm => by omega⟩ (by rw [← ha2]; exact r62)
  obtain ⟨r44, r45, r46, r47, r48, r49, r50, r51, r52, r53, r54, r55, r56, r57, r58, r59, r60, r61, g0, g2, g6, g16⟩ := RepR_fs R
  repeat' (first | refine hjx _ _ _ _ (by decide) ?_ | (refine br_c (fun h => ?_) (fun h => ?_) <;> (try simp (disch := omega) only [nI_clamp, li_2, li_3, li_4, li_5, li_6, li_7, li_8, li_9, li_10, li_40, li_120, pk_mul, nI_add, nI_1, ix_eq, ix_lt, ix_le, ix_l0, ix_l1, ix_n0, ix_p0, ix_1lt, ix_lt1, ix_1le, ix_le1, ix_le0, ix_0lt, ab_z0, ab_z1, i_10, i_01, eq_self, ab_ozn, ab_ozp, ab_o_some, not_true_eq_false, not_false_eq_true, Bool.not_eq_false, Bool.not_eq_true, Bool.not_eq_false', Bool.not_eq_true', Bool.false_eq_true, Bool.true_eq_false, reduceCtorEq, Option.isSome_some, Option.isSome_none, r44, r45, r46, r47, r48, r49, r50, r51, r52, r53, r54, r55, r56, r57, r58, r59, r60, r61, g0, g2, g6, g16] at h) <;> (try omega)) | (refine br_n (fun h => ?_) (fun h => ?_) <;> (try simp (disch := omega) only [nI_clamp, li_2, li_3, li_4, li_5, li_6, li_7, li_8, li_9, li_10, li_40, li_120, pk_mul, nI_add, nI_1, ix_eq, ix_lt, ix_le, ix_l0, ix_l1, ix_n0, ix_p0, ix_1lt, ix_lt1, ix_1le, ix_le1, ix_le0, ix_0lt, ab_z0, ab_z1, i_10, i_01, eq_self, ab_ozn, ab_ozp, ab_o_some, not_true_eq_false, not_false_eq_true, Bool.not_eq_false, Bool.not_eq_true, Bool.not_eq_false', Bool.not_eq_true', Bool.false_eq_true, Bool.true_eq_false, reduceCtorEq, Option.isSome_some, Option.isSome_none, r44, r45, r46, r47, r48, r49, r50, r51, r52, r53, r54, r55, r56, r57, r58, r59, r60, r61, g0, g2, g6, g16] at h) <;> (try omega)) | refine ab_sd (by first | (with_reducible refine vp_in_nI ?_ ?_ <;> omega) | (simp (disch := omega) only [nI_clamp, li_2, li_3, li_4, li_5, li_6, li_7, li_8, li_9, li_10, li_40, li_120, pk_mul, nI_add, nI_1, ix_eq, ix_lt, ix_le, ix_l0, ix_l1, ix_n0, ix_p0, ix_1lt, ix_lt1, ix_1le, ix_le1, ix_le0, ix_0lt, ab_z0, ab_z1, i_10, i_01, eq_self, ab_ozn, ab_ozp, ab_o_some, not_true_eq_false, not_false_eq_true, Bool.not_eq_false, Bool.not_eq_true, Bool.not_eq_false', Bool.not_eq_true', Bool.false_eq_true, Bool.true_eq_false, reduceCtorEq, Option.isSome_some, Option.isSome_none, r44, r45, r46, r47, r48, r49, r50, r51, r52, r53, r54, r55, r56, r57, r58, r59, r60, r61, g0, g2, g6, g16]; with_reducible refine vp_in_nI ?_ ?_ <;> omega)) ?_ | refine ab_sd ?_ ?_ | refine ab_sz (Or.inl rfl) ?_ | refine ab_sz (Or.inr rfl) ?_ | refine ab_sz ?_ ?_)
  exact loop1 (s_nX S + 1) 0 μ (by omega) (by omega) R FR.rf r65 (fun j => by rw [r62 j]; unfold s_o1; rw [if_neg (by omega)])
end R13
