/-! THE CLASS: type -/
theorem ab_n1 (a : Nat) : nI a &&& 1 = nI (a &&& 1) := ab_nand a 1
theorem s_chF_x {S S' : sT} (hW : Wf S) (h : ∀ t, t < s_nT S → s_ou S' t = s_ou S t) : ∀ n t, t < s_nT S → s_chF S' n t = s_chF S n t
  | 0, t, _ => rfl
  | n + 1, t, ht => by
    simp only [s_chF, h t ht]
    cases e : s_ou S t with
    | none => rfl
    | some o =>
      have ho := (hW.2.2.2.2.2.1 t ht).2.2.2.2.2.2.1 o e
      simp only [s_chF_x hW h n o (by omega)]
theorem s_ch_x {S S' : sT} (hW : Wf S) (h : ∀ t, t < s_nT S → s_ou S' t = s_ou S t) {t : Nat} (ht : t < s_nT S) : s_ch S' t = s_ch S t := s_chF_x hW h t t ht
theorem s_top_x {S S' : sT} (hW : Wf S) (h : ∀ t, t < s_nT S → s_ou S' t = s_ou S t) {t : Nat} (ht : t < s_nT S) : s_top S' t = s_top S t := by unfold s_top; rw [s_ch_x hW h ht]
section KF2
variable {l : Launch} {ω : ab_W} {S : sT} {μ : ab_M} {Q : Int32 → ab_M → Prop}
set_option maxHeartbeats 4000000 in
theorem x_tbroken (hω : ω.2.2.2 = ab_SH) (T : RepT S μ) (hW : Wf S) {x y z v w : Int32} {pk so ac fl : Nat} {ou : Option Nat} (ex : x = nI pk) (ey : y = ab_o1 ou) (ez : z = nI so) (ev : v = nI ac) (ew : w = nI fl) (hp : pk < 10) (ho : ∀ o, ou = some o → o < s_nT S) (hs : so < 2) (ha : ac < 4) (hf : fl < 8) (hQ : Q (nI (s_rT S pk ou so ac fl)) μ) : ab_CI l ω mX8_brokenRule [.ref 2, .int x, .int y, .int z, .int v, .int w] μ Q := by
  subst ex ey ez ev ew
  refine ab_intro (sh := ab_SH) (cd := kX8_brokenRule) hω vX8_brokenRule (by decide +kernel) rfl (Nat.le_of_ble_eq_true rfl) (fun j hj hw => ?_)
  have hjx : ∀ i ll st μ, i ∉ ([16, 55] : List Nat) → _ → j i ll st μ := fun i ll st μ _ h => hj i ll st μ h
  have hT := hW.2.2.1.2
  have hP := hW.2.1.2
  obtain ⟨kT, kc, ks, k13, k14, k15, k16, k17, k18, k22, k19, k20, k21, k25⟩ := RepT_fs T
  have q1 := s_and_lt (b := 1) hf
  have q2 := s_and_lt (b := 2) hf
  have q4 := s_and_lt (b := 4) hf
  have b1 : fl &&& 1 = 0 ↔ s_has fl 1 = false := by unfold s_has; simp
  have b2 : fl &&& 2 = 0 ↔ s_has fl 2 = false := by unfold s_has; simp
  have b4 : fl &&& 4 = 0 ↔ s_has fl 4 = false := by unfold s_has; simp
  have h55 : ∀ v6, Q (nI (s_r4 so fl)) μ → j 55 [some (.ref 2), some (.int (nI pk)), some (.int (ab_o1 ou)), some (.int (nI so)), some (.int (nI ac)), some (.int (nI fl)), v6, some (.int (ab_z (s_has fl 2)))] [] μ := by
    intro v6 hQ
    refine hj _ _ _ _ ?_
    unfold s_r4 at hQ
    repeat' (first | refine hjx _ _ _ _ (by decide) ?_ | (refine br_c (fun h => ?_) (fun h => ?_) <;> (try simp (disch := omega) only [nI_clamp, li_2, li_3, li_4, li_5, li_6, li_7, li_8, li_9, li_10, li_40, li_120, pk_mul, nI_add, nI_1, ix_eq, ix_lt, ix_le, ix_l0, ix_l1, ix_n0, ix_p0, ix_1lt, ix_lt1, ix_1le, ix_le1, ix_le0, ix_0lt, ab_z0, ab_z1, i_10, i_01, eq_self, ab_ozn, ab_ozp, ab_o_some, not_true_eq_false, not_false_eq_true, Bool.not_eq_false, Bool.not_eq_true, Bool.not_eq_false', Bool.not_eq_true', Bool.false_eq_true, Bool.true_eq_false, reduceCtorEq, Option.isSome_some, Option.isSome_none, ab_nand, b4] at h) <;> (try omega)) | (refine br_n (fun h => ?_) (fun h => ?_) <;> (try simp (disch := omega) only [nI_clamp, li_2, li_3, li_4, li_5, li_6, li_7, li_8, li_9, li_10, li_40, li_120, pk_mul, nI_add, nI_1, ix_eq, ix_lt, ix_le, ix_l0, ix_l1, ix_n0, ix_p0, ix_1lt, ix_lt1, ix_1le, ix_le1, ix_le0, ix_0lt, ab_z0, ab_z1, i_10, i_01, eq_self, ab_ozn, ab_ozp, ab_o_some, not_true_eq_false, not_false_eq_true, Bool.not_eq_false, Bool.not_eq_true, Bool.not_eq_false', Bool.not_eq_true', Bool.false_eq_true, Bool.true_eq_false, reduceCtorEq, Option.isSome_some, Option.isSome_none, ab_nand, b4] at h) <;> (try omega)) | refine ab_sd (by first | (with_reducible refine vp_in_nI ?_ ?_ <;> omega) | (simp (disch := omega) only [nI_clamp, li_2, li_3, li_4, li_5, li_6, li_7, li_8, li_9, li_10, li_40, li_120, pk_mul, nI_add, nI_1, ix_eq, ix_lt, ix_le, ix_l0, ix_l1, ix_n0, ix_p0, ix_1lt, ix_lt1, ix_1le, ix_le1, ix_le0, ix_0lt, ab_z0, ab_z1, i_10, i_01, eq_self, ab_ozn, ab_ozp, ab_o_some, not_true_eq_false, not_false_eq_true, Bool.not_eq_false, Bool.not_eq_true, Bool.not_eq_false', Bool.not_eq_true', Bool.false_eq_true, Bool.true_eq_false, reduceCtorEq, Option.isSome_some, Option.isSome_none, ab_nand, b4]; with_reducible refine vp_in_nI ?_ ?_ <;> omega)) ?_ | refine ab_sd ?_ ?_ | refine ab_sz (Or.inl rfl) ?_ | refine ab_sz (Or.inr rfl) ?_ | refine ab_sz ?_ ?_)
    all_goals ((first | refine q_n hQ 4 rfl ?_ | refine q_n hQ 0 rfl ?_); clear hj hw hjx hQ; grind)
  have h16 : j 16 [some (.ref 2), some (.int (nI pk)), some (.int (ab_o1 ou)), some (.int (nI so)), some (.int (nI ac)), some (.int (nI fl)), some (.int (ab_z (s_has fl 1))), some (.int (ab_z (s_has fl 2)))] [] μ := by
    refine hj _ _ _ _ ?_
    unfold s_rT at hQ
    cases ou with
    | none =>
      repeat' (first | refine hjx _ _ _ _ (by decide) ?_ | (refine br_c (fun h => ?_) (fun h => ?_) <;> (try simp (disch := omega) only [nI_clamp, li_2, li_3, li_4, li_5, li_6, li_7, li_8, li_9, li_10, li_40, li_120, pk_mul, nI_add, nI_1, ix_eq, ix_lt, ix_le, ix_l0, ix_l1, ix_n0, ix_p0, ix_1lt, ix_lt1, ix_1le, ix_le1, ix_le0, ix_0lt, ab_z0, ab_z1, i_10, i_01, eq_self, ab_ozn, ab_ozp, ab_o_some, not_true_eq_false, not_false_eq_true, Bool.not_eq_false, Bool.not_eq_true, Bool.not_eq_false', Bool.not_eq_true', Bool.false_eq_true, Bool.true_eq_false, reduceCtorEq, Option.isSome_some, Option.isSome_none, ab_o1p] at h) <;> (try omega)) | (refine br_n (fun h => ?_) (fun h => ?_) <;> (try simp (disch := omega) only [nI_clamp, li_2, li_3, li_4, li_5, li_6, li_7, li_8, li_9, li_10, li_40, li_120, pk_mul, nI_add, nI_1, ix_eq, ix_lt, ix_le, ix_l0, ix_l1, ix_n0, ix_p0, ix_1lt, ix_lt1, ix_1le, ix_le1, ix_le0, ix_0lt, ab_z0, ab_z1, i_10, i_01, eq_self, ab_ozn, ab_ozp, ab_o_some, not_true_eq_false, not_false_eq_true, Bool.not_eq_false, Bool.not_eq_true, Bool.not_eq_false', Bool.not_eq_true', Bool.false_eq_true, Bool.true_eq_false, reduceCtorEq, Option.isSome_some, Option.isSome_none, ab_o1p] at h) <;> (try omega)) | refine ab_sd (by first | (with_reducible refine vp_in_nI ?_ ?_ <;> omega) | (simp (disch := omega) only [nI_clamp, li_2, li_3, li_4, li_5, li_6, li_7, li_8, li_9, li_10, li_40, li_120, pk_mul, nI_add, nI_1, ix_eq, ix_lt, ix_le, ix_l0, ix_l1, ix_n0, ix_p0, ix_1lt, ix_lt1, ix_1le, ix_le1, ix_le0, ix_0lt, ab_z0, ab_z1, i_10, i_01, eq_self, ab_ozn, ab_ozp, ab_o_some, not_true_eq_false, not_false_eq_true, Bool.not_eq_false, Bool.not_eq_true, Bool.not_eq_false', Bool.not_eq_true', Bool.false_eq_true, Bool.true_eq_false, reduceCtorEq, Option.isSome_some, Option.isSome_none, ab_o1p]; with_reducible refine vp_in_nI ?_ ?_ <;> omega)) ?_ | refine ab_sd ?_ ?_ | refine ab_sz (Or.inl rfl) ?_ | refine ab_sz (Or.inr rfl) ?_ | refine ab_sz ?_ ?_)
      all_goals first | (exfalso; exact h rfl) | (refine q_n hQ 1 rfl ?_; clear hj hw hjx hQ h55; grind) | (refine h55 _ (q_n hQ _ rfl ?_); clear hj hw hjx hQ h55; grind)
    | some o =>
      have ho := ho o rfl
      obtain ⟨a1, a2, a3, a4, -⟩ := hW.2.2.2.2.2.1 o ho
      have c3 : (nI o = -1) ↔ False := ⟨fun q => by have := nI_pos (n := o) (by omega); rw [q] at this; exact this (by decide), False.elim⟩
      have k13 := k13 o ho
      repeat' (first | refine hjx _ _ _ _ (by decide) ?_ | (refine br_c (fun h => ?_) (fun h => ?_) <;> (try simp (disch := omega) only [nI_clamp, li_2, li_3, li_4, li_5, li_6, li_7, li_8, li_9, li_10, li_40, li_120, pk_mul, nI_add, nI_1, ix_eq, ix_lt, ix_le, ix_l0, ix_l1, ix_n0, ix_p0, ix_1lt, ix_lt1, ix_1le, ix_le1, ix_le0, ix_0lt, ab_z0, ab_z1, i_10, i_01, eq_self, ab_ozn, ab_ozp, ab_o_some, not_true_eq_false, not_false_eq_true, Bool.not_eq_false, Bool.not_eq_true, Bool.not_eq_false', Bool.not_eq_true', Bool.false_eq_true, Bool.true_eq_false, reduceCtorEq, Option.isSome_some, Option.isSome_none, ab_o1_some, c3, k13] at h) <;> (try omega)) | (refine br_n (fun h => ?_) (fun h => ?_) <;> (try simp (disch := omega) only [nI_clamp, li_2, li_3, li_4, li_5, li_6, li_7, li_8, li_9, li_10, li_40, li_120, pk_mul, nI_add, nI_1, ix_eq, ix_lt, ix_le, ix_l0, ix_l1, ix_n0, ix_p0, ix_1lt, ix_lt1, ix_1le, ix_le1, ix_le0, ix_0lt, ab_z0, ab_z1, i_10, i_01, eq_self, ab_ozn, ab_ozp, ab_o_some, not_true_eq_false, not_false_eq_true, Bool.not_eq_false, Bool.not_eq_true, Bool.not_eq_false', Bool.not_eq_true', Bool.false_eq_true, Bool.true_eq_false, reduceCtorEq, Option.isSome_some, Option.isSome_none, ab_o1_some, c3, k13] at h) <;> (try omega)) | refine ab_sd (by first | (with_reducible refine vp_in_nI ?_ ?_ <;> omega) | (simp (disch := omega) only [nI_clamp, li_2, li_3, li_4, li_5, li_6, li_7, li_8, li_9, li_10, li_40, li_120, pk_mul, nI_add, nI_1, ix_eq, ix_lt, ix_le, ix_l0, ix_l1, ix_n0, ix_p0, ix_1lt, ix_lt1, ix_1le, ix_le1, ix_le0, ix_0lt, ab_z0, ab_z1, i_10, i_01, eq_self, ab_ozn, ab_ozp, ab_o_some, not_true_eq_false, not_false_eq_true, Bool.not_eq_false, Bool.not_eq_true, Bool.not_eq_false', Bool.not_eq_true', Bool.false_eq_true, Bool.true_eq_false, reduceCtorEq, Option.isSome_some, Option.isSome_none, ab_o1_some, c3, k13]; with_reducible refine vp_in_nI ?_ ?_ <;> omega)) ?_ | refine x_isClass hω T hT (t := o) rfl ho ?_ | refine ab_sd ?_ ?_ | refine ab_sz (Or.inl rfl) ?_ | refine ab_sz (Or.inr rfl) ?_ | refine ab_sz ?_ ?_)
      all_goals first | (refine q_n hQ 2 rfl ?_; clear hj hw hjx hQ h55; grind) | (refine q_n hQ 3 rfl ?_; clear hj hw hjx hQ h55; grind) | (refine h55 _ (q_n hQ _ rfl ?_); clear hj hw hjx hQ h55; grind)
  cases h1 : s_has fl 1 <;> cases h2 : s_has fl 2 <;> rw [h1] at b1 h16 <;> rw [h2] at b2 h16
  all_goals ((repeat' (first | refine hjx _ _ _ _ (by decide) ?_ | (refine br_c (fun h => ?_) (fun h => ?_) <;> (try simp (disch := omega) only [nI_clamp, li_2, li_3, li_4, li_5, li_6, li_7, li_8, li_9, li_10, li_40, li_120, pk_mul, nI_add, nI_1, ix_eq, ix_lt, ix_le, ix_l0, ix_l1, ix_n0, ix_p0, ix_1lt, ix_lt1, ix_1le, ix_le1, ix_le0, ix_0lt, ab_z0, ab_z1, i_10, i_01, eq_self, ab_ozn, ab_ozp, ab_o_some, not_true_eq_false, not_false_eq_true, Bool.not_eq_false, Bool.not_eq_true, Bool.not_eq_false', Bool.not_eq_true', Bool.false_eq_true, Bool.true_eq_false, reduceCtorEq, Option.isSome_some, Option.isSome_none, ab_n1, ab_nand, b1, b2] at h) <;> (try omega)) | (refine br_n (fun h => ?_) (fun h => ?_) <;> (try simp (disch := omega) only [nI_clamp, li_2, li_3, li_4, li_5, li_6, li_7, li_8, li_9, li_10, li_40, li_120, pk_mul, nI_add, nI_1, ix_eq, ix_lt, ix_le, ix_l0, ix_l1, ix_n0, ix_p0, ix_1lt, ix_lt1, ix_1le, ix_le1, ix_le0, ix_0lt, ab_z0, ab_z1, i_10, i_01, eq_self, ab_ozn, ab_ozp, ab_o_some, not_true_eq_false, not_false_eq_true, Bool.not_eq_false, Bool.not_eq_true, Bool.not_eq_false', Bool.not_eq_true', Bool.false_eq_true, Bool.true_eq_false, reduceCtorEq, Option.isSome_some, Option.isSome_none, ab_n1, ab_nand, b1, b2] at h) <;> (try omega)) | refine ab_sd (by first | (with_reducible refine vp_in_nI ?_ ?_ <;> omega) | (simp (disch := omega) only [nI_clamp, li_2, li_3, li_4, li_5, li_6, li_7, li_8, li_9, li_10, li_40, li_120, pk_mul, nI_add, nI_1, ix_eq, ix_lt, ix_le, ix_l0, ix_l1, ix_n0, ix_p0, ix_1lt, ix_lt1, ix_1le, ix_le1, ix_le0, ix_0lt, ab_z0, ab_z1, i_10, i_01, eq_self, ab_ozn, ab_ozp, ab_o_some, not_true_eq_false, not_false_eq_true, Bool.not_eq_false, Bool.not_eq_true, Bool.not_eq_false', Bool.not_eq_true', Bool.false_eq_true, Bool.true_eq_false, reduceCtorEq, Option.isSome_some, Option.isSome_none, ab_n1, ab_nand, b1, b2]; with_reducible refine vp_in_nI ?_ ?_ <;> omega)) ?_ | refine ab_sd ?_ ?_ | refine ab_sz (Or.inl rfl) ?_ | refine ab_sz (Or.inr rfl) ?_ | refine ab_sz ?_ ?_)) <;> exact h16)
end KF2
def s_och (S : sT) (ou : Option Nat) : List Nat := match ou with
  | none => []
  | some o => s_ch S o
theorem ty_ch {S : sT} (hW : Wf S) {pk so ac fl : Nat} {ou : Option Nat} (ho : ∀ o, ou = some o → o < s_nT S) : s_ch (s_type S pk ou so ac fl) (s_nT S) = s_nT S :: s_och S ou := by
  have n5 := (ty_new (S := S) (pk := pk) (ou := ou) (so := so) (ac := ac) (fl := fl)).2.2.2.2.1
  have hou : ∀ t, t < s_nT S → s_ou (s_type S pk ou so ac fl) t = s_ou S t := fun t ht => (ty_ou (by omega)).1
  generalize s_type S pk ou so ac fl = S' at n5 hou
  cases ou with
  | none => exact s_ch_none n5
  | some o =>
    have ho := ho o rfl
    obtain ⟨n', hn'⟩ : ∃ n', s_nT S = n' + 1 := ⟨s_nT S - 1, by omega⟩
    have e1 : s_ch S' (s_nT S) = s_chF S' (n' + 1) (s_nT S) := congrArg (fun k => s_chF S' k (s_nT S)) hn'
    have e2 : s_chF S' (n' + 1) (s_nT S) = s_nT S :: s_chF S' n' o := by
      simp only [s_chF, n5]
    rw [e1, e2, s_chF_x hW hou n' o ho]
    show _ = s_nT S :: s_chF S o o
    rw [s_chF_st hW n' o o ho (by omega) (Nat.le_refl _)]
/-- a TYPE is written, but not yet where it is within -/
def TA (S : sT) (pk ac fl : Nat) (μ μ1 : ab_M) : Prop := (μ1.1 2 0 = nI (s_nT S + 1) ∧ μ1.1 13 (s_nT S) = nI pk ∧ μ1.1 16 (s_nT S) = nI ac ∧ μ1.1 18 (s_nT S) = nI fl ∧ μ1.1 17 (s_nT S) = -1 ∧ μ1.1 23 (s_nT S) = nI (s_nT S)) ∧ (∀ k j, ¬ (k = 2 ∧ j = 0) → ¬ ((k = 13 ∨ k = 16 ∨ k = 17 ∨ k = 18 ∨ k = 23) ∧ j = s_nT S) → μ1.1 k j = μ.1 k j) ∧ (∀ i, ab_bt (μ1.2 25 pk) i = (ab_bt (μ.2 25 pk) i || decide (i = s_nT S))) ∧ (∀ i, ab_bt (μ1.2 2 2) i = (ab_bt (μ.2 2 2) i || (s_has fl 1 && decide (i = s_nT S)))) ∧ (∀ k j, ¬ (k = 25 ∧ j = pk) → ¬ (k = 2 ∧ j = 2) → μ1.2 k j = μ.2 k j)
/-- .. and where: an INTERFACE so far -/
theorem RepT_ty {S : sT} {μ μ1 μ2 : ab_M} (T : RepT S μ) (hI : Iv2 S) (hT : s_nT S < 40) {pk ac fl : Nat} {ou : Option Nat} (hp : pk < s_nP S) (ho : ∀ o, ou = some o → o < s_nT S) (h : TA S pk ac fl μ μ1) (g1 : ∀ k j, ¬ ((k = 14 ∨ k = 15) ∧ j = s_nT S) → μ2.1 k j = μ1.1 k j) (g2 : ∀ k j, ¬ (k = 22 ∧ j = s_nT S) → μ2.2 k j = μ1.2 k j) (g3 : μ2.1 14 (s_nT S) = ab_o1 ou) (g4 : ou = none → μ2.1 15 (s_nT S) = nI (s_nT S) ∧ ∀ i, ab_bt (μ2.2 22 (s_nT S)) i = decide (i = s_nT S)) (g5 : ∀ o, ou = some o → μ2.1 15 (s_nT S) = μ1.1 15 o ∧ ∀ i, ab_bt (μ2.2 22 (s_nT S)) i = (decide (i = s_nT S) || ab_bt (μ1.2 22 o) i)) : RepT (s_type S pk ou 1 ac fl) μ2 ∧ KT μ μ2 := by
  have hW := hI.1.1
  have hF := hI.1.2.1
  have hP := hW.2.1.2
  obtain ⟨⟨a1, a2, a3, a4, a5, a6⟩, b, c, d, e⟩ := h
  obtain ⟨h1, h2, h3, h4, h5, h6, od, ps, o1, o2, o3⟩ := T
  obtain ⟨n1, n2, n3, n4, n5, n6⟩ := ty_new (S := S) (pk := pk) (ou := ou) (so := 1) (ac := ac) (fl := fl)
  have eT := ty_nT (S := S) (pk := pk) (ou := ou) (so := 1) (ac := ac) (fl := fl)
  have hou : ∀ t, t < s_nT S → s_ou (s_type S pk ou 1 ac fl) t = s_ou S t := fun t ht => (ty_ou (by omega)).1
  have abE : ∀ t u, t < 40 → u < 40 → s_ab (s_type S pk ou 1 ac fl) t u = s_ab S t u := fun t u ht hu => by
    rw [ty_ab hu]
    by_cases q : t = s_nT S ∧ u = 0
    · rw [if_pos q, hF.2.2.2 t u ht hu (Or.inl (by omega))]; rfl
    · rw [if_neg q]
  have chN := ty_ch hW (pk := pk) (so := 1) (ac := ac) (fl := fl) ho
  refine ⟨⟨?_, fun i => ?_, fun i => ?_, fun t ht => ?_, fun t ht i => ?_, fun p hp' i => ?_, fun i => if i = s_nT S then s_nT S else od i, fun t => if t = s_nT S then s_nT S else ps t, fun i hi => ?_, fun t ht => ?_, fun t u ht hu hab => ?_⟩, fun k j hk => ⟨?_, ?_⟩⟩
  · rw [g1 2 0 (by omega), a1, eT]
  · rw [g2 2 1 (by omega), e 2 1 (by omega) (by omega), h2 i, eT]
    by_cases q : i = s_nT S
    · subst q; rw [n2]; simp
    · rw [ty_1 (by omega) (by omega)]
      rw [show decide (i < s_nT S + 1) = decide (i < s_nT S) by rw [decide_eq_decide]; omega]
  · rw [g2 2 2 (by omega), d i, h3 i, eT]
    by_cases q : i = s_nT S
    · subst q; rw [n4]; simp
    · rw [ty_1 (by omega) (by omega)]
      rw [show decide (i < s_nT S + 1) = decide (i < s_nT S) by rw [decide_eq_decide]; omega]
      simp [q]
  · rw [eT] at ht
    by_cases q : t = s_nT S
    · subst q
      rw [n1, n3, n4, n5, n6, g1 13 _ (by omega), g1 16 _ (by omega), g1 17 _ (by omega), g1 18 _ (by omega), a2, a3, a4, a5, g3]
      refine ⟨rfl, rfl, ?_, rfl, rfl, rfl, fun i => ?_⟩
      · have et : s_top (s_type S pk ou 1 ac fl) (s_nT S) = (s_nT S :: s_och S ou).getLastD (s_nT S) := by unfold s_top; rw [chN]
        rw [et]
        clear et chN n1 n2 n3 n4 n5 n6 eT hou abE g3
        cases ou with
        | none => exact (g4 rfl).1
        | some o =>
          have ho := ho o rfl
          rw [(g5 o rfl).1, b 15 o (by omega) (by omega), (h4 o ho).2.2.1]
          show nI ((s_ch S o).getLastD o) = nI ((s_nT S :: s_ch S o).getLastD (s_nT S))
          congr 1
          cases hc : s_ch S o with
          | nil => have := s_ch_self hW ho; rw [hc] at this; simp at this
          | cons x xs => simp [List.getLastD]
      · rw [chN]
        clear chN n1 n2 n3 n4 n5 n6 eT hou abE g3
        cases ou with
        | none =>
          rw [(g4 rfl).2 i]
          show decide (i = s_nT S) = ([s_nT S] : List Nat).contains i
          rw [List.contains_cons]
          by_cases q : i = s_nT S
          · simp [q]
          · have : (i == s_nT S) = false := by simpa using q
            rw [this]; simp [q]
        | some o =>
          have ho := ho o rfl
          rw [(g5 o rfl).2 i, e 22 o (by omega) (by omega), (h4 o ho).2.2.2.2.2.2 i]
          show _ = (s_nT S :: s_ch S o).contains i
          rw [List.contains_cons]
          by_cases q : i = s_nT S
          · simp [q]
          · have : (i == s_nT S) = false := by simpa using q
            rw [this]; simp [q]
    · have ht' : t < s_nT S := by omega
      rw [g1 13 t (by omega), g1 14 t (by omega), g1 15 t (by omega), g1 16 t (by omega), g1 17 t (by omega), g1 18 t (by omega), g2 22 t (by omega), b 13 t (by omega) (by omega), b 14 t (by omega) (by omega), b 15 t (by omega) (by omega), b 16 t (by omega) (by omega), b 17 t (by omega) (by omega), b 18 t (by omega) (by omega), e 22 t (by omega) (by omega), ty_1 (a := 48) (by omega) (by omega), ty_1 (a := 51) (by omega) (by omega), ty_1 (a := 52) (by omega) (by omega), (ty_ou q).1, (ty_ou q).2, s_top_x hW hou ht', s_ch_x hW hou ht']
      exact h4 t ht'
  · rw [g2 19 t (by omega), g2 20 t (by omega), g2 21 t (by omega), e 19 t (by omega) (by omega), e 20 t (by omega) (by omega), e 21 t (by omega) (by omega), (h5 t ht i).1, (h5 t ht i).2.1, (h5 t ht i).2.2, eT]
    have z55 := hF.2.2.1 (s_nT S) (Nat.le_refl _) hT
    have isfE : s_isf (s_type S pk ou 1 ac fl) t i = s_isf S t i := by
      unfold s_isf
      rw [ty_1 (a := 55) (by omega) (by omega)]
      refine ab_ex_congr (fun k hk => ?_)
      rw [ty_1 (a := 54) (by omega) (by omega)]
    refine ⟨?_, ?_, ?_⟩
    · rw [isfE]
      by_cases q : t = s_nT S
      · subst q
        have : s_isf S (s_nT S) i = false := by unfold s_isf; rw [z55]; rfl
        rw [this]; simp
      · rw [show decide (t < s_nT S + 1) = decide (t < s_nT S) by rw [decide_eq_decide]; omega]
    · by_cases qi : i < 40
      · rw [abE t i ht qi]
        by_cases q : t < s_nT S ∧ i < s_nT S
        · simp [q.1, q.2, show t < s_nT S + 1 by omega, show i < s_nT S + 1 by omega]
        · rw [hF.2.2.2 t i ht qi (by omega)]; simp
      · simp [show ¬ i < s_nT S by omega, show ¬ i < s_nT S + 1 by omega]
    · by_cases qi : i < 40
      · rw [abE i t qi ht]
        by_cases q : t < s_nT S ∧ i < s_nT S
        · simp [q.1, q.2, show t < s_nT S + 1 by omega, show i < s_nT S + 1 by omega]
        · rw [hF.2.2.2 i t qi ht (by omega)]; simp
      · simp [show ¬ i < s_nT S by omega, show ¬ i < s_nT S + 1 by omega]
  · rw [g2 25 p (by omega), eT]
    by_cases q : i = s_nT S
    · subst q
      rw [n1]
      by_cases qp : p = pk
      · subst qp
        rw [c]
        simp
      · rw [e 25 p (by omega) (by omega), h6 p hp']
        have : ¬ pk = p := fun x => qp x.symm
        simp [this]
    · rw [ty_1 (a := 48) (by omega) (by omega), show decide (i < s_nT S + 1) = decide (i < s_nT S) by rw [decide_eq_decide]; omega]
      by_cases qp : p = pk
      · subst qp
        rw [c, h6 p hp']
        simp [q]
      · rw [e 25 p (by omega) (by omega), h6 p hp']
  · rw [eT] at hi ⊢
    rw [g1 23 i (by omega)]
    by_cases q : i = s_nT S
    · subst q
      simp [a6]
    · obtain ⟨v1, v2, v3⟩ := o1 i (by omega)
      have : ¬ od i = s_nT S := by omega
      simp only [q, this, if_false]
      refine ⟨by omega, v2, ?_⟩
      rw [b 23 i (by omega) (by omega)]
      exact v3
  · rw [eT] at ht ⊢
    by_cases q : t = s_nT S
    · simp [q]
    · obtain ⟨v1, v2⟩ := o2 t (by omega)
      have : ¬ ps t = s_nT S := by omega
      simp only [q, this, if_false]
      exact ⟨by omega, v2⟩
  · rw [eT] at ht hu
    rw [abE t u (by omega) (by omega)] at hab
    have ht' : t < s_nT S := by
      apply Classical.byContradiction
      intro x
      rw [hF.2.2.2 t u (by omega) (by omega) (Or.inl (by omega))] at hab; cases hab
    have hu' : u < s_nT S := by
      apply Classical.byContradiction
      intro x
      rw [hF.2.2.2 t u (by omega) (by omega) (Or.inr (by omega))] at hab; cases hab
    simp only [show ¬ t = s_nT S by omega, show ¬ u = s_nT S by omega, if_false]
    exact o3 t u ht' hu' hab
  · rw [g1 k j (by omega), b k j (by omega) (by omega)]
  · rw [g2 k j (by omega), e k j (by omega) (by omega)]
theorem RepT_cls {S : sT} {μ : ab_M} (T : RepT S μ) (hT : s_nT S ≤ 40) {t : Nat} (ht : t < s_nT S) : RepT (s_un S 50 t 0) (ab_mj μ 2 1 (μ.2 2 1 ||| ab_one t)) := by
  obtain ⟨h1, h2, h3, h4, h5, h6, h7⟩ := T
  have f : ∀ k j, ¬ k = 50 → (s_un S 50 t 0).1 k j = S.1 k j := fun k j hk => un_ne (by omega)
  have eT : s_nT (s_un S 50 t 0) = s_nT S := f 43 6 (by omega)
  have hch : ∀ t', s_ch (s_un S 50 t 0) t' = s_ch S t' := fun t' => s_ch_e (S := S) (S' := s_un S 50 t 0) (fun _ => rfl) t'
  have htop : ∀ t', s_top (s_un S 50 t 0) t' = s_top S t' := fun t' => s_top_e (S := S) (S' := s_un S 50 t 0) (fun _ => rfl) t'
  refine ⟨by rw [eT]; exact h1, fun i => ?_, fun i => ?_, fun t' ht' => ?_, fun t' ht' i => ?_, fun p hp i => ?_, by rw [eT]; exact h7⟩
  · rw [eT]
    simp only [ab_mj, and_self, if_true, ab_bt_or, ab_bt_one (show t < 64 by omega)]
    rw [h2 i]
    by_cases q : i = t
    · subst q; rw [un_eq]; simp [ht]
    · rw [un_ne (by omega)]; simp [q]
  · rw [eT, f 52 i (by omega)]
    simp only [ab_mj, show ¬ (2 = 2 ∧ 2 = 1) by omega, if_false]
    exact h3 i
  · rw [eT] at ht'
    rw [f 48 t' (by omega), f 51 t' (by omega), f 52 t' (by omega), hch, htop]
    simp only [ab_mj, show ¬ (22 = 2 ∧ t' = 1) by omega, if_false]
    exact h4 t' ht'
  · rw [eT]
    have isfE : s_isf (s_un S 50 t 0) t' i = s_isf S t' i := by
      unfold s_isf
      rw [f 55 t' (by omega)]
      exact ab_ex_congr (fun k _ => by rw [f 54 _ (by omega)])
    rw [isfE]
    simp only [ab_mj, show ¬ (19 = 2 ∧ t' = 1) by omega, show ¬ (20 = 2 ∧ t' = 1) by omega, show ¬ (21 = 2 ∧ t' = 1) by omega, if_false]
    exact h5 t' ht' i
  · rw [eT, f 48 i (by omega)]
    simp only [ab_mj, show ¬ (25 = 2 ∧ p = 1) by omega, if_false]
    exact h6 p hp i
theorem ty_eq {S : sT} (hI : Iv2 S) (hT : s_nT S < 40) {pk ac fl : Nat} {ou : Option Nat} : s_raise (s_uo (s_un (s_type S pk ou 1 ac fl) 50 (s_nT S) 0) 53 (s_nT S) (some 0)) (s_nT S) 0 = s_type S pk ou 0 ac fl := by
  have hF := hI.1.2.1
  have h1 := hI.1.1.2.2.1.1
  have eT : s_nT (s_uo (s_un (s_type S pk ou 1 ac fl) 50 (s_nT S) 0) 53 (s_nT S) (some 0)) = s_nT S + 1 := by
    show (s_un (s_type S pk ou 1 ac fl) 50 (s_nT S) 0).1 43 6 = _
    rw [un_ne (by omega)]
    exact ty_nT
  have e21 : ∀ j, (s_uo (s_un (s_type S pk ou 1 ac fl) 50 (s_nT S) 0) 53 (s_nT S) (some 0)).2.1 56 j = if j = 40 * s_nT S then false else S.2.1 56 j := by
    intro j
    show (if 56 = 56 ∧ j = 40 * s_nT S then ((1 : Nat) == 0) else S.2.1 56 j) = _
    by_cases q : j = 40 * s_nT S
    · simp [q]
    · simp [q]
  refine Prod.ext ?_ (Prod.ext ?_ ?_)
  · funext a b
    show (if a = 50 ∧ b = s_nT S then 0 else if a = 43 ∧ b = 6 then s_nT S + 1 else if a = 48 ∧ b = s_nT S then pk else if a = 50 ∧ b = s_nT S then 1 else if a = 51 ∧ b = s_nT S then ac else if a = 52 ∧ b = s_nT S then fl else S.1 a b) = (if a = 43 ∧ b = 6 then s_nT S + 1 else if a = 48 ∧ b = s_nT S then pk else if a = 50 ∧ b = s_nT S then 0 else if a = 51 ∧ b = s_nT S then ac else if a = 52 ∧ b = s_nT S then fl else S.1 a b)
    by_cases q : a = 50 ∧ b = s_nT S
    · rw [if_pos q, if_neg (by omega), if_neg (by omega), if_pos q]
    · rw [if_neg q, if_neg q, if_neg q]
  · funext k j
    show (if k = 56 then s_rsB (s_uo (s_un (s_type S pk ou 1 ac fl) 50 (s_nT S) 0) 53 (s_nT S) (some 0)) (s_nT S) 0 j else (if k = 56 ∧ j = 40 * s_nT S then ((1 : Nat) == 0) else S.2.1 k j)) = (if k = 56 ∧ j = 40 * s_nT S then ((0 : Nat) == 0) else S.2.1 k j)
    by_cases q : k = 56
    · subst q
      simp only [if_true, true_and]
      unfold s_rsB
      rw [eT, e21]
      by_cases qj : j = 40 * s_nT S
      · subst qj
        rw [show 40 * s_nT S / 40 = s_nT S by omega, show 40 * s_nT S % 40 = 0 by omega]
        unfold s_at
        simp
      · rw [if_neg qj, if_neg qj]
        cases hx : (decide (j / 40 < s_nT S + 1) && decide (j % 40 < s_nT S + 1) && s_at (s_uo (s_un (s_type S pk ou 1 ac fl) 50 (s_nT S) 0) 53 (s_nT S) (some 0)) (j / 40) (s_nT S) && s_at (s_uo (s_un (s_type S pk ou 1 ac fl) 50 (s_nT S) 0) 53 (s_nT S) (some 0)) 0 (j % 40)) with
        | false => simp
        | true =>
          exfalso
          simp only [Bool.and_eq_true, decide_eq_true_eq] at hx
          obtain ⟨⟨⟨x1, x2⟩, x3⟩, x4⟩ := hx
          unfold s_at at x3 x4
          simp only [Bool.or_eq_true, beq_iff_eq] at x3 x4
          have y3 : j / 40 = s_nT S := by
            rcases x3 with x3 | x3
            · exact x3
            · exfalso
              have x3 : (s_uo (s_un (s_type S pk ou 1 ac fl) 50 (s_nT S) 0) 53 (s_nT S) (some 0)).2.1 56 (40 * (j / 40) + s_nT S) = true := x3
              rw [e21, if_neg (by omega)] at x3
              have := hF.2.2.2 (j / 40) (s_nT S) (by omega) hT (Or.inr (Nat.le_refl _))
              have this : S.2.1 56 (40 * (j / 40) + s_nT S) = false := this
              rw [this] at x3; cases x3
          rcases x4 with x4 | x4
          · omega
          · have x4 : (s_uo (s_un (s_type S pk ou 1 ac fl) 50 (s_nT S) 0) 53 (s_nT S) (some 0)).2.1 56 (40 * 0 + j % 40) = true := x4
            rw [e21, if_neg (by omega)] at x4
            have this : S.2.1 56 (40 * 0 + j % 40) = false := hI.2 (j % 40) (by omega)
            rw [this] at x4; cases x4
    · rw [if_neg q, if_neg (by omega), if_neg (by omega)]
  · funext a b
    show (if a = 53 ∧ b = s_nT S then some 0 else if a = 49 ∧ b = s_nT S then ou else if a = 53 ∧ b = s_nT S then (if 1 = 0 then some 0 else none) else S.2.2 a b) = (if a = 49 ∧ b = s_nT S then ou else if a = 53 ∧ b = s_nT S then (if 0 = 0 then some 0 else none) else S.2.2 a b)
    by_cases q : a = 53 ∧ b = s_nT S
    · rw [if_pos q, if_neg (by omega), if_pos q]; rfl
    · rw [if_neg q, if_neg q, if_neg q]
section KI
variable {l : Launch} {ω : ab_W} {S : sT} {μ : ab_M} {Q : Int32 → ab_M → Prop}
theorem x_tadd (hω : ω.2.2.2 = ab_SH) (T : RepT S μ) (hI : Iv2 S) {x y z v w : Int32} {pk so ac fl : Nat} {ou : Option Nat} (ex : x = nI pk) (ey : y = ab_o1 ou) (ez : z = nI so) (ev : v = nI ac) (ew : w = nI fl) (hp : pk < s_nP S) (ho : ∀ o, ou = some o → o < s_nT S) (hs : so < 2) (hf : fl < 8) (hQf : s_nT S = 40 → Q (-4) μ) (hQ : ∀ μ', ¬ s_nT S = 40 → RepT (s_type S pk ou so ac fl) μ' → KT μ μ' → Q (nI (s_nT S)) μ') : ab_CI l ω mX8_add [.ref 2, .int x, .int y, .int z, .int v, .int w] μ Q := by
  subst ex ey ez ev ew
  refine ab_intro (sh := ab_SH) (cd := kX8_add) hω vX8_add (by decide +kernel) rfl (Nat.le_of_ble_eq_true rfl) (fun j hj hw => ?_)
  have hjx : ∀ i ll st μ, i ∉ ([59, 63] : List Nat) → _ → j i ll st μ := fun i ll st μ _ h => hj i ll st μ h
  have hW := hI.1.1
  have hT := hW.2.2.1.2
  have hT1 := hW.2.2.1.1
  have hP := hW.2.1.2
  have T0 := T
  have kT := T.1
  by_cases h40 : s_nT S = 40
  · repeat' (first | refine hjx _ _ _ _ (by decide) ?_ | (refine br_c (fun h => ?_) (fun h => ?_) <;> (try simp (disch := omega) only [nI_clamp, li_2, li_3, li_4, li_5, li_6, li_7, li_8, li_9, li_10, li_40, li_120, pk_mul, nI_add, nI_1, ix_eq, ix_lt, ix_le, ix_l0, ix_l1, ix_n0, ix_p0, ix_1lt, ix_lt1, ix_1le, ix_le1, ix_le0, ix_0lt, ab_z0, ab_z1, i_10, i_01, eq_self, ab_ozn, ab_ozp, ab_o_some, not_true_eq_false, not_false_eq_true, Bool.not_eq_false, Bool.not_eq_true, Bool.not_eq_false', Bool.not_eq_true', Bool.false_eq_true, Bool.true_eq_false, reduceCtorEq, Option.isSome_some, Option.isSome_none, kT] at h) <;> (try omega)) | (refine br_n (fun h => ?_) (fun h => ?_) <;> (try simp (disch := omega) only [nI_clamp, li_2, li_3, li_4, li_5, li_6, li_7, li_8, li_9, li_10, li_40, li_120, pk_mul, nI_add, nI_1, ix_eq, ix_lt, ix_le, ix_l0, ix_l1, ix_n0, ix_p0, ix_1lt, ix_lt1, ix_1le, ix_le1, ix_le0, ix_0lt, ab_z0, ab_z1, i_10, i_01, eq_self, ab_ozn, ab_ozp, ab_o_some, not_true_eq_false, not_false_eq_true, Bool.not_eq_false, Bool.not_eq_true, Bool.not_eq_false', Bool.not_eq_true', Bool.false_eq_true, Bool.true_eq_false, reduceCtorEq, Option.isSome_some, Option.isSome_none, kT] at h) <;> (try omega)) | refine ab_sd (by first | (with_reducible refine vp_in_nI ?_ ?_ <;> omega) | (simp (disch := omega) only [nI_clamp, li_2, li_3, li_4, li_5, li_6, li_7, li_8, li_9, li_10, li_40, li_120, pk_mul, nI_add, nI_1, ix_eq, ix_lt, ix_le, ix_l0, ix_l1, ix_n0, ix_p0, ix_1lt, ix_lt1, ix_1le, ix_le1, ix_le0, ix_0lt, ab_z0, ab_z1, i_10, i_01, eq_self, ab_ozn, ab_ozp, ab_o_some, not_true_eq_false, not_false_eq_true, Bool.not_eq_false, Bool.not_eq_true, Bool.not_eq_false', Bool.not_eq_true', Bool.false_eq_true, Bool.true_eq_false, reduceCtorEq, Option.isSome_some, Option.isSome_none, kT]; with_reducible refine vp_in_nI ?_ ?_ <;> omega)) ?_ | refine ab_sd ?_ ?_ | refine ab_sz (Or.inl rfl) ?_ | refine ab_sz (Or.inr rfl) ?_ | refine ab_sz ?_ ?_)
    all_goals exact hQf h40
  · have hQ := fun μ' => hQ μ' h40
    have ct : (nI (s_nT S)).toNatClampNeg = s_nT S := nI_clamp (by omega)
    have b1 : fl &&& 1 = 0 ↔ s_has fl 1 = false := by unfold s_has; simp
    have q1 := s_and_lt (b := 1) hf
    have h63 : ∀ μ2, RepT (s_type S pk ou 1 ac fl) μ2 → KT μ μ2 → j 63 [some (.ref 2), some (.int (nI pk)), some (.int (ab_o1 ou)), some (.int (nI so)), some (.int (nI ac)), some (.int (nI fl)), some (.int (nI (s_nT S)))] [] μ2 := by
      intro μ2 T2 k2
      refine hj _ _ _ _ ?_
      have eT := ty_nT (S := S) (pk := pk) (ou := ou) (so := 1) (ac := ac) (fl := fl)
      have hs2 : so = 0 ∨ so = 1 := by omega
      rcases hs2 with rfl | rfl
      · have T3 := RepT_cls T2 (by omega) (t := s_nT S) (by omega)
        have eT3 : s_nT (s_un (s_type S pk ou 1 ac fl) 50 (s_nT S) 0) = s_nT S + 1 := by rw [← eT]; exact un_ne (by omega)
        have hF := hI.1.2.1
        have ab3 : ∀ a b, a < s_nT S + 1 → b < s_nT S + 1 → s_ab (s_un (s_type S pk ou 1 ac fl) 50 (s_nT S) 0) a b = true → a < s_nT S ∧ b < s_nT S ∧ s_ab S a b = true := by
          intro a b ha hb hab
          have hab : s_ab (s_type S pk ou 1 ac fl) a b = true := hab
          rw [ty_ab (by omega)] at hab
          by_cases q : a = s_nT S ∧ b = 0
          · rw [if_pos q] at hab; cases hab
          · rw [if_neg q] at hab
            refine ⟨?_, ?_, hab⟩
            · apply Classical.byContradiction
              intro x
              rw [hF.2.2.2 a b (by omega) (by omega) (Or.inl (by omega))] at hab; cases hab
            · apply Classical.byContradiction
              intro x
              rw [hF.2.2.2 a b (by omega) (by omega) (Or.inr (by omega))] at hab; cases hab
        have htr : ∀ a b c, a < s_nT (s_un (s_type S pk ou 1 ac fl) 50 (s_nT S) 0) → b < s_nT (s_un (s_type S pk ou 1 ac fl) 50 (s_nT S) 0) → c < s_nT (s_un (s_type S pk ou 1 ac fl) 50 (s_nT S) 0) → s_ab (s_un (s_type S pk ou 1 ac fl) 50 (s_nT S) 0) a b = true → s_ab (s_un (s_type S pk ou 1 ac fl) 50 (s_nT S) 0) b c = true → s_ab (s_un (s_type S pk ou 1 ac fl) 50 (s_nT S) 0) a c = true := by
          intro a b c ha hb hc h1 h2
          rw [eT3] at ha hb hc
          obtain ⟨x1, x2, x3⟩ := ab3 a b ha hb h1
          obtain ⟨y1, y2, y3⟩ := ab3 b c hb hc h2
          show s_ab (s_type S pk ou 1 ac fl) a c = true
          rw [ty_ab (by omega), if_neg (by omega)]
          exact hI.1.2.2.2.2.2.1 a b c x1 x2 y2 x3 y3
        have hat : s_at (s_un (s_type S pk ou 1 ac fl) 50 (s_nT S) 0) 0 (s_nT S) = false := by
          unfold s_at
          cases hx : s_ab (s_un (s_type S pk ou 1 ac fl) 50 (s_nT S) 0) 0 (s_nT S) with
          | false =>
            have : ¬ (0 = s_nT S) := by omega
            simp [this]
          | true =>
            have := ab3 0 (s_nT S) (by omega) (by omega) hx
            omega
        repeat' (first | refine hjx _ _ _ _ (by decide) ?_ | (refine br_c (fun h => ?_) (fun h => ?_) <;> (try simp (disch := omega) only [nI_clamp, li_2, li_3, li_4, li_5, li_6, li_7, li_8, li_9, li_10, li_40, li_120, pk_mul, nI_add, nI_1, ix_eq, ix_lt, ix_le, ix_l0, ix_l1, ix_n0, ix_p0, ix_1lt, ix_lt1, ix_1le, ix_le1, ix_le0, ix_0lt, ab_z0, ab_z1, i_10, i_01, eq_self, ab_ozn, ab_ozp, ab_o_some, not_true_eq_false, not_false_eq_true, Bool.not_eq_false, Bool.not_eq_true, Bool.not_eq_false', Bool.not_eq_true', Bool.false_eq_true, Bool.true_eq_false, reduceCtorEq, Option.isSome_some, Option.isSome_none] at h) <;> (try omega)) | (refine br_n (fun h => ?_) (fun h => ?_) <;> (try simp (disch := omega) only [nI_clamp, li_2, li_3, li_4, li_5, li_6, li_7, li_8, li_9, li_10, li_40, li_120, pk_mul, nI_add, nI_1, ix_eq, ix_lt, ix_le, ix_l0, ix_l1, ix_n0, ix_p0, ix_1lt, ix_lt1, ix_1le, ix_le1, ix_le0, ix_0lt, ab_z0, ab_z1, i_10, i_01, eq_self, ab_ozn, ab_ozp, ab_o_some, not_true_eq_false, not_false_eq_true, Bool.not_eq_false, Bool.not_eq_true, Bool.not_eq_false', Bool.not_eq_true', Bool.false_eq_true, Bool.true_eq_false, reduceCtorEq, Option.isSome_some, Option.isSome_none] at h) <;> (try omega)) | refine ab_sd (by first | (with_reducible refine vp_in_nI ?_ ?_ <;> omega) | (simp (disch := omega) only [nI_clamp, li_2, li_3, li_4, li_5, li_6, li_7, li_8, li_9, li_10, li_40, li_120, pk_mul, nI_add, nI_1, ix_eq, ix_lt, ix_le, ix_l0, ix_l1, ix_n0, ix_p0, ix_1lt, ix_lt1, ix_1le, ix_le1, ix_le0, ix_0lt, ab_z0, ab_z1, i_10, i_01, eq_self, ab_ozn, ab_ozp, ab_o_some, not_true_eq_false, not_false_eq_true, Bool.not_eq_false, Bool.not_eq_true, Bool.not_eq_false', Bool.not_eq_true', Bool.false_eq_true, Bool.true_eq_false, reduceCtorEq, Option.isSome_some, Option.isSome_none]; with_reducible refine vp_in_nI ?_ ?_ <;> omega)) ?_ | refine x_one hω (t := s_nT S) rfl ?_ | refine x_setParent hω T3 (by omega) htr (t := s_nT S) (p := 0) rfl rfl (by omega) (by omega) hat (fun μ4 T4 k4 => ?_) | refine ab_sd ?_ ?_ | refine ab_sz (Or.inl rfl) ?_ | refine ab_sz (Or.inr rfl) ?_ | refine ab_sz ?_ ?_)
        all_goals first | (exfalso; revert h; decide) | skip
        show Q _ _
        rw [ty_eq hI (by omega)] at T4
        exact hQ μ4 T4 ((k2.mj (Or.inl rfl)).tr k4)
      · repeat' (first | refine hjx _ _ _ _ (by decide) ?_ | (refine br_c (fun h => ?_) (fun h => ?_) <;> (try simp (disch := omega) only [nI_clamp, li_2, li_3, li_4, li_5, li_6, li_7, li_8, li_9, li_10, li_40, li_120, pk_mul, nI_add, nI_1, ix_eq, ix_lt, ix_le, ix_l0, ix_l1, ix_n0, ix_p0, ix_1lt, ix_lt1, ix_1le, ix_le1, ix_le0, ix_0lt, ab_z0, ab_z1, i_10, i_01, eq_self, ab_ozn, ab_ozp, ab_o_some, not_true_eq_false, not_false_eq_true, Bool.not_eq_false, Bool.not_eq_true, Bool.not_eq_false', Bool.not_eq_true', Bool.false_eq_true, Bool.true_eq_false, reduceCtorEq, Option.isSome_some, Option.isSome_none] at h) <;> (try omega)) | (refine br_n (fun h => ?_) (fun h => ?_) <;> (try simp (disch := omega) only [nI_clamp, li_2, li_3, li_4, li_5, li_6, li_7, li_8, li_9, li_10, li_40, li_120, pk_mul, nI_add, nI_1, ix_eq, ix_lt, ix_le, ix_l0, ix_l1, ix_n0, ix_p0, ix_1lt, ix_lt1, ix_1le, ix_le1, ix_le0, ix_0lt, ab_z0, ab_z1, i_10, i_01, eq_self, ab_ozn, ab_ozp, ab_o_some, not_true_eq_false, not_false_eq_true, Bool.not_eq_false, Bool.not_eq_true, Bool.not_eq_false', Bool.not_eq_true', Bool.false_eq_true, Bool.true_eq_false, reduceCtorEq, Option.isSome_some, Option.isSome_none] at h) <;> (try omega)) | refine ab_sd (by first | (with_reducible refine vp_in_nI ?_ ?_ <;> omega) | (simp (disch := omega) only [nI_clamp, li_2, li_3, li_4, li_5, li_6, li_7, li_8, li_9, li_10, li_40, li_120, pk_mul, nI_add, nI_1, ix_eq, ix_lt, ix_le, ix_l0, ix_l1, ix_n0, ix_p0, ix_1lt, ix_lt1, ix_1le, ix_le1, ix_le0, ix_0lt, ab_z0, ab_z1, i_10, i_01, eq_self, ab_ozn, ab_ozp, ab_o_some, not_true_eq_false, not_false_eq_true, Bool.not_eq_false, Bool.not_eq_true, Bool.not_eq_false', Bool.not_eq_true', Bool.false_eq_true, Bool.true_eq_false, reduceCtorEq, Option.isSome_some, Option.isSome_none]; with_reducible refine vp_in_nI ?_ ?_ <;> omega)) ?_ | refine ab_sd ?_ ?_ | refine ab_sz (Or.inl rfl) ?_ | refine ab_sz (Or.inr rfl) ?_ | refine ab_sz ?_ ?_)
        all_goals first | (exfalso; revert h; decide) | exact hQ μ2 T2 k2
    have h59 : ∀ μ1, TA S pk ac fl μ μ1 → j 59 [some (.ref 2), some (.int (nI pk)), some (.int (ab_o1 ou)), some (.int (nI so)), some (.int (nI ac)), some (.int (nI fl)), some (.int (nI (s_nT S)))] [] μ1 := by
      intro μ1 hTA
      refine hj _ _ _ _ ?_
      repeat' (first | refine hjx _ _ _ _ (by decide) ?_ | (refine br_c (fun h => ?_) (fun h => ?_) <;> (try simp (disch := omega) only [nI_clamp, li_2, li_3, li_4, li_5, li_6, li_7, li_8, li_9, li_10, li_40, li_120, pk_mul, nI_add, nI_1, ix_eq, ix_lt, ix_le, ix_l0, ix_l1, ix_n0, ix_p0, ix_1lt, ix_lt1, ix_1le, ix_le1, ix_le0, ix_0lt, ab_z0, ab_z1, i_10, i_01, eq_self, ab_ozn, ab_ozp, ab_o_some, not_true_eq_false, not_false_eq_true, Bool.not_eq_false, Bool.not_eq_true, Bool.not_eq_false', Bool.not_eq_true', Bool.false_eq_true, Bool.true_eq_false, reduceCtorEq, Option.isSome_some, Option.isSome_none] at h) <;> (try omega)) | (refine br_n (fun h => ?_) (fun h => ?_) <;> (try simp (disch := omega) only [nI_clamp, li_2, li_3, li_4, li_5, li_6, li_7, li_8, li_9, li_10, li_40, li_120, pk_mul, nI_add, nI_1, ix_eq, ix_lt, ix_le, ix_l0, ix_l1, ix_n0, ix_p0, ix_1lt, ix_lt1, ix_1le, ix_le1, ix_le0, ix_0lt, ab_z0, ab_z1, i_10, i_01, eq_self, ab_ozn, ab_ozp, ab_o_some, not_true_eq_false, not_false_eq_true, Bool.not_eq_false, Bool.not_eq_true, Bool.not_eq_false', Bool.not_eq_true', Bool.false_eq_true, Bool.true_eq_false, reduceCtorEq, Option.isSome_some, Option.isSome_none] at h) <;> (try omega)) | refine ab_sd (by first | (with_reducible refine vp_in_nI ?_ ?_ <;> omega) | (simp (disch := omega) only [nI_clamp, li_2, li_3, li_4, li_5, li_6, li_7, li_8, li_9, li_10, li_40, li_120, pk_mul, nI_add, nI_1, ix_eq, ix_lt, ix_le, ix_l0, ix_l1, ix_n0, ix_p0, ix_1lt, ix_lt1, ix_1le, ix_le1, ix_le0, ix_0lt, ab_z0, ab_z1, i_10, i_01, eq_self, ab_ozn, ab_ozp, ab_o_some, not_true_eq_false, not_false_eq_true, Bool.not_eq_false, Bool.not_eq_true, Bool.not_eq_false', Bool.not_eq_true', Bool.false_eq_true, Bool.true_eq_false, reduceCtorEq, Option.isSome_some, Option.isSome_none]; with_reducible refine vp_in_nI ?_ ?_ <;> omega)) ?_ | refine x_putWithin hω (t := s_nT S) (ou := ou) rfl rfl (by omega) ho (fun μ2 g1 g2 g3 g4 g5 => ?_) | refine ab_sd ?_ ?_ | refine ab_sz (Or.inl rfl) ?_ | refine ab_sz (Or.inr rfl) ?_ | refine ab_sz ?_ ?_)
      obtain ⟨T2, k2⟩ := RepT_ty T0 hI (by omega) hp ho hTA g1 g2 g3 g4 g5
      exact h63 μ2 T2 k2
    cases h1 : s_has fl 1 with
    | false =>
      rw [h1] at b1
      repeat' (first | refine hjx _ _ _ _ (by decide) ?_ | (refine br_c (fun h => ?_) (fun h => ?_) <;> (try simp (disch := omega) only [nI_clamp, li_2, li_3, li_4, li_5, li_6, li_7, li_8, li_9, li_10, li_40, li_120, pk_mul, nI_add, nI_1, ix_eq, ix_lt, ix_le, ix_l0, ix_l1, ix_n0, ix_p0, ix_1lt, ix_lt1, ix_1le, ix_le1, ix_le0, ix_0lt, ab_z0, ab_z1, i_10, i_01, eq_self, ab_ozn, ab_ozp, ab_o_some, not_true_eq_false, not_false_eq_true, Bool.not_eq_false, Bool.not_eq_true, Bool.not_eq_false', Bool.not_eq_true', Bool.false_eq_true, Bool.true_eq_false, reduceCtorEq, Option.isSome_some, Option.isSome_none, kT, ab_n1, b1] at h) <;> (try omega)) | (refine br_n (fun h => ?_) (fun h => ?_) <;> (try simp (disch := omega) only [nI_clamp, li_2, li_3, li_4, li_5, li_6, li_7, li_8, li_9, li_10, li_40, li_120, pk_mul, nI_add, nI_1, ix_eq, ix_lt, ix_le, ix_l0, ix_l1, ix_n0, ix_p0, ix_1lt, ix_lt1, ix_1le, ix_le1, ix_le0, ix_0lt, ab_z0, ab_z1, i_10, i_01, eq_self, ab_ozn, ab_ozp, ab_o_some, not_true_eq_false, not_false_eq_true, Bool.not_eq_false, Bool.not_eq_true, Bool.not_eq_false', Bool.not_eq_true', Bool.false_eq_true, Bool.true_eq_false, reduceCtorEq, Option.isSome_some, Option.isSome_none, kT, ab_n1, b1] at h) <;> (try omega)) | refine ab_sd (by first | (with_reducible refine vp_in_nI ?_ ?_ <;> omega) | (simp (disch := omega) only [nI_clamp, li_2, li_3, li_4, li_5, li_6, li_7, li_8, li_9, li_10, li_40, li_120, pk_mul, nI_add, nI_1, ix_eq, ix_lt, ix_le, ix_l0, ix_l1, ix_n0, ix_p0, ix_1lt, ix_lt1, ix_1le, ix_le1, ix_le0, ix_0lt, ab_z0, ab_z1, i_10, i_01, eq_self, ab_ozn, ab_ozp, ab_o_some, not_true_eq_false, not_false_eq_true, Bool.not_eq_false, Bool.not_eq_true, Bool.not_eq_false', Bool.not_eq_true', Bool.false_eq_true, Bool.true_eq_false, reduceCtorEq, Option.isSome_some, Option.isSome_none, kT, ab_n1, b1]; with_reducible refine vp_in_nI ?_ ?_ <;> omega)) ?_ | refine x_one hω (t := s_nT S) (by rw [kT]) ?_ | refine ab_sd ?_ ?_ | refine ab_sz (Or.inl rfl) ?_ | refine ab_sz (Or.inr rfl) ?_ | refine ab_sz ?_ ?_)
      simp only [kT, ct, nI_1, nI_clamp (show pk < 2 ^ 31 by omega)]
      refine h59 _ ⟨⟨?_, ?_, ?_, ?_, ?_, ?_⟩, fun k jj a b => ?_, fun i => ?_, fun i => ?_, fun k jj a b => ?_⟩
      · simp [ab_mi, ab_mj]
      · simp [ab_mi, ab_mj]
      · simp [ab_mi, ab_mj]
      · simp [ab_mi, ab_mj]
      · simp [ab_mi, ab_mj]
      · simp [ab_mi, ab_mj]
      · simp only [ab_mi, ab_mj, a, show ¬ (k = 13 ∧ jj = s_nT S) by omega, show ¬ (k = 16 ∧ jj = s_nT S) by omega, show ¬ (k = 17 ∧ jj = s_nT S) by omega, show ¬ (k = 18 ∧ jj = s_nT S) by omega, show ¬ (k = 23 ∧ jj = s_nT S) by omega, if_false]
      · simp [ab_mi, ab_mj, ab_bt_or, ab_bt_one (show s_nT S < 64 by omega)]
      · simp [ab_mi, ab_mj, ab_bt_or, ab_bt_one (show s_nT S < 64 by omega), h1]
      · simp only [ab_mi, ab_mj, a, b, if_false]
    | true =>
      rw [h1] at b1
      repeat' (first | refine hjx _ _ _ _ (by decide) ?_ | (refine br_c (fun h => ?_) (fun h => ?_) <;> (try simp (disch := omega) only [nI_clamp, li_2, li_3, li_4, li_5, li_6, li_7, li_8, li_9, li_10, li_40, li_120, pk_mul, nI_add, nI_1, ix_eq, ix_lt, ix_le, ix_l0, ix_l1, ix_n0, ix_p0, ix_1lt, ix_lt1, ix_1le, ix_le1, ix_le0, ix_0lt, ab_z0, ab_z1, i_10, i_01, eq_self, ab_ozn, ab_ozp, ab_o_some, not_true_eq_false, not_false_eq_true, Bool.not_eq_false, Bool.not_eq_true, Bool.not_eq_false', Bool.not_eq_true', Bool.false_eq_true, Bool.true_eq_false, reduceCtorEq, Option.isSome_some, Option.isSome_none, kT, ab_n1, b1] at h) <;> (try omega)) | (refine br_n (fun h => ?_) (fun h => ?_) <;> (try simp (disch := omega) only [nI_clamp, li_2, li_3, li_4, li_5, li_6, li_7, li_8, li_9, li_10, li_40, li_120, pk_mul, nI_add, nI_1, ix_eq, ix_lt, ix_le, ix_l0, ix_l1, ix_n0, ix_p0, ix_1lt, ix_lt1, ix_1le, ix_le1, ix_le0, ix_0lt, ab_z0, ab_z1, i_10, i_01, eq_self, ab_ozn, ab_ozp, ab_o_some, not_true_eq_false, not_false_eq_true, Bool.not_eq_false, Bool.not_eq_true, Bool.not_eq_false', Bool.not_eq_true', Bool.false_eq_true, Bool.true_eq_false, reduceCtorEq, Option.isSome_some, Option.isSome_none, kT, ab_n1, b1] at h) <;> (try omega)) | refine ab_sd (by first | (with_reducible refine vp_in_nI ?_ ?_ <;> omega) | (simp (disch := omega) only [nI_clamp, li_2, li_3, li_4, li_5, li_6, li_7, li_8, li_9, li_10, li_40, li_120, pk_mul, nI_add, nI_1, ix_eq, ix_lt, ix_le, ix_l0, ix_l1, ix_n0, ix_p0, ix_1lt, ix_lt1, ix_1le, ix_le1, ix_le0, ix_0lt, ab_z0, ab_z1, i_10, i_01, eq_self, ab_ozn, ab_ozp, ab_o_some, not_true_eq_false, not_false_eq_true, Bool.not_eq_false, Bool.not_eq_true, Bool.not_eq_false', Bool.not_eq_true', Bool.false_eq_true, Bool.true_eq_false, reduceCtorEq, Option.isSome_some, Option.isSome_none, kT, ab_n1, b1]; with_reducible refine vp_in_nI ?_ ?_ <;> omega)) ?_ | refine x_one hω (t := s_nT S) (by rw [kT]) ?_ | refine ab_sd ?_ ?_ | refine ab_sz (Or.inl rfl) ?_ | refine ab_sz (Or.inr rfl) ?_ | refine ab_sz ?_ ?_)
      simp only [kT, ct, nI_1, nI_clamp (show pk < 2 ^ 31 by omega)]
      refine h59 _ ⟨⟨?_, ?_, ?_, ?_, ?_, ?_⟩, fun k jj a b => ?_, fun i => ?_, fun i => ?_, fun k jj a b => ?_⟩
      · simp [ab_mi, ab_mj]
      · simp [ab_mi, ab_mj]
      · simp [ab_mi, ab_mj]
      · simp [ab_mi, ab_mj]
      · simp [ab_mi, ab_mj]
      · simp [ab_mi, ab_mj]
      · simp only [ab_mi, ab_mj, a, show ¬ (k = 13 ∧ jj = s_nT S) by omega, show ¬ (k = 16 ∧ jj = s_nT S) by omega, show ¬ (k = 17 ∧ jj = s_nT S) by omega, show ¬ (k = 18 ∧ jj = s_nT S) by omega, show ¬ (k = 23 ∧ jj = s_nT S) by omega, if_false]
      · simp [ab_mi, ab_mj, ab_bt_or, ab_bt_one (show s_nT S < 64 by omega)]
      · simp [ab_mi, ab_mj, ab_bt_or, ab_bt_one (show s_nT S < 64 by omega), h1]
      · simp only [ab_mi, ab_mj, a, b, if_false]
end KI
