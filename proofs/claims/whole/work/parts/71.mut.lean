/-! THE CLASS: the calls that change -/
theorem RepM_e {S S' : sT} {μ μ' : ab_M} (M : RepM S μ) (hm : ∀ k j, k = 1 ∨ k = 10 ∨ k = 11 ∨ k = 12 → μ'.1 k j = μ.1 k j) (e0 : s_nM S' = s_nM S) (e2 : s_nP S' = s_nP S) (e45 : ∀ j, S'.1 45 j = S.1 45 j) (e44 : ∀ j, S'.2.1 44 j = S.2.1 44 j) (e46 : ∀ j, S'.2.1 46 j = S.2.1 46 j) (e47 : ∀ j, S'.2.1 47 j = S.2.1 47 j) : RepM S' μ' := by
  obtain ⟨g0, g1, gr, gh, ge⟩ := M
  refine ⟨by rw [hm 1 0 (by omega), g0, e0], by rw [hm 1 1 (by omega), g1, e2], fun m n h1 h2 => by rw [hm 10 m (by omega), gr m n h1 h2, e44], fun p hp => ?_, fun p hp => ?_⟩
  · rw [e2] at hp
    rw [hm 11 p (by omega), gh p hp, e45]
  · rw [e47, hm 12 p (by omega)]
    refine ⟨(ge p hp).1, fun h i hi => ?_⟩
    rw [e46]
    exact (ge p hp).2 h i hi
theorem RepX_e {S S' : sT} {μ μ' : ab_M} (X : RepX S μ) (hm : ∀ k j, k = 3 ∨ (26 ≤ k ∧ k ≤ 35) → μ'.1 k j = μ.1 k j ∧ μ'.2 k j = μ.2 k j) (eX : s_nX S' = s_nX S) (e : ∀ k j, 57 ≤ k → k ≤ 61 → S'.1 k j = S.1 k j) : RepX S' μ' := by
  obtain ⟨x1, x2, x3, x4⟩ := X
  have dg : ∀ t g, s_dg S' t g = s_dg S t g := fun t g => s_dg_e (fun k j a b => e k j a (by omega)) eX t g
  have pg : ∀ g p p' i, (∀ m, p' m = p m) → s_pg S' g p' i = s_pg S g p i := fun g p p' i hp => by
    unfold s_pg
    rw [dg]
    cases s_dg S i g with
    | none => rfl
    | some m => exact hp m
  refine ⟨by rw [(hm 3 1 (by omega)).1, x1, eX], fun m hmm => ?_, fun g t hg ht => by rw [(hm 30 _ (by omega)).1, x3 g t hg ht, dg], fun g i hg => ?_⟩
  · rw [eX] at hmm
    rw [(hm 26 m (by omega)).1, (hm 27 m (by omega)).1, (hm 28 m (by omega)).1, (hm 29 m (by omega)).1, e 57 m (by omega) (by omega), e 58 m (by omega) (by omega), e 59 m (by omega) (by omega), e 60 m (by omega) (by omega), e 61 m (by omega) (by omega)]
    exact x2 m hmm
  · rw [(hm 31 g (by omega)).2, (hm 32 g (by omega)).2, (hm 33 g (by omega)).2, (hm 34 g (by omega)).2, (hm 35 g (by omega)).2, dg, pg g (fun m => S.1 60 m == 0) _ i (fun m => by rw [e 60 m (by omega) (by omega)]), pg g (fun m => S.1 60 m == 1) _ i (fun m => by rw [e 60 m (by omega) (by omega)]), pg g (fun m => s_has (S.1 61 m) 1) _ i (fun m => by rw [e 61 m (by omega) (by omega)]), pg g (fun m => s_has (S.1 61 m) 4) _ i (fun m => by rw [e 61 m (by omega) (by omega)])]
    exact x4 g i hg
theorem RepT_e {S S' : sT} {μ μ' : ab_M} (T : RepT S μ) (hm : ∀ k j, k = 2 ∨ (13 ≤ k ∧ k ≤ 25) → μ'.1 k j = μ.1 k j ∧ μ'.2 k j = μ.2 k j) (eT : s_nT S' = s_nT S) (e : ∀ k j, 48 ≤ k → k ≤ 55 → S'.1 k j = S.1 k j) (e56 : ∀ j, S'.2.1 56 j = S.2.1 56 j) (eou : ∀ j, s_ou S' j = s_ou S j) (epa : ∀ j, s_pa S' j = s_pa S j) : RepT S' μ' := by
  obtain ⟨h1, h2, h3, h4, h5, h6, od, ps, o1, o2, o3⟩ := T
  have eab : ∀ t u, s_ab S' t u = s_ab S t u := fun t u => e56 _
  have eisf : ∀ t i, s_isf S' t i = s_isf S t i := fun t i => by
    unfold s_isf
    rw [e 55 t (by omega) (by omega)]
    exact ab_ex_congr (fun k _ => by rw [e 54 _ (by omega) (by omega)])
  refine ⟨by rw [(hm 2 0 (by omega)).1, h1, eT], fun i => by rw [(hm 2 1 (by omega)).2, h2 i, eT, e 50 i (by omega) (by omega)], fun i => by rw [(hm 2 2 (by omega)).2, h3 i, eT, e 52 i (by omega) (by omega)], fun t ht => ?_, fun t ht i => ?_, fun p hp i => by rw [(hm 25 p (by omega)).2, h6 p hp, eT, e 48 i (by omega) (by omega)], od, ps, fun i hi => ?_, fun t ht => ?_, fun t u ht hu hab => ?_⟩
  · rw [eT] at ht
    rw [(hm 13 t (by omega)).1, (hm 14 t (by omega)).1, (hm 15 t (by omega)).1, (hm 16 t (by omega)).1, (hm 17 t (by omega)).1, (hm 18 t (by omega)).1, (hm 22 t (by omega)).2, e 48 t (by omega) (by omega), e 51 t (by omega) (by omega), e 52 t (by omega) (by omega), eou, epa, s_top_e eou, s_ch_e eou]
    exact h4 t ht
  · rw [(hm 19 t (by omega)).2, (hm 20 t (by omega)).2, (hm 21 t (by omega)).2, eT, eisf, eab, eab]
    exact h5 t ht i
  · rw [eT] at hi ⊢
    rw [(hm 23 i (by omega)).1]
    exact o1 i hi
  · rw [eT] at ht ⊢
    exact o2 t ht
  · rw [eT] at ht hu
    rw [eab] at hab
    exact o3 t u ht hu hab
def KC (μ μ' : ab_M) : Prop := ∀ k j, 43 ≤ k → μ'.1 k j = μ.1 k j
theorem KC.rf {μ : ab_M} : KC μ μ := fun _ _ _ => rfl
theorem KC.rr {S : sT} {μ μ' : ab_M} (h : KC μ μ') (R : RepR S μ) : RepR S μ' := by
  refine ⟨fun k j e => ?_, fun k j e => ?_, fun k j e hj => ?_⟩
  · rw [h k j (by simp [s_ik] at e; omega)]; exact R.1 k j e
  · rw [h k j (by simp [s_bk] at e; omega)]; exact R.2.1 k j e
  · rw [h k j (by omega)]; exact R.2.2 k j e hj
theorem KC.cr {S : sT} {μ μ' : ab_M} (h : KC μ μ') (K : CacheR S μ) : CacheR S μ' := by
  have key : ∀ k, 43 ≤ k → μ'.1 k = μ.1 k := fun k hk => funext fun j => h k j hk
  unfold CacheR KB CacheOK
  rw [key 62 (by omega), key 63 (by omega), key 64 (by omega), key 65 (by omega), key 43 (by omega)]
  exact K
theorem RepC_nc {S : sT} {μ : ab_M} (M : RepM S μ) (T : RepT S μ) (X : RepX S μ) : RepC S (ab_mi (ab_mi μ 4 3 0) 5 4 0) := by
  have sq : SameQ μ (ab_mi (ab_mi μ 4 3 0) 5 4 0) := (SameQ.rf.mi rfl).mi rfl
  refine ⟨RepM_q M sq, RepT_q T sq, RepX_q X sq, fun g hg hb => ?_, fun n hn hb => ?_⟩
  · exfalso
    have : bt (0 : Int32) g = true := by simpa [ab_mi] using hb
    rw [b_0] at this; cases this
  · exfalso
    have : bt (0 : Int32) n = true := by simpa [ab_mi] using hb
    rw [b_0] at this; cases this
section KK
variable {l : Launch} {ω : ab_W} {S : sT} {μ : ab_M} {Q : Int32 → ab_M → Prop}
theorem x_forget2 {Q : ab_M → Prop} (hω : ω.2.2.2 = ab_SH) (hQ : Q (ab_mi μ 4 3 0)) : ab_CV l ω mX2_forget [.ref 4] μ Q := by
  refine ab_intro (sh := ab_SH) (cd := kX2_forget) hω vX2_forget (by decide +kernel) rfl (Nat.le_of_ble_eq_true rfl) (fun j hj hw => ?_)
  repeat' (first | refine hj _ _ _ _ ?_ | (refine br_c (fun h => ?_) (fun h => ?_) <;> (try simp (disch := omega) only [nI_clamp, li_2, li_3, li_4, li_5, li_6, li_7, li_8, li_9, li_10, li_40, li_120, pk_mul, nI_add, nI_1, ix_eq, ix_lt, ix_le, ix_l0, ix_l1, ix_n0, ix_p0, ix_1lt, ix_lt1, ix_1le, ix_le1, ix_le0, ix_0lt, ab_z0, ab_z1, i_10, i_01, eq_self, ab_ozn, ab_ozp, ab_o_some, not_true_eq_false, not_false_eq_true, Bool.not_eq_false, Bool.not_eq_true, Bool.not_eq_false', Bool.not_eq_true', Bool.false_eq_true, Bool.true_eq_false, reduceCtorEq, Option.isSome_some, Option.isSome_none] at h) <;> (try omega)) | (refine br_n (fun h => ?_) (fun h => ?_) <;> (try simp (disch := omega) only [nI_clamp, li_2, li_3, li_4, li_5, li_6, li_7, li_8, li_9, li_10, li_40, li_120, pk_mul, nI_add, nI_1, ix_eq, ix_lt, ix_le, ix_l0, ix_l1, ix_n0, ix_p0, ix_1lt, ix_lt1, ix_1le, ix_le1, ix_le0, ix_0lt, ab_z0, ab_z1, i_10, i_01, eq_self, ab_ozn, ab_ozp, ab_o_some, not_true_eq_false, not_false_eq_true, Bool.not_eq_false, Bool.not_eq_true, Bool.not_eq_false', Bool.not_eq_true', Bool.false_eq_true, Bool.true_eq_false, reduceCtorEq, Option.isSome_some, Option.isSome_none] at h) <;> (try omega)) | refine ab_sd (by first | (with_reducible refine vp_in_nI ?_ ?_ <;> omega) | (simp (disch := omega) only [nI_clamp, li_2, li_3, li_4, li_5, li_6, li_7, li_8, li_9, li_10, li_40, li_120, pk_mul, nI_add, nI_1, ix_eq, ix_lt, ix_le, ix_l0, ix_l1, ix_n0, ix_p0, ix_1lt, ix_lt1, ix_1le, ix_le1, ix_le0, ix_0lt, ab_z0, ab_z1, i_10, i_01, eq_self, ab_ozn, ab_ozp, ab_o_some, not_true_eq_false, not_false_eq_true, Bool.not_eq_false, Bool.not_eq_true, Bool.not_eq_false', Bool.not_eq_true', Bool.false_eq_true, Bool.true_eq_false, reduceCtorEq, Option.isSome_some, Option.isSome_none]; with_reducible refine vp_in_nI ?_ ?_ <;> omega)) ?_ | refine ab_sd ?_ ?_ | refine ab_sz (Or.inl rfl) ?_ | refine ab_sz (Or.inr rfl) ?_ | refine ab_sz ?_ ?_)
  exact hQ
theorem x_forget6 {Q : ab_M → Prop} (hω : ω.2.2.2 = ab_SH) (hQ : Q (ab_mi μ 5 4 0)) : ab_CV l ω mX6_forget [.ref 5] μ Q := by
  refine ab_intro (sh := ab_SH) (cd := kX6_forget) hω vX6_forget (by decide +kernel) rfl (Nat.le_of_ble_eq_true rfl) (fun j hj hw => ?_)
  repeat' (first | refine hj _ _ _ _ ?_ | (refine br_c (fun h => ?_) (fun h => ?_) <;> (try simp (disch := omega) only [nI_clamp, li_2, li_3, li_4, li_5, li_6, li_7, li_8, li_9, li_10, li_40, li_120, pk_mul, nI_add, nI_1, ix_eq, ix_lt, ix_le, ix_l0, ix_l1, ix_n0, ix_p0, ix_1lt, ix_lt1, ix_1le, ix_le1, ix_le0, ix_0lt, ab_z0, ab_z1, i_10, i_01, eq_self, ab_ozn, ab_ozp, ab_o_some, not_true_eq_false, not_false_eq_true, Bool.not_eq_false, Bool.not_eq_true, Bool.not_eq_false', Bool.not_eq_true', Bool.false_eq_true, Bool.true_eq_false, reduceCtorEq, Option.isSome_some, Option.isSome_none] at h) <;> (try omega)) | (refine br_n (fun h => ?_) (fun h => ?_) <;> (try simp (disch := omega) only [nI_clamp, li_2, li_3, li_4, li_5, li_6, li_7, li_8, li_9, li_10, li_40, li_120, pk_mul, nI_add, nI_1, ix_eq, ix_lt, ix_le, ix_l0, ix_l1, ix_n0, ix_p0, ix_1lt, ix_lt1, ix_1le, ix_le1, ix_le0, ix_0lt, ab_z0, ab_z1, i_10, i_01, eq_self, ab_ozn, ab_ozp, ab_o_some, not_true_eq_false, not_false_eq_true, Bool.not_eq_false, Bool.not_eq_true, Bool.not_eq_false', Bool.not_eq_true', Bool.false_eq_true, Bool.true_eq_false, reduceCtorEq, Option.isSome_some, Option.isSome_none] at h) <;> (try omega)) | refine ab_sd (by first | (with_reducible refine vp_in_nI ?_ ?_ <;> omega) | (simp (disch := omega) only [nI_clamp, li_2, li_3, li_4, li_5, li_6, li_7, li_8, li_9, li_10, li_40, li_120, pk_mul, nI_add, nI_1, ix_eq, ix_lt, ix_le, ix_l0, ix_l1, ix_n0, ix_p0, ix_1lt, ix_lt1, ix_1le, ix_le1, ix_le0, ix_0lt, ab_z0, ab_z1, i_10, i_01, eq_self, ab_ozn, ab_ozp, ab_o_some, not_true_eq_false, not_false_eq_true, Bool.not_eq_false, Bool.not_eq_true, Bool.not_eq_false', Bool.not_eq_true', Bool.false_eq_true, Bool.true_eq_false, reduceCtorEq, Option.isSome_some, Option.isSome_none]; with_reducible refine vp_in_nI ?_ ?_ <;> omega)) ?_ | refine ab_sd ?_ ?_ | refine ab_sz (Or.inl rfl) ?_ | refine ab_sz (Or.inr rfl) ?_ | refine ab_sz ?_ ?_)
  exact hQ
theorem x_forget {Q : ab_M → Prop} (hω : ω.2.2.2 = ab_SH) (hQ : Q (ab_mi (ab_mi μ 4 3 0) 5 4 0)) : ab_CV l ω mX10_forgetAnswers [.ref 0] μ Q := by
  refine ab_intro (sh := ab_SH) (cd := kX10_forgetAnswers) hω vX10_forgetAnswers (by decide +kernel) rfl (Nat.le_of_ble_eq_true rfl) (fun j hj hw => ?_)
  repeat' (first | refine hj _ _ _ _ ?_ | (refine br_c (fun h => ?_) (fun h => ?_) <;> (try simp (disch := omega) only [nI_clamp, li_2, li_3, li_4, li_5, li_6, li_7, li_8, li_9, li_10, li_40, li_120, pk_mul, nI_add, nI_1, ix_eq, ix_lt, ix_le, ix_l0, ix_l1, ix_n0, ix_p0, ix_1lt, ix_lt1, ix_1le, ix_le1, ix_le0, ix_0lt, ab_z0, ab_z1, i_10, i_01, eq_self, ab_ozn, ab_ozp, ab_o_some, not_true_eq_false, not_false_eq_true, Bool.not_eq_false, Bool.not_eq_true, Bool.not_eq_false', Bool.not_eq_true', Bool.false_eq_true, Bool.true_eq_false, reduceCtorEq, Option.isSome_some, Option.isSome_none] at h) <;> (try omega)) | (refine br_n (fun h => ?_) (fun h => ?_) <;> (try simp (disch := omega) only [nI_clamp, li_2, li_3, li_4, li_5, li_6, li_7, li_8, li_9, li_10, li_40, li_120, pk_mul, nI_add, nI_1, ix_eq, ix_lt, ix_le, ix_l0, ix_l1, ix_n0, ix_p0, ix_1lt, ix_lt1, ix_1le, ix_le1, ix_le0, ix_0lt, ab_z0, ab_z1, i_10, i_01, eq_self, ab_ozn, ab_ozp, ab_o_some, not_true_eq_false, not_false_eq_true, Bool.not_eq_false, Bool.not_eq_true, Bool.not_eq_false', Bool.not_eq_true', Bool.false_eq_true, Bool.true_eq_false, reduceCtorEq, Option.isSome_some, Option.isSome_none] at h) <;> (try omega)) | refine ab_sd (by first | (with_reducible refine vp_in_nI ?_ ?_ <;> omega) | (simp (disch := omega) only [nI_clamp, li_2, li_3, li_4, li_5, li_6, li_7, li_8, li_9, li_10, li_40, li_120, pk_mul, nI_add, nI_1, ix_eq, ix_lt, ix_le, ix_l0, ix_l1, ix_n0, ix_p0, ix_1lt, ix_lt1, ix_1le, ix_le1, ix_le0, ix_0lt, ab_z0, ab_z1, i_10, i_01, eq_self, ab_ozn, ab_ozp, ab_o_some, not_true_eq_false, not_false_eq_true, Bool.not_eq_false, Bool.not_eq_true, Bool.not_eq_false', Bool.not_eq_true', Bool.false_eq_true, Bool.true_eq_false, reduceCtorEq, Option.isSome_some, Option.isSome_none]; with_reducible refine vp_in_nI ?_ ?_ <;> omega)) ?_ | refine x_forget2 hω ?_ | refine x_forget6 hω ?_ | refine ab_sd ?_ ?_ | refine ab_sz (Or.inl rfl) ?_ | refine ab_sz (Or.inr rfl) ?_ | refine ab_sz ?_ ?_)
  exact hQ
theorem KT.kc {μ μ' : ab_M} (h : KT μ μ') : KC μ (ab_mi (ab_mi μ' 4 3 0) 5 4 0) := fun k j hk => by
  simp only [ab_mi, show ¬ (k = 5 ∧ j = 4) by omega, show ¬ (k = 4 ∧ j = 3) by omega, if_false]
  exact (h k j (by omega)).1
theorem KX.kc {μ μ' : ab_M} (h : KX μ μ') : KC μ (ab_mi (ab_mi μ' 4 3 0) 5 4 0) := fun k j hk => by
  simp only [ab_mi, show ¬ (k = 5 ∧ j = 4) by omega, show ¬ (k = 4 ∧ j = 3) by omega, if_false]
  exact (h k j (by omega)).1
theorem x_parent (hω : ω.2.2.2 = ab_SH) (C : RepC S μ) (hI : Iv S) {x y : Int32} (hQ : ∀ μ', RepC (o_parent S x y) μ' → KC μ μ' → Q (a_parent S x y) μ') : ab_CI l ω mX10_parent [.ref 0, .int x, .int y] μ Q := by
  refine ab_intro (sh := ab_SH) (cd := kX10_parent) hω vX10_parent (by decide +kernel) rfl (Nat.le_of_ble_eq_true rfl) (fun j hj hw => ?_)
  have hW := hI.1
  have hT := hW.2.2.1.2
  have T := C.2.1
  cases hx : ab_ok (s_nT S) x with
  | false =>
    have e1 : a_parent S x y = -1 := by unfold a_parent; rw [hx]; rfl
    have e2 : o_parent S x y = S := by unfold o_parent; rw [e1]; rfl
    rw [e1, e2] at hQ
    repeat' (first | refine hj _ _ _ _ ?_ | (refine br_c (fun h => ?_) (fun h => ?_) <;> (try simp (disch := omega) only [nI_clamp, li_2, li_3, li_4, li_5, li_6, li_7, li_8, li_9, li_10, li_40, li_120, pk_mul, nI_add, nI_1, ix_eq, ix_lt, ix_le, ix_l0, ix_l1, ix_n0, ix_p0, ix_1lt, ix_lt1, ix_1le, ix_le1, ix_le0, ix_0lt, ab_z0, ab_z1, i_10, i_01, eq_self, ab_ozn, ab_ozp, ab_o_some, not_true_eq_false, not_false_eq_true, Bool.not_eq_false, Bool.not_eq_true, Bool.not_eq_false', Bool.not_eq_true', Bool.false_eq_true, Bool.true_eq_false, reduceCtorEq, Option.isSome_some, Option.isSome_none, hx] at h) <;> (try omega)) | (refine br_n (fun h => ?_) (fun h => ?_) <;> (try simp (disch := omega) only [nI_clamp, li_2, li_3, li_4, li_5, li_6, li_7, li_8, li_9, li_10, li_40, li_120, pk_mul, nI_add, nI_1, ix_eq, ix_lt, ix_le, ix_l0, ix_l1, ix_n0, ix_p0, ix_1lt, ix_lt1, ix_1le, ix_le1, ix_le0, ix_0lt, ab_z0, ab_z1, i_10, i_01, eq_self, ab_ozn, ab_ozp, ab_o_some, not_true_eq_false, not_false_eq_true, Bool.not_eq_false, Bool.not_eq_true, Bool.not_eq_false', Bool.not_eq_true', Bool.false_eq_true, Bool.true_eq_false, reduceCtorEq, Option.isSome_some, Option.isSome_none, hx] at h) <;> (try omega)) | refine ab_sd (by first | (with_reducible refine vp_in_nI ?_ ?_ <;> omega) | (simp (disch := omega) only [nI_clamp, li_2, li_3, li_4, li_5, li_6, li_7, li_8, li_9, li_10, li_40, li_120, pk_mul, nI_add, nI_1, ix_eq, ix_lt, ix_le, ix_l0, ix_l1, ix_n0, ix_p0, ix_1lt, ix_lt1, ix_1le, ix_le1, ix_le0, ix_0lt, ab_z0, ab_z1, i_10, i_01, eq_self, ab_ozn, ab_ozp, ab_o_some, not_true_eq_false, not_false_eq_true, Bool.not_eq_false, Bool.not_eq_true, Bool.not_eq_false', Bool.not_eq_true', Bool.false_eq_true, Bool.true_eq_false, reduceCtorEq, Option.isSome_some, Option.isSome_none, hx]; with_reducible refine vp_in_nI ?_ ?_ <;> omega)) ?_ | refine x_exists hω T ?_ | refine ab_sd ?_ ?_ | refine ab_sz (Or.inl rfl) ?_ | refine ab_sz (Or.inr rfl) ?_ | refine ab_sz ?_ ?_)
    all_goals exact hQ μ C KC.rf
  | true =>
    have hx1 := hx
    obtain ⟨t, ht, rfl⟩ := ab_ok_t (by omega) hx
    cases hy : ab_ok (s_nT S) y with
    | false =>
      have e1 : a_parent S (nI t) y = -1 := by unfold a_parent; rw [hx1, hy]; rfl
      have e2 : o_parent S (nI t) y = S := by unfold o_parent; rw [e1]; rfl
      rw [e1, e2] at hQ
      repeat' (first | refine hj _ _ _ _ ?_ | (refine br_c (fun h => ?_) (fun h => ?_) <;> (try simp (disch := omega) only [nI_clamp, li_2, li_3, li_4, li_5, li_6, li_7, li_8, li_9, li_10, li_40, li_120, pk_mul, nI_add, nI_1, ix_eq, ix_lt, ix_le, ix_l0, ix_l1, ix_n0, ix_p0, ix_1lt, ix_lt1, ix_1le, ix_le1, ix_le0, ix_0lt, ab_z0, ab_z1, i_10, i_01, eq_self, ab_ozn, ab_ozp, ab_o_some, not_true_eq_false, not_false_eq_true, Bool.not_eq_false, Bool.not_eq_true, Bool.not_eq_false', Bool.not_eq_true', Bool.false_eq_true, Bool.true_eq_false, reduceCtorEq, Option.isSome_some, Option.isSome_none, hx1, hy] at h) <;> (try omega)) | (refine br_n (fun h => ?_) (fun h => ?_) <;> (try simp (disch := omega) only [nI_clamp, li_2, li_3, li_4, li_5, li_6, li_7, li_8, li_9, li_10, li_40, li_120, pk_mul, nI_add, nI_1, ix_eq, ix_lt, ix_le, ix_l0, ix_l1, ix_n0, ix_p0, ix_1lt, ix_lt1, ix_1le, ix_le1, ix_le0, ix_0lt, ab_z0, ab_z1, i_10, i_01, eq_self, ab_ozn, ab_ozp, ab_o_some, not_true_eq_false, not_false_eq_true, Bool.not_eq_false, Bool.not_eq_true, Bool.not_eq_false', Bool.not_eq_true', Bool.false_eq_true, Bool.true_eq_false, reduceCtorEq, Option.isSome_some, Option.isSome_none, hx1, hy] at h) <;> (try omega)) | refine ab_sd (by first | (with_reducible refine vp_in_nI ?_ ?_ <;> omega) | (simp (disch := omega) only [nI_clamp, li_2, li_3, li_4, li_5, li_6, li_7, li_8, li_9, li_10, li_40, li_120, pk_mul, nI_add, nI_1, ix_eq, ix_lt, ix_le, ix_l0, ix_l1, ix_n0, ix_p0, ix_1lt, ix_lt1, ix_1le, ix_le1, ix_le0, ix_0lt, ab_z0, ab_z1, i_10, i_01, eq_self, ab_ozn, ab_ozp, ab_o_some, not_true_eq_false, not_false_eq_true, Bool.not_eq_false, Bool.not_eq_true, Bool.not_eq_false', Bool.not_eq_true', Bool.false_eq_true, Bool.true_eq_false, reduceCtorEq, Option.isSome_some, Option.isSome_none, hx1, hy]; with_reducible refine vp_in_nI ?_ ?_ <;> omega)) ?_ | refine x_exists hω T ?_ | refine ab_sd ?_ ?_ | refine ab_sz (Or.inl rfl) ?_ | refine ab_sz (Or.inr rfl) ?_ | refine ab_sz ?_ ?_)
      all_goals exact hQ μ C KC.rf
    | true =>
      have hy1 := hy
      obtain ⟨p, hp, rfl⟩ := ab_ok_t (by omega) hy
      have st := (hW.2.2.2.2.2.1 t ht).2.1
      have sp := (hW.2.2.2.2.2.1 p hp).2.1
      have t8 := (hW.2.2.2.2.2.1 t ht).2.2.2.2.2.2.2
      have ea : a_parent S (nI t) (nI p) = if v_par S t p then (if s_pa S t = some 0 ∧ s_at S p t = false then 1 else -2) else -1 := by
        unfold a_parent
        rw [hx1, hy1, nI_clamp (by omega), nI_clamp (by omega)]; rfl
      have eo : o_parent S (nI t) (nI p) = if a_parent S (nI t) (nI p) = 1 then s_raise (s_uo S 53 t (some p)) t p else S := by
        unfold o_parent
        rw [nI_clamp (by omega), nI_clamp (by omega)]
      have k17 : μ.1 17 t = ab_o1 (s_pa S t) := (T.2.2.2.1 t ht).2.2.2.2.1
      cases hv : v_par S t p with
      | false =>
        rw [hv] at ea
        have ea : a_parent S (nI t) (nI p) = -1 := ea
        rw [ea] at hQ eo
        rw [eo] at hQ
        have hQ := hQ μ C KC.rf
        unfold v_par at hv
        repeat' (first | refine hj _ _ _ _ ?_ | (refine br_c (fun h => ?_) (fun h => ?_) <;> (try simp (disch := omega) only [nI_clamp, li_2, li_3, li_4, li_5, li_6, li_7, li_8, li_9, li_10, li_40, li_120, pk_mul, nI_add, nI_1, ix_eq, ix_lt, ix_le, ix_l0, ix_l1, ix_n0, ix_p0, ix_1lt, ix_lt1, ix_1le, ix_le1, ix_le0, ix_0lt, ab_z0, ab_z1, i_10, i_01, eq_self, ab_ozn, ab_ozp, ab_o_some, not_true_eq_false, not_false_eq_true, Bool.not_eq_false, Bool.not_eq_true, Bool.not_eq_false', Bool.not_eq_true', Bool.false_eq_true, Bool.true_eq_false, reduceCtorEq, Option.isSome_some, Option.isSome_none, hx1, hy1] at h) <;> (try omega)) | (refine br_n (fun h => ?_) (fun h => ?_) <;> (try simp (disch := omega) only [nI_clamp, li_2, li_3, li_4, li_5, li_6, li_7, li_8, li_9, li_10, li_40, li_120, pk_mul, nI_add, nI_1, ix_eq, ix_lt, ix_le, ix_l0, ix_l1, ix_n0, ix_p0, ix_1lt, ix_lt1, ix_1le, ix_le1, ix_le0, ix_0lt, ab_z0, ab_z1, i_10, i_01, eq_self, ab_ozn, ab_ozp, ab_o_some, not_true_eq_false, not_false_eq_true, Bool.not_eq_false, Bool.not_eq_true, Bool.not_eq_false', Bool.not_eq_true', Bool.false_eq_true, Bool.true_eq_false, reduceCtorEq, Option.isSome_some, Option.isSome_none, hx1, hy1] at h) <;> (try omega)) | refine ab_sd (by first | (with_reducible refine vp_in_nI ?_ ?_ <;> omega) | (simp (disch := omega) only [nI_clamp, li_2, li_3, li_4, li_5, li_6, li_7, li_8, li_9, li_10, li_40, li_120, pk_mul, nI_add, nI_1, ix_eq, ix_lt, ix_le, ix_l0, ix_l1, ix_n0, ix_p0, ix_1lt, ix_lt1, ix_1le, ix_le1, ix_le0, ix_0lt, ab_z0, ab_z1, i_10, i_01, eq_self, ab_ozn, ab_ozp, ab_o_some, not_true_eq_false, not_false_eq_true, Bool.not_eq_false, Bool.not_eq_true, Bool.not_eq_false', Bool.not_eq_true', Bool.false_eq_true, Bool.true_eq_false, reduceCtorEq, Option.isSome_some, Option.isSome_none, hx1, hy1]; with_reducible refine vp_in_nI ?_ ?_ <;> omega)) ?_ | refine x_exists hω T ?_ | refine x_isClass hω T hT (t := t) rfl ht ?_ | refine x_isClass hω T hT (t := p) rfl hp ?_ | refine ab_sd ?_ ?_ | refine ab_sz (Or.inl rfl) ?_ | refine ab_sz (Or.inr rfl) ?_ | refine ab_sz ?_ ?_)
        all_goals first | exact hQ | (exfalso; clear hj hw hQ; simp_all; omega) | (exfalso; clear hj hw hQ; simp_all; done)
      | true =>
        rw [hv] at ea
        have ea : a_parent S (nI t) (nI p) = if s_pa S t = some 0 ∧ s_at S p t = false then 1 else -2 := ea
        unfold v_par at hv
        simp at hv
        have c1 : (S.1 50 t == 0) = true := by simp; omega
        have c2 : (S.1 50 p == 0) = true := by simp; omega
        by_cases h0 : s_pa S t = some 0
        · rw [h0] at k17
          cases hat : s_at S p t with
          | true =>
            rw [if_neg (by rw [hat]; simp)] at ea
            rw [ea] at hQ eo
            rw [eo] at hQ
            have hQ := hQ μ C KC.rf
            repeat' (first | refine hj _ _ _ _ ?_ | (refine br_c (fun h => ?_) (fun h => ?_) <;> (try simp (disch := omega) only [nI_clamp, li_2, li_3, li_4, li_5, li_6, li_7, li_8, li_9, li_10, li_40, li_120, pk_mul, nI_add, nI_1, ix_eq, ix_lt, ix_le, ix_l0, ix_l1, ix_n0, ix_p0, ix_1lt, ix_lt1, ix_1le, ix_le1, ix_le0, ix_0lt, ab_z0, ab_z1, i_10, i_01, eq_self, ab_ozn, ab_ozp, ab_o_some, not_true_eq_false, not_false_eq_true, Bool.not_eq_false, Bool.not_eq_true, Bool.not_eq_false', Bool.not_eq_true', Bool.false_eq_true, Bool.true_eq_false, reduceCtorEq, Option.isSome_some, Option.isSome_none, hx1, hy1, c1, c2, k17, ab_o1_some, hat] at h) <;> (try omega)) | (refine br_n (fun h => ?_) (fun h => ?_) <;> (try simp (disch := omega) only [nI_clamp, li_2, li_3, li_4, li_5, li_6, li_7, li_8, li_9, li_10, li_40, li_120, pk_mul, nI_add, nI_1, ix_eq, ix_lt, ix_le, ix_l0, ix_l1, ix_n0, ix_p0, ix_1lt, ix_lt1, ix_1le, ix_le1, ix_le0, ix_0lt, ab_z0, ab_z1, i_10, i_01, eq_self, ab_ozn, ab_ozp, ab_o_some, not_true_eq_false, not_false_eq_true, Bool.not_eq_false, Bool.not_eq_true, Bool.not_eq_false', Bool.not_eq_true', Bool.false_eq_true, Bool.true_eq_false, reduceCtorEq, Option.isSome_some, Option.isSome_none, hx1, hy1, c1, c2, k17, ab_o1_some, hat] at h) <;> (try omega)) | refine ab_sd (by first | (with_reducible refine vp_in_nI ?_ ?_ <;> omega) | (simp (disch := omega) only [nI_clamp, li_2, li_3, li_4, li_5, li_6, li_7, li_8, li_9, li_10, li_40, li_120, pk_mul, nI_add, nI_1, ix_eq, ix_lt, ix_le, ix_l0, ix_l1, ix_n0, ix_p0, ix_1lt, ix_lt1, ix_1le, ix_le1, ix_le0, ix_0lt, ab_z0, ab_z1, i_10, i_01, eq_self, ab_ozn, ab_ozp, ab_o_some, not_true_eq_false, not_false_eq_true, Bool.not_eq_false, Bool.not_eq_true, Bool.not_eq_false', Bool.not_eq_true', Bool.false_eq_true, Bool.true_eq_false, reduceCtorEq, Option.isSome_some, Option.isSome_none, hx1, hy1, c1, c2, k17, ab_o1_some, hat]; with_reducible refine vp_in_nI ?_ ?_ <;> omega)) ?_ | refine x_exists hω T ?_ | refine x_isClass hω T hT (t := t) rfl ht ?_ | refine x_isClass hω T hT (t := p) rfl hp ?_ | refine x_isSameOrBelow hω T hT (t := p) (u := t) rfl rfl hp ht ?_ | refine ab_sd ?_ ?_ | refine ab_sz (Or.inl rfl) ?_ | refine ab_sz (Or.inr rfl) ?_ | refine ab_sz ?_ ?_)
            all_goals first | exact hQ | (exfalso; omega) | (exfalso; simp at h; done)
          | false =>
            rw [if_pos ⟨h0, hat⟩] at ea
            rw [ea] at hQ eo
            rw [if_pos rfl] at eo
            rw [eo] at hQ
            repeat' (first | refine hj _ _ _ _ ?_ | (refine br_c (fun h => ?_) (fun h => ?_) <;> (try simp (disch := omega) only [nI_clamp, li_2, li_3, li_4, li_5, li_6, li_7, li_8, li_9, li_10, li_40, li_120, pk_mul, nI_add, nI_1, ix_eq, ix_lt, ix_le, ix_l0, ix_l1, ix_n0, ix_p0, ix_1lt, ix_lt1, ix_1le, ix_le1, ix_le0, ix_0lt, ab_z0, ab_z1, i_10, i_01, eq_self, ab_ozn, ab_ozp, ab_o_some, not_true_eq_false, not_false_eq_true, Bool.not_eq_false, Bool.not_eq_true, Bool.not_eq_false', Bool.not_eq_true', Bool.false_eq_true, Bool.true_eq_false, reduceCtorEq, Option.isSome_some, Option.isSome_none, hx1, hy1, c1, c2, k17, ab_o1_some, hat] at h) <;> (try omega)) | (refine br_n (fun h => ?_) (fun h => ?_) <;> (try simp (disch := omega) only [nI_clamp, li_2, li_3, li_4, li_5, li_6, li_7, li_8, li_9, li_10, li_40, li_120, pk_mul, nI_add, nI_1, ix_eq, ix_lt, ix_le, ix_l0, ix_l1, ix_n0, ix_p0, ix_1lt, ix_lt1, ix_1le, ix_le1, ix_le0, ix_0lt, ab_z0, ab_z1, i_10, i_01, eq_self, ab_ozn, ab_ozp, ab_o_some, not_true_eq_false, not_false_eq_true, Bool.not_eq_false, Bool.not_eq_true, Bool.not_eq_false', Bool.not_eq_true', Bool.false_eq_true, Bool.true_eq_false, reduceCtorEq, Option.isSome_some, Option.isSome_none, hx1, hy1, c1, c2, k17, ab_o1_some, hat] at h) <;> (try omega)) | refine ab_sd (by first | (with_reducible refine vp_in_nI ?_ ?_ <;> omega) | (simp (disch := omega) only [nI_clamp, li_2, li_3, li_4, li_5, li_6, li_7, li_8, li_9, li_10, li_40, li_120, pk_mul, nI_add, nI_1, ix_eq, ix_lt, ix_le, ix_l0, ix_l1, ix_n0, ix_p0, ix_1lt, ix_lt1, ix_1le, ix_le1, ix_le0, ix_0lt, ab_z0, ab_z1, i_10, i_01, eq_self, ab_ozn, ab_ozp, ab_o_some, not_true_eq_false, not_false_eq_true, Bool.not_eq_false, Bool.not_eq_true, Bool.not_eq_false', Bool.not_eq_true', Bool.false_eq_true, Bool.true_eq_false, reduceCtorEq, Option.isSome_some, Option.isSome_none, hx1, hy1, c1, c2, k17, ab_o1_some, hat]; with_reducible refine vp_in_nI ?_ ?_ <;> omega)) ?_ | refine x_exists hω T ?_ | refine x_isClass hω T hT (t := t) rfl ht ?_ | refine x_isClass hω T hT (t := p) rfl hp ?_ | refine x_isSameOrBelow hω T hT (t := p) (u := t) rfl rfl hp ht ?_ | refine x_setParent hω T hT hI.2.2.2.2.2.1 (t := t) (p := p) rfl rfl ht hp hat (fun μ' T' k' => ?_) | refine x_forget hω ?_ | refine ab_sd ?_ ?_ | refine ab_sz (Or.inl rfl) ?_ | refine ab_sz (Or.inr rfl) ?_ | refine ab_sz ?_ ?_)
            all_goals first | (exfalso; omega) | (exfalso; simp at h; done) | skip
            show Q _ _
            refine hQ _ (RepC_nc (RepM_e C.1 (fun k j hk => (k' k j (by omega)).1) rfl rfl (fun _ => rfl) (fun _ => rfl) (fun _ => rfl) (fun _ => rfl)) T' (RepX_e C.2.2.1 (fun k j hk => k' k j (by omega)) rfl (fun _ _ _ _ => rfl))) k'.kc
        · rw [if_neg (fun e => h0 e.1)] at ea
          rw [ea] at hQ eo
          rw [eo] at hQ
          have hQ := hQ μ C KC.rf
          cases e : s_pa S t with
          | none =>
            rw [e] at k17
            have cn : (ab_o1 none = 0) ↔ False := ⟨fun q => absurd q (by decide), False.elim⟩
            repeat' (first | refine hj _ _ _ _ ?_ | (refine br_c (fun h => ?_) (fun h => ?_) <;> (try simp (disch := omega) only [nI_clamp, li_2, li_3, li_4, li_5, li_6, li_7, li_8, li_9, li_10, li_40, li_120, pk_mul, nI_add, nI_1, ix_eq, ix_lt, ix_le, ix_l0, ix_l1, ix_n0, ix_p0, ix_1lt, ix_lt1, ix_1le, ix_le1, ix_le0, ix_0lt, ab_z0, ab_z1, i_10, i_01, eq_self, ab_ozn, ab_ozp, ab_o_some, not_true_eq_false, not_false_eq_true, Bool.not_eq_false, Bool.not_eq_true, Bool.not_eq_false', Bool.not_eq_true', Bool.false_eq_true, Bool.true_eq_false, reduceCtorEq, Option.isSome_some, Option.isSome_none, hx1, hy1, c1, c2, k17, cn] at h) <;> (try omega)) | (refine br_n (fun h => ?_) (fun h => ?_) <;> (try simp (disch := omega) only [nI_clamp, li_2, li_3, li_4, li_5, li_6, li_7, li_8, li_9, li_10, li_40, li_120, pk_mul, nI_add, nI_1, ix_eq, ix_lt, ix_le, ix_l0, ix_l1, ix_n0, ix_p0, ix_1lt, ix_lt1, ix_1le, ix_le1, ix_le0, ix_0lt, ab_z0, ab_z1, i_10, i_01, eq_self, ab_ozn, ab_ozp, ab_o_some, not_true_eq_false, not_false_eq_true, Bool.not_eq_false, Bool.not_eq_true, Bool.not_eq_false', Bool.not_eq_true', Bool.false_eq_true, Bool.true_eq_false, reduceCtorEq, Option.isSome_some, Option.isSome_none, hx1, hy1, c1, c2, k17, cn] at h) <;> (try omega)) | refine ab_sd (by first | (with_reducible refine vp_in_nI ?_ ?_ <;> omega) | (simp (disch := omega) only [nI_clamp, li_2, li_3, li_4, li_5, li_6, li_7, li_8, li_9, li_10, li_40, li_120, pk_mul, nI_add, nI_1, ix_eq, ix_lt, ix_le, ix_l0, ix_l1, ix_n0, ix_p0, ix_1lt, ix_lt1, ix_1le, ix_le1, ix_le0, ix_0lt, ab_z0, ab_z1, i_10, i_01, eq_self, ab_ozn, ab_ozp, ab_o_some, not_true_eq_false, not_false_eq_true, Bool.not_eq_false, Bool.not_eq_true, Bool.not_eq_false', Bool.not_eq_true', Bool.false_eq_true, Bool.true_eq_false, reduceCtorEq, Option.isSome_some, Option.isSome_none, hx1, hy1, c1, c2, k17, cn]; with_reducible refine vp_in_nI ?_ ?_ <;> omega)) ?_ | refine x_exists hω T ?_ | refine x_isClass hω T hT (t := t) rfl ht ?_ | refine x_isClass hω T hT (t := p) rfl hp ?_ | refine ab_sd ?_ ?_ | refine ab_sz (Or.inl rfl) ?_ | refine ab_sz (Or.inr rfl) ?_ | refine ab_sz ?_ ?_)
            all_goals first | exact hQ | (exfalso; omega) | (exfalso; simp at h; done)
          | some q =>
            have hq := t8 q e
            have hq0 : ¬ q = 0 := fun z => h0 (by rw [e, z])
            rw [e] at k17
            repeat' (first | refine hj _ _ _ _ ?_ | (refine br_c (fun h => ?_) (fun h => ?_) <;> (try simp (disch := omega) only [nI_clamp, li_2, li_3, li_4, li_5, li_6, li_7, li_8, li_9, li_10, li_40, li_120, pk_mul, nI_add, nI_1, ix_eq, ix_lt, ix_le, ix_l0, ix_l1, ix_n0, ix_p0, ix_1lt, ix_lt1, ix_1le, ix_le1, ix_le0, ix_0lt, ab_z0, ab_z1, i_10, i_01, eq_self, ab_ozn, ab_ozp, ab_o_some, not_true_eq_false, not_false_eq_true, Bool.not_eq_false, Bool.not_eq_true, Bool.not_eq_false', Bool.not_eq_true', Bool.false_eq_true, Bool.true_eq_false, reduceCtorEq, Option.isSome_some, Option.isSome_none, hx1, hy1, c1, c2, k17, ab_o1_some] at h) <;> (try omega)) | (refine br_n (fun h => ?_) (fun h => ?_) <;> (try simp (disch := omega) only [nI_clamp, li_2, li_3, li_4, li_5, li_6, li_7, li_8, li_9, li_10, li_40, li_120, pk_mul, nI_add, nI_1, ix_eq, ix_lt, ix_le, ix_l0, ix_l1, ix_n0, ix_p0, ix_1lt, ix_lt1, ix_1le, ix_le1, ix_le0, ix_0lt, ab_z0, ab_z1, i_10, i_01, eq_self, ab_ozn, ab_ozp, ab_o_some, not_true_eq_false, not_false_eq_true, Bool.not_eq_false, Bool.not_eq_true, Bool.not_eq_false', Bool.not_eq_true', Bool.false_eq_true, Bool.true_eq_false, reduceCtorEq, Option.isSome_some, Option.isSome_none, hx1, hy1, c1, c2, k17, ab_o1_some] at h) <;> (try omega)) | refine ab_sd (by first | (with_reducible refine vp_in_nI ?_ ?_ <;> omega) | (simp (disch := omega) only [nI_clamp, li_2, li_3, li_4, li_5, li_6, li_7, li_8, li_9, li_10, li_40, li_120, pk_mul, nI_add, nI_1, ix_eq, ix_lt, ix_le, ix_l0, ix_l1, ix_n0, ix_p0, ix_1lt, ix_lt1, ix_1le, ix_le1, ix_le0, ix_0lt, ab_z0, ab_z1, i_10, i_01, eq_self, ab_ozn, ab_ozp, ab_o_some, not_true_eq_false, not_false_eq_true, Bool.not_eq_false, Bool.not_eq_true, Bool.not_eq_false', Bool.not_eq_true', Bool.false_eq_true, Bool.true_eq_false, reduceCtorEq, Option.isSome_some, Option.isSome_none, hx1, hy1, c1, c2, k17, ab_o1_some]; with_reducible refine vp_in_nI ?_ ?_ <;> omega)) ?_ | refine x_exists hω T ?_ | refine x_isClass hω T hT (t := t) rfl ht ?_ | refine x_isClass hω T hT (t := p) rfl hp ?_ | refine ab_sd ?_ ?_ | refine ab_sz (Or.inl rfl) ?_ | refine ab_sz (Or.inr rfl) ?_ | refine ab_sz ?_ ?_)
            all_goals first | exact hQ | (exfalso; omega) | (exfalso; simp at h; done)
theorem x_face (hω : ω.2.2.2 = ab_SH) (C : RepC S μ) (hI : Iv S) {x y : Int32} (hI' : Iv (o_face S x y)) (hQ : ∀ μ', RepC (o_face S x y) μ' → KC μ μ' → Q (a_face S x y) μ') : ab_CI l ω mX10_face [.ref 0, .int x, .int y] μ Q := by
  refine ab_intro (sh := ab_SH) (cd := kX10_face) hω vX10_face (by decide +kernel) rfl (Nat.le_of_ble_eq_true rfl) (fun j hj hw => ?_)
  have hW := hI.1
  have hT := hW.2.2.1.2
  have T := C.2.1
  cases hx : ab_ok (s_nT S) x with
  | false =>
    have e1 : a_face S x y = -1 := by unfold a_face; rw [hx]; rfl
    have e2 : o_face S x y = S := by unfold o_face; rw [hx]; rfl
    rw [e1, e2] at hQ
    repeat' (first | refine hj _ _ _ _ ?_ | (refine br_c (fun h => ?_) (fun h => ?_) <;> (try simp (disch := omega) only [nI_clamp, li_2, li_3, li_4, li_5, li_6, li_7, li_8, li_9, li_10, li_40, li_120, pk_mul, nI_add, nI_1, ix_eq, ix_lt, ix_le, ix_l0, ix_l1, ix_n0, ix_p0, ix_1lt, ix_lt1, ix_1le, ix_le1, ix_le0, ix_0lt, ab_z0, ab_z1, i_10, i_01, eq_self, ab_ozn, ab_ozp, ab_o_some, not_true_eq_false, not_false_eq_true, Bool.not_eq_false, Bool.not_eq_true, Bool.not_eq_false', Bool.not_eq_true', Bool.false_eq_true, Bool.true_eq_false, reduceCtorEq, Option.isSome_some, Option.isSome_none, hx] at h) <;> (try omega)) | (refine br_n (fun h => ?_) (fun h => ?_) <;> (try simp (disch := omega) only [nI_clamp, li_2, li_3, li_4, li_5, li_6, li_7, li_8, li_9, li_10, li_40, li_120, pk_mul, nI_add, nI_1, ix_eq, ix_lt, ix_le, ix_l0, ix_l1, ix_n0, ix_p0, ix_1lt, ix_lt1, ix_1le, ix_le1, ix_le0, ix_0lt, ab_z0, ab_z1, i_10, i_01, eq_self, ab_ozn, ab_ozp, ab_o_some, not_true_eq_false, not_false_eq_true, Bool.not_eq_false, Bool.not_eq_true, Bool.not_eq_false', Bool.not_eq_true', Bool.false_eq_true, Bool.true_eq_false, reduceCtorEq, Option.isSome_some, Option.isSome_none, hx] at h) <;> (try omega)) | refine ab_sd (by first | (with_reducible refine vp_in_nI ?_ ?_ <;> omega) | (simp (disch := omega) only [nI_clamp, li_2, li_3, li_4, li_5, li_6, li_7, li_8, li_9, li_10, li_40, li_120, pk_mul, nI_add, nI_1, ix_eq, ix_lt, ix_le, ix_l0, ix_l1, ix_n0, ix_p0, ix_1lt, ix_lt1, ix_1le, ix_le1, ix_le0, ix_0lt, ab_z0, ab_z1, i_10, i_01, eq_self, ab_ozn, ab_ozp, ab_o_some, not_true_eq_false, not_false_eq_true, Bool.not_eq_false, Bool.not_eq_true, Bool.not_eq_false', Bool.not_eq_true', Bool.false_eq_true, Bool.true_eq_false, reduceCtorEq, Option.isSome_some, Option.isSome_none, hx]; with_reducible refine vp_in_nI ?_ ?_ <;> omega)) ?_ | refine x_exists hω T ?_ | refine ab_sd ?_ ?_ | refine ab_sz (Or.inl rfl) ?_ | refine ab_sz (Or.inr rfl) ?_ | refine ab_sz ?_ ?_)
    all_goals exact hQ μ C KC.rf
  | true =>
    have hx1 := hx
    obtain ⟨t, ht, rfl⟩ := ab_ok_t (by omega) hx
    cases hy : ab_ok (s_nT S) y with
    | false =>
      have e1 : a_face S (nI t) y = -1 := by unfold a_face; rw [hx1, hy]; rfl
      have e2 : o_face S (nI t) y = S := by unfold o_face; rw [hx1, hy]; rfl
      rw [e1, e2] at hQ
      repeat' (first | refine hj _ _ _ _ ?_ | (refine br_c (fun h => ?_) (fun h => ?_) <;> (try simp (disch := omega) only [nI_clamp, li_2, li_3, li_4, li_5, li_6, li_7, li_8, li_9, li_10, li_40, li_120, pk_mul, nI_add, nI_1, ix_eq, ix_lt, ix_le, ix_l0, ix_l1, ix_n0, ix_p0, ix_1lt, ix_lt1, ix_1le, ix_le1, ix_le0, ix_0lt, ab_z0, ab_z1, i_10, i_01, eq_self, ab_ozn, ab_ozp, ab_o_some, not_true_eq_false, not_false_eq_true, Bool.not_eq_false, Bool.not_eq_true, Bool.not_eq_false', Bool.not_eq_true', Bool.false_eq_true, Bool.true_eq_false, reduceCtorEq, Option.isSome_some, Option.isSome_none, hx1, hy] at h) <;> (try omega)) | (refine br_n (fun h => ?_) (fun h => ?_) <;> (try simp (disch := omega) only [nI_clamp, li_2, li_3, li_4, li_5, li_6, li_7, li_8, li_9, li_10, li_40, li_120, pk_mul, nI_add, nI_1, ix_eq, ix_lt, ix_le, ix_l0, ix_l1, ix_n0, ix_p0, ix_1lt, ix_lt1, ix_1le, ix_le1, ix_le0, ix_0lt, ab_z0, ab_z1, i_10, i_01, eq_self, ab_ozn, ab_ozp, ab_o_some, not_true_eq_false, not_false_eq_true, Bool.not_eq_false, Bool.not_eq_true, Bool.not_eq_false', Bool.not_eq_true', Bool.false_eq_true, Bool.true_eq_false, reduceCtorEq, Option.isSome_some, Option.isSome_none, hx1, hy] at h) <;> (try omega)) | refine ab_sd (by first | (with_reducible refine vp_in_nI ?_ ?_ <;> omega) | (simp (disch := omega) only [nI_clamp, li_2, li_3, li_4, li_5, li_6, li_7, li_8, li_9, li_10, li_40, li_120, pk_mul, nI_add, nI_1, ix_eq, ix_lt, ix_le, ix_l0, ix_l1, ix_n0, ix_p0, ix_1lt, ix_lt1, ix_1le, ix_le1, ix_le0, ix_0lt, ab_z0, ab_z1, i_10, i_01, eq_self, ab_ozn, ab_ozp, ab_o_some, not_true_eq_false, not_false_eq_true, Bool.not_eq_false, Bool.not_eq_true, Bool.not_eq_false', Bool.not_eq_true', Bool.false_eq_true, Bool.true_eq_false, reduceCtorEq, Option.isSome_some, Option.isSome_none, hx1, hy]; with_reducible refine vp_in_nI ?_ ?_ <;> omega)) ?_ | refine x_exists hω T ?_ | refine ab_sd ?_ ?_ | refine ab_sz (Or.inl rfl) ?_ | refine ab_sz (Or.inr rfl) ?_ | refine ab_sz ?_ ?_)
      all_goals exact hQ μ C KC.rf
    | true =>
      have hy1 := hy
      obtain ⟨p, hp, rfl⟩ := ab_ok_t (by omega) hy
      have t5 := (hW.2.2.2.2.2.1 t ht).2.2.2.2.1
      have ea : a_face S (nI t) (nI p) = if (!(S.1 50 p == 0) && !(t == 0)) = true then (if s_at S p t = true ∨ s_isf S t p = true then -2 else if S.1 55 t = 4 then -4 else nI (S.1 55 t + 1)) else -1 := by
        unfold a_face
        rw [hx1, hy1, nI_clamp (by omega), nI_clamp (by omega)]; rfl
      have eo : o_face S (nI t) (nI p) = if (!(S.1 50 p == 0) && !(t == 0) && !(s_at S p t) && !(s_isf S t p) && !(S.1 55 t == 4)) = true then s_raise (s_un (s_un S 54 (4 * t + S.1 55 t) p) 55 t (S.1 55 t + 1)) t p else S := by
        unfold o_face
        rw [hx1, hy1, nI_clamp (by omega), nI_clamp (by omega)]; rfl
      have k19 := (T.2.2.2.2.1 t (by omega) p).1
      rw [show decide (t < s_nT S) = true by simpa using ht, Bool.true_and] at k19
      cases c1 : (S.1 50 p == 0) with
      | true =>
        rw [c1] at ea eo
        have ea : a_face S (nI t) (nI p) = -1 := ea
        have eo : o_face S (nI t) (nI p) = S := eo
        rw [ea, eo] at hQ
        repeat' (first | refine hj _ _ _ _ ?_ | (refine br_c (fun h => ?_) (fun h => ?_) <;> (try simp (disch := omega) only [nI_clamp, li_2, li_3, li_4, li_5, li_6, li_7, li_8, li_9, li_10, li_40, li_120, pk_mul, nI_add, nI_1, ix_eq, ix_lt, ix_le, ix_l0, ix_l1, ix_n0, ix_p0, ix_1lt, ix_lt1, ix_1le, ix_le1, ix_le0, ix_0lt, ab_z0, ab_z1, i_10, i_01, eq_self, ab_ozn, ab_ozp, ab_o_some, not_true_eq_false, not_false_eq_true, Bool.not_eq_false, Bool.not_eq_true, Bool.not_eq_false', Bool.not_eq_true', Bool.false_eq_true, Bool.true_eq_false, reduceCtorEq, Option.isSome_some, Option.isSome_none, hx1, hy1, c1] at h) <;> (try omega)) | (refine br_n (fun h => ?_) (fun h => ?_) <;> (try simp (disch := omega) only [nI_clamp, li_2, li_3, li_4, li_5, li_6, li_7, li_8, li_9, li_10, li_40, li_120, pk_mul, nI_add, nI_1, ix_eq, ix_lt, ix_le, ix_l0, ix_l1, ix_n0, ix_p0, ix_1lt, ix_lt1, ix_1le, ix_le1, ix_le0, ix_0lt, ab_z0, ab_z1, i_10, i_01, eq_self, ab_ozn, ab_ozp, ab_o_some, not_true_eq_false, not_false_eq_true, Bool.not_eq_false, Bool.not_eq_true, Bool.not_eq_false', Bool.not_eq_true', Bool.false_eq_true, Bool.true_eq_false, reduceCtorEq, Option.isSome_some, Option.isSome_none, hx1, hy1, c1] at h) <;> (try omega)) | refine ab_sd (by first | (with_reducible refine vp_in_nI ?_ ?_ <;> omega) | (simp (disch := omega) only [nI_clamp, li_2, li_3, li_4, li_5, li_6, li_7, li_8, li_9, li_10, li_40, li_120, pk_mul, nI_add, nI_1, ix_eq, ix_lt, ix_le, ix_l0, ix_l1, ix_n0, ix_p0, ix_1lt, ix_lt1, ix_1le, ix_le1, ix_le0, ix_0lt, ab_z0, ab_z1, i_10, i_01, eq_self, ab_ozn, ab_ozp, ab_o_some, not_true_eq_false, not_false_eq_true, Bool.not_eq_false, Bool.not_eq_true, Bool.not_eq_false', Bool.not_eq_true', Bool.false_eq_true, Bool.true_eq_false, reduceCtorEq, Option.isSome_some, Option.isSome_none, hx1, hy1, c1]; with_reducible refine vp_in_nI ?_ ?_ <;> omega)) ?_ | refine x_exists hω T ?_ | refine x_isClass hω T hT (t := p) rfl hp ?_ | refine ab_sd ?_ ?_ | refine ab_sz (Or.inl rfl) ?_ | refine ab_sz (Or.inr rfl) ?_ | refine ab_sz ?_ ?_)
        all_goals exact hQ μ C KC.rf
      | false =>
        by_cases t0 : t = 0
        · have ct0 : (t == 0) = true := by simpa using t0
          rw [c1, ct0] at ea eo
          have ea : a_face S (nI t) (nI p) = -1 := ea
          have eo : o_face S (nI t) (nI p) = S := eo
          rw [ea, eo] at hQ
          repeat' (first | refine hj _ _ _ _ ?_ | (refine br_c (fun h => ?_) (fun h => ?_) <;> (try simp (disch := omega) only [nI_clamp, li_2, li_3, li_4, li_5, li_6, li_7, li_8, li_9, li_10, li_40, li_120, pk_mul, nI_add, nI_1, ix_eq, ix_lt, ix_le, ix_l0, ix_l1, ix_n0, ix_p0, ix_1lt, ix_lt1, ix_1le, ix_le1, ix_le0, ix_0lt, ab_z0, ab_z1, i_10, i_01, eq_self, ab_ozn, ab_ozp, ab_o_some, not_true_eq_false, not_false_eq_true, Bool.not_eq_false, Bool.not_eq_true, Bool.not_eq_false', Bool.not_eq_true', Bool.false_eq_true, Bool.true_eq_false, reduceCtorEq, Option.isSome_some, Option.isSome_none, hx1, hy1, c1] at h) <;> (try omega)) | (refine br_n (fun h => ?_) (fun h => ?_) <;> (try simp (disch := omega) only [nI_clamp, li_2, li_3, li_4, li_5, li_6, li_7, li_8, li_9, li_10, li_40, li_120, pk_mul, nI_add, nI_1, ix_eq, ix_lt, ix_le, ix_l0, ix_l1, ix_n0, ix_p0, ix_1lt, ix_lt1, ix_1le, ix_le1, ix_le0, ix_0lt, ab_z0, ab_z1, i_10, i_01, eq_self, ab_ozn, ab_ozp, ab_o_some, not_true_eq_false, not_false_eq_true, Bool.not_eq_false, Bool.not_eq_true, Bool.not_eq_false', Bool.not_eq_true', Bool.false_eq_true, Bool.true_eq_false, reduceCtorEq, Option.isSome_some, Option.isSome_none, hx1, hy1, c1] at h) <;> (try omega)) | refine ab_sd (by first | (with_reducible refine vp_in_nI ?_ ?_ <;> omega) | (simp (disch := omega) only [nI_clamp, li_2, li_3, li_4, li_5, li_6, li_7, li_8, li_9, li_10, li_40, li_120, pk_mul, nI_add, nI_1, ix_eq, ix_lt, ix_le, ix_l0, ix_l1, ix_n0, ix_p0, ix_1lt, ix_lt1, ix_1le, ix_le1, ix_le0, ix_0lt, ab_z0, ab_z1, i_10, i_01, eq_self, ab_ozn, ab_ozp, ab_o_some, not_true_eq_false, not_false_eq_true, Bool.not_eq_false, Bool.not_eq_true, Bool.not_eq_false', Bool.not_eq_true', Bool.false_eq_true, Bool.true_eq_false, reduceCtorEq, Option.isSome_some, Option.isSome_none, hx1, hy1, c1]; with_reducible refine vp_in_nI ?_ ?_ <;> omega)) ?_ | refine x_exists hω T ?_ | refine x_isClass hω T hT (t := p) rfl hp ?_ | refine ab_sd ?_ ?_ | refine ab_sz (Or.inl rfl) ?_ | refine ab_sz (Or.inr rfl) ?_ | refine ab_sz ?_ ?_)
          all_goals exact hQ μ C KC.rf
        · have ct0 : (t == 0) = false := by simpa using t0
          rw [c1, ct0] at ea eo
          cases c2 : s_isf S t p with
          | true =>
            rw [c2] at ea eo k19
            have ea : a_face S (nI t) (nI p) = -2 := by rw [ea]; simp
            have eo : o_face S (nI t) (nI p) = S := by rw [eo]; simp
            rw [ea, eo] at hQ
            repeat' (first | refine hj _ _ _ _ ?_ | (refine br_c (fun h => ?_) (fun h => ?_) <;> (try simp (disch := omega) only [nI_clamp, li_2, li_3, li_4, li_5, li_6, li_7, li_8, li_9, li_10, li_40, li_120, pk_mul, nI_add, nI_1, ix_eq, ix_lt, ix_le, ix_l0, ix_l1, ix_n0, ix_p0, ix_1lt, ix_lt1, ix_1le, ix_le1, ix_le0, ix_0lt, ab_z0, ab_z1, i_10, i_01, eq_self, ab_ozn, ab_ozp, ab_o_some, not_true_eq_false, not_false_eq_true, Bool.not_eq_false, Bool.not_eq_true, Bool.not_eq_false', Bool.not_eq_true', Bool.false_eq_true, Bool.true_eq_false, reduceCtorEq, Option.isSome_some, Option.isSome_none, hx1, hy1, c1, k19] at h) <;> (try omega)) | (refine br_n (fun h => ?_) (fun h => ?_) <;> (try simp (disch := omega) only [nI_clamp, li_2, li_3, li_4, li_5, li_6, li_7, li_8, li_9, li_10, li_40, li_120, pk_mul, nI_add, nI_1, ix_eq, ix_lt, ix_le, ix_l0, ix_l1, ix_n0, ix_p0, ix_1lt, ix_lt1, ix_1le, ix_le1, ix_le0, ix_0lt, ab_z0, ab_z1, i_10, i_01, eq_self, ab_ozn, ab_ozp, ab_o_some, not_true_eq_false, not_false_eq_true, Bool.not_eq_false, Bool.not_eq_true, Bool.not_eq_false', Bool.not_eq_true', Bool.false_eq_true, Bool.true_eq_false, reduceCtorEq, Option.isSome_some, Option.isSome_none, hx1, hy1, c1, k19] at h) <;> (try omega)) | refine ab_sd (by first | (with_reducible refine vp_in_nI ?_ ?_ <;> omega) | (simp (disch := omega) only [nI_clamp, li_2, li_3, li_4, li_5, li_6, li_7, li_8, li_9, li_10, li_40, li_120, pk_mul, nI_add, nI_1, ix_eq, ix_lt, ix_le, ix_l0, ix_l1, ix_n0, ix_p0, ix_1lt, ix_lt1, ix_1le, ix_le1, ix_le0, ix_0lt, ab_z0, ab_z1, i_10, i_01, eq_self, ab_ozn, ab_ozp, ab_o_some, not_true_eq_false, not_false_eq_true, Bool.not_eq_false, Bool.not_eq_true, Bool.not_eq_false', Bool.not_eq_true', Bool.false_eq_true, Bool.true_eq_false, reduceCtorEq, Option.isSome_some, Option.isSome_none, hx1, hy1, c1, k19]; with_reducible refine vp_in_nI ?_ ?_ <;> omega)) ?_ | refine x_exists hω T ?_ | refine x_isClass hω T hT (t := p) rfl hp ?_ | refine x_has hω (t := p) rfl (by omega) ?_ | refine ab_sd ?_ ?_ | refine ab_sz (Or.inl rfl) ?_ | refine ab_sz (Or.inr rfl) ?_ | refine ab_sz ?_ ?_)
            all_goals exact hQ μ C KC.rf
          | false =>
            cases c3 : s_at S p t with
            | true =>
              rw [c2, c3] at ea eo
              rw [c2] at k19
              have ea : a_face S (nI t) (nI p) = -2 := by rw [ea]; simp
              have eo : o_face S (nI t) (nI p) = S := by rw [eo]; simp
              rw [ea, eo] at hQ
              repeat' (first | refine hj _ _ _ _ ?_ | (refine br_c (fun h => ?_) (fun h => ?_) <;> (try simp (disch := omega) only [nI_clamp, li_2, li_3, li_4, li_5, li_6, li_7, li_8, li_9, li_10, li_40, li_120, pk_mul, nI_add, nI_1, ix_eq, ix_lt, ix_le, ix_l0, ix_l1, ix_n0, ix_p0, ix_1lt, ix_lt1, ix_1le, ix_le1, ix_le0, ix_0lt, ab_z0, ab_z1, i_10, i_01, eq_self, ab_ozn, ab_ozp, ab_o_some, not_true_eq_false, not_false_eq_true, Bool.not_eq_false, Bool.not_eq_true, Bool.not_eq_false', Bool.not_eq_true', Bool.false_eq_true, Bool.true_eq_false, reduceCtorEq, Option.isSome_some, Option.isSome_none, hx1, hy1, c1, k19, c3] at h) <;> (try omega)) | (refine br_n (fun h => ?_) (fun h => ?_) <;> (try simp (disch := omega) only [nI_clamp, li_2, li_3, li_4, li_5, li_6, li_7, li_8, li_9, li_10, li_40, li_120, pk_mul, nI_add, nI_1, ix_eq, ix_lt, ix_le, ix_l0, ix_l1, ix_n0, ix_p0, ix_1lt, ix_lt1, ix_1le, ix_le1, ix_le0, ix_0lt, ab_z0, ab_z1, i_10, i_01, eq_self, ab_ozn, ab_ozp, ab_o_some, not_true_eq_false, not_false_eq_true, Bool.not_eq_false, Bool.not_eq_true, Bool.not_eq_false', Bool.not_eq_true', Bool.false_eq_true, Bool.true_eq_false, reduceCtorEq, Option.isSome_some, Option.isSome_none, hx1, hy1, c1, k19, c3] at h) <;> (try omega)) | refine ab_sd (by first | (with_reducible refine vp_in_nI ?_ ?_ <;> omega) | (simp (disch := omega) only [nI_clamp, li_2, li_3, li_4, li_5, li_6, li_7, li_8, li_9, li_10, li_40, li_120, pk_mul, nI_add, nI_1, ix_eq, ix_lt, ix_le, ix_l0, ix_l1, ix_n0, ix_p0, ix_1lt, ix_lt1, ix_1le, ix_le1, ix_le0, ix_0lt, ab_z0, ab_z1, i_10, i_01, eq_self, ab_ozn, ab_ozp, ab_o_some, not_true_eq_false, not_false_eq_true, Bool.not_eq_false, Bool.not_eq_true, Bool.not_eq_false', Bool.not_eq_true', Bool.false_eq_true, Bool.true_eq_false, reduceCtorEq, Option.isSome_some, Option.isSome_none, hx1, hy1, c1, k19, c3]; with_reducible refine vp_in_nI ?_ ?_ <;> omega)) ?_ | refine x_exists hω T ?_ | refine x_isClass hω T hT (t := p) rfl hp ?_ | refine x_has hω (t := p) rfl (by omega) ?_ | refine x_isSameOrBelow hω T hT (t := p) (u := t) rfl rfl hp ht ?_ | refine ab_sd ?_ ?_ | refine ab_sz (Or.inl rfl) ?_ | refine ab_sz (Or.inr rfl) ?_ | refine ab_sz ?_ ?_)
              all_goals exact hQ μ C KC.rf
            | false =>
              rw [c2, c3] at ea eo
              rw [c2] at k19
              by_cases h4 : S.1 55 t = 4
              · have ea : a_face S (nI t) (nI p) = -4 := by rw [ea]; simp [h4]
                have eo : o_face S (nI t) (nI p) = S := by rw [eo]; simp [h4]
                rw [ea, eo] at hQ
                repeat' (first | refine hj _ _ _ _ ?_ | (refine br_c (fun h => ?_) (fun h => ?_) <;> (try simp (disch := omega) only [nI_clamp, li_2, li_3, li_4, li_5, li_6, li_7, li_8, li_9, li_10, li_40, li_120, pk_mul, nI_add, nI_1, ix_eq, ix_lt, ix_le, ix_l0, ix_l1, ix_n0, ix_p0, ix_1lt, ix_lt1, ix_1le, ix_le1, ix_le0, ix_0lt, ab_z0, ab_z1, i_10, i_01, eq_self, ab_ozn, ab_ozp, ab_o_some, not_true_eq_false, not_false_eq_true, Bool.not_eq_false, Bool.not_eq_true, Bool.not_eq_false', Bool.not_eq_true', Bool.false_eq_true, Bool.true_eq_false, reduceCtorEq, Option.isSome_some, Option.isSome_none, hx1, hy1, c1, k19, c3] at h) <;> (try omega)) | (refine br_n (fun h => ?_) (fun h => ?_) <;> (try simp (disch := omega) only [nI_clamp, li_2, li_3, li_4, li_5, li_6, li_7, li_8, li_9, li_10, li_40, li_120, pk_mul, nI_add, nI_1, ix_eq, ix_lt, ix_le, ix_l0, ix_l1, ix_n0, ix_p0, ix_1lt, ix_lt1, ix_1le, ix_le1, ix_le0, ix_0lt, ab_z0, ab_z1, i_10, i_01, eq_self, ab_ozn, ab_ozp, ab_o_some, not_true_eq_false, not_false_eq_true, Bool.not_eq_false, Bool.not_eq_true, Bool.not_eq_false', Bool.not_eq_true', Bool.false_eq_true, Bool.true_eq_false, reduceCtorEq, Option.isSome_some, Option.isSome_none, hx1, hy1, c1, k19, c3] at h) <;> (try omega)) | refine ab_sd (by first | (with_reducible refine vp_in_nI ?_ ?_ <;> omega) | (simp (disch := omega) only [nI_clamp, li_2, li_3, li_4, li_5, li_6, li_7, li_8, li_9, li_10, li_40, li_120, pk_mul, nI_add, nI_1, ix_eq, ix_lt, ix_le, ix_l0, ix_l1, ix_n0, ix_p0, ix_1lt, ix_lt1, ix_1le, ix_le1, ix_le0, ix_0lt, ab_z0, ab_z1, i_10, i_01, eq_self, ab_ozn, ab_ozp, ab_o_some, not_true_eq_false, not_false_eq_true, Bool.not_eq_false, Bool.not_eq_true, Bool.not_eq_false', Bool.not_eq_true', Bool.false_eq_true, Bool.true_eq_false, reduceCtorEq, Option.isSome_some, Option.isSome_none, hx1, hy1, c1, k19, c3]; with_reducible refine vp_in_nI ?_ ?_ <;> omega)) ?_ | refine x_exists hω T ?_ | refine x_isClass hω T hT (t := p) rfl hp ?_ | refine x_has hω (t := p) rfl (by omega) ?_ | refine x_isSameOrBelow hω T hT (t := p) (u := t) rfl rfl hp ht ?_ | refine x_faceCount hω T hI (t := t) rfl ht ?_ | refine ab_sd ?_ ?_ | refine ab_sz (Or.inl rfl) ?_ | refine ab_sz (Or.inr rfl) ?_ | refine ab_sz ?_ ?_)
                all_goals exact hQ μ C KC.rf
              · have ea : a_face S (nI t) (nI p) = nI (S.1 55 t + 1) := by rw [ea]; simp [h4]
                have eo : o_face S (nI t) (nI p) = s_raise (s_un (s_un S 54 (4 * t + S.1 55 t) p) 55 t (S.1 55 t + 1)) t p := by rw [eo]; simp [h4]
                rw [ea] at hQ
                have fin : ∀ μ', RepT (o_face S (nI t) (nI p)) μ' → KT μ μ' → RepC (o_face S (nI t) (nI p)) (ab_mi (ab_mi μ' 4 3 0) 5 4 0) := fun μ' T' k' => by
                  refine RepC_nc (RepM_e C.1 (fun k j hk => (k' k j (by omega)).1) ?_ ?_ (fun j => ?_) (fun j => ?_) (fun j => ?_) (fun j => ?_)) T' (RepX_e C.2.2.1 (fun k j hk => k' k j (by omega)) ?_ (fun k j h1 h2 => ?_))
                  · rw [eo]; show (s_un (s_un S 54 (4 * t + S.1 55 t) p) 55 t (S.1 55 t + 1)).1 43 0 = _; rw [un_ne (by omega), un_ne (by omega)]
                  · rw [eo]; show (s_un (s_un S 54 (4 * t + S.1 55 t) p) 55 t (S.1 55 t + 1)).1 43 2 = _; rw [un_ne (by omega), un_ne (by omega)]
                  · rw [eo]; show (s_un (s_un S 54 (4 * t + S.1 55 t) p) 55 t (S.1 55 t + 1)).1 45 j = _; rw [un_ne (by omega), un_ne (by omega)]
                  · rw [eo]; rfl
                  · rw [eo]; rfl
                  · rw [eo]; rfl
                  · rw [eo]; show (s_un (s_un S 54 (4 * t + S.1 55 t) p) 55 t (S.1 55 t + 1)).1 43 16 = _; rw [un_ne (by omega), un_ne (by omega)]
                  · rw [eo]; show (s_un (s_un S 54 (4 * t + S.1 55 t) p) 55 t (S.1 55 t + 1)).1 k j = _; rw [un_ne (by omega), un_ne (by omega)]
                have e55 : (o_face S (nI t) (nI p)).1 55 t = S.1 55 t + 1 := by rw [eo]; show (s_un (s_un S 54 (4 * t + S.1 55 t) p) 55 t (S.1 55 t + 1)).1 55 t = _; rw [un_eq]
                have enT : s_nT (o_face S (nI t) (nI p)) = s_nT S := by rw [eo]; show (s_un (s_un S 54 (4 * t + S.1 55 t) p) 55 t (S.1 55 t + 1)).1 43 6 = _; rw [un_ne (by omega), un_ne (by omega)]
                repeat' (first | refine hj _ _ _ _ ?_ | (refine br_c (fun h => ?_) (fun h => ?_) <;> (try simp (disch := omega) only [nI_clamp, li_2, li_3, li_4, li_5, li_6, li_7, li_8, li_9, li_10, li_40, li_120, pk_mul, nI_add, nI_1, ix_eq, ix_lt, ix_le, ix_l0, ix_l1, ix_n0, ix_p0, ix_1lt, ix_lt1, ix_1le, ix_le1, ix_le0, ix_0lt, ab_z0, ab_z1, i_10, i_01, eq_self, ab_ozn, ab_ozp, ab_o_some, not_true_eq_false, not_false_eq_true, Bool.not_eq_false, Bool.not_eq_true, Bool.not_eq_false', Bool.not_eq_true', Bool.false_eq_true, Bool.true_eq_false, reduceCtorEq, Option.isSome_some, Option.isSome_none, hx1, hy1, c1, k19, c3] at h) <;> (try omega)) | (refine br_n (fun h => ?_) (fun h => ?_) <;> (try simp (disch := omega) only [nI_clamp, li_2, li_3, li_4, li_5, li_6, li_7, li_8, li_9, li_10, li_40, li_120, pk_mul, nI_add, nI_1, ix_eq, ix_lt, ix_le, ix_l0, ix_l1, ix_n0, ix_p0, ix_1lt, ix_lt1, ix_1le, ix_le1, ix_le0, ix_0lt, ab_z0, ab_z1, i_10, i_01, eq_self, ab_ozn, ab_ozp, ab_o_some, not_true_eq_false, not_false_eq_true, Bool.not_eq_false, Bool.not_eq_true, Bool.not_eq_false', Bool.not_eq_true', Bool.false_eq_true, Bool.true_eq_false, reduceCtorEq, Option.isSome_some, Option.isSome_none, hx1, hy1, c1, k19, c3] at h) <;> (try omega)) | refine ab_sd (by first | (with_reducible refine vp_in_nI ?_ ?_ <;> omega) | (simp (disch := omega) only [nI_clamp, li_2, li_3, li_4, li_5, li_6, li_7, li_8, li_9, li_10, li_40, li_120, pk_mul, nI_add, nI_1, ix_eq, ix_lt, ix_le, ix_l0, ix_l1, ix_n0, ix_p0, ix_1lt, ix_lt1, ix_1le, ix_le1, ix_le0, ix_0lt, ab_z0, ab_z1, i_10, i_01, eq_self, ab_ozn, ab_ozp, ab_o_some, not_true_eq_false, not_false_eq_true, Bool.not_eq_false, Bool.not_eq_true, Bool.not_eq_false', Bool.not_eq_true', Bool.false_eq_true, Bool.true_eq_false, reduceCtorEq, Option.isSome_some, Option.isSome_none, hx1, hy1, c1, k19, c3]; with_reducible refine vp_in_nI ?_ ?_ <;> omega)) ?_ | refine x_exists hω T ?_ | refine x_isClass hω T hT (t := p) rfl hp ?_ | refine x_has hω (t := p) rfl (by omega) ?_ | refine x_isSameOrBelow hω T hT (t := p) (u := t) rfl rfl hp ht ?_ | refine x_faceCount hω T hI (t := t) rfl ht ?_ | refine x_addFace hω T hW hI.2.2.2.2.2.1 (t := t) (p := p) rfl rfl ht hp c3 (by omega) (fun μ' T' k' => ?_) | refine x_forget hω ?_ | (rw [← eo] at T'; refine x_faceCount hω (fin μ' T' k').2.1 hI' (t := t) rfl (by rw [enT]; exact ht) ?_) | refine ab_sd ?_ ?_ | refine ab_sz (Or.inl rfl) ?_ | refine ab_sz (Or.inr rfl) ?_ | refine ab_sz ?_ ?_)
                rw [e55]
                exact hQ _ (fin μ' T' k') k'.kc
theorem x_type (hω : ω.2.2.2 = ab_SH) (C : RepC S μ) (hI : Iv2 S) {x y z v w : Int32} (hQ : ∀ μ', RepC (o_type S x y z v w) μ' → KC μ μ' → Q (a_type S x y z v w) μ') : ab_CI l ω mX10_type [.ref 0, .int x, .int y, .int z, .int v, .int w] μ Q := by
  refine ab_intro (sh := ab_SH) (cd := kX10_type) hω vX10_type (by decide +kernel) rfl (Nat.le_of_ble_eq_true rfl) (fun j hj hw => ?_)
  have hW := hI.1.1
  have hT := hW.2.2.1.2
  have hP := hW.2.1.2
  have T := C.2.1
  have M := C.1
  cases hv : v_type S x y z v w with
  | false =>
    have e1 : a_type S x y z v w = -1 := by simp [a_type, hv]
    have e2 : o_type S x y z v w = S := by simp [o_type, hv]
    rw [e1, e2] at hQ
    have hQ := hQ μ C KC.rf
    unfold v_type at hv
    repeat' (first | refine hj _ _ _ _ ?_ | (refine br_c (fun h => ?_) (fun h => ?_) <;> (try simp (disch := omega) only [nI_clamp, li_2, li_3, li_4, li_5, li_6, li_7, li_8, li_9, li_10, li_40, li_120, pk_mul, nI_add, nI_1, ix_eq, ix_lt, ix_le, ix_l0, ix_l1, ix_n0, ix_p0, ix_1lt, ix_lt1, ix_1le, ix_le1, ix_le0, ix_0lt, ab_z0, ab_z1, i_10, i_01, eq_self, ab_ozn, ab_ozp, ab_o_some, not_true_eq_false, not_false_eq_true, Bool.not_eq_false, Bool.not_eq_true, Bool.not_eq_false', Bool.not_eq_true', Bool.false_eq_true, Bool.true_eq_false, reduceCtorEq, Option.isSome_some, Option.isSome_none] at h) <;> (try omega)) | (refine br_n (fun h => ?_) (fun h => ?_) <;> (try simp (disch := omega) only [nI_clamp, li_2, li_3, li_4, li_5, li_6, li_7, li_8, li_9, li_10, li_40, li_120, pk_mul, nI_add, nI_1, ix_eq, ix_lt, ix_le, ix_l0, ix_l1, ix_n0, ix_p0, ix_1lt, ix_lt1, ix_1le, ix_le1, ix_le0, ix_0lt, ab_z0, ab_z1, i_10, i_01, eq_self, ab_ozn, ab_ozp, ab_o_some, not_true_eq_false, not_false_eq_true, Bool.not_eq_false, Bool.not_eq_true, Bool.not_eq_false', Bool.not_eq_true', Bool.false_eq_true, Bool.true_eq_false, reduceCtorEq, Option.isSome_some, Option.isSome_none] at h) <;> (try omega)) | refine ab_sd (by first | (with_reducible refine vp_in_nI ?_ ?_ <;> omega) | (simp (disch := omega) only [nI_clamp, li_2, li_3, li_4, li_5, li_6, li_7, li_8, li_9, li_10, li_40, li_120, pk_mul, nI_add, nI_1, ix_eq, ix_lt, ix_le, ix_l0, ix_l1, ix_n0, ix_p0, ix_1lt, ix_lt1, ix_1le, ix_le1, ix_le0, ix_0lt, ab_z0, ab_z1, i_10, i_01, eq_self, ab_ozn, ab_ozp, ab_o_some, not_true_eq_false, not_false_eq_true, Bool.not_eq_false, Bool.not_eq_true, Bool.not_eq_false', Bool.not_eq_true', Bool.false_eq_true, Bool.true_eq_false, reduceCtorEq, Option.isSome_some, Option.isSome_none]; with_reducible refine vp_in_nI ?_ ?_ <;> omega)) ?_ | refine x_hasPack hω M ?_ | refine x_exists hω T ?_ | refine x_within hω (n := 2) rfl ?_ | refine x_within hω (n := 4) rfl ?_ | refine x_flags hω ?_ | (exfalso; clear hj hw hQ; grind) | refine ab_sd ?_ ?_ | refine ab_sz (Or.inl rfl) ?_ | refine ab_sz (Or.inr rfl) ?_ | refine ab_sz ?_ ?_)
    all_goals first | exact hQ | (exfalso; clear hj hw hQ; grind)
  | true =>
    have hv2 := hv
    unfold v_type at hv2
    simp only [Bool.and_eq_true, Bool.or_eq_true, beq_iff_eq] at hv2
    obtain ⟨⟨⟨hx, hy⟩, hz⟩, hf1, hf2⟩ := hv2
    obtain ⟨pk, hpk, rfl⟩ := ab_ok_t (by omega) hx
    obtain ⟨so, hso, rfl⟩ := ab_ok_t (by omega) hz
    obtain ⟨ac, hac, rfl⟩ := ab_ok_t (by omega) hf1
    obtain ⟨fl, hfl, rfl⟩ := ab_ok_t (by omega) hf2
    have c1 : (nI pk).toNatClampNeg = pk := nI_clamp (by omega)
    have c3 : (nI so).toNatClampNeg = so := nI_clamp (by omega)
    have c4 : (nI ac).toNatClampNeg = ac := nI_clamp (by omega)
    have c5 : (nI fl).toNatClampNeg = fl := nI_clamp (by omega)
    obtain ⟨ou, hou, ho1, ho2⟩ : ∃ ou : Option Nat, y = ab_o1 ou ∧ s_dou y = ou ∧ ∀ o, ou = some o → o < s_nT S := by
      rcases hy with rfl | hy
      · exact ⟨none, rfl, rfl, fun o h => by cases h⟩
      · obtain ⟨o, ho, rfl⟩ := ab_ok_t (by omega) hy
        have : ¬ nI o = -1 := fun q => by have := nI_pos (n := o) (by omega); rw [q] at this; exact this (by decide)
        exact ⟨some o, rfl, by simp [s_dou, this, nI_clamp (show o < 2 ^ 31 by omega)], fun o2 h => by cases h; exact ho⟩
    have e0 : s_rT2 S (nI pk) y (nI so) (nI ac) (nI fl) = s_rT S pk ou so ac fl := by unfold s_rT2; rw [c1, c3, c4, c5, ho1]
    have hr := s_rT_le S pk ou so ac fl
    unfold a_type o_type at hQ
    rw [hv, e0, c1, c3, c4, c5, ho1] at hQ
    generalize hrr : s_rT S pk ou so ac fl = rr at hQ hr
    have hy2 : y = -1 ∨ ab_ok (s_nT S) y = true := hy
    have n1 : (rr = 0 ∨ 0 < rr) := by omega
    rcases n1 with h0 | h0
    · subst h0
      have hQf : s_nT S = 40 → ∀ μ', RepC S μ' → KC μ μ' → Q (-4) μ' := fun e => by simpa [e] using hQ
      have hQt : ¬ s_nT S = 40 → ∀ μ', RepC (s_type S pk ou so ac fl) μ' → KC μ μ' → Q (nI (s_nT S)) μ' := fun e => by simpa [e] using hQ
      have z0 : ((nI 0 : Int32) = 0) ↔ True := ⟨fun _ => trivial, fun _ => rfl⟩
      have fin : ∀ μ', RepT (s_type S pk ou so ac fl) μ' → KT μ μ' → RepC (s_type S pk ou so ac fl) (ab_mi (ab_mi μ' 4 3 0) 5 4 0) := fun μ' T' k' => by
        have o21 : ∀ k j, ¬ k = 56 → (s_type S pk ou so ac fl).2.1 k j = S.2.1 k j := fun k j hk => by
          show (if k = 56 ∧ j = 40 * s_nT S then so == 0 else S.2.1 k j) = _
          rw [if_neg (by omega)]
        exact RepC_nc (RepM_e C.1 (fun k j hk => (k' k j (by omega)).1) (ty_1 (by omega) (by omega)) (ty_1 (by omega) (by omega)) (fun j => ty_1 (by omega) (by omega)) (fun j => o21 _ _ (by omega)) (fun j => o21 _ _ (by omega)) (fun j => o21 _ _ (by omega))) T' (RepX_e C.2.2.1 (fun k j hk => k' k j (by omega)) (ty_1 (by omega) (by omega)) (fun k j h1 h2 => ty_1 (by omega) (by omega)))
      repeat' (first | refine hj _ _ _ _ ?_ | (refine br_c (fun h => ?_) (fun h => ?_) <;> (try simp (disch := omega) only [nI_clamp, li_2, li_3, li_4, li_5, li_6, li_7, li_8, li_9, li_10, li_40, li_120, pk_mul, nI_add, nI_1, ix_eq, ix_lt, ix_le, ix_l0, ix_l1, ix_n0, ix_p0, ix_1lt, ix_lt1, ix_1le, ix_le1, ix_le0, ix_0lt, ab_z0, ab_z1, i_10, i_01, eq_self, ab_ozn, ab_ozp, ab_o_some, not_true_eq_false, not_false_eq_true, Bool.not_eq_false, Bool.not_eq_true, Bool.not_eq_false', Bool.not_eq_true', Bool.false_eq_true, Bool.true_eq_false, reduceCtorEq, Option.isSome_some, Option.isSome_none, hx, hz, hf1, hf2, z0] at h) <;> (try omega)) | (refine br_n (fun h => ?_) (fun h => ?_) <;> (try simp (disch := omega) only [nI_clamp, li_2, li_3, li_4, li_5, li_6, li_7, li_8, li_9, li_10, li_40, li_120, pk_mul, nI_add, nI_1, ix_eq, ix_lt, ix_le, ix_l0, ix_l1, ix_n0, ix_p0, ix_1lt, ix_lt1, ix_1le, ix_le1, ix_le0, ix_0lt, ab_z0, ab_z1, i_10, i_01, eq_self, ab_ozn, ab_ozp, ab_o_some, not_true_eq_false, not_false_eq_true, Bool.not_eq_false, Bool.not_eq_true, Bool.not_eq_false', Bool.not_eq_true', Bool.false_eq_true, Bool.true_eq_false, reduceCtorEq, Option.isSome_some, Option.isSome_none, hx, hz, hf1, hf2, z0] at h) <;> (try omega)) | refine ab_sd (by first | (with_reducible refine vp_in_nI ?_ ?_ <;> omega) | (simp (disch := omega) only [nI_clamp, li_2, li_3, li_4, li_5, li_6, li_7, li_8, li_9, li_10, li_40, li_120, pk_mul, nI_add, nI_1, ix_eq, ix_lt, ix_le, ix_l0, ix_l1, ix_n0, ix_p0, ix_1lt, ix_lt1, ix_1le, ix_le1, ix_le0, ix_0lt, ab_z0, ab_z1, i_10, i_01, eq_self, ab_ozn, ab_ozp, ab_o_some, not_true_eq_false, not_false_eq_true, Bool.not_eq_false, Bool.not_eq_true, Bool.not_eq_false', Bool.not_eq_true', Bool.false_eq_true, Bool.true_eq_false, reduceCtorEq, Option.isSome_some, Option.isSome_none, hx, hz, hf1, hf2, z0]; with_reducible refine vp_in_nI ?_ ?_ <;> omega)) ?_ | refine x_hasPack hω M ?_ | refine x_exists hω T ?_ | refine x_within hω (n := 2) rfl ?_ | refine x_within hω (n := 4) rfl ?_ | refine x_flags hω ?_ | (refine x_tbroken hω T hW rfl hou rfl rfl rfl (by omega) ho2 hso hac hfl ?_; rw [hrr]) | refine x_tadd hω T hI rfl hou rfl rfl rfl hpk ho2 hso hfl (fun e40 => ?_) (fun μ' e40 T' k' => ?_) | refine x_forget hω ?_ | refine ab_sd ?_ ?_ | refine ab_sz (Or.inl rfl) ?_ | refine ab_sz (Or.inr rfl) ?_ | refine ab_sz ?_ ?_)
      all_goals first | (show Q _ _; exact hQf e40 _ (RepC_nc C.1 C.2.1 C.2.2.1) KT.rf.kc) | (show Q _ _; exact hQt e40 _ (fin μ' T' k') k'.kc) | (exfalso; clear hj hw hQ fin hQf hQt; grind)
    · have hQr : Q (-10 - nI rr) μ := by
        rw [if_pos rfl, if_pos h0, if_neg (by omega)] at hQ
        exact hQ μ C KC.rf
      have z0 : ((nI rr : Int32) = 0) ↔ False := ⟨fun q => by have := (ix_l0 (by omega)).mp q; omega, False.elim⟩
      repeat' (first | refine hj _ _ _ _ ?_ | (refine br_c (fun h => ?_) (fun h => ?_) <;> (try simp (disch := omega) only [nI_clamp, li_2, li_3, li_4, li_5, li_6, li_7, li_8, li_9, li_10, li_40, li_120, pk_mul, nI_add, nI_1, ix_eq, ix_lt, ix_le, ix_l0, ix_l1, ix_n0, ix_p0, ix_1lt, ix_lt1, ix_1le, ix_le1, ix_le0, ix_0lt, ab_z0, ab_z1, i_10, i_01, eq_self, ab_ozn, ab_ozp, ab_o_some, not_true_eq_false, not_false_eq_true, Bool.not_eq_false, Bool.not_eq_true, Bool.not_eq_false', Bool.not_eq_true', Bool.false_eq_true, Bool.true_eq_false, reduceCtorEq, Option.isSome_some, Option.isSome_none, hx, hz, hf1, hf2, z0] at h) <;> (try omega)) | (refine br_n (fun h => ?_) (fun h => ?_) <;> (try simp (disch := omega) only [nI_clamp, li_2, li_3, li_4, li_5, li_6, li_7, li_8, li_9, li_10, li_40, li_120, pk_mul, nI_add, nI_1, ix_eq, ix_lt, ix_le, ix_l0, ix_l1, ix_n0, ix_p0, ix_1lt, ix_lt1, ix_1le, ix_le1, ix_le0, ix_0lt, ab_z0, ab_z1, i_10, i_01, eq_self, ab_ozn, ab_ozp, ab_o_some, not_true_eq_false, not_false_eq_true, Bool.not_eq_false, Bool.not_eq_true, Bool.not_eq_false', Bool.not_eq_true', Bool.false_eq_true, Bool.true_eq_false, reduceCtorEq, Option.isSome_some, Option.isSome_none, hx, hz, hf1, hf2, z0] at h) <;> (try omega)) | refine ab_sd (by first | (with_reducible refine vp_in_nI ?_ ?_ <;> omega) | (simp (disch := omega) only [nI_clamp, li_2, li_3, li_4, li_5, li_6, li_7, li_8, li_9, li_10, li_40, li_120, pk_mul, nI_add, nI_1, ix_eq, ix_lt, ix_le, ix_l0, ix_l1, ix_n0, ix_p0, ix_1lt, ix_lt1, ix_1le, ix_le1, ix_le0, ix_0lt, ab_z0, ab_z1, i_10, i_01, eq_self, ab_ozn, ab_ozp, ab_o_some, not_true_eq_false, not_false_eq_true, Bool.not_eq_false, Bool.not_eq_true, Bool.not_eq_false', Bool.not_eq_true', Bool.false_eq_true, Bool.true_eq_false, reduceCtorEq, Option.isSome_some, Option.isSome_none, hx, hz, hf1, hf2, z0]; with_reducible refine vp_in_nI ?_ ?_ <;> omega)) ?_ | refine x_hasPack hω M ?_ | refine x_exists hω T ?_ | refine x_within hω (n := 2) rfl ?_ | refine x_within hω (n := 4) rfl ?_ | refine x_flags hω ?_ | (refine x_tbroken hω T hW rfl hou rfl rfl rfl (by omega) ho2 hso hac hfl ?_; rw [hrr]) | refine ab_sd ?_ ?_ | refine ab_sz (Or.inl rfl) ?_ | refine ab_sz (Or.inr rfl) ?_ | refine ab_sz ?_ ?_)
      all_goals first | (show Q _ _; with_reducible exact hQr) | (exfalso; clear hj hw hQ hQr; grind)
theorem x_member (hω : ω.2.2.2 = ab_SH) (C : RepC S μ) (hI : Iv S) {x y z v w : Int32} (hQ : ∀ μ', RepC (o_member S x y z v w) μ' → KC μ μ' → Q (a_member S x y z v w) μ') : ab_CI l ω mX10_member [.ref 0, .int x, .int y, .int z, .int v, .int w] μ Q := by
  refine ab_intro (sh := ab_SH) (cd := kX10_member) hω vX10_member (by decide +kernel) rfl (Nat.le_of_ble_eq_true rfl) (fun j hj hw => ?_)
  have hW := hI.1
  have hT := hW.2.2.1.2
  have hX := hW.2.2.2.1
  have T := C.2.1
  have X := C.2.2.1
  cases hv : v_mem S x y z v w with
  | false =>
    have e1 : a_member S x y z v w = -1 := by simp [a_member, hv]
    have e2 : o_member S x y z v w = S := by simp [o_member, hv]
    rw [e1, e2] at hQ
    have hQ := hQ μ C KC.rf
    unfold v_mem at hv
    repeat' (first | refine hj _ _ _ _ ?_ | (refine br_c (fun h => ?_) (fun h => ?_) <;> (try simp (disch := omega) only [nI_clamp, li_2, li_3, li_4, li_5, li_6, li_7, li_8, li_9, li_10, li_40, li_120, pk_mul, nI_add, nI_1, ix_eq, ix_lt, ix_le, ix_l0, ix_l1, ix_n0, ix_p0, ix_1lt, ix_lt1, ix_1le, ix_le1, ix_le0, ix_0lt, ab_z0, ab_z1, i_10, i_01, eq_self, ab_ozn, ab_ozp, ab_o_some, not_true_eq_false, not_false_eq_true, Bool.not_eq_false, Bool.not_eq_true, Bool.not_eq_false', Bool.not_eq_true', Bool.false_eq_true, Bool.true_eq_false, reduceCtorEq, Option.isSome_some, Option.isSome_none] at h) <;> (try omega)) | (refine br_n (fun h => ?_) (fun h => ?_) <;> (try simp (disch := omega) only [nI_clamp, li_2, li_3, li_4, li_5, li_6, li_7, li_8, li_9, li_10, li_40, li_120, pk_mul, nI_add, nI_1, ix_eq, ix_lt, ix_le, ix_l0, ix_l1, ix_n0, ix_p0, ix_1lt, ix_lt1, ix_1le, ix_le1, ix_le0, ix_0lt, ab_z0, ab_z1, i_10, i_01, eq_self, ab_ozn, ab_ozp, ab_o_some, not_true_eq_false, not_false_eq_true, Bool.not_eq_false, Bool.not_eq_true, Bool.not_eq_false', Bool.not_eq_true', Bool.false_eq_true, Bool.true_eq_false, reduceCtorEq, Option.isSome_some, Option.isSome_none] at h) <;> (try omega)) | refine ab_sd (by first | (with_reducible refine vp_in_nI ?_ ?_ <;> omega) | (simp (disch := omega) only [nI_clamp, li_2, li_3, li_4, li_5, li_6, li_7, li_8, li_9, li_10, li_40, li_120, pk_mul, nI_add, nI_1, ix_eq, ix_lt, ix_le, ix_l0, ix_l1, ix_n0, ix_p0, ix_1lt, ix_lt1, ix_1le, ix_le1, ix_le0, ix_0lt, ab_z0, ab_z1, i_10, i_01, eq_self, ab_ozn, ab_ozp, ab_o_some, not_true_eq_false, not_false_eq_true, Bool.not_eq_false, Bool.not_eq_true, Bool.not_eq_false', Bool.not_eq_true', Bool.false_eq_true, Bool.true_eq_false, reduceCtorEq, Option.isSome_some, Option.isSome_none]; with_reducible refine vp_in_nI ?_ ?_ <;> omega)) ?_ | refine x_exists hω T ?_ | refine x_within hω (n := 3) rfl ?_ | refine x_within hω (n := 10) rfl ?_ | refine x_within hω (n := 4) rfl ?_ | refine x_flags hω ?_ | (exfalso; clear hj hw hQ; grind) | refine ab_sd ?_ ?_ | refine ab_sz (Or.inl rfl) ?_ | refine ab_sz (Or.inr rfl) ?_ | refine ab_sz ?_ ?_)
    all_goals first | exact hQ | (exfalso; clear hj hw hQ; grind)
  | true =>
    have hv2 := hv
    unfold v_mem at hv2
    simp only [Bool.and_eq_true] at hv2
    obtain ⟨⟨⟨hx, hy⟩, hz⟩, hf1, hf2⟩ := hv2
    obtain ⟨t, ht, rfl⟩ := ab_ok_t (by omega) hx
    obtain ⟨k, hk, rfl⟩ := ab_ok_t (by omega) hy
    obtain ⟨n, hn, rfl⟩ := ab_ok_t (by omega) hz
    obtain ⟨ac, hac, rfl⟩ := ab_ok_t (by omega) hf1
    obtain ⟨fl, hfl, rfl⟩ := ab_ok_t (by omega) hf2
    have e0 : s_rM2 S (nI t) (nI k) (nI n) (nI ac) (nI fl) = s_rM S t k n ac fl := by unfold s_rM2; rw [nI_clamp (by omega), nI_clamp (by omega), nI_clamp (by omega), nI_clamp (by omega), nI_clamp (by omega)]
    have hr := s_rM_le S t k n ac fl
    unfold a_member o_member at hQ
    rw [hv, e0, nI_clamp (by omega), nI_clamp (by omega), nI_clamp (by omega), nI_clamp (by omega), nI_clamp (by omega)] at hQ
    have hdn : s_rM S t k n ac fl = 0 → s_dec S t k n = none := fun q2 => by
      unfold s_rM at q2
      split at q2
      · omega
      · split at q2
        · omega
        · split at q2
          · omega
          · split at q2
            · omega
            · rename_i c
              cases e : s_dec S t k n with
              | none => rfl
              | some m => rw [e] at c; simp at c
    generalize hrr : s_rM S t k n ac fl = rr at hQ hr hdn
    have n1 : (rr = 0 ∨ 0 < rr) := by omega
    rcases n1 with h0 | h0
    · subst h0
      have hdn := hdn rfl
      have hQf : s_nX S = 120 → ∀ μ', RepC S μ' → KC μ μ' → Q (-4) μ' := fun e => by simpa [e] using hQ
      have hQt : ¬ s_nX S = 120 → ∀ μ', RepC (s_mem S t k n ac fl) μ' → KC μ μ' → Q (nI (s_nX S)) μ' := fun e => by simpa [e] using hQ
      have z0 : ((nI 0 : Int32) = 0) ↔ True := ⟨fun _ => trivial, fun _ => rfl⟩
      have fin : ∀ μ', RepX (s_mem S t k n ac fl) μ' → KX μ μ' → RepC (s_mem S t k n ac fl) (ab_mi (ab_mi μ' 4 3 0) 5 4 0) := fun μ' X' k' => by
        exact RepC_nc (RepM_e C.1 (fun a j ha => (k' a j (by omega)).1) (me_1 (by omega) (by omega)) (me_1 (by omega) (by omega)) (fun j => me_1 (by omega) (by omega)) (fun j => rfl) (fun j => rfl) (fun j => rfl)) (RepT_e C.2.1 (fun a j ha => k' a j (by omega)) (me_1 (by omega) (by omega)) (fun a j h1 h2 => me_1 (by omega) (by omega)) (fun j => rfl) (fun j => rfl) (fun j => rfl)) X'
      repeat' (first | refine hj _ _ _ _ ?_ | (refine br_c (fun h => ?_) (fun h => ?_) <;> (try simp (disch := omega) only [nI_clamp, li_2, li_3, li_4, li_5, li_6, li_7, li_8, li_9, li_10, li_40, li_120, pk_mul, nI_add, nI_1, ix_eq, ix_lt, ix_le, ix_l0, ix_l1, ix_n0, ix_p0, ix_1lt, ix_lt1, ix_1le, ix_le1, ix_le0, ix_0lt, ab_z0, ab_z1, i_10, i_01, eq_self, ab_ozn, ab_ozp, ab_o_some, not_true_eq_false, not_false_eq_true, Bool.not_eq_false, Bool.not_eq_true, Bool.not_eq_false', Bool.not_eq_true', Bool.false_eq_true, Bool.true_eq_false, reduceCtorEq, Option.isSome_some, Option.isSome_none, hx, hy, hz, hf1, hf2, z0] at h) <;> (try omega)) | (refine br_n (fun h => ?_) (fun h => ?_) <;> (try simp (disch := omega) only [nI_clamp, li_2, li_3, li_4, li_5, li_6, li_7, li_8, li_9, li_10, li_40, li_120, pk_mul, nI_add, nI_1, ix_eq, ix_lt, ix_le, ix_l0, ix_l1, ix_n0, ix_p0, ix_1lt, ix_lt1, ix_1le, ix_le1, ix_le0, ix_0lt, ab_z0, ab_z1, i_10, i_01, eq_self, ab_ozn, ab_ozp, ab_o_some, not_true_eq_false, not_false_eq_true, Bool.not_eq_false, Bool.not_eq_true, Bool.not_eq_false', Bool.not_eq_true', Bool.false_eq_true, Bool.true_eq_false, reduceCtorEq, Option.isSome_some, Option.isSome_none, hx, hy, hz, hf1, hf2, z0] at h) <;> (try omega)) | refine ab_sd (by first | (with_reducible refine vp_in_nI ?_ ?_ <;> omega) | (simp (disch := omega) only [nI_clamp, li_2, li_3, li_4, li_5, li_6, li_7, li_8, li_9, li_10, li_40, li_120, pk_mul, nI_add, nI_1, ix_eq, ix_lt, ix_le, ix_l0, ix_l1, ix_n0, ix_p0, ix_1lt, ix_lt1, ix_1le, ix_le1, ix_le0, ix_0lt, ab_z0, ab_z1, i_10, i_01, eq_self, ab_ozn, ab_ozp, ab_o_some, not_true_eq_false, not_false_eq_true, Bool.not_eq_false, Bool.not_eq_true, Bool.not_eq_false', Bool.not_eq_true', Bool.false_eq_true, Bool.true_eq_false, reduceCtorEq, Option.isSome_some, Option.isSome_none, hx, hy, hz, hf1, hf2, z0]; with_reducible refine vp_in_nI ?_ ?_ <;> omega)) ?_ | refine x_exists hω T ?_ | refine x_within hω (n := 3) rfl ?_ | refine x_within hω (n := 10) rfl ?_ | refine x_within hω (n := 4) rfl ?_ | refine x_flags hω ?_ | (refine x_mbroken hω T X hW rfl rfl rfl rfl rfl ht hk hn hac hfl ?_; rw [hrr]) | refine x_madd hω X hW rfl rfl rfl rfl rfl ht hk hn hac hfl hdn (fun e40 => ?_) (fun μ' e40 X' k' => ?_) | refine x_forget hω ?_ | refine ab_sd ?_ ?_ | refine ab_sz (Or.inl rfl) ?_ | refine ab_sz (Or.inr rfl) ?_ | refine ab_sz ?_ ?_)
      all_goals first | (show Q _ _; exact hQf e40 _ (RepC_nc C.1 C.2.1 C.2.2.1) KT.rf.kc) | (show Q _ _; exact hQt e40 _ (fin μ' X' k') k'.kc) | (exfalso; clear hj hw hQ fin hQf hQt; grind)
    · have hQr : Q (-10 - nI rr) μ := by
        rw [if_pos rfl, if_pos h0, if_neg (by omega)] at hQ
        exact hQ μ C KC.rf
      have z0 : ((nI rr : Int32) = 0) ↔ False := ⟨fun q => by have := (ix_l0 (by omega)).mp q; omega, False.elim⟩
      repeat' (first | refine hj _ _ _ _ ?_ | (refine br_c (fun h => ?_) (fun h => ?_) <;> (try simp (disch := omega) only [nI_clamp, li_2, li_3, li_4, li_5, li_6, li_7, li_8, li_9, li_10, li_40, li_120, pk_mul, nI_add, nI_1, ix_eq, ix_lt, ix_le, ix_l0, ix_l1, ix_n0, ix_p0, ix_1lt, ix_lt1, ix_1le, ix_le1, ix_le0, ix_0lt, ab_z0, ab_z1, i_10, i_01, eq_self, ab_ozn, ab_ozp, ab_o_some, not_true_eq_false, not_false_eq_true, Bool.not_eq_false, Bool.not_eq_true, Bool.not_eq_false', Bool.not_eq_true', Bool.false_eq_true, Bool.true_eq_false, reduceCtorEq, Option.isSome_some, Option.isSome_none, hx, hy, hz, hf1, hf2, z0] at h) <;> (try omega)) | (refine br_n (fun h => ?_) (fun h => ?_) <;> (try simp (disch := omega) only [nI_clamp, li_2, li_3, li_4, li_5, li_6, li_7, li_8, li_9, li_10, li_40, li_120, pk_mul, nI_add, nI_1, ix_eq, ix_lt, ix_le, ix_l0, ix_l1, ix_n0, ix_p0, ix_1lt, ix_lt1, ix_1le, ix_le1, ix_le0, ix_0lt, ab_z0, ab_z1, i_10, i_01, eq_self, ab_ozn, ab_ozp, ab_o_some, not_true_eq_false, not_false_eq_true, Bool.not_eq_false, Bool.not_eq_true, Bool.not_eq_false', Bool.not_eq_true', Bool.false_eq_true, Bool.true_eq_false, reduceCtorEq, Option.isSome_some, Option.isSome_none, hx, hy, hz, hf1, hf2, z0] at h) <;> (try omega)) | refine ab_sd (by first | (with_reducible refine vp_in_nI ?_ ?_ <;> omega) | (simp (disch := omega) only [nI_clamp, li_2, li_3, li_4, li_5, li_6, li_7, li_8, li_9, li_10, li_40, li_120, pk_mul, nI_add, nI_1, ix_eq, ix_lt, ix_le, ix_l0, ix_l1, ix_n0, ix_p0, ix_1lt, ix_lt1, ix_1le, ix_le1, ix_le0, ix_0lt, ab_z0, ab_z1, i_10, i_01, eq_self, ab_ozn, ab_ozp, ab_o_some, not_true_eq_false, not_false_eq_true, Bool.not_eq_false, Bool.not_eq_true, Bool.not_eq_false', Bool.not_eq_true', Bool.false_eq_true, Bool.true_eq_false, reduceCtorEq, Option.isSome_some, Option.isSome_none, hx, hy, hz, hf1, hf2, z0]; with_reducible refine vp_in_nI ?_ ?_ <;> omega)) ?_ | refine x_exists hω T ?_ | refine x_within hω (n := 3) rfl ?_ | refine x_within hω (n := 10) rfl ?_ | refine x_within hω (n := 4) rfl ?_ | refine x_flags hω ?_ | (refine x_mbroken hω T X hW rfl rfl rfl rfl rfl ht hk hn hac hfl ?_; rw [hrr]) | refine ab_sd ?_ ?_ | refine ab_sz (Or.inl rfl) ?_ | refine ab_sz (Or.inr rfl) ?_ | refine ab_sz ?_ ?_)
      all_goals first | (show Q _ _; with_reducible exact hQr) | (exfalso; clear hj hw hQ hQr; grind)
end KK
