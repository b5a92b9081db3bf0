/-! THE CLASS: use, make -/
theorem ab_cnt_uq {f : Nat → Bool} : ∀ {n : Nat}, ab_cnt f n ≤ 1 → ∀ a b, a < n → b < n → f a = true → f b = true → a = b
  | 0, _, a, b, ha, _, _, _ => by omega
  | n + 1, h, a, b, ha, hb, fa, fb => by
    simp only [ab_cnt] at h
    by_cases q : a = n
    · subst q
      by_cases q2 : b = a
      · exact q2.symm
      · exfalso
        have := ab_cnt_pos (f := f) fb (n := a) (by omega)
        rw [fa] at h
        simp at h
        omega
    · by_cases q2 : b = n
      · subst q2
        exfalso
        have := ab_cnt_pos (f := f) fa (n := b) (by omega)
        rw [fb] at h
        simp at h
        omega
      · exact ab_cnt_uq (n := n) (by omega) a b (by omega) (by omega) fa fb
theorem ab_pc_zero {x : Int64} : ab_pc x = 0 ↔ x = 0 := by
  constructor
  · intro h
    rw [ab_bt_zero]
    intro i hi
    cases hx : ab_bt x i with
    | false => rfl
    | true =>
      have := ab_cnt_pos (f := ab_bt x) hx hi
      unfold ab_pc at h
      omega
  · intro h
    subst h
    exact ab_cnt_zero (fun i _ => ab_bt_0 i)
section K8
variable {l : Launch} {ω : ab_W} {S : sT} {μ : ab_M} {ρ : Nat → Nat} {Q : Int32 → ab_M → Prop}
theorem x_hasStaticAhead (hω : ω.2.2.2 = ab_SH) (T : RepT S μ) (hW : Wf S) {x y : Int32} {f q : Nat} (ex : x = nI f) (ey : y = nI q) (hf : f < s_nT S) (hq : q ∈ s_ch S f) (hQ : Q (ab_z (s_cut S f q)) μ) : ab_CI l ω mX9_hasStaticAhead [.ref 7, .int x, .int y] μ Q := by
  subst ex ey
  refine ab_intro (sh := ab_SH) (cd := kX9_hasStaticAhead) hω vX9_hasStaticAhead (by decide +kernel) rfl (Nat.le_of_ble_eq_true rfl) (fun j hj hw => ?_)
  have hT := hW.2.2.1.2
  have hql := s_ch_le hW (f + 1) f (by omega) hf q hq
  obtain ⟨kT, kc, ks, k13, k14, k15, k16, k17, k18, k22, k19, k20, k21, k25⟩ := RepT_fs T
  have e0 : s_cut S f q = (s_ch S f).any (fun x => decide (q < x) && s_has (S.1 52 x) 1) := tw_pw (s_ch_pw hW (f + 1) f (by omega) hf) hq
  have z : ((((μ.2 22 f &&& μ.2 2 2).toUInt64 >>> ((nI q).toInt64.toUInt64 &&& Int64.toUInt64 63)).toInt64.toUInt64 >>> ((1 : Int32).toInt64.toUInt64 &&& Int64.toUInt64 63)).toInt64 = 0) ↔ s_cut S f q = false := by
    rw [ab_bt_zero, e0, List.any_eq_false]
    have bit : ∀ i, ab_bt ((((μ.2 22 f &&& μ.2 2 2).toUInt64 >>> ((nI q).toInt64.toUInt64 &&& Int64.toUInt64 63)).toInt64.toUInt64 >>> ((1 : Int32).toInt64.toUInt64 &&& Int64.toUInt64 63)).toInt64) i = ((s_ch S f).contains (q + (1 + i)) && ab_bt (μ.2 2 2) (q + (1 + i))) := by
      intro i
      rw [show (1 : Int32) = nI 1 from rfl, ab_bt_ushr (by omega), ab_bt_ushr (by omega), ab_bt_and, k22 f _ hf]
    constructor
    · intro h s hs
      have hl := s_ch_le hW (f + 1) f (by omega) hf s hs
      by_cases c : q < s
      · have := h (s - q - 1) (by omega)
        rw [bit, show q + (1 + (s - q - 1)) = s by omega, List.contains_iff_mem.mpr hs, ks s (by omega)] at this
        simpa [c] using this
      · simp [c]
    · intro h i hi
      rw [bit]
      by_cases hx : q + (1 + i) ∈ s_ch S f
      · have hl := s_ch_le hW (f + 1) f (by omega) hf _ hx
        have := h _ hx
        rw [ks _ (by omega)]
        simp only [show q < q + (1 + i) by omega, decide_true, Bool.true_and, Bool.not_eq_true] at this
        rw [this]; simp
      · have : (s_ch S f).contains (q + (1 + i)) = false := by simpa using hx
        rw [this]; rfl
  repeat' (first | refine hj _ _ _ _ ?_ | (refine br_c (fun h => ?_) (fun h => ?_) <;> (try simp (disch := omega) only [nI_clamp, li_2, li_3, li_4, li_5, li_6, li_7, li_8, li_9, li_10, li_40, li_120, pk_mul, nI_add, nI_1, ix_eq, ix_lt, ix_le, ix_l0, ix_l1, ix_n0, ix_p0, ix_1lt, ix_lt1, ix_1le, ix_le1, ix_le0, ix_0lt, ab_z0, ab_z1, i_10, i_01, eq_self, ab_ozn, ab_ozp, ab_o_some, not_true_eq_false, not_false_eq_true, Bool.not_eq_false, Bool.not_eq_true, Bool.not_eq_false', Bool.not_eq_true', Bool.false_eq_true, Bool.true_eq_false, reduceCtorEq, Option.isSome_some, Option.isSome_none, lg_cmp_eq, z] at h) <;> (try omega)) | (refine br_n (fun h => ?_) (fun h => ?_) <;> (try simp (disch := omega) only [nI_clamp, li_2, li_3, li_4, li_5, li_6, li_7, li_8, li_9, li_10, li_40, li_120, pk_mul, nI_add, nI_1, ix_eq, ix_lt, ix_le, ix_l0, ix_l1, ix_n0, ix_p0, ix_1lt, ix_lt1, ix_1le, ix_le1, ix_le0, ix_0lt, ab_z0, ab_z1, i_10, i_01, eq_self, ab_ozn, ab_ozp, ab_o_some, not_true_eq_false, not_false_eq_true, Bool.not_eq_false, Bool.not_eq_true, Bool.not_eq_false', Bool.not_eq_true', Bool.false_eq_true, Bool.true_eq_false, reduceCtorEq, Option.isSome_some, Option.isSome_none, lg_cmp_eq, z] at h) <;> (try omega)) | refine ab_sd (by first | (with_reducible refine vp_in_nI ?_ ?_ <;> omega) | (simp (disch := omega) only [nI_clamp, li_2, li_3, li_4, li_5, li_6, li_7, li_8, li_9, li_10, li_40, li_120, pk_mul, nI_add, nI_1, ix_eq, ix_lt, ix_le, ix_l0, ix_l1, ix_n0, ix_p0, ix_1lt, ix_lt1, ix_1le, ix_le1, ix_le0, ix_0lt, ab_z0, ab_z1, i_10, i_01, eq_self, ab_ozn, ab_ozp, ab_o_some, not_true_eq_false, not_false_eq_true, Bool.not_eq_false, Bool.not_eq_true, Bool.not_eq_false', Bool.not_eq_true', Bool.false_eq_true, Bool.true_eq_false, reduceCtorEq, Option.isSome_some, Option.isSome_none, lg_cmp_eq, z]; with_reducible refine vp_in_nI ?_ ?_ <;> omega)) ?_ | refine ab_sd ?_ ?_ | refine ab_sz (Or.inl rfl) ?_ | refine ab_sz (Or.inr rfl) ?_ | refine ab_sz ?_ ?_)
  all_goals (rw [h] at hQ; exact hQ)
theorem x_allowed (hω : ω.2.2.2 = ab_SH) (T : RepT S μ) (X : RepX S μ) (hI : Iv S) {x y z v : Int32} {f h q m : Nat} {k : Nat} (ex : x = nI f) (ey : y = nI h) (ez : z = nI q) (ev : v = nI m) (hf : f < s_nT S) (hh : h < 4) (hq : h = 2 → q ∈ s_ch S f) (hm : m < s_nX S) (hQ : Q (s_us2 S f h q k m) μ) : ab_CI l ω mX9_allowed [.ref 7, .int x, .int y, .int z, .int v] μ Q := by
  subst ex ey ez ev
  refine ab_intro (sh := ab_SH) (cd := kX9_allowed) hω vX9_allowed (by decide +kernel) rfl (Nat.le_of_ble_eq_true rfl) (fun j hj hw => ?_)
  have hW := hI.1
  have hX := hW.2.2.2.1
  have c3 : (nI m = -1) ↔ False := ⟨fun q => by have := nI_pos (n := m) (by omega); rw [q] at this; exact this (by decide), False.elim⟩
  unfold s_us2 at hQ
  cases hs : s_has (S.1 61 m) 1 with
  | true =>
    rw [hs] at hQ
    cases ha : s_has (S.1 61 m) 4 with
    | true =>
      rw [ha] at hQ
      repeat' (first | refine hj _ _ _ _ ?_ | (refine br_c (fun h => ?_) (fun h => ?_) <;> (try simp (disch := omega) only [nI_clamp, li_2, li_3, li_4, li_5, li_6, li_7, li_8, li_9, li_10, li_40, li_120, pk_mul, nI_add, nI_1, ix_eq, ix_lt, ix_le, ix_l0, ix_l1, ix_n0, ix_p0, ix_1lt, ix_lt1, ix_1le, ix_le1, ix_le0, ix_0lt, ab_z0, ab_z1, i_10, i_01, eq_self, ab_ozn, ab_ozp, ab_o_some, not_true_eq_false, not_false_eq_true, Bool.not_eq_false, Bool.not_eq_true, Bool.not_eq_false', Bool.not_eq_true', Bool.false_eq_true, Bool.true_eq_false, reduceCtorEq, Option.isSome_some, Option.isSome_none, c3, hs, ha] at h) <;> (try omega)) | (refine br_n (fun h => ?_) (fun h => ?_) <;> (try simp (disch := omega) only [nI_clamp, li_2, li_3, li_4, li_5, li_6, li_7, li_8, li_9, li_10, li_40, li_120, pk_mul, nI_add, nI_1, ix_eq, ix_lt, ix_le, ix_l0, ix_l1, ix_n0, ix_p0, ix_1lt, ix_lt1, ix_1le, ix_le1, ix_le0, ix_0lt, ab_z0, ab_z1, i_10, i_01, eq_self, ab_ozn, ab_ozp, ab_o_some, not_true_eq_false, not_false_eq_true, Bool.not_eq_false, Bool.not_eq_true, Bool.not_eq_false', Bool.not_eq_true', Bool.false_eq_true, Bool.true_eq_false, reduceCtorEq, Option.isSome_some, Option.isSome_none, c3, hs, ha] at h) <;> (try omega)) | refine ab_sd (by first | (with_reducible refine vp_in_nI ?_ ?_ <;> omega) | (simp (disch := omega) only [nI_clamp, li_2, li_3, li_4, li_5, li_6, li_7, li_8, li_9, li_10, li_40, li_120, pk_mul, nI_add, nI_1, ix_eq, ix_lt, ix_le, ix_l0, ix_l1, ix_n0, ix_p0, ix_1lt, ix_lt1, ix_1le, ix_le1, ix_le0, ix_0lt, ab_z0, ab_z1, i_10, i_01, eq_self, ab_ozn, ab_ozp, ab_o_some, not_true_eq_false, not_false_eq_true, Bool.not_eq_false, Bool.not_eq_true, Bool.not_eq_false', Bool.not_eq_true', Bool.false_eq_true, Bool.true_eq_false, reduceCtorEq, Option.isSome_some, Option.isSome_none, c3, hs, ha]; with_reducible refine vp_in_nI ?_ ?_ <;> omega)) ?_ | refine x_mhasFlag hω X hW (m := m) (f := 1) rfl rfl hm ?_ | refine x_mhasFlag hω X hW (m := m) (f := 4) rfl rfl hm ?_ | refine ab_sd ?_ ?_ | refine ab_sz (Or.inl rfl) ?_ | refine ab_sz (Or.inr rfl) ?_ | refine ab_sz ?_ ?_)
      all_goals (refine q_of hQ ?_; clear hj hw hQ; simp_all)
    | false =>
      rw [ha] at hQ
      repeat' (first | refine hj _ _ _ _ ?_ | (refine br_c (fun h => ?_) (fun h => ?_) <;> (try simp (disch := omega) only [nI_clamp, li_2, li_3, li_4, li_5, li_6, li_7, li_8, li_9, li_10, li_40, li_120, pk_mul, nI_add, nI_1, ix_eq, ix_lt, ix_le, ix_l0, ix_l1, ix_n0, ix_p0, ix_1lt, ix_lt1, ix_1le, ix_le1, ix_le0, ix_0lt, ab_z0, ab_z1, i_10, i_01, eq_self, ab_ozn, ab_ozp, ab_o_some, not_true_eq_false, not_false_eq_true, Bool.not_eq_false, Bool.not_eq_true, Bool.not_eq_false', Bool.not_eq_true', Bool.false_eq_true, Bool.true_eq_false, reduceCtorEq, Option.isSome_some, Option.isSome_none, c3, hs, ha] at h) <;> (try omega)) | (refine br_n (fun h => ?_) (fun h => ?_) <;> (try simp (disch := omega) only [nI_clamp, li_2, li_3, li_4, li_5, li_6, li_7, li_8, li_9, li_10, li_40, li_120, pk_mul, nI_add, nI_1, ix_eq, ix_lt, ix_le, ix_l0, ix_l1, ix_n0, ix_p0, ix_1lt, ix_lt1, ix_1le, ix_le1, ix_le0, ix_0lt, ab_z0, ab_z1, i_10, i_01, eq_self, ab_ozn, ab_ozp, ab_o_some, not_true_eq_false, not_false_eq_true, Bool.not_eq_false, Bool.not_eq_true, Bool.not_eq_false', Bool.not_eq_true', Bool.false_eq_true, Bool.true_eq_false, reduceCtorEq, Option.isSome_some, Option.isSome_none, c3, hs, ha] at h) <;> (try omega)) | refine ab_sd (by first | (with_reducible refine vp_in_nI ?_ ?_ <;> omega) | (simp (disch := omega) only [nI_clamp, li_2, li_3, li_4, li_5, li_6, li_7, li_8, li_9, li_10, li_40, li_120, pk_mul, nI_add, nI_1, ix_eq, ix_lt, ix_le, ix_l0, ix_l1, ix_n0, ix_p0, ix_1lt, ix_lt1, ix_1le, ix_le1, ix_le0, ix_0lt, ab_z0, ab_z1, i_10, i_01, eq_self, ab_ozn, ab_ozp, ab_o_some, not_true_eq_false, not_false_eq_true, Bool.not_eq_false, Bool.not_eq_true, Bool.not_eq_false', Bool.not_eq_true', Bool.false_eq_true, Bool.true_eq_false, reduceCtorEq, Option.isSome_some, Option.isSome_none, c3, hs, ha]; with_reducible refine vp_in_nI ?_ ?_ <;> omega)) ?_ | refine x_mhasFlag hω X hW (m := m) (f := 1) rfl rfl hm ?_ | refine x_mhasFlag hω X hW (m := m) (f := 4) rfl rfl hm ?_ | refine ab_sd ?_ ?_ | refine ab_sz (Or.inl rfl) ?_ | refine ab_sz (Or.inr rfl) ?_ | refine ab_sz ?_ ?_)
      all_goals (refine q_of hQ ?_; clear hj hw hQ; simp_all)
  | false =>
    rw [hs] at hQ
    by_cases h2 : h = 2
    · subst h2
      have hq := hq rfl
      repeat' (first | refine hj _ _ _ _ ?_ | (refine br_c (fun h => ?_) (fun h => ?_) <;> (try simp (disch := omega) only [nI_clamp, li_2, li_3, li_4, li_5, li_6, li_7, li_8, li_9, li_10, li_40, li_120, pk_mul, nI_add, nI_1, ix_eq, ix_lt, ix_le, ix_l0, ix_l1, ix_n0, ix_p0, ix_1lt, ix_lt1, ix_1le, ix_le1, ix_le0, ix_0lt, ab_z0, ab_z1, i_10, i_01, eq_self, ab_ozn, ab_ozp, ab_o_some, not_true_eq_false, not_false_eq_true, Bool.not_eq_false, Bool.not_eq_true, Bool.not_eq_false', Bool.not_eq_true', Bool.false_eq_true, Bool.true_eq_false, reduceCtorEq, Option.isSome_some, Option.isSome_none, c3, hs] at h) <;> (try omega)) | (refine br_n (fun h => ?_) (fun h => ?_) <;> (try simp (disch := omega) only [nI_clamp, li_2, li_3, li_4, li_5, li_6, li_7, li_8, li_9, li_10, li_40, li_120, pk_mul, nI_add, nI_1, ix_eq, ix_lt, ix_le, ix_l0, ix_l1, ix_n0, ix_p0, ix_1lt, ix_lt1, ix_1le, ix_le1, ix_le0, ix_0lt, ab_z0, ab_z1, i_10, i_01, eq_self, ab_ozn, ab_ozp, ab_o_some, not_true_eq_false, not_false_eq_true, Bool.not_eq_false, Bool.not_eq_true, Bool.not_eq_false', Bool.not_eq_true', Bool.false_eq_true, Bool.true_eq_false, reduceCtorEq, Option.isSome_some, Option.isSome_none, c3, hs] at h) <;> (try omega)) | refine ab_sd (by first | (with_reducible refine vp_in_nI ?_ ?_ <;> omega) | (simp (disch := omega) only [nI_clamp, li_2, li_3, li_4, li_5, li_6, li_7, li_8, li_9, li_10, li_40, li_120, pk_mul, nI_add, nI_1, ix_eq, ix_lt, ix_le, ix_l0, ix_l1, ix_n0, ix_p0, ix_1lt, ix_lt1, ix_1le, ix_le1, ix_le0, ix_0lt, ab_z0, ab_z1, i_10, i_01, eq_self, ab_ozn, ab_ozp, ab_o_some, not_true_eq_false, not_false_eq_true, Bool.not_eq_false, Bool.not_eq_true, Bool.not_eq_false', Bool.not_eq_true', Bool.false_eq_true, Bool.true_eq_false, reduceCtorEq, Option.isSome_some, Option.isSome_none, c3, hs]; with_reducible refine vp_in_nI ?_ ?_ <;> omega)) ?_ | refine x_mhasFlag hω X hW (m := m) (f := 1) rfl rfl hm ?_ | refine x_hasStaticAhead hω T hW (f := f) (q := q) rfl rfl hf hq ?_ | refine ab_sd ?_ ?_ | refine ab_sz (Or.inl rfl) ?_ | refine ab_sz (Or.inr rfl) ?_ | refine ab_sz ?_ ?_)
      all_goals (refine q_of hQ ?_; clear hj hw hQ; simp_all)
    · cases ha : s_has (S.1 61 m) 4 with
      | true =>
        rw [ha] at hQ
        repeat' (first | refine hj _ _ _ _ ?_ | (refine br_c (fun h => ?_) (fun h => ?_) <;> (try simp (disch := omega) only [nI_clamp, li_2, li_3, li_4, li_5, li_6, li_7, li_8, li_9, li_10, li_40, li_120, pk_mul, nI_add, nI_1, ix_eq, ix_lt, ix_le, ix_l0, ix_l1, ix_n0, ix_p0, ix_1lt, ix_lt1, ix_1le, ix_le1, ix_le0, ix_0lt, ab_z0, ab_z1, i_10, i_01, eq_self, ab_ozn, ab_ozp, ab_o_some, not_true_eq_false, not_false_eq_true, Bool.not_eq_false, Bool.not_eq_true, Bool.not_eq_false', Bool.not_eq_true', Bool.false_eq_true, Bool.true_eq_false, reduceCtorEq, Option.isSome_some, Option.isSome_none, c3, hs, ha] at h) <;> (try omega)) | (refine br_n (fun h => ?_) (fun h => ?_) <;> (try simp (disch := omega) only [nI_clamp, li_2, li_3, li_4, li_5, li_6, li_7, li_8, li_9, li_10, li_40, li_120, pk_mul, nI_add, nI_1, ix_eq, ix_lt, ix_le, ix_l0, ix_l1, ix_n0, ix_p0, ix_1lt, ix_lt1, ix_1le, ix_le1, ix_le0, ix_0lt, ab_z0, ab_z1, i_10, i_01, eq_self, ab_ozn, ab_ozp, ab_o_some, not_true_eq_false, not_false_eq_true, Bool.not_eq_false, Bool.not_eq_true, Bool.not_eq_false', Bool.not_eq_true', Bool.false_eq_true, Bool.true_eq_false, reduceCtorEq, Option.isSome_some, Option.isSome_none, c3, hs, ha] at h) <;> (try omega)) | refine ab_sd (by first | (with_reducible refine vp_in_nI ?_ ?_ <;> omega) | (simp (disch := omega) only [nI_clamp, li_2, li_3, li_4, li_5, li_6, li_7, li_8, li_9, li_10, li_40, li_120, pk_mul, nI_add, nI_1, ix_eq, ix_lt, ix_le, ix_l0, ix_l1, ix_n0, ix_p0, ix_1lt, ix_lt1, ix_1le, ix_le1, ix_le0, ix_0lt, ab_z0, ab_z1, i_10, i_01, eq_self, ab_ozn, ab_ozp, ab_o_some, not_true_eq_false, not_false_eq_true, Bool.not_eq_false, Bool.not_eq_true, Bool.not_eq_false', Bool.not_eq_true', Bool.false_eq_true, Bool.true_eq_false, reduceCtorEq, Option.isSome_some, Option.isSome_none, c3, hs, ha]; with_reducible refine vp_in_nI ?_ ?_ <;> omega)) ?_ | refine x_mhasFlag hω X hW (m := m) (f := 1) rfl rfl hm ?_ | refine x_mhasFlag hω X hW (m := m) (f := 4) rfl rfl hm ?_ | refine ab_sd ?_ ?_ | refine ab_sz (Or.inl rfl) ?_ | refine ab_sz (Or.inr rfl) ?_ | refine ab_sz ?_ ?_)
        all_goals (refine q_of hQ ?_; clear hj hw hQ; simp_all)
      | false =>
        rw [ha] at hQ
        repeat' (first | refine hj _ _ _ _ ?_ | (refine br_c (fun h => ?_) (fun h => ?_) <;> (try simp (disch := omega) only [nI_clamp, li_2, li_3, li_4, li_5, li_6, li_7, li_8, li_9, li_10, li_40, li_120, pk_mul, nI_add, nI_1, ix_eq, ix_lt, ix_le, ix_l0, ix_l1, ix_n0, ix_p0, ix_1lt, ix_lt1, ix_1le, ix_le1, ix_le0, ix_0lt, ab_z0, ab_z1, i_10, i_01, eq_self, ab_ozn, ab_ozp, ab_o_some, not_true_eq_false, not_false_eq_true, Bool.not_eq_false, Bool.not_eq_true, Bool.not_eq_false', Bool.not_eq_true', Bool.false_eq_true, Bool.true_eq_false, reduceCtorEq, Option.isSome_some, Option.isSome_none, c3, hs, ha] at h) <;> (try omega)) | (refine br_n (fun h => ?_) (fun h => ?_) <;> (try simp (disch := omega) only [nI_clamp, li_2, li_3, li_4, li_5, li_6, li_7, li_8, li_9, li_10, li_40, li_120, pk_mul, nI_add, nI_1, ix_eq, ix_lt, ix_le, ix_l0, ix_l1, ix_n0, ix_p0, ix_1lt, ix_lt1, ix_1le, ix_le1, ix_le0, ix_0lt, ab_z0, ab_z1, i_10, i_01, eq_self, ab_ozn, ab_ozp, ab_o_some, not_true_eq_false, not_false_eq_true, Bool.not_eq_false, Bool.not_eq_true, Bool.not_eq_false', Bool.not_eq_true', Bool.false_eq_true, Bool.true_eq_false, reduceCtorEq, Option.isSome_some, Option.isSome_none, c3, hs, ha] at h) <;> (try omega)) | refine ab_sd (by first | (with_reducible refine vp_in_nI ?_ ?_ <;> omega) | (simp (disch := omega) only [nI_clamp, li_2, li_3, li_4, li_5, li_6, li_7, li_8, li_9, li_10, li_40, li_120, pk_mul, nI_add, nI_1, ix_eq, ix_lt, ix_le, ix_l0, ix_l1, ix_n0, ix_p0, ix_1lt, ix_lt1, ix_1le, ix_le1, ix_le0, ix_0lt, ab_z0, ab_z1, i_10, i_01, eq_self, ab_ozn, ab_ozp, ab_o_some, not_true_eq_false, not_false_eq_true, Bool.not_eq_false, Bool.not_eq_true, Bool.not_eq_false', Bool.not_eq_true', Bool.false_eq_true, Bool.true_eq_false, reduceCtorEq, Option.isSome_some, Option.isSome_none, c3, hs, ha]; with_reducible refine vp_in_nI ?_ ?_ <;> omega)) ?_ | refine x_mhasFlag hω X hW (m := m) (f := 1) rfl rfl hm ?_ | refine x_mhasFlag hω X hW (m := m) (f := 4) rfl rfl hm ?_ | refine ab_sd ?_ ?_ | refine ab_sz (Or.inl rfl) ?_ | refine ab_sz (Or.inr rfl) ?_ | refine ab_sz ?_ ?_)
        all_goals (refine q_of hQ ?_; clear hj hw hQ; simp_all)
theorem s_sel_x (hI : Iv S) {f y0 q g x : Nat} {w : Int64} (hg : g < 20) (hw1 : ∀ i, ab_bt w i = s_pg S g (fun m => s_of S q m && s_opM S f (nI y0) q m) i) {i : Nat} (hb : s_bst S w i = true) (hd : s_dg S i g = some x) (hle : ∀ i m, i < s_nT S → s_bst S w i = true → s_dg S i g = some m → x ≤ m) : s_mn S f y0 q (g / 10) (g % 10) (s_nX S) = some x := by
  have hW := hI.1
  obtain ⟨a1, a2, a3, a4, a5⟩ := s_dg_some hW hd
  have hbit : ab_bt w i = true := by unfold s_bst at hb; simp only [Bool.and_eq_true] at hb; exact hb.1
  have hp := hbit
  rw [hw1 i, s_pg_some hd] at hp
  refine s_mn_is hW a1 ?_ (fun y hy hsy => ?_)
  · unfold s_sel
    simp only [Bool.and_eq_true] at hp
    simp [a3, a4, hp.1, hp.2]
  · unfold s_sel at hsy
    simp only [Bool.and_eq_true, beq_iff_eq] at hsy
    have hdy := s_dg_m hI hy
    rw [hsy.1.1.1, hsy.1.1.2, show 10 * (g / 10) + g % 10 = g by omega] at hdy
    have hyT := (hW.2.2.2.2.2.2 y hy).1
    have hby : ab_bt w (S.1 57 y) = true := by rw [hw1, s_pg_some hdy]; simp [hsy.1.2, hsy.2]
    rw [a2]
    cases hE : ab_ex (fun u => ab_bt w u && S.1 50 u == 0) (s_nT S) with
    | true =>
      unfold s_bst at hb
      rw [hE, hbit] at hb
      simp at hb
      refine Or.inl ⟨hb, fun hc => hle _ y hyT ?_ hdy⟩
      unfold s_bst
      rw [hE, hby]
      simp [hc]
    | false =>
      have nc : ∀ u, u < s_nT S → ab_bt w u = true → ¬ S.1 50 u = 0 := fun u hu hbu hc => by
        rw [ab_ex_iff.mpr ⟨u, hu, by simp [hbu, hc]⟩] at hE; cases hE
      refine Or.inr ⟨nc i a5 hbit, nc _ hyT hby, hle _ y hyT ?_ hdy⟩
      unfold s_bst
      rw [hE, hby]
      simp
theorem s_sel_c (hI : Iv S) {f y0 q g : Nat} {w : Int64} (hg : g < 20) (hw1 : ∀ i, ab_bt w i = s_pg S g (fun m => s_of S q m && s_opM S f (nI y0) q m) i) : ab_pc w = ab_cnt (s_sel S f y0 q (g / 10) (g % 10)) (s_nX S) := by
  have : ab_cnt (s_sel S f y0 q (g / 10) (g % 10)) (s_nX S) = ab_cnt (fun m => S.1 58 m == g / 10 && S.1 59 m == g % 10 && (s_of S q m && s_opM S f (nI y0) q m)) (s_nX S) := by
    refine ab_cnt_congr (fun m _ => ?_)
    unfold s_sel
    cases (S.1 58 m == g / 10) <;> cases (S.1 59 m == g % 10) <;> cases s_of S q m <;> simp
  rw [this, s_cnt_pg hI (by omega)]
  unfold ab_pc
  exact ab_cnt_congr (fun i _ => hw1 i)
theorem x_meant (hω : ω.2.2.2 = ab_SH) (C : RepC S μ) (hI : Iv S) (hR : Rk S ρ) {x y z v : Int32} {f y0 g : Nat} {o : Option Nat} (ex : x = nI f) (ey : y = nI y0) (ez : z = ab_o1 o) (ev : v = nI g) (hf : f < s_nT S) (hh : y0 < 4) (ho : ∀ q, o = some q → q < s_nT S ∧ (y0 = 2 → q ∈ s_ch S f)) (hg : g < 20) (hQ0 : o = none → ∀ μ', RepC S μ' → SameQ μ μ' → Q (-11) μ') (hQ : ∀ q, o = some q → ∀ μ', RepC S μ' → SameQ μ μ' → Q (if y0 < 2 ∧ s_open S f q = false then -11 else s_us1 S f y0 q (g / 10) (g % 10)) μ') : ab_CI l ω mX9_meant [.ref 7, .int x, .int y, .int z, .int v] μ Q := by
  subst ex ey ez ev
  refine ab_intro (sh := ab_SH) (cd := kX9_meant) hω vX9_meant (by decide +kernel) rfl (Nat.le_of_ble_eq_true rfl) (fun j hj hw => ?_)
  have hjx : ∀ i ll st μ, i ∉ ([14, 35, 52, 60] : List Nat) → _ → j i ll st μ := fun i ll st μ _ h => hj i ll st μ h
  have hW := hI.1
  have hT := hW.2.2.1.2
  have hX := hW.2.2.2.1
  have T := C.2.1
  have M := C.1
  cases o with
  | none =>
    repeat' (first | refine hjx _ _ _ _ (by decide) ?_ | (refine br_c (fun h => ?_) (fun h => ?_) <;> (try simp (disch := omega) only [nI_clamp, li_2, li_3, li_4, li_5, li_6, li_7, li_8, li_9, li_10, li_40, li_120, pk_mul, nI_add, nI_1, ix_eq, ix_lt, ix_le, ix_l0, ix_l1, ix_n0, ix_p0, ix_1lt, ix_lt1, ix_1le, ix_le1, ix_le0, ix_0lt, ab_z0, ab_z1, i_10, i_01, eq_self, ab_ozn, ab_ozp, ab_o_some, not_true_eq_false, not_false_eq_true, Bool.not_eq_false, Bool.not_eq_true, Bool.not_eq_false', Bool.not_eq_true', Bool.false_eq_true, Bool.true_eq_false, reduceCtorEq, Option.isSome_some, Option.isSome_none, ab_o1p] at h) <;> (try omega)) | (refine br_n (fun h => ?_) (fun h => ?_) <;> (try simp (disch := omega) only [nI_clamp, li_2, li_3, li_4, li_5, li_6, li_7, li_8, li_9, li_10, li_40, li_120, pk_mul, nI_add, nI_1, ix_eq, ix_lt, ix_le, ix_l0, ix_l1, ix_n0, ix_p0, ix_1lt, ix_lt1, ix_1le, ix_le1, ix_le0, ix_0lt, ab_z0, ab_z1, i_10, i_01, eq_self, ab_ozn, ab_ozp, ab_o_some, not_true_eq_false, not_false_eq_true, Bool.not_eq_false, Bool.not_eq_true, Bool.not_eq_false', Bool.not_eq_true', Bool.false_eq_true, Bool.true_eq_false, reduceCtorEq, Option.isSome_some, Option.isSome_none, ab_o1p] at h) <;> (try omega)) | refine ab_sd (by first | (with_reducible refine vp_in_nI ?_ ?_ <;> omega) | (simp (disch := omega) only [nI_clamp, li_2, li_3, li_4, li_5, li_6, li_7, li_8, li_9, li_10, li_40, li_120, pk_mul, nI_add, nI_1, ix_eq, ix_lt, ix_le, ix_l0, ix_l1, ix_n0, ix_p0, ix_1lt, ix_lt1, ix_1le, ix_le1, ix_le0, ix_0lt, ab_z0, ab_z1, i_10, i_01, eq_self, ab_ozn, ab_ozp, ab_o_some, not_true_eq_false, not_false_eq_true, Bool.not_eq_false, Bool.not_eq_true, Bool.not_eq_false', Bool.not_eq_true', Bool.false_eq_true, Bool.true_eq_false, reduceCtorEq, Option.isSome_some, Option.isSome_none, ab_o1p]; with_reducible refine vp_in_nI ?_ ?_ <;> omega)) ?_ | refine ab_sd ?_ ?_ | refine ab_sz (Or.inl rfl) ?_ | refine ab_sz (Or.inr rfl) ?_ | refine ab_sz ?_ ?_)
    all_goals exact hQ0 rfl μ C SameQ.rf
  | some q =>
    obtain ⟨hq, hqc⟩ := ho q rfl
    have hQ := hQ q rfl
    have c3 : (nI q = -1) ↔ False := ⟨fun e => by have := nI_pos (n := q) (by omega); rw [e] at this; exact this (by decide), False.elim⟩
    have h52 : ∀ μ' (w w2 : Int64), RepC S μ' → (∀ i, ab_bt w2 i = s_pg S g (fun m => s_of S q m && s_opM S f (nI y0) q m) i) → ¬ w2 = 0 → Q (s_us2 S f y0 q (g / 10) ((s_mn S f y0 q (g / 10) (g % 10) (s_nX S)).getD 0)) μ' → j 52 [some (.ref 7), some (.int (nI f)), some (.int (nI y0)), some (.int (nI q)), some (.int (nI g)), some (.long w), none, some (.long w2), none] [] μ' := by
      intro μ' w w2 C' hw2 hnz hQ
      refine hj _ _ _ _ ?_
      have hsm : ∀ i, ab_bt w2 i = true → (s_dg S i g).isSome = true := fun i hb => by
        rw [hw2 i] at hb
        obtain ⟨m, e, -⟩ := s_pg_t.mp hb
        rw [e]; rfl
      repeat' (first | refine hjx _ _ _ _ (by decide) ?_ | (refine br_c (fun h => ?_) (fun h => ?_) <;> (try simp (disch := omega) only [nI_clamp, li_2, li_3, li_4, li_5, li_6, li_7, li_8, li_9, li_10, li_40, li_120, pk_mul, nI_add, nI_1, ix_eq, ix_lt, ix_le, ix_l0, ix_l1, ix_n0, ix_p0, ix_1lt, ix_lt1, ix_1le, ix_le1, ix_le0, ix_0lt, ab_z0, ab_z1, i_10, i_01, eq_self, ab_ozn, ab_ozp, ab_o_some, not_true_eq_false, not_false_eq_true, Bool.not_eq_false, Bool.not_eq_true, Bool.not_eq_false', Bool.not_eq_true', Bool.false_eq_true, Bool.true_eq_false, reduceCtorEq, Option.isSome_some, Option.isSome_none] at h) <;> (try omega)) | (refine br_n (fun h => ?_) (fun h => ?_) <;> (try simp (disch := omega) only [nI_clamp, li_2, li_3, li_4, li_5, li_6, li_7, li_8, li_9, li_10, li_40, li_120, pk_mul, nI_add, nI_1, ix_eq, ix_lt, ix_le, ix_l0, ix_l1, ix_n0, ix_p0, ix_1lt, ix_lt1, ix_1le, ix_le1, ix_le0, ix_0lt, ab_z0, ab_z1, i_10, i_01, eq_self, ab_ozn, ab_ozp, ab_o_some, not_true_eq_false, not_false_eq_true, Bool.not_eq_false, Bool.not_eq_true, Bool.not_eq_false', Bool.not_eq_true', Bool.false_eq_true, Bool.true_eq_false, reduceCtorEq, Option.isSome_some, Option.isSome_none] at h) <;> (try omega)) | refine ab_sd (by first | (with_reducible refine vp_in_nI ?_ ?_ <;> omega) | (simp (disch := omega) only [nI_clamp, li_2, li_3, li_4, li_5, li_6, li_7, li_8, li_9, li_10, li_40, li_120, pk_mul, nI_add, nI_1, ix_eq, ix_lt, ix_le, ix_l0, ix_l1, ix_n0, ix_p0, ix_1lt, ix_lt1, ix_1le, ix_le1, ix_le0, ix_0lt, ab_z0, ab_z1, i_10, i_01, eq_self, ab_ozn, ab_ozp, ab_o_some, not_true_eq_false, not_false_eq_true, Bool.not_eq_false, Bool.not_eq_true, Bool.not_eq_false', Bool.not_eq_true', Bool.false_eq_true, Bool.true_eq_false, reduceCtorEq, Option.isSome_some, Option.isSome_none]; with_reducible refine vp_in_nI ?_ ?_ <;> omega)) ?_ | refine x_preferred hω C'.2.1 C'.2.2.1 hI (g := g) rfl (by omega) hsm (fun o ho1 ho2 => ?_) | refine ab_sd ?_ ?_ | refine ab_sz (Or.inl rfl) ?_ | refine ab_sz (Or.inr rfl) ?_ | refine ab_sz ?_ ?_)
      cases o with
      | none =>
        exfalso
        obtain ⟨i, hi, hb⟩ := ab_bt_nz.mp hnz
        have hiT : i < s_nT S := by
          apply Classical.byContradiction
          intro c
          rw [hw2 i, s_pg_ge hW (by omega)] at hb; cases hb
        have hz := ho1 rfl
        cases hE : ab_ex (fun u => ab_bt w2 u && S.1 50 u == 0) (s_nT S) with
        | true =>
          obtain ⟨u, hu, hbu⟩ := ab_ex_iff.mp hE
          have := hz u hu
          unfold s_bst at this
          simp only [Bool.and_eq_true] at hbu
          rw [hE, hbu.1, hbu.2] at this
          cases this
        | false =>
          have := hz i hiT
          unfold s_bst at this
          rw [hE, hb] at this
          simp at this
      | some x =>
        obtain ⟨⟨i, hiT, hbi, hdi⟩, hle⟩ := ho2 x rfl
        have hx := (s_dg_some hW hdi).1
        rw [s_sel_x hI hg hw2 hbi hdi hle] at hQ
        refine hj _ _ _ _ ?_
        repeat' (first | refine hjx _ _ _ _ (by decide) ?_ | (refine br_c (fun h => ?_) (fun h => ?_) <;> (try simp (disch := omega) only [nI_clamp, li_2, li_3, li_4, li_5, li_6, li_7, li_8, li_9, li_10, li_40, li_120, pk_mul, nI_add, nI_1, ix_eq, ix_lt, ix_le, ix_l0, ix_l1, ix_n0, ix_p0, ix_1lt, ix_lt1, ix_1le, ix_le1, ix_le0, ix_0lt, ab_z0, ab_z1, i_10, i_01, eq_self, ab_ozn, ab_ozp, ab_o_some, not_true_eq_false, not_false_eq_true, Bool.not_eq_false, Bool.not_eq_true, Bool.not_eq_false', Bool.not_eq_true', Bool.false_eq_true, Bool.true_eq_false, reduceCtorEq, Option.isSome_some, Option.isSome_none] at h) <;> (try omega)) | (refine br_n (fun h => ?_) (fun h => ?_) <;> (try simp (disch := omega) only [nI_clamp, li_2, li_3, li_4, li_5, li_6, li_7, li_8, li_9, li_10, li_40, li_120, pk_mul, nI_add, nI_1, ix_eq, ix_lt, ix_le, ix_l0, ix_l1, ix_n0, ix_p0, ix_1lt, ix_lt1, ix_1le, ix_le1, ix_le0, ix_0lt, ab_z0, ab_z1, i_10, i_01, eq_self, ab_ozn, ab_ozp, ab_o_some, not_true_eq_false, not_false_eq_true, Bool.not_eq_false, Bool.not_eq_true, Bool.not_eq_false', Bool.not_eq_true', Bool.false_eq_true, Bool.true_eq_false, reduceCtorEq, Option.isSome_some, Option.isSome_none] at h) <;> (try omega)) | refine ab_sd (by first | (with_reducible refine vp_in_nI ?_ ?_ <;> omega) | (simp (disch := omega) only [nI_clamp, li_2, li_3, li_4, li_5, li_6, li_7, li_8, li_9, li_10, li_40, li_120, pk_mul, nI_add, nI_1, ix_eq, ix_lt, ix_le, ix_l0, ix_l1, ix_n0, ix_p0, ix_1lt, ix_lt1, ix_1le, ix_le1, ix_le0, ix_0lt, ab_z0, ab_z1, i_10, i_01, eq_self, ab_ozn, ab_ozp, ab_o_some, not_true_eq_false, not_false_eq_true, Bool.not_eq_false, Bool.not_eq_true, Bool.not_eq_false', Bool.not_eq_true', Bool.false_eq_true, Bool.true_eq_false, reduceCtorEq, Option.isSome_some, Option.isSome_none]; with_reducible refine vp_in_nI ?_ ?_ <;> omega)) ?_ | refine x_allowed hω C'.2.1 C'.2.2.1 hI (f := f) (h := y0) (q := q) (m := x) (k := g / 10) rfl rfl rfl rfl hf hh hqc hx ?_ | refine ab_sd ?_ ?_ | refine ab_sz (Or.inl rfl) ?_ | refine ab_sz (Or.inr rfl) ?_ | refine ab_sz ?_ ?_)
        exact hQ
    have h35 : ∀ μ' (w w2 : Int64), RepC S μ' → (∀ i, ab_bt w2 i = s_pg S g (fun m => s_of S q m && s_opM S f (nI y0) q m) i) → Q (if ab_cnt (s_sel S f y0 q (g / 10) (g % 10)) (s_nX S) = 0 then -13 else if 1 < ab_cnt (s_sel S f y0 q (g / 10) (g % 10)) (s_nX S) ∧ g / 10 = 0 then -14 else s_us2 S f y0 q (g / 10) ((s_mn S f y0 q (g / 10) (g % 10) (s_nX S)).getD 0)) μ' → j 35 [some (.ref 7), some (.int (nI f)), some (.int (nI y0)), some (.int (nI q)), some (.int (nI g)), some (.long w), none, some (.long w2), none] [] μ' := by
      intro μ' w w2 C' hw2 hQ
      refine hj _ _ _ _ ?_
      have hpc := s_sel_c hI (f := f) (y0 := y0) hg hw2
      have hle : ab_pc w2 ≤ 64 := ab_cnt_le _ 64
      rw [← hpc] at hQ
      by_cases hz : w2 = 0
      · rw [if_pos (ab_pc_zero.mpr hz)] at hQ
        repeat' (first | refine hjx _ _ _ _ (by decide) ?_ | (refine br_c (fun h => ?_) (fun h => ?_) <;> (try simp (disch := omega) only [nI_clamp, li_2, li_3, li_4, li_5, li_6, li_7, li_8, li_9, li_10, li_40, li_120, pk_mul, nI_add, nI_1, ix_eq, ix_lt, ix_le, ix_l0, ix_l1, ix_n0, ix_p0, ix_1lt, ix_lt1, ix_1le, ix_le1, ix_le0, ix_0lt, ab_z0, ab_z1, i_10, i_01, eq_self, ab_ozn, ab_ozp, ab_o_some, not_true_eq_false, not_false_eq_true, Bool.not_eq_false, Bool.not_eq_true, Bool.not_eq_false', Bool.not_eq_true', Bool.false_eq_true, Bool.true_eq_false, reduceCtorEq, Option.isSome_some, Option.isSome_none, lg_cmp_eq, hz] at h) <;> (try omega)) | (refine br_n (fun h => ?_) (fun h => ?_) <;> (try simp (disch := omega) only [nI_clamp, li_2, li_3, li_4, li_5, li_6, li_7, li_8, li_9, li_10, li_40, li_120, pk_mul, nI_add, nI_1, ix_eq, ix_lt, ix_le, ix_l0, ix_l1, ix_n0, ix_p0, ix_1lt, ix_lt1, ix_1le, ix_le1, ix_le0, ix_0lt, ab_z0, ab_z1, i_10, i_01, eq_self, ab_ozn, ab_ozp, ab_o_some, not_true_eq_false, not_false_eq_true, Bool.not_eq_false, Bool.not_eq_true, Bool.not_eq_false', Bool.not_eq_true', Bool.false_eq_true, Bool.true_eq_false, reduceCtorEq, Option.isSome_some, Option.isSome_none, lg_cmp_eq, hz] at h) <;> (try omega)) | refine ab_sd (by first | (with_reducible refine vp_in_nI ?_ ?_ <;> omega) | (simp (disch := omega) only [nI_clamp, li_2, li_3, li_4, li_5, li_6, li_7, li_8, li_9, li_10, li_40, li_120, pk_mul, nI_add, nI_1, ix_eq, ix_lt, ix_le, ix_l0, ix_l1, ix_n0, ix_p0, ix_1lt, ix_lt1, ix_1le, ix_le1, ix_le0, ix_0lt, ab_z0, ab_z1, i_10, i_01, eq_self, ab_ozn, ab_ozp, ab_o_some, not_true_eq_false, not_false_eq_true, Bool.not_eq_false, Bool.not_eq_true, Bool.not_eq_false', Bool.not_eq_true', Bool.false_eq_true, Bool.true_eq_false, reduceCtorEq, Option.isSome_some, Option.isSome_none, lg_cmp_eq, hz]; with_reducible refine vp_in_nI ?_ ?_ <;> omega)) ?_ | refine ab_sd ?_ ?_ | refine ab_sz (Or.inl rfl) ?_ | refine ab_sz (Or.inr rfl) ?_ | refine ab_sz ?_ ?_)
        all_goals exact hQ
      · rw [if_neg (fun e => hz (ab_pc_zero.mp e))] at hQ
        cases hk : (g / 10 == 1) with
        | true =>
          simp only [beq_iff_eq] at hk
          rw [if_neg (by omega)] at hQ
          have hk2 : (g / 10 == 1) = true := by simpa using hk
          repeat' (first | refine hjx _ _ _ _ (by decide) ?_ | (refine br_c (fun h => ?_) (fun h => ?_) <;> (try simp (disch := omega) only [nI_clamp, li_2, li_3, li_4, li_5, li_6, li_7, li_8, li_9, li_10, li_40, li_120, pk_mul, nI_add, nI_1, ix_eq, ix_lt, ix_le, ix_l0, ix_l1, ix_n0, ix_p0, ix_1lt, ix_lt1, ix_1le, ix_le1, ix_le0, ix_0lt, ab_z0, ab_z1, i_10, i_01, eq_self, ab_ozn, ab_ozp, ab_o_some, not_true_eq_false, not_false_eq_true, Bool.not_eq_false, Bool.not_eq_true, Bool.not_eq_false', Bool.not_eq_true', Bool.false_eq_true, Bool.true_eq_false, reduceCtorEq, Option.isSome_some, Option.isSome_none, lg_cmp_eq, hz, hk2] at h) <;> (try omega)) | (refine br_n (fun h => ?_) (fun h => ?_) <;> (try simp (disch := omega) only [nI_clamp, li_2, li_3, li_4, li_5, li_6, li_7, li_8, li_9, li_10, li_40, li_120, pk_mul, nI_add, nI_1, ix_eq, ix_lt, ix_le, ix_l0, ix_l1, ix_n0, ix_p0, ix_1lt, ix_lt1, ix_1le, ix_le1, ix_le0, ix_0lt, ab_z0, ab_z1, i_10, i_01, eq_self, ab_ozn, ab_ozp, ab_o_some, not_true_eq_false, not_false_eq_true, Bool.not_eq_false, Bool.not_eq_true, Bool.not_eq_false', Bool.not_eq_true', Bool.false_eq_true, Bool.true_eq_false, reduceCtorEq, Option.isSome_some, Option.isSome_none, lg_cmp_eq, hz, hk2] at h) <;> (try omega)) | refine ab_sd (by first | (with_reducible refine vp_in_nI ?_ ?_ <;> omega) | (simp (disch := omega) only [nI_clamp, li_2, li_3, li_4, li_5, li_6, li_7, li_8, li_9, li_10, li_40, li_120, pk_mul, nI_add, nI_1, ix_eq, ix_lt, ix_le, ix_l0, ix_l1, ix_n0, ix_p0, ix_1lt, ix_lt1, ix_1le, ix_le1, ix_le0, ix_0lt, ab_z0, ab_z1, i_10, i_01, eq_self, ab_ozn, ab_ozp, ab_o_some, not_true_eq_false, not_false_eq_true, Bool.not_eq_false, Bool.not_eq_true, Bool.not_eq_false', Bool.not_eq_true', Bool.false_eq_true, Bool.true_eq_false, reduceCtorEq, Option.isSome_some, Option.isSome_none, lg_cmp_eq, hz, hk2]; with_reducible refine vp_in_nI ?_ ?_ <;> omega)) ?_ | refine x_isMethodGroup hω (g := g) rfl (by omega) ?_ | refine ab_sd ?_ ?_ | refine ab_sz (Or.inl rfl) ?_ | refine ab_sz (Or.inr rfl) ?_ | refine ab_sz ?_ ?_)
          exact h52 μ' w w2 C' hw2 hz hQ
        | false =>
          have hk0 : g / 10 = 0 := by
            have : ¬ g / 10 = 1 := by simpa using hk
            omega
          by_cases h1 : 1 < ab_pc w2
          · rw [if_pos ⟨h1, hk0⟩] at hQ
            repeat' (first | refine hjx _ _ _ _ (by decide) ?_ | (refine br_c (fun h => ?_) (fun h => ?_) <;> (try simp (disch := omega) only [nI_clamp, li_2, li_3, li_4, li_5, li_6, li_7, li_8, li_9, li_10, li_40, li_120, pk_mul, nI_add, nI_1, ix_eq, ix_lt, ix_le, ix_l0, ix_l1, ix_n0, ix_p0, ix_1lt, ix_lt1, ix_1le, ix_le1, ix_le0, ix_0lt, ab_z0, ab_z1, i_10, i_01, eq_self, ab_ozn, ab_ozp, ab_o_some, not_true_eq_false, not_false_eq_true, Bool.not_eq_false, Bool.not_eq_true, Bool.not_eq_false', Bool.not_eq_true', Bool.false_eq_true, Bool.true_eq_false, reduceCtorEq, Option.isSome_some, Option.isSome_none, lg_cmp_eq, hz, hk] at h) <;> (try omega)) | (refine br_n (fun h => ?_) (fun h => ?_) <;> (try simp (disch := omega) only [nI_clamp, li_2, li_3, li_4, li_5, li_6, li_7, li_8, li_9, li_10, li_40, li_120, pk_mul, nI_add, nI_1, ix_eq, ix_lt, ix_le, ix_l0, ix_l1, ix_n0, ix_p0, ix_1lt, ix_lt1, ix_1le, ix_le1, ix_le0, ix_0lt, ab_z0, ab_z1, i_10, i_01, eq_self, ab_ozn, ab_ozp, ab_o_some, not_true_eq_false, not_false_eq_true, Bool.not_eq_false, Bool.not_eq_true, Bool.not_eq_false', Bool.not_eq_true', Bool.false_eq_true, Bool.true_eq_false, reduceCtorEq, Option.isSome_some, Option.isSome_none, lg_cmp_eq, hz, hk] at h) <;> (try omega)) | refine ab_sd (by first | (with_reducible refine vp_in_nI ?_ ?_ <;> omega) | (simp (disch := omega) only [nI_clamp, li_2, li_3, li_4, li_5, li_6, li_7, li_8, li_9, li_10, li_40, li_120, pk_mul, nI_add, nI_1, ix_eq, ix_lt, ix_le, ix_l0, ix_l1, ix_n0, ix_p0, ix_1lt, ix_lt1, ix_1le, ix_le1, ix_le0, ix_0lt, ab_z0, ab_z1, i_10, i_01, eq_self, ab_ozn, ab_ozp, ab_o_some, not_true_eq_false, not_false_eq_true, Bool.not_eq_false, Bool.not_eq_true, Bool.not_eq_false', Bool.not_eq_true', Bool.false_eq_true, Bool.true_eq_false, reduceCtorEq, Option.isSome_some, Option.isSome_none, lg_cmp_eq, hz, hk]; with_reducible refine vp_in_nI ?_ ?_ <;> omega)) ?_ | refine x_isMethodGroup hω (g := g) rfl (by omega) ?_ | refine x_bitCount hω ?_ | refine ab_sd ?_ ?_ | refine ab_sz (Or.inl rfl) ?_ | refine ab_sz (Or.inr rfl) ?_ | refine ab_sz ?_ ?_)
            all_goals exact hQ
          · rw [if_neg (fun e => h1 e.1)] at hQ
            repeat' (first | refine hjx _ _ _ _ (by decide) ?_ | (refine br_c (fun h => ?_) (fun h => ?_) <;> (try simp (disch := omega) only [nI_clamp, li_2, li_3, li_4, li_5, li_6, li_7, li_8, li_9, li_10, li_40, li_120, pk_mul, nI_add, nI_1, ix_eq, ix_lt, ix_le, ix_l0, ix_l1, ix_n0, ix_p0, ix_1lt, ix_lt1, ix_1le, ix_le1, ix_le0, ix_0lt, ab_z0, ab_z1, i_10, i_01, eq_self, ab_ozn, ab_ozp, ab_o_some, not_true_eq_false, not_false_eq_true, Bool.not_eq_false, Bool.not_eq_true, Bool.not_eq_false', Bool.not_eq_true', Bool.false_eq_true, Bool.true_eq_false, reduceCtorEq, Option.isSome_some, Option.isSome_none, lg_cmp_eq, hz, hk] at h) <;> (try omega)) | (refine br_n (fun h => ?_) (fun h => ?_) <;> (try simp (disch := omega) only [nI_clamp, li_2, li_3, li_4, li_5, li_6, li_7, li_8, li_9, li_10, li_40, li_120, pk_mul, nI_add, nI_1, ix_eq, ix_lt, ix_le, ix_l0, ix_l1, ix_n0, ix_p0, ix_1lt, ix_lt1, ix_1le, ix_le1, ix_le0, ix_0lt, ab_z0, ab_z1, i_10, i_01, eq_self, ab_ozn, ab_ozp, ab_o_some, not_true_eq_false, not_false_eq_true, Bool.not_eq_false, Bool.not_eq_true, Bool.not_eq_false', Bool.not_eq_true', Bool.false_eq_true, Bool.true_eq_false, reduceCtorEq, Option.isSome_some, Option.isSome_none, lg_cmp_eq, hz, hk] at h) <;> (try omega)) | refine ab_sd (by first | (with_reducible refine vp_in_nI ?_ ?_ <;> omega) | (simp (disch := omega) only [nI_clamp, li_2, li_3, li_4, li_5, li_6, li_7, li_8, li_9, li_10, li_40, li_120, pk_mul, nI_add, nI_1, ix_eq, ix_lt, ix_le, ix_l0, ix_l1, ix_n0, ix_p0, ix_1lt, ix_lt1, ix_1le, ix_le1, ix_le0, ix_0lt, ab_z0, ab_z1, i_10, i_01, eq_self, ab_ozn, ab_ozp, ab_o_some, not_true_eq_false, not_false_eq_true, Bool.not_eq_false, Bool.not_eq_true, Bool.not_eq_false', Bool.not_eq_true', Bool.false_eq_true, Bool.true_eq_false, reduceCtorEq, Option.isSome_some, Option.isSome_none, lg_cmp_eq, hz, hk]; with_reducible refine vp_in_nI ?_ ?_ <;> omega)) ?_ | refine x_isMethodGroup hω (g := g) rfl (by omega) ?_ | refine x_bitCount hω ?_ | refine ab_sd ?_ ?_ | refine ab_sz (Or.inl rfl) ?_ | refine ab_sz (Or.inr rfl) ?_ | refine ab_sz ?_ ?_)
            exact h52 μ' w w2 C' hw2 hz hQ
    have main : (∀ μ', RepC S μ' → SameQ μ μ' → Q (s_us1 S f y0 q (g / 10) (g % 10)) μ') → j 14 [some (.ref 7), some (.int (nI f)), some (.int (nI y0)), some (.int (nI q)), some (.int (nI g)), none, none, none, none] [] μ := by
      intro hQ
      refine hj _ _ _ _ ?_
      unfold s_us1 at hQ
      repeat' (first | refine hjx _ _ _ _ (by decide) ?_ | (refine br_c (fun h => ?_) (fun h => ?_) <;> (try simp (disch := omega) only [nI_clamp, li_2, li_3, li_4, li_5, li_6, li_7, li_8, li_9, li_10, li_40, li_120, pk_mul, nI_add, nI_1, ix_eq, ix_lt, ix_le, ix_l0, ix_l1, ix_n0, ix_p0, ix_1lt, ix_lt1, ix_1le, ix_le1, ix_le0, ix_0lt, ab_z0, ab_z1, i_10, i_01, eq_self, ab_ozn, ab_ozp, ab_o_some, not_true_eq_false, not_false_eq_true, Bool.not_eq_false, Bool.not_eq_true, Bool.not_eq_false', Bool.not_eq_true', Bool.false_eq_true, Bool.true_eq_false, reduceCtorEq, Option.isSome_some, Option.isSome_none, lg_cmp_eq] at h) <;> (try omega)) | (refine br_n (fun h => ?_) (fun h => ?_) <;> (try simp (disch := omega) only [nI_clamp, li_2, li_3, li_4, li_5, li_6, li_7, li_8, li_9, li_10, li_40, li_120, pk_mul, nI_add, nI_1, ix_eq, ix_lt, ix_le, ix_l0, ix_l1, ix_n0, ix_p0, ix_1lt, ix_lt1, ix_1le, ix_le1, ix_le0, ix_0lt, ab_z0, ab_z1, i_10, i_01, eq_self, ab_ozn, ab_ozp, ab_o_some, not_true_eq_false, not_false_eq_true, Bool.not_eq_false, Bool.not_eq_true, Bool.not_eq_false', Bool.not_eq_true', Bool.false_eq_true, Bool.true_eq_false, reduceCtorEq, Option.isSome_some, Option.isSome_none, lg_cmp_eq] at h) <;> (try omega)) | refine ab_sd (by first | (with_reducible refine vp_in_nI ?_ ?_ <;> omega) | (simp (disch := omega) only [nI_clamp, li_2, li_3, li_4, li_5, li_6, li_7, li_8, li_9, li_10, li_40, li_120, pk_mul, nI_add, nI_1, ix_eq, ix_lt, ix_le, ix_l0, ix_l1, ix_n0, ix_p0, ix_1lt, ix_lt1, ix_1le, ix_le1, ix_le0, ix_0lt, ab_z0, ab_z1, i_10, i_01, eq_self, ab_ozn, ab_ozp, ab_o_some, not_true_eq_false, not_false_eq_true, Bool.not_eq_false, Bool.not_eq_true, Bool.not_eq_false', Bool.not_eq_true', Bool.false_eq_true, Bool.true_eq_false, reduceCtorEq, Option.isSome_some, Option.isSome_none, lg_cmp_eq]; with_reducible refine vp_in_nI ?_ ?_ <;> omega)) ?_ | refine x_membersOf hω C hI hR (t := q) (g := g) rfl rfl hq (by omega) (fun μ' w C' sq hw2 => ?_) | refine x_openOnes hω C'.2.1 C'.2.2.1 hW (f := f) (q := q) (g := g) rfl rfl rfl hf hq (by omega) (fun w2 hw3 => ?_) | refine ab_sd ?_ ?_ | refine ab_sz (Or.inl rfl) ?_ | refine ab_sz (Or.inr rfl) ?_ | refine ab_sz ?_ ?_)
      · have hQ := hQ μ' C' sq
        rw [if_neg (fun e => h ((s_hasOne_pg hI (by omega) hw2).mpr e))] at hQ
        refine h35 μ' _ _ C' (fun i => ?_) hQ
        by_cases hi : i < 64
        · rw [hw3 i hi, hw2 i]
          cases e : s_dg S i g with
          | none => simp [s_pg_none e]
          | some m => rw [s_pg_some e, s_pg_some e, s_pg_some e]
        · rw [ab_bt_big (by omega), s_pg_ge hW (by omega)]
      · have hQ := hQ μ' C' sq
        rw [if_pos ((s_hasOne_pg hI (by omega) hw2).mp h)] at hQ
        exact hQ
    by_cases h2 : y0 < 2
    · cases ho : s_open S f q with
      | false =>
        rw [if_pos ⟨h2, ho⟩] at hQ
        repeat' (first | refine hjx _ _ _ _ (by decide) ?_ | (refine br_c (fun h => ?_) (fun h => ?_) <;> (try simp (disch := omega) only [nI_clamp, li_2, li_3, li_4, li_5, li_6, li_7, li_8, li_9, li_10, li_40, li_120, pk_mul, nI_add, nI_1, ix_eq, ix_lt, ix_le, ix_l0, ix_l1, ix_n0, ix_p0, ix_1lt, ix_lt1, ix_1le, ix_le1, ix_le0, ix_0lt, ab_z0, ab_z1, i_10, i_01, eq_self, ab_ozn, ab_ozp, ab_o_some, not_true_eq_false, not_false_eq_true, Bool.not_eq_false, Bool.not_eq_true, Bool.not_eq_false', Bool.not_eq_true', Bool.false_eq_true, Bool.true_eq_false, reduceCtorEq, Option.isSome_some, Option.isSome_none, ab_o1_some, c3, ho] at h) <;> (try omega)) | (refine br_n (fun h => ?_) (fun h => ?_) <;> (try simp (disch := omega) only [nI_clamp, li_2, li_3, li_4, li_5, li_6, li_7, li_8, li_9, li_10, li_40, li_120, pk_mul, nI_add, nI_1, ix_eq, ix_lt, ix_le, ix_l0, ix_l1, ix_n0, ix_p0, ix_1lt, ix_lt1, ix_1le, ix_le1, ix_le0, ix_0lt, ab_z0, ab_z1, i_10, i_01, eq_self, ab_ozn, ab_ozp, ab_o_some, not_true_eq_false, not_false_eq_true, Bool.not_eq_false, Bool.not_eq_true, Bool.not_eq_false', Bool.not_eq_true', Bool.false_eq_true, Bool.true_eq_false, reduceCtorEq, Option.isSome_some, Option.isSome_none, ab_o1_some, c3, ho] at h) <;> (try omega)) | refine ab_sd (by first | (with_reducible refine vp_in_nI ?_ ?_ <;> omega) | (simp (disch := omega) only [nI_clamp, li_2, li_3, li_4, li_5, li_6, li_7, li_8, li_9, li_10, li_40, li_120, pk_mul, nI_add, nI_1, ix_eq, ix_lt, ix_le, ix_l0, ix_l1, ix_n0, ix_p0, ix_1lt, ix_lt1, ix_1le, ix_le1, ix_le0, ix_0lt, ab_z0, ab_z1, i_10, i_01, eq_self, ab_ozn, ab_ozp, ab_o_some, not_true_eq_false, not_false_eq_true, Bool.not_eq_false, Bool.not_eq_true, Bool.not_eq_false', Bool.not_eq_true', Bool.false_eq_true, Bool.true_eq_false, reduceCtorEq, Option.isSome_some, Option.isSome_none, ab_o1_some, c3, ho]; with_reducible refine vp_in_nI ?_ ?_ <;> omega)) ?_ | refine x_isTypeOpen hω M T hI (f := f) (t := q) rfl rfl hf hq ?_ | refine ab_sd ?_ ?_ | refine ab_sz (Or.inl rfl) ?_ | refine ab_sz (Or.inr rfl) ?_ | refine ab_sz ?_ ?_)
        all_goals exact hQ μ C SameQ.rf
      | true =>
        rw [if_neg (by rw [ho]; simp)] at hQ
        repeat' (first | refine hjx _ _ _ _ (by decide) ?_ | (refine br_c (fun h => ?_) (fun h => ?_) <;> (try simp (disch := omega) only [nI_clamp, li_2, li_3, li_4, li_5, li_6, li_7, li_8, li_9, li_10, li_40, li_120, pk_mul, nI_add, nI_1, ix_eq, ix_lt, ix_le, ix_l0, ix_l1, ix_n0, ix_p0, ix_1lt, ix_lt1, ix_1le, ix_le1, ix_le0, ix_0lt, ab_z0, ab_z1, i_10, i_01, eq_self, ab_ozn, ab_ozp, ab_o_some, not_true_eq_false, not_false_eq_true, Bool.not_eq_false, Bool.not_eq_true, Bool.not_eq_false', Bool.not_eq_true', Bool.false_eq_true, Bool.true_eq_false, reduceCtorEq, Option.isSome_some, Option.isSome_none, ab_o1_some, c3, ho] at h) <;> (try omega)) | (refine br_n (fun h => ?_) (fun h => ?_) <;> (try simp (disch := omega) only [nI_clamp, li_2, li_3, li_4, li_5, li_6, li_7, li_8, li_9, li_10, li_40, li_120, pk_mul, nI_add, nI_1, ix_eq, ix_lt, ix_le, ix_l0, ix_l1, ix_n0, ix_p0, ix_1lt, ix_lt1, ix_1le, ix_le1, ix_le0, ix_0lt, ab_z0, ab_z1, i_10, i_01, eq_self, ab_ozn, ab_ozp, ab_o_some, not_true_eq_false, not_false_eq_true, Bool.not_eq_false, Bool.not_eq_true, Bool.not_eq_false', Bool.not_eq_true', Bool.false_eq_true, Bool.true_eq_false, reduceCtorEq, Option.isSome_some, Option.isSome_none, ab_o1_some, c3, ho] at h) <;> (try omega)) | refine ab_sd (by first | (with_reducible refine vp_in_nI ?_ ?_ <;> omega) | (simp (disch := omega) only [nI_clamp, li_2, li_3, li_4, li_5, li_6, li_7, li_8, li_9, li_10, li_40, li_120, pk_mul, nI_add, nI_1, ix_eq, ix_lt, ix_le, ix_l0, ix_l1, ix_n0, ix_p0, ix_1lt, ix_lt1, ix_1le, ix_le1, ix_le0, ix_0lt, ab_z0, ab_z1, i_10, i_01, eq_self, ab_ozn, ab_ozp, ab_o_some, not_true_eq_false, not_false_eq_true, Bool.not_eq_false, Bool.not_eq_true, Bool.not_eq_false', Bool.not_eq_true', Bool.false_eq_true, Bool.true_eq_false, reduceCtorEq, Option.isSome_some, Option.isSome_none, ab_o1_some, c3, ho]; with_reducible refine vp_in_nI ?_ ?_ <;> omega)) ?_ | refine x_isTypeOpen hω M T hI (f := f) (t := q) rfl rfl hf hq ?_ | refine ab_sd ?_ ?_ | refine ab_sz (Or.inl rfl) ?_ | refine ab_sz (Or.inr rfl) ?_ | refine ab_sz ?_ ?_)
        exact main hQ
    · rw [if_neg (fun e => h2 e.1)] at hQ
      repeat' (first | refine hjx _ _ _ _ (by decide) ?_ | (refine br_c (fun h => ?_) (fun h => ?_) <;> (try simp (disch := omega) only [nI_clamp, li_2, li_3, li_4, li_5, li_6, li_7, li_8, li_9, li_10, li_40, li_120, pk_mul, nI_add, nI_1, ix_eq, ix_lt, ix_le, ix_l0, ix_l1, ix_n0, ix_p0, ix_1lt, ix_lt1, ix_1le, ix_le1, ix_le0, ix_0lt, ab_z0, ab_z1, i_10, i_01, eq_self, ab_ozn, ab_ozp, ab_o_some, not_true_eq_false, not_false_eq_true, Bool.not_eq_false, Bool.not_eq_true, Bool.not_eq_false', Bool.not_eq_true', Bool.false_eq_true, Bool.true_eq_false, reduceCtorEq, Option.isSome_some, Option.isSome_none, ab_o1_some, c3] at h) <;> (try omega)) | (refine br_n (fun h => ?_) (fun h => ?_) <;> (try simp (disch := omega) only [nI_clamp, li_2, li_3, li_4, li_5, li_6, li_7, li_8, li_9, li_10, li_40, li_120, pk_mul, nI_add, nI_1, ix_eq, ix_lt, ix_le, ix_l0, ix_l1, ix_n0, ix_p0, ix_1lt, ix_lt1, ix_1le, ix_le1, ix_le0, ix_0lt, ab_z0, ab_z1, i_10, i_01, eq_self, ab_ozn, ab_ozp, ab_o_some, not_true_eq_false, not_false_eq_true, Bool.not_eq_false, Bool.not_eq_true, Bool.not_eq_false', Bool.not_eq_true', Bool.false_eq_true, Bool.true_eq_false, reduceCtorEq, Option.isSome_some, Option.isSome_none, ab_o1_some, c3] at h) <;> (try omega)) | refine ab_sd (by first | (with_reducible refine vp_in_nI ?_ ?_ <;> omega) | (simp (disch := omega) only [nI_clamp, li_2, li_3, li_4, li_5, li_6, li_7, li_8, li_9, li_10, li_40, li_120, pk_mul, nI_add, nI_1, ix_eq, ix_lt, ix_le, ix_l0, ix_l1, ix_n0, ix_p0, ix_1lt, ix_lt1, ix_1le, ix_le1, ix_le0, ix_0lt, ab_z0, ab_z1, i_10, i_01, eq_self, ab_ozn, ab_ozp, ab_o_some, not_true_eq_false, not_false_eq_true, Bool.not_eq_false, Bool.not_eq_true, Bool.not_eq_false', Bool.not_eq_true', Bool.false_eq_true, Bool.true_eq_false, reduceCtorEq, Option.isSome_some, Option.isSome_none, ab_o1_some, c3]; with_reducible refine vp_in_nI ?_ ?_ <;> omega)) ?_ | refine ab_sd ?_ ?_ | refine ab_sz (Or.inl rfl) ?_ | refine ab_sz (Or.inr rfl) ?_ | refine ab_sz ?_ ?_)
      exact main hQ
theorem x_use (hω : ω.2.2.2 = ab_SH) (C : RepC S μ) (hI : Iv S) (hR : Rk S ρ) {x y z v w : Int32} (hQ : ∀ μ', RepC S μ' → SameQ μ μ' → Q (a_use S x y z v w) μ') : ab_CI l ω mX10_use [.ref 0, .int x, .int y, .int z, .int v, .int w] μ Q := by
  refine ab_intro (sh := ab_SH) (cd := kX10_use) hω vX10_use (by decide +kernel) rfl (Nat.le_of_ble_eq_true rfl) (fun j hj hw => ?_)
  have hW := hI.1
  have hT := hW.2.2.1.2
  have T := C.2.1
  unfold a_use at hQ
  cases hv : v_use S x y z v w with
  | false =>
    rw [hv] at hQ
    have hQ := hQ μ C SameQ.rf
    unfold v_use at hv
    rw [ab_ok4, ab_ok2] at hv
    have hy12 : (1 < y) ↔ (nI 2 ≤ y) := by
      rw [Int32.lt_iff_toInt_lt, Int32.le_iff_toInt_le]
      show (1 : Int) < _ ↔ (2 : Int) ≤ _
      omega
    repeat' (first | refine hj _ _ _ _ ?_ | (refine br_c (fun h => ?_) (fun h => ?_) <;> (try simp (disch := omega) only [nI_clamp, li_2, li_3, li_4, li_5, li_6, li_7, li_8, li_9, li_10, li_40, li_120, pk_mul, nI_add, nI_1, ix_eq, ix_lt, ix_le, ix_l0, ix_l1, ix_n0, ix_p0, ix_1lt, ix_lt1, ix_1le, ix_le1, ix_le0, ix_0lt, ab_z0, ab_z1, i_10, i_01, eq_self, ab_ozn, ab_ozp, ab_o_some, not_true_eq_false, not_false_eq_true, Bool.not_eq_false, Bool.not_eq_true, Bool.not_eq_false', Bool.not_eq_true', Bool.false_eq_true, Bool.true_eq_false, reduceCtorEq, Option.isSome_some, Option.isSome_none] at h) <;> (try omega)) | (refine br_n (fun h => ?_) (fun h => ?_) <;> (try simp (disch := omega) only [nI_clamp, li_2, li_3, li_4, li_5, li_6, li_7, li_8, li_9, li_10, li_40, li_120, pk_mul, nI_add, nI_1, ix_eq, ix_lt, ix_le, ix_l0, ix_l1, ix_n0, ix_p0, ix_1lt, ix_lt1, ix_1le, ix_le1, ix_le0, ix_0lt, ab_z0, ab_z1, i_10, i_01, eq_self, ab_ozn, ab_ozp, ab_o_some, not_true_eq_false, not_false_eq_true, Bool.not_eq_false, Bool.not_eq_true, Bool.not_eq_false', Bool.not_eq_true', Bool.false_eq_true, Bool.true_eq_false, reduceCtorEq, Option.isSome_some, Option.isSome_none] at h) <;> (try omega)) | refine ab_sd (by first | (with_reducible refine vp_in_nI ?_ ?_ <;> omega) | (simp (disch := omega) only [nI_clamp, li_2, li_3, li_4, li_5, li_6, li_7, li_8, li_9, li_10, li_40, li_120, pk_mul, nI_add, nI_1, ix_eq, ix_lt, ix_le, ix_l0, ix_l1, ix_n0, ix_p0, ix_1lt, ix_lt1, ix_1le, ix_le1, ix_le0, ix_0lt, ab_z0, ab_z1, i_10, i_01, eq_self, ab_ozn, ab_ozp, ab_o_some, not_true_eq_false, not_false_eq_true, Bool.not_eq_false, Bool.not_eq_true, Bool.not_eq_false', Bool.not_eq_true', Bool.false_eq_true, Bool.true_eq_false, reduceCtorEq, Option.isSome_some, Option.isSome_none]; with_reducible refine vp_in_nI ?_ ?_ <;> omega)) ?_ | refine x_exists hω T ?_ | refine x_within hω (n := 10) rfl ?_ | (exfalso; clear hj hw hQ; grind) | refine ab_sd ?_ ?_ | refine ab_sz (Or.inl rfl) ?_ | refine ab_sz (Or.inr rfl) ?_ | refine ab_sz ?_ ?_)
    all_goals first | exact hQ | (exfalso; clear hj hw hQ; grind)
  | true =>
    have hv2 := hv
    unfold v_use at hv2
    simp only [Bool.and_eq_true, Bool.or_eq_true, decide_eq_true_eq] at hv2
    obtain ⟨⟨⟨⟨hx, hy⟩, hz⟩, hk⟩, hn⟩ := hv2
    obtain ⟨f, hf, rfl⟩ := ab_ok_t (by omega) hx
    obtain ⟨y0, hy0, rfl⟩ := ab_ok_t (by omega) hy
    obtain ⟨k, hk0, rfl⟩ := ab_ok_t (by omega) hk
    obtain ⟨n, hn0, rfl⟩ := ab_ok_t (by omega) hn
    rw [hv, nI_clamp (by omega), nI_clamp (by omega), nI_clamp (by omega), nI_clamp (by omega)] at hQ
    simp only [if_true] at hQ
    have ge : nI k * 10 + nI n = nI (10 * k + n) := by rw [li_10, pk_mul, nI_add, Nat.mul_comm]
    have g1 : (10 * k + n) / 10 = k := by omega
    have g2 : (10 * k + n) % 10 = n := by omega
    have hz2 : y0 < 2 → ∃ q, q < s_nT S ∧ z = nI q := fun h => by
      rcases hz with hz | hz
      · rw [ix_le (by omega) (by omega)] at hz; omega
      · exact ab_ok_t (by omega) hz
    have hz3 : y0 < 2 → ab_ok (s_nT S) z = true := fun h => by
      obtain ⟨q, hq, rfl⟩ := hz2 h
      exact ab_ok_nI (by omega) hq
    obtain ⟨o, ho, hol, hou⟩ : ∃ o : Option Nat, (if y0 < 2 then z else if y0 = 3 then ab_o1 (s_pa S f) else nI (((s_ch S f).find? (fun x => s_hasOne S x k n)).getD f)) = ab_o1 o ∧ (∀ q, o = some q → q < s_nT S ∧ (y0 = 2 → q ∈ s_ch S f)) ∧ s_use S f y0 z.toNatClampNeg k n = (match o with | none => -11 | some q => if y0 < 2 ∧ s_open S f q = false then -11 else s_us1 S f y0 q k n) := by
      by_cases h2 : y0 < 2
      · obtain ⟨q, hq, rfl⟩ := hz2 h2
        refine ⟨some q, by rw [if_pos h2]; rfl, fun q' e => by cases e; exact ⟨hq, fun e => by omega⟩, ?_⟩
        unfold s_use s_look
        rw [nI_clamp (by omega), if_pos h2]
        cases ho : s_open S f q <;> simp [h2, ho]
      · by_cases h3 : y0 = 3
        · refine ⟨s_pa S f, by rw [if_neg h2, if_pos h3], fun q' e => ⟨(hW.2.2.2.2.2.1 f hf).2.2.2.2.2.2.2 q' e, fun e => by omega⟩, ?_⟩
          unfold s_use s_look
          rw [if_neg h2, if_pos h3]
          cases s_pa S f with
          | none => rfl
          | some p => simp [h2]
        · have e2 : y0 = 2 := by omega
          subst e2
          have hl : s_look S f 2 0 k n = some (((s_ch S f).find? (fun x => s_hasOne S x k n)).getD f) := by simp [s_look]
          refine ⟨some (((s_ch S f).find? (fun x => s_hasOne S x k n)).getD f), by rw [if_neg h2, if_neg h3]; rfl, fun q' e => ?_, ?_⟩
          · cases e
            exact s_look_lt hW hf (fun q => by omega) hl
          · unfold s_use s_look
            simp
    rw [hou] at hQ
    have m0 : o = none → ∀ μ', RepC S μ' → SameQ μ μ' → Q (-11) μ' := fun e => by rw [e] at hQ; exact hQ
    have m1 : ∀ q, o = some q → ∀ μ', RepC S μ' → SameQ μ μ' → Q (if y0 < 2 ∧ s_open S f q = false then -11 else s_us1 S f y0 q ((10 * k + n) / 10) ((10 * k + n) % 10)) μ' := fun q e => by rw [e] at hQ; rw [g1, g2]; exact hQ
    by_cases h2 : y0 < 2
    · have hz4 := hz3 h2
      repeat' (first | refine hj _ _ _ _ ?_ | (refine br_c (fun h => ?_) (fun h => ?_) <;> (try simp (disch := omega) only [nI_clamp, li_2, li_3, li_4, li_5, li_6, li_7, li_8, li_9, li_10, li_40, li_120, pk_mul, nI_add, nI_1, ix_eq, ix_lt, ix_le, ix_l0, ix_l1, ix_n0, ix_p0, ix_1lt, ix_lt1, ix_1le, ix_le1, ix_le0, ix_0lt, ab_z0, ab_z1, i_10, i_01, eq_self, ab_ozn, ab_ozp, ab_o_some, not_true_eq_false, not_false_eq_true, Bool.not_eq_false, Bool.not_eq_true, Bool.not_eq_false', Bool.not_eq_true', Bool.false_eq_true, Bool.true_eq_false, reduceCtorEq, Option.isSome_some, Option.isSome_none, hx, hn, hz4] at h) <;> (try omega)) | (refine br_n (fun h => ?_) (fun h => ?_) <;> (try simp (disch := omega) only [nI_clamp, li_2, li_3, li_4, li_5, li_6, li_7, li_8, li_9, li_10, li_40, li_120, pk_mul, nI_add, nI_1, ix_eq, ix_lt, ix_le, ix_l0, ix_l1, ix_n0, ix_p0, ix_1lt, ix_lt1, ix_1le, ix_le1, ix_le0, ix_0lt, ab_z0, ab_z1, i_10, i_01, eq_self, ab_ozn, ab_ozp, ab_o_some, not_true_eq_false, not_false_eq_true, Bool.not_eq_false, Bool.not_eq_true, Bool.not_eq_false', Bool.not_eq_true', Bool.false_eq_true, Bool.true_eq_false, reduceCtorEq, Option.isSome_some, Option.isSome_none, hx, hn, hz4] at h) <;> (try omega)) | refine ab_sd (by first | (with_reducible refine vp_in_nI ?_ ?_ <;> omega) | (simp (disch := omega) only [nI_clamp, li_2, li_3, li_4, li_5, li_6, li_7, li_8, li_9, li_10, li_40, li_120, pk_mul, nI_add, nI_1, ix_eq, ix_lt, ix_le, ix_l0, ix_l1, ix_n0, ix_p0, ix_1lt, ix_lt1, ix_1le, ix_le1, ix_le0, ix_0lt, ab_z0, ab_z1, i_10, i_01, eq_self, ab_ozn, ab_ozp, ab_o_some, not_true_eq_false, not_false_eq_true, Bool.not_eq_false, Bool.not_eq_true, Bool.not_eq_false', Bool.not_eq_true', Bool.false_eq_true, Bool.true_eq_false, reduceCtorEq, Option.isSome_some, Option.isSome_none, hx, hn, hz4]; with_reducible refine vp_in_nI ?_ ?_ <;> omega)) ?_ | refine x_exists hω T ?_ | refine x_within hω (n := 10) rfl ?_ | refine x_usedType hω C hI hR (f := f) (h := y0) (g := 10 * k + n) rfl rfl ge hf hy0 (by omega) (fun μ' C' sq => ?_) | refine x_meant hω C' hI hR (f := f) (y0 := y0) (g := 10 * k + n) (o := o) rfl rfl (by rw [g1, g2]; exact ho) ge hf hy0 hol (by omega) (fun e μ2 C2 sq2 => ?_) (fun q e μ2 C2 sq2 => ?_) | refine ab_sd ?_ ?_ | refine ab_sz (Or.inl rfl) ?_ | refine ab_sz (Or.inr rfl) ?_ | refine ab_sz ?_ ?_)
      all_goals first | exact m0 e μ2 C2 (sq.tr sq2) | exact m1 q e μ2 C2 (sq.tr sq2)
    · repeat' (first | refine hj _ _ _ _ ?_ | (refine br_c (fun h => ?_) (fun h => ?_) <;> (try simp (disch := omega) only [nI_clamp, li_2, li_3, li_4, li_5, li_6, li_7, li_8, li_9, li_10, li_40, li_120, pk_mul, nI_add, nI_1, ix_eq, ix_lt, ix_le, ix_l0, ix_l1, ix_n0, ix_p0, ix_1lt, ix_lt1, ix_1le, ix_le1, ix_le0, ix_0lt, ab_z0, ab_z1, i_10, i_01, eq_self, ab_ozn, ab_ozp, ab_o_some, not_true_eq_false, not_false_eq_true, Bool.not_eq_false, Bool.not_eq_true, Bool.not_eq_false', Bool.not_eq_true', Bool.false_eq_true, Bool.true_eq_false, reduceCtorEq, Option.isSome_some, Option.isSome_none, hx, hn] at h) <;> (try omega)) | (refine br_n (fun h => ?_) (fun h => ?_) <;> (try simp (disch := omega) only [nI_clamp, li_2, li_3, li_4, li_5, li_6, li_7, li_8, li_9, li_10, li_40, li_120, pk_mul, nI_add, nI_1, ix_eq, ix_lt, ix_le, ix_l0, ix_l1, ix_n0, ix_p0, ix_1lt, ix_lt1, ix_1le, ix_le1, ix_le0, ix_0lt, ab_z0, ab_z1, i_10, i_01, eq_self, ab_ozn, ab_ozp, ab_o_some, not_true_eq_false, not_false_eq_true, Bool.not_eq_false, Bool.not_eq_true, Bool.not_eq_false', Bool.not_eq_true', Bool.false_eq_true, Bool.true_eq_false, reduceCtorEq, Option.isSome_some, Option.isSome_none, hx, hn] at h) <;> (try omega)) | refine ab_sd (by first | (with_reducible refine vp_in_nI ?_ ?_ <;> omega) | (simp (disch := omega) only [nI_clamp, li_2, li_3, li_4, li_5, li_6, li_7, li_8, li_9, li_10, li_40, li_120, pk_mul, nI_add, nI_1, ix_eq, ix_lt, ix_le, ix_l0, ix_l1, ix_n0, ix_p0, ix_1lt, ix_lt1, ix_1le, ix_le1, ix_le0, ix_0lt, ab_z0, ab_z1, i_10, i_01, eq_self, ab_ozn, ab_ozp, ab_o_some, not_true_eq_false, not_false_eq_true, Bool.not_eq_false, Bool.not_eq_true, Bool.not_eq_false', Bool.not_eq_true', Bool.false_eq_true, Bool.true_eq_false, reduceCtorEq, Option.isSome_some, Option.isSome_none, hx, hn]; with_reducible refine vp_in_nI ?_ ?_ <;> omega)) ?_ | refine x_exists hω T ?_ | refine x_within hω (n := 10) rfl ?_ | refine x_usedType hω C hI hR (f := f) (h := y0) (g := 10 * k + n) rfl rfl ge hf hy0 (by omega) (fun μ' C' sq => ?_) | refine x_meant hω C' hI hR (f := f) (y0 := y0) (g := 10 * k + n) (o := o) rfl rfl (by rw [g1, g2]; exact ho) ge hf hy0 hol (by omega) (fun e μ2 C2 sq2 => ?_) (fun q e μ2 C2 sq2 => ?_) | refine ab_sd ?_ ?_ | refine ab_sz (Or.inl rfl) ?_ | refine ab_sz (Or.inr rfl) ?_ | refine ab_sz ?_ ?_)
      all_goals first | exact m0 e μ2 C2 (sq.tr sq2) | exact m1 q e μ2 C2 (sq.tr sq2)
theorem x_maker (hω : ω.2.2.2 = ab_SH) (C : RepC S μ) (hI : Iv S) {x y z v : Int32} {f y0 n : Nat} {o : Option Nat} (ex : x = nI f) (ey : y = nI y0) (ev : v = nI n) (hf : f < s_nT S) (hh : y0 < 3) (hn : n < 10) (ho : (if y0 = 2 then ab_o1 (s_pa S f) else z) = ab_o1 o) (hol : ∀ q, o = some q → q < s_nT S) (hQ0 : o = none → Q (-11) μ) (hQ : ∀ q, o = some q → Q (s_mkT S f y0 (if y0 = 2 then some q else if s_open S f q = true then some q else none) n) μ) : ab_CI l ω mX9_maker [.ref 7, .int x, .int y, .int z, .int v] μ Q := by
  subst ex ey ev
  refine ab_intro (sh := ab_SH) (cd := kX9_maker) hω vX9_maker (by decide +kernel) rfl (Nat.le_of_ble_eq_true rfl) (fun j hj hw => ?_)
  have hjx : ∀ i ll st μ, i ∉ ([10, 25] : List Nat) → _ → j i ll st μ := fun i ll st μ _ h => hj i ll st μ h
  have hW := hI.1
  have hT := hW.2.2.1.2
  have hX := hW.2.2.2.1
  have T := C.2.1
  have X := C.2.2.1
  have M := C.1
  have e20 : (20 : Int32) + nI n = nI (20 + n) := by rw [show (20 : Int32) = nI 20 from rfl, nI_add]
  have hdg : ∀ q, s_dg S q (20 + n) = s_dec S q 2 n := fun q => by
    unfold s_dg
    rw [show (20 + n) / 10 = 2 by omega, show (20 + n) % 10 = n by omega]
  have h25 : ∀ q, q < s_nT S → Q (s_mkT S f y0 (some q) n) μ → j 25 [some (.ref 7), some (.int (nI f)), some (.int (nI y0)), some (.int z), some (.int (nI n)), some (.int (nI q)), none] [] μ := by
    intro q hq hQ
    refine hj _ _ _ _ ?_
    unfold s_mkT at hQ
    simp only at hQ
    cases e : s_dec S q 2 n with
    | none =>
      rw [e] at hQ
      have e' : s_dg S q (20 + n) = none := by rw [hdg, e]
      repeat' (first | refine hjx _ _ _ _ (by decide) ?_ | (refine br_c (fun h => ?_) (fun h => ?_) <;> (try simp (disch := omega) only [nI_clamp, li_2, li_3, li_4, li_5, li_6, li_7, li_8, li_9, li_10, li_40, li_120, pk_mul, nI_add, nI_1, ix_eq, ix_lt, ix_le, ix_l0, ix_l1, ix_n0, ix_p0, ix_1lt, ix_lt1, ix_1le, ix_le1, ix_le0, ix_0lt, ab_z0, ab_z1, i_10, i_01, eq_self, ab_ozn, ab_ozp, ab_o_some, not_true_eq_false, not_false_eq_true, Bool.not_eq_false, Bool.not_eq_true, Bool.not_eq_false', Bool.not_eq_true', Bool.false_eq_true, Bool.true_eq_false, reduceCtorEq, Option.isSome_some, Option.isSome_none, e', ab_o1p] at h) <;> (try omega)) | (refine br_n (fun h => ?_) (fun h => ?_) <;> (try simp (disch := omega) only [nI_clamp, li_2, li_3, li_4, li_5, li_6, li_7, li_8, li_9, li_10, li_40, li_120, pk_mul, nI_add, nI_1, ix_eq, ix_lt, ix_le, ix_l0, ix_l1, ix_n0, ix_p0, ix_1lt, ix_lt1, ix_1le, ix_le1, ix_le0, ix_0lt, ab_z0, ab_z1, i_10, i_01, eq_self, ab_ozn, ab_ozp, ab_o_some, not_true_eq_false, not_false_eq_true, Bool.not_eq_false, Bool.not_eq_true, Bool.not_eq_false', Bool.not_eq_true', Bool.false_eq_true, Bool.true_eq_false, reduceCtorEq, Option.isSome_some, Option.isSome_none, e', ab_o1p] at h) <;> (try omega)) | refine ab_sd (by first | (with_reducible refine vp_in_nI ?_ ?_ <;> omega) | (simp (disch := omega) only [nI_clamp, li_2, li_3, li_4, li_5, li_6, li_7, li_8, li_9, li_10, li_40, li_120, pk_mul, nI_add, nI_1, ix_eq, ix_lt, ix_le, ix_l0, ix_l1, ix_n0, ix_p0, ix_1lt, ix_lt1, ix_1le, ix_le1, ix_le0, ix_0lt, ab_z0, ab_z1, i_10, i_01, eq_self, ab_ozn, ab_ozp, ab_o_some, not_true_eq_false, not_false_eq_true, Bool.not_eq_false, Bool.not_eq_true, Bool.not_eq_false', Bool.not_eq_true', Bool.false_eq_true, Bool.true_eq_false, reduceCtorEq, Option.isSome_some, Option.isSome_none, e', ab_o1p]; with_reducible refine vp_in_nI ?_ ?_ <;> omega)) ?_ | refine x_declared hω X (t := q) (g := 20 + n) rfl e20 (by omega) (by omega) ?_ | refine ab_sd ?_ ?_ | refine ab_sz (Or.inl rfl) ?_ | refine ab_sz (Or.inr rfl) ?_ | refine ab_sz ?_ ?_)
      all_goals exact hQ
    | some m =>
      rw [e] at hQ
      simp only at hQ
      have e' : s_dg S q (20 + n) = some m := by rw [hdg, e]
      obtain ⟨m1, m2, m3, m4, m5⟩ := s_dg_some hW e'
      have c3 : (nI m = -1) ↔ False := ⟨fun q => by have := nI_pos (n := m) (by omega); rw [q] at this; exact this (by decide), False.elim⟩
      have y0z : (nI y0 == 0) = decide (y0 = 0) := by
        by_cases q : y0 = 0
        · subst q; rfl
        · have : ¬ nI y0 = 0 := fun e => q ((ix_l0 (by omega)).mp e)
          simp [q, this]
      have ac := (hW.2.2.2.2.2.2 m m1).2.2.2.1
      by_cases hP : (S.1 60 m = 0 ∧ ¬ s_top S f = s_top S q) ∨ (S.1 60 m = 1 ∧ ¬ S.1 48 f = S.1 48 q) ∨ (S.1 60 m = 2 ∧ ¬ S.1 48 f = S.1 48 q ∧ y0 = 0)
      · have nr : (s_nr S f m || (S.1 60 m == 2 && !decide (y0 = 0))) = false := by
          unfold s_nr
          rw [m2]
          rcases hP with hP | hP | hP <;> simp [hP]
        rw [if_pos hP] at hQ
        repeat' (first | refine hjx _ _ _ _ (by decide) ?_ | (refine br_c (fun h => ?_) (fun h => ?_) <;> (try simp (disch := omega) only [nI_clamp, li_2, li_3, li_4, li_5, li_6, li_7, li_8, li_9, li_10, li_40, li_120, pk_mul, nI_add, nI_1, ix_eq, ix_lt, ix_le, ix_l0, ix_l1, ix_n0, ix_p0, ix_1lt, ix_lt1, ix_1le, ix_le1, ix_le0, ix_0lt, ab_z0, ab_z1, i_10, i_01, eq_self, ab_ozn, ab_ozp, ab_o_some, not_true_eq_false, not_false_eq_true, Bool.not_eq_false, Bool.not_eq_true, Bool.not_eq_false', Bool.not_eq_true', Bool.false_eq_true, Bool.true_eq_false, reduceCtorEq, Option.isSome_some, Option.isSome_none, e', ab_o1_some, c3, y0z, nr] at h) <;> (try omega)) | (refine br_n (fun h => ?_) (fun h => ?_) <;> (try simp (disch := omega) only [nI_clamp, li_2, li_3, li_4, li_5, li_6, li_7, li_8, li_9, li_10, li_40, li_120, pk_mul, nI_add, nI_1, ix_eq, ix_lt, ix_le, ix_l0, ix_l1, ix_n0, ix_p0, ix_1lt, ix_lt1, ix_1le, ix_le1, ix_le0, ix_0lt, ab_z0, ab_z1, i_10, i_01, eq_self, ab_ozn, ab_ozp, ab_o_some, not_true_eq_false, not_false_eq_true, Bool.not_eq_false, Bool.not_eq_true, Bool.not_eq_false', Bool.not_eq_true', Bool.false_eq_true, Bool.true_eq_false, reduceCtorEq, Option.isSome_some, Option.isSome_none, e', ab_o1_some, c3, y0z, nr] at h) <;> (try omega)) | refine ab_sd (by first | (with_reducible refine vp_in_nI ?_ ?_ <;> omega) | (simp (disch := omega) only [nI_clamp, li_2, li_3, li_4, li_5, li_6, li_7, li_8, li_9, li_10, li_40, li_120, pk_mul, nI_add, nI_1, ix_eq, ix_lt, ix_le, ix_l0, ix_l1, ix_n0, ix_p0, ix_1lt, ix_lt1, ix_1le, ix_le1, ix_le0, ix_0lt, ab_z0, ab_z1, i_10, i_01, eq_self, ab_ozn, ab_ozp, ab_o_some, not_true_eq_false, not_false_eq_true, Bool.not_eq_false, Bool.not_eq_true, Bool.not_eq_false', Bool.not_eq_true', Bool.false_eq_true, Bool.true_eq_false, reduceCtorEq, Option.isSome_some, Option.isSome_none, e', ab_o1_some, c3, y0z, nr]; with_reducible refine vp_in_nI ?_ ?_ <;> omega)) ?_ | refine x_declared hω X (t := q) (g := 20 + n) rfl e20 (by omega) (by omega) ?_ | refine x_isMakerOpen hω T X hW (f := f) (m := m) rfl (by rw [e']; rfl) hf m1 ?_ | refine ab_sd ?_ ?_ | refine ab_sz (Or.inl rfl) ?_ | refine ab_sz (Or.inr rfl) ?_ | refine ab_sz ?_ ?_)
        all_goals exact hQ
      · have nr : (s_nr S f m || (S.1 60 m == 2 && !decide (y0 = 0))) = true := by
          unfold s_nr
          rw [m2]
          by_cases a0 : S.1 60 m = 0
          · by_cases c : s_top S f = s_top S q
            · simp [a0, c]
            · exact absurd (Or.inl ⟨a0, c⟩) hP
          · by_cases a3 : S.1 60 m = 3
            · simp [a3]
            · by_cases c : S.1 48 f = S.1 48 q
              · simp [a0, a3, c]
              · by_cases a1 : S.1 60 m = 1
                · exact absurd (Or.inr (Or.inl ⟨a1, c⟩)) hP
                · have a2 : S.1 60 m = 2 := by omega
                  by_cases z0 : y0 = 0
                  · exact absurd (Or.inr (Or.inr ⟨a2, c, z0⟩)) hP
                  · simp [a2, z0]
        rw [if_neg hP] at hQ
        repeat' (first | refine hjx _ _ _ _ (by decide) ?_ | (refine br_c (fun h => ?_) (fun h => ?_) <;> (try simp (disch := omega) only [nI_clamp, li_2, li_3, li_4, li_5, li_6, li_7, li_8, li_9, li_10, li_40, li_120, pk_mul, nI_add, nI_1, ix_eq, ix_lt, ix_le, ix_l0, ix_l1, ix_n0, ix_p0, ix_1lt, ix_lt1, ix_1le, ix_le1, ix_le0, ix_0lt, ab_z0, ab_z1, i_10, i_01, eq_self, ab_ozn, ab_ozp, ab_o_some, not_true_eq_false, not_false_eq_true, Bool.not_eq_false, Bool.not_eq_true, Bool.not_eq_false', Bool.not_eq_true', Bool.false_eq_true, Bool.true_eq_false, reduceCtorEq, Option.isSome_some, Option.isSome_none, e', ab_o1_some, c3, y0z, nr] at h) <;> (try omega)) | (refine br_n (fun h => ?_) (fun h => ?_) <;> (try simp (disch := omega) only [nI_clamp, li_2, li_3, li_4, li_5, li_6, li_7, li_8, li_9, li_10, li_40, li_120, pk_mul, nI_add, nI_1, ix_eq, ix_lt, ix_le, ix_l0, ix_l1, ix_n0, ix_p0, ix_1lt, ix_lt1, ix_1le, ix_le1, ix_le0, ix_0lt, ab_z0, ab_z1, i_10, i_01, eq_self, ab_ozn, ab_ozp, ab_o_some, not_true_eq_false, not_false_eq_true, Bool.not_eq_false, Bool.not_eq_true, Bool.not_eq_false', Bool.not_eq_true', Bool.false_eq_true, Bool.true_eq_false, reduceCtorEq, Option.isSome_some, Option.isSome_none, e', ab_o1_some, c3, y0z, nr] at h) <;> (try omega)) | refine ab_sd (by first | (with_reducible refine vp_in_nI ?_ ?_ <;> omega) | (simp (disch := omega) only [nI_clamp, li_2, li_3, li_4, li_5, li_6, li_7, li_8, li_9, li_10, li_40, li_120, pk_mul, nI_add, nI_1, ix_eq, ix_lt, ix_le, ix_l0, ix_l1, ix_n0, ix_p0, ix_1lt, ix_lt1, ix_1le, ix_le1, ix_le0, ix_0lt, ab_z0, ab_z1, i_10, i_01, eq_self, ab_ozn, ab_ozp, ab_o_some, not_true_eq_false, not_false_eq_true, Bool.not_eq_false, Bool.not_eq_true, Bool.not_eq_false', Bool.not_eq_true', Bool.false_eq_true, Bool.true_eq_false, reduceCtorEq, Option.isSome_some, Option.isSome_none, e', ab_o1_some, c3, y0z, nr]; with_reducible refine vp_in_nI ?_ ?_ <;> omega)) ?_ | refine x_declared hω X (t := q) (g := 20 + n) rfl e20 (by omega) (by omega) ?_ | refine x_isMakerOpen hω T X hW (f := f) (m := m) rfl (by rw [e']; rfl) hf m1 ?_ | refine x_hasFlag hω T hW (t := q) (f := 4) rfl rfl hq ?_ | refine x_hasFlag hω T hW (t := q) (f := 2) rfl rfl hq ?_ | refine ab_sd ?_ ?_ | refine ab_sz (Or.inl rfl) ?_ | refine ab_sz (Or.inr rfl) ?_ | refine ab_sz ?_ ?_)
        all_goals (show Q _ _; refine q_of hQ ?_; clear hj hjx hw hQ nr hP; simp_all [ab_o1])
  have h10 : ∀ v : Int32, v = ab_o1 o → j 10 [some (.ref 7), some (.int (nI f)), some (.int (nI y0)), some (.int z), some (.int (nI n)), none, none] [.int v] μ := by
    intro v hv
    subst hv
    refine hj _ _ _ _ ?_
    cases o with
    | none =>
      repeat' (first | refine hjx _ _ _ _ (by decide) ?_ | (refine br_c (fun h => ?_) (fun h => ?_) <;> (try simp (disch := omega) only [nI_clamp, li_2, li_3, li_4, li_5, li_6, li_7, li_8, li_9, li_10, li_40, li_120, pk_mul, nI_add, nI_1, ix_eq, ix_lt, ix_le, ix_l0, ix_l1, ix_n0, ix_p0, ix_1lt, ix_lt1, ix_1le, ix_le1, ix_le0, ix_0lt, ab_z0, ab_z1, i_10, i_01, eq_self, ab_ozn, ab_ozp, ab_o_some, not_true_eq_false, not_false_eq_true, Bool.not_eq_false, Bool.not_eq_true, Bool.not_eq_false', Bool.not_eq_true', Bool.false_eq_true, Bool.true_eq_false, reduceCtorEq, Option.isSome_some, Option.isSome_none, ab_o1p] at h) <;> (try omega)) | (refine br_n (fun h => ?_) (fun h => ?_) <;> (try simp (disch := omega) only [nI_clamp, li_2, li_3, li_4, li_5, li_6, li_7, li_8, li_9, li_10, li_40, li_120, pk_mul, nI_add, nI_1, ix_eq, ix_lt, ix_le, ix_l0, ix_l1, ix_n0, ix_p0, ix_1lt, ix_lt1, ix_1le, ix_le1, ix_le0, ix_0lt, ab_z0, ab_z1, i_10, i_01, eq_self, ab_ozn, ab_ozp, ab_o_some, not_true_eq_false, not_false_eq_true, Bool.not_eq_false, Bool.not_eq_true, Bool.not_eq_false', Bool.not_eq_true', Bool.false_eq_true, Bool.true_eq_false, reduceCtorEq, Option.isSome_some, Option.isSome_none, ab_o1p] at h) <;> (try omega)) | refine ab_sd (by first | (with_reducible refine vp_in_nI ?_ ?_ <;> omega) | (simp (disch := omega) only [nI_clamp, li_2, li_3, li_4, li_5, li_6, li_7, li_8, li_9, li_10, li_40, li_120, pk_mul, nI_add, nI_1, ix_eq, ix_lt, ix_le, ix_l0, ix_l1, ix_n0, ix_p0, ix_1lt, ix_lt1, ix_1le, ix_le1, ix_le0, ix_0lt, ab_z0, ab_z1, i_10, i_01, eq_self, ab_ozn, ab_ozp, ab_o_some, not_true_eq_false, not_false_eq_true, Bool.not_eq_false, Bool.not_eq_true, Bool.not_eq_false', Bool.not_eq_true', Bool.false_eq_true, Bool.true_eq_false, reduceCtorEq, Option.isSome_some, Option.isSome_none, ab_o1p]; with_reducible refine vp_in_nI ?_ ?_ <;> omega)) ?_ | refine ab_sd ?_ ?_ | refine ab_sz (Or.inl rfl) ?_ | refine ab_sz (Or.inr rfl) ?_ | refine ab_sz ?_ ?_)
      all_goals exact hQ0 rfl
    | some q =>
      have hq := hol q rfl
      have hQ := hQ q rfl
      have c3 : (nI q = -1) ↔ False := ⟨fun e => by have := nI_pos (n := q) (by omega); rw [e] at this; exact this (by decide), False.elim⟩
      by_cases h2 : y0 = 2
      · rw [if_pos h2] at hQ
        repeat' (first | refine hjx _ _ _ _ (by decide) ?_ | (refine br_c (fun h => ?_) (fun h => ?_) <;> (try simp (disch := omega) only [nI_clamp, li_2, li_3, li_4, li_5, li_6, li_7, li_8, li_9, li_10, li_40, li_120, pk_mul, nI_add, nI_1, ix_eq, ix_lt, ix_le, ix_l0, ix_l1, ix_n0, ix_p0, ix_1lt, ix_lt1, ix_1le, ix_le1, ix_le0, ix_0lt, ab_z0, ab_z1, i_10, i_01, eq_self, ab_ozn, ab_ozp, ab_o_some, not_true_eq_false, not_false_eq_true, Bool.not_eq_false, Bool.not_eq_true, Bool.not_eq_false', Bool.not_eq_true', Bool.false_eq_true, Bool.true_eq_false, reduceCtorEq, Option.isSome_some, Option.isSome_none, ab_o1_some, c3, h2] at h) <;> (try omega)) | (refine br_n (fun h => ?_) (fun h => ?_) <;> (try simp (disch := omega) only [nI_clamp, li_2, li_3, li_4, li_5, li_6, li_7, li_8, li_9, li_10, li_40, li_120, pk_mul, nI_add, nI_1, ix_eq, ix_lt, ix_le, ix_l0, ix_l1, ix_n0, ix_p0, ix_1lt, ix_lt1, ix_1le, ix_le1, ix_le0, ix_0lt, ab_z0, ab_z1, i_10, i_01, eq_self, ab_ozn, ab_ozp, ab_o_some, not_true_eq_false, not_false_eq_true, Bool.not_eq_false, Bool.not_eq_true, Bool.not_eq_false', Bool.not_eq_true', Bool.false_eq_true, Bool.true_eq_false, reduceCtorEq, Option.isSome_some, Option.isSome_none, ab_o1_some, c3, h2] at h) <;> (try omega)) | refine ab_sd (by first | (with_reducible refine vp_in_nI ?_ ?_ <;> omega) | (simp (disch := omega) only [nI_clamp, li_2, li_3, li_4, li_5, li_6, li_7, li_8, li_9, li_10, li_40, li_120, pk_mul, nI_add, nI_1, ix_eq, ix_lt, ix_le, ix_l0, ix_l1, ix_n0, ix_p0, ix_1lt, ix_lt1, ix_1le, ix_le1, ix_le0, ix_0lt, ab_z0, ab_z1, i_10, i_01, eq_self, ab_ozn, ab_ozp, ab_o_some, not_true_eq_false, not_false_eq_true, Bool.not_eq_false, Bool.not_eq_true, Bool.not_eq_false', Bool.not_eq_true', Bool.false_eq_true, Bool.true_eq_false, reduceCtorEq, Option.isSome_some, Option.isSome_none, ab_o1_some, c3, h2]; with_reducible refine vp_in_nI ?_ ?_ <;> omega)) ?_ | refine ab_sd ?_ ?_ | refine ab_sz (Or.inl rfl) ?_ | refine ab_sz (Or.inr rfl) ?_ | refine ab_sz ?_ ?_)
        exact h25 q hq hQ
      · rw [if_neg h2] at hQ
        cases hop : s_open S f q with
        | false =>
          rw [hop] at hQ
          repeat' (first | refine hjx _ _ _ _ (by decide) ?_ | (refine br_c (fun h => ?_) (fun h => ?_) <;> (try simp (disch := omega) only [nI_clamp, li_2, li_3, li_4, li_5, li_6, li_7, li_8, li_9, li_10, li_40, li_120, pk_mul, nI_add, nI_1, ix_eq, ix_lt, ix_le, ix_l0, ix_l1, ix_n0, ix_p0, ix_1lt, ix_lt1, ix_1le, ix_le1, ix_le0, ix_0lt, ab_z0, ab_z1, i_10, i_01, eq_self, ab_ozn, ab_ozp, ab_o_some, not_true_eq_false, not_false_eq_true, Bool.not_eq_false, Bool.not_eq_true, Bool.not_eq_false', Bool.not_eq_true', Bool.false_eq_true, Bool.true_eq_false, reduceCtorEq, Option.isSome_some, Option.isSome_none, ab_o1_some, c3, hop] at h) <;> (try omega)) | (refine br_n (fun h => ?_) (fun h => ?_) <;> (try simp (disch := omega) only [nI_clamp, li_2, li_3, li_4, li_5, li_6, li_7, li_8, li_9, li_10, li_40, li_120, pk_mul, nI_add, nI_1, ix_eq, ix_lt, ix_le, ix_l0, ix_l1, ix_n0, ix_p0, ix_1lt, ix_lt1, ix_1le, ix_le1, ix_le0, ix_0lt, ab_z0, ab_z1, i_10, i_01, eq_self, ab_ozn, ab_ozp, ab_o_some, not_true_eq_false, not_false_eq_true, Bool.not_eq_false, Bool.not_eq_true, Bool.not_eq_false', Bool.not_eq_true', Bool.false_eq_true, Bool.true_eq_false, reduceCtorEq, Option.isSome_some, Option.isSome_none, ab_o1_some, c3, hop] at h) <;> (try omega)) | refine ab_sd (by first | (with_reducible refine vp_in_nI ?_ ?_ <;> omega) | (simp (disch := omega) only [nI_clamp, li_2, li_3, li_4, li_5, li_6, li_7, li_8, li_9, li_10, li_40, li_120, pk_mul, nI_add, nI_1, ix_eq, ix_lt, ix_le, ix_l0, ix_l1, ix_n0, ix_p0, ix_1lt, ix_lt1, ix_1le, ix_le1, ix_le0, ix_0lt, ab_z0, ab_z1, i_10, i_01, eq_self, ab_ozn, ab_ozp, ab_o_some, not_true_eq_false, not_false_eq_true, Bool.not_eq_false, Bool.not_eq_true, Bool.not_eq_false', Bool.not_eq_true', Bool.false_eq_true, Bool.true_eq_false, reduceCtorEq, Option.isSome_some, Option.isSome_none, ab_o1_some, c3, hop]; with_reducible refine vp_in_nI ?_ ?_ <;> omega)) ?_ | refine x_isTypeOpen hω M T hI (f := f) (t := q) rfl rfl hf hq ?_ | refine ab_sd ?_ ?_ | refine ab_sz (Or.inl rfl) ?_ | refine ab_sz (Or.inr rfl) ?_ | refine ab_sz ?_ ?_)
          all_goals exact hQ
        | true =>
          rw [hop] at hQ
          repeat' (first | refine hjx _ _ _ _ (by decide) ?_ | (refine br_c (fun h => ?_) (fun h => ?_) <;> (try simp (disch := omega) only [nI_clamp, li_2, li_3, li_4, li_5, li_6, li_7, li_8, li_9, li_10, li_40, li_120, pk_mul, nI_add, nI_1, ix_eq, ix_lt, ix_le, ix_l0, ix_l1, ix_n0, ix_p0, ix_1lt, ix_lt1, ix_1le, ix_le1, ix_le0, ix_0lt, ab_z0, ab_z1, i_10, i_01, eq_self, ab_ozn, ab_ozp, ab_o_some, not_true_eq_false, not_false_eq_true, Bool.not_eq_false, Bool.not_eq_true, Bool.not_eq_false', Bool.not_eq_true', Bool.false_eq_true, Bool.true_eq_false, reduceCtorEq, Option.isSome_some, Option.isSome_none, ab_o1_some, c3, hop] at h) <;> (try omega)) | (refine br_n (fun h => ?_) (fun h => ?_) <;> (try simp (disch := omega) only [nI_clamp, li_2, li_3, li_4, li_5, li_6, li_7, li_8, li_9, li_10, li_40, li_120, pk_mul, nI_add, nI_1, ix_eq, ix_lt, ix_le, ix_l0, ix_l1, ix_n0, ix_p0, ix_1lt, ix_lt1, ix_1le, ix_le1, ix_le0, ix_0lt, ab_z0, ab_z1, i_10, i_01, eq_self, ab_ozn, ab_ozp, ab_o_some, not_true_eq_false, not_false_eq_true, Bool.not_eq_false, Bool.not_eq_true, Bool.not_eq_false', Bool.not_eq_true', Bool.false_eq_true, Bool.true_eq_false, reduceCtorEq, Option.isSome_some, Option.isSome_none, ab_o1_some, c3, hop] at h) <;> (try omega)) | refine ab_sd (by first | (with_reducible refine vp_in_nI ?_ ?_ <;> omega) | (simp (disch := omega) only [nI_clamp, li_2, li_3, li_4, li_5, li_6, li_7, li_8, li_9, li_10, li_40, li_120, pk_mul, nI_add, nI_1, ix_eq, ix_lt, ix_le, ix_l0, ix_l1, ix_n0, ix_p0, ix_1lt, ix_lt1, ix_1le, ix_le1, ix_le0, ix_0lt, ab_z0, ab_z1, i_10, i_01, eq_self, ab_ozn, ab_ozp, ab_o_some, not_true_eq_false, not_false_eq_true, Bool.not_eq_false, Bool.not_eq_true, Bool.not_eq_false', Bool.not_eq_true', Bool.false_eq_true, Bool.true_eq_false, reduceCtorEq, Option.isSome_some, Option.isSome_none, ab_o1_some, c3, hop]; with_reducible refine vp_in_nI ?_ ?_ <;> omega)) ?_ | refine x_isTypeOpen hω M T hI (f := f) (t := q) rfl rfl hf hq ?_ | refine ab_sd ?_ ?_ | refine ab_sz (Or.inl rfl) ?_ | refine ab_sz (Or.inr rfl) ?_ | refine ab_sz ?_ ?_)
          exact h25 q hq hQ
  by_cases h2 : y0 = 2
  · rw [if_pos h2] at ho
    have k17 := (T.2.2.2.1 f hf).2.2.2.2.1
    repeat' (first | refine hjx _ _ _ _ (by decide) ?_ | (refine br_c (fun h => ?_) (fun h => ?_) <;> (try simp (disch := omega) only [nI_clamp, li_2, li_3, li_4, li_5, li_6, li_7, li_8, li_9, li_10, li_40, li_120, pk_mul, nI_add, nI_1, ix_eq, ix_lt, ix_le, ix_l0, ix_l1, ix_n0, ix_p0, ix_1lt, ix_lt1, ix_1le, ix_le1, ix_le0, ix_0lt, ab_z0, ab_z1, i_10, i_01, eq_self, ab_ozn, ab_ozp, ab_o_some, not_true_eq_false, not_false_eq_true, Bool.not_eq_false, Bool.not_eq_true, Bool.not_eq_false', Bool.not_eq_true', Bool.false_eq_true, Bool.true_eq_false, reduceCtorEq, Option.isSome_some, Option.isSome_none, h2] at h) <;> (try omega)) | (refine br_n (fun h => ?_) (fun h => ?_) <;> (try simp (disch := omega) only [nI_clamp, li_2, li_3, li_4, li_5, li_6, li_7, li_8, li_9, li_10, li_40, li_120, pk_mul, nI_add, nI_1, ix_eq, ix_lt, ix_le, ix_l0, ix_l1, ix_n0, ix_p0, ix_1lt, ix_lt1, ix_1le, ix_le1, ix_le0, ix_0lt, ab_z0, ab_z1, i_10, i_01, eq_self, ab_ozn, ab_ozp, ab_o_some, not_true_eq_false, not_false_eq_true, Bool.not_eq_false, Bool.not_eq_true, Bool.not_eq_false', Bool.not_eq_true', Bool.false_eq_true, Bool.true_eq_false, reduceCtorEq, Option.isSome_some, Option.isSome_none, h2] at h) <;> (try omega)) | refine ab_sd (by first | (with_reducible refine vp_in_nI ?_ ?_ <;> omega) | (simp (disch := omega) only [nI_clamp, li_2, li_3, li_4, li_5, li_6, li_7, li_8, li_9, li_10, li_40, li_120, pk_mul, nI_add, nI_1, ix_eq, ix_lt, ix_le, ix_l0, ix_l1, ix_n0, ix_p0, ix_1lt, ix_lt1, ix_1le, ix_le1, ix_le0, ix_0lt, ab_z0, ab_z1, i_10, i_01, eq_self, ab_ozn, ab_ozp, ab_o_some, not_true_eq_false, not_false_eq_true, Bool.not_eq_false, Bool.not_eq_true, Bool.not_eq_false', Bool.not_eq_true', Bool.false_eq_true, Bool.true_eq_false, reduceCtorEq, Option.isSome_some, Option.isSome_none, h2]; with_reducible refine vp_in_nI ?_ ?_ <;> omega)) ?_ | refine ab_sd ?_ ?_ | refine ab_sz (Or.inl rfl) ?_ | refine ab_sz (Or.inr rfl) ?_ | refine ab_sz ?_ ?_)
    refine h10 _ ?_
    rw [nI_clamp (by omega), k17, ho]
  · rw [if_neg h2] at ho
    repeat' (first | refine hjx _ _ _ _ (by decide) ?_ | (refine br_c (fun h => ?_) (fun h => ?_) <;> (try simp (disch := omega) only [nI_clamp, li_2, li_3, li_4, li_5, li_6, li_7, li_8, li_9, li_10, li_40, li_120, pk_mul, nI_add, nI_1, ix_eq, ix_lt, ix_le, ix_l0, ix_l1, ix_n0, ix_p0, ix_1lt, ix_lt1, ix_1le, ix_le1, ix_le0, ix_0lt, ab_z0, ab_z1, i_10, i_01, eq_self, ab_ozn, ab_ozp, ab_o_some, not_true_eq_false, not_false_eq_true, Bool.not_eq_false, Bool.not_eq_true, Bool.not_eq_false', Bool.not_eq_true', Bool.false_eq_true, Bool.true_eq_false, reduceCtorEq, Option.isSome_some, Option.isSome_none] at h) <;> (try omega)) | (refine br_n (fun h => ?_) (fun h => ?_) <;> (try simp (disch := omega) only [nI_clamp, li_2, li_3, li_4, li_5, li_6, li_7, li_8, li_9, li_10, li_40, li_120, pk_mul, nI_add, nI_1, ix_eq, ix_lt, ix_le, ix_l0, ix_l1, ix_n0, ix_p0, ix_1lt, ix_lt1, ix_1le, ix_le1, ix_le0, ix_0lt, ab_z0, ab_z1, i_10, i_01, eq_self, ab_ozn, ab_ozp, ab_o_some, not_true_eq_false, not_false_eq_true, Bool.not_eq_false, Bool.not_eq_true, Bool.not_eq_false', Bool.not_eq_true', Bool.false_eq_true, Bool.true_eq_false, reduceCtorEq, Option.isSome_some, Option.isSome_none] at h) <;> (try omega)) | refine ab_sd (by first | (with_reducible refine vp_in_nI ?_ ?_ <;> omega) | (simp (disch := omega) only [nI_clamp, li_2, li_3, li_4, li_5, li_6, li_7, li_8, li_9, li_10, li_40, li_120, pk_mul, nI_add, nI_1, ix_eq, ix_lt, ix_le, ix_l0, ix_l1, ix_n0, ix_p0, ix_1lt, ix_lt1, ix_1le, ix_le1, ix_le0, ix_0lt, ab_z0, ab_z1, i_10, i_01, eq_self, ab_ozn, ab_ozp, ab_o_some, not_true_eq_false, not_false_eq_true, Bool.not_eq_false, Bool.not_eq_true, Bool.not_eq_false', Bool.not_eq_true', Bool.false_eq_true, Bool.true_eq_false, reduceCtorEq, Option.isSome_some, Option.isSome_none]; with_reducible refine vp_in_nI ?_ ?_ <;> omega)) ?_ | refine ab_sd ?_ ?_ | refine ab_sz (Or.inl rfl) ?_ | refine ab_sz (Or.inr rfl) ?_ | refine ab_sz ?_ ?_)
    exact h10 _ ho
theorem x_make (hω : ω.2.2.2 = ab_SH) (C : RepC S μ) (hI : Iv S) {x y z v : Int32} (hQ : Q (a_make S x y z v) μ) : ab_CI l ω mX10_make [.ref 0, .int x, .int y, .int z, .int v] μ Q := by
  refine ab_intro (sh := ab_SH) (cd := kX10_make) hω vX10_make (by decide +kernel) rfl (Nat.le_of_ble_eq_true rfl) (fun j hj hw => ?_)
  have hW := hI.1
  have hT := hW.2.2.1.2
  have T := C.2.1
  unfold a_make at hQ
  cases hv : v_make S x y z v with
  | false =>
    rw [hv] at hQ
    unfold v_make at hv
    rw [ab_ok3] at hv
    have hy12 : (1 < y) ↔ (nI 2 ≤ y) := by
      rw [Int32.lt_iff_toInt_lt, Int32.le_iff_toInt_le]
      show (1 : Int) < _ ↔ (2 : Int) ≤ _
      omega
    repeat' (first | refine hj _ _ _ _ ?_ | (refine br_c (fun h => ?_) (fun h => ?_) <;> (try simp (disch := omega) only [nI_clamp, li_2, li_3, li_4, li_5, li_6, li_7, li_8, li_9, li_10, li_40, li_120, pk_mul, nI_add, nI_1, ix_eq, ix_lt, ix_le, ix_l0, ix_l1, ix_n0, ix_p0, ix_1lt, ix_lt1, ix_1le, ix_le1, ix_le0, ix_0lt, ab_z0, ab_z1, i_10, i_01, eq_self, ab_ozn, ab_ozp, ab_o_some, not_true_eq_false, not_false_eq_true, Bool.not_eq_false, Bool.not_eq_true, Bool.not_eq_false', Bool.not_eq_true', Bool.false_eq_true, Bool.true_eq_false, reduceCtorEq, Option.isSome_some, Option.isSome_none] at h) <;> (try omega)) | (refine br_n (fun h => ?_) (fun h => ?_) <;> (try simp (disch := omega) only [nI_clamp, li_2, li_3, li_4, li_5, li_6, li_7, li_8, li_9, li_10, li_40, li_120, pk_mul, nI_add, nI_1, ix_eq, ix_lt, ix_le, ix_l0, ix_l1, ix_n0, ix_p0, ix_1lt, ix_lt1, ix_1le, ix_le1, ix_le0, ix_0lt, ab_z0, ab_z1, i_10, i_01, eq_self, ab_ozn, ab_ozp, ab_o_some, not_true_eq_false, not_false_eq_true, Bool.not_eq_false, Bool.not_eq_true, Bool.not_eq_false', Bool.not_eq_true', Bool.false_eq_true, Bool.true_eq_false, reduceCtorEq, Option.isSome_some, Option.isSome_none] at h) <;> (try omega)) | refine ab_sd (by first | (with_reducible refine vp_in_nI ?_ ?_ <;> omega) | (simp (disch := omega) only [nI_clamp, li_2, li_3, li_4, li_5, li_6, li_7, li_8, li_9, li_10, li_40, li_120, pk_mul, nI_add, nI_1, ix_eq, ix_lt, ix_le, ix_l0, ix_l1, ix_n0, ix_p0, ix_1lt, ix_lt1, ix_1le, ix_le1, ix_le0, ix_0lt, ab_z0, ab_z1, i_10, i_01, eq_self, ab_ozn, ab_ozp, ab_o_some, not_true_eq_false, not_false_eq_true, Bool.not_eq_false, Bool.not_eq_true, Bool.not_eq_false', Bool.not_eq_true', Bool.false_eq_true, Bool.true_eq_false, reduceCtorEq, Option.isSome_some, Option.isSome_none]; with_reducible refine vp_in_nI ?_ ?_ <;> omega)) ?_ | refine x_exists hω T ?_ | refine x_within hω (n := 10) rfl ?_ | (exfalso; clear hj hw hQ; grind) | refine ab_sd ?_ ?_ | refine ab_sz (Or.inl rfl) ?_ | refine ab_sz (Or.inr rfl) ?_ | refine ab_sz ?_ ?_)
    all_goals first | exact hQ | (exfalso; clear hj hw hQ; grind)
  | true =>
    have hv2 := hv
    unfold v_make at hv2
    simp only [Bool.and_eq_true, Bool.or_eq_true, decide_eq_true_eq] at hv2
    obtain ⟨⟨⟨hx, hy⟩, hz⟩, hn⟩ := hv2
    obtain ⟨f, hf, rfl⟩ := ab_ok_t (by omega) hx
    obtain ⟨y0, hy0, rfl⟩ := ab_ok_t (by omega) hy
    obtain ⟨n, hn0, rfl⟩ := ab_ok_t (by omega) hn
    rw [hv, nI_clamp (by omega), nI_clamp (by omega), nI_clamp (by omega)] at hQ
    simp only [if_true] at hQ
    by_cases h2 : y0 = 2
    · have ho : (if y0 = 2 then ab_o1 (s_pa S f) else z) = ab_o1 (s_pa S f) := if_pos h2
      unfold s_mkO at hQ
      rw [if_pos h2] at hQ
      have q0 : s_pa S f = none → Q (-11) μ := fun e => by rw [e] at hQ; exact hQ
      have q1 : ∀ q, s_pa S f = some q → Q (s_mkT S f y0 (if y0 = 2 then some q else if s_open S f q = true then some q else none) n) μ := fun q e => by rw [if_pos h2]; rw [e] at hQ; exact hQ
      repeat' (first | refine hj _ _ _ _ ?_ | (refine br_c (fun h => ?_) (fun h => ?_) <;> (try simp (disch := omega) only [nI_clamp, li_2, li_3, li_4, li_5, li_6, li_7, li_8, li_9, li_10, li_40, li_120, pk_mul, nI_add, nI_1, ix_eq, ix_lt, ix_le, ix_l0, ix_l1, ix_n0, ix_p0, ix_1lt, ix_lt1, ix_1le, ix_le1, ix_le0, ix_0lt, ab_z0, ab_z1, i_10, i_01, eq_self, ab_ozn, ab_ozp, ab_o_some, not_true_eq_false, not_false_eq_true, Bool.not_eq_false, Bool.not_eq_true, Bool.not_eq_false', Bool.not_eq_true', Bool.false_eq_true, Bool.true_eq_false, reduceCtorEq, Option.isSome_some, Option.isSome_none, hx, hn] at h) <;> (try omega)) | (refine br_n (fun h => ?_) (fun h => ?_) <;> (try simp (disch := omega) only [nI_clamp, li_2, li_3, li_4, li_5, li_6, li_7, li_8, li_9, li_10, li_40, li_120, pk_mul, nI_add, nI_1, ix_eq, ix_lt, ix_le, ix_l0, ix_l1, ix_n0, ix_p0, ix_1lt, ix_lt1, ix_1le, ix_le1, ix_le0, ix_0lt, ab_z0, ab_z1, i_10, i_01, eq_self, ab_ozn, ab_ozp, ab_o_some, not_true_eq_false, not_false_eq_true, Bool.not_eq_false, Bool.not_eq_true, Bool.not_eq_false', Bool.not_eq_true', Bool.false_eq_true, Bool.true_eq_false, reduceCtorEq, Option.isSome_some, Option.isSome_none, hx, hn] at h) <;> (try omega)) | refine ab_sd (by first | (with_reducible refine vp_in_nI ?_ ?_ <;> omega) | (simp (disch := omega) only [nI_clamp, li_2, li_3, li_4, li_5, li_6, li_7, li_8, li_9, li_10, li_40, li_120, pk_mul, nI_add, nI_1, ix_eq, ix_lt, ix_le, ix_l0, ix_l1, ix_n0, ix_p0, ix_1lt, ix_lt1, ix_1le, ix_le1, ix_le0, ix_0lt, ab_z0, ab_z1, i_10, i_01, eq_self, ab_ozn, ab_ozp, ab_o_some, not_true_eq_false, not_false_eq_true, Bool.not_eq_false, Bool.not_eq_true, Bool.not_eq_false', Bool.not_eq_true', Bool.false_eq_true, Bool.true_eq_false, reduceCtorEq, Option.isSome_some, Option.isSome_none, hx, hn]; with_reducible refine vp_in_nI ?_ ?_ <;> omega)) ?_ | refine x_exists hω T ?_ | refine x_within hω (n := 10) rfl ?_ | refine x_maker hω C hI (f := f) (y0 := y0) (n := n) (o := s_pa S f) rfl rfl rfl hf hy0 hn0 ho (fun q e => (hW.2.2.2.2.2.1 f hf).2.2.2.2.2.2.2 q e) (fun e => ?_) (fun q e => ?_) | refine ab_sd ?_ ?_ | refine ab_sz (Or.inl rfl) ?_ | refine ab_sz (Or.inr rfl) ?_ | refine ab_sz ?_ ?_)
      · exact q0 e
      · exact q1 q e
    · have hz3 : ab_ok (s_nT S) z = true := by
        rcases hz with hz | hz
        · rw [ix_le (by omega) (by omega)] at hz; omega
        · exact hz
      obtain ⟨q, hq, rfl⟩ := ab_ok_t (by omega) hz3
      have ho : (if y0 = 2 then ab_o1 (s_pa S f) else nI q) = ab_o1 (some q) := if_neg h2
      unfold s_mkO at hQ
      rw [if_neg h2, nI_clamp (by omega)] at hQ
      have q1 : ∀ q', some q = some q' → Q (s_mkT S f y0 (if y0 = 2 then some q' else if s_open S f q' = true then some q' else none) n) μ := fun q' e => by cases e; rw [if_neg h2]; exact hQ
      repeat' (first | refine hj _ _ _ _ ?_ | (refine br_c (fun h => ?_) (fun h => ?_) <;> (try simp (disch := omega) only [nI_clamp, li_2, li_3, li_4, li_5, li_6, li_7, li_8, li_9, li_10, li_40, li_120, pk_mul, nI_add, nI_1, ix_eq, ix_lt, ix_le, ix_l0, ix_l1, ix_n0, ix_p0, ix_1lt, ix_lt1, ix_1le, ix_le1, ix_le0, ix_0lt, ab_z0, ab_z1, i_10, i_01, eq_self, ab_ozn, ab_ozp, ab_o_some, not_true_eq_false, not_false_eq_true, Bool.not_eq_false, Bool.not_eq_true, Bool.not_eq_false', Bool.not_eq_true', Bool.false_eq_true, Bool.true_eq_false, reduceCtorEq, Option.isSome_some, Option.isSome_none, hx, hn, hz3] at h) <;> (try omega)) | (refine br_n (fun h => ?_) (fun h => ?_) <;> (try simp (disch := omega) only [nI_clamp, li_2, li_3, li_4, li_5, li_6, li_7, li_8, li_9, li_10, li_40, li_120, pk_mul, nI_add, nI_1, ix_eq, ix_lt, ix_le, ix_l0, ix_l1, ix_n0, ix_p0, ix_1lt, ix_lt1, ix_1le, ix_le1, ix_le0, ix_0lt, ab_z0, ab_z1, i_10, i_01, eq_self, ab_ozn, ab_ozp, ab_o_some, not_true_eq_false, not_false_eq_true, Bool.not_eq_false, Bool.not_eq_true, Bool.not_eq_false', Bool.not_eq_true', Bool.false_eq_true, Bool.true_eq_false, reduceCtorEq, Option.isSome_some, Option.isSome_none, hx, hn, hz3] at h) <;> (try omega)) | refine ab_sd (by first | (with_reducible refine vp_in_nI ?_ ?_ <;> omega) | (simp (disch := omega) only [nI_clamp, li_2, li_3, li_4, li_5, li_6, li_7, li_8, li_9, li_10, li_40, li_120, pk_mul, nI_add, nI_1, ix_eq, ix_lt, ix_le, ix_l0, ix_l1, ix_n0, ix_p0, ix_1lt, ix_lt1, ix_1le, ix_le1, ix_le0, ix_0lt, ab_z0, ab_z1, i_10, i_01, eq_self, ab_ozn, ab_ozp, ab_o_some, not_true_eq_false, not_false_eq_true, Bool.not_eq_false, Bool.not_eq_true, Bool.not_eq_false', Bool.not_eq_true', Bool.false_eq_true, Bool.true_eq_false, reduceCtorEq, Option.isSome_some, Option.isSome_none, hx, hn, hz3]; with_reducible refine vp_in_nI ?_ ?_ <;> omega)) ?_ | refine x_exists hω T ?_ | refine x_within hω (n := 10) rfl ?_ | refine x_maker hω C hI (f := f) (y0 := y0) (n := n) (o := some q) rfl rfl rfl hf hy0 hn0 ho (fun q' e => by cases e; exact hq) (fun e => ?_) (fun q' e => ?_) | refine ab_sd ?_ ?_ | refine ab_sz (Or.inl rfl) ?_ | refine ab_sz (Or.inr rfl) ?_ | refine ab_sz ?_ ?_)
      · cases e
      · exact q1 q' e
end K8
