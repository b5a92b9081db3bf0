/-! THE CLASS: MEMBERS, OPEN members -/
theorem RepX_fs {S : sT} {μ : ab_M} (X : RepX S μ) : μ.1 3 1 = nI (s_nX S) ∧ (∀ m, m < s_nX S → μ.1 26 m = nI (S.1 57 m)) ∧ (∀ m, m < s_nX S → μ.1 27 m = nI (10 * S.1 58 m + S.1 59 m)) ∧ (∀ m, m < s_nX S → μ.1 28 m = nI (S.1 60 m)) ∧ (∀ m, m < s_nX S → μ.1 29 m = nI (S.1 61 m)) ∧ (∀ g t, g < 30 → t < 40 → μ.1 30 (g * 40 + t) = ab_o1 (s_dg S t g)) ∧
  (∀ g i, g < 30 → ab_bt (μ.2 31 g) i = (s_dg S i g).isSome) ∧ (∀ g i, g < 30 → ab_bt (μ.2 32 g) i = s_pg S g (fun m => S.1 60 m == 0) i) ∧ (∀ g i, g < 30 → ab_bt (μ.2 33 g) i = s_pg S g (fun m => S.1 60 m == 1) i) ∧ (∀ g i, g < 30 → ab_bt (μ.2 34 g) i = s_pg S g (fun m => s_has (S.1 61 m) 1) i) ∧ (∀ g i, g < 30 → ab_bt (μ.2 35 g) i = s_pg S g (fun m => s_has (S.1 61 m) 4) i) := by
  obtain ⟨h1, h2, h3, h4⟩ := X
  exact ⟨h1, fun m h => (h2 m h).1, fun m h => (h2 m h).2.1, fun m h => (h2 m h).2.2.1, fun m h => (h2 m h).2.2.2, fun g t hg ht => by rw [Nat.mul_comm, h3 g t hg ht], fun g i hg => (h4 g i hg).1, fun g i hg => (h4 g i hg).2.1, fun g i hg => (h4 g i hg).2.2.1, fun g i hg => (h4 g i hg).2.2.2.1, fun g i hg => (h4 g i hg).2.2.2.2⟩
theorem s_dg_some {S : sT} (hW : Wf S) {i g m : Nat} (h : s_dg S i g = some m) : m < s_nX S ∧ S.1 57 m = i ∧ S.1 58 m = g / 10 ∧ S.1 59 m = g % 10 ∧ i < s_nT S := by
  have := s_decF_some h
  refine ⟨this.1, this.2.1, this.2.2.1, this.2.2.2, ?_⟩
  rw [← this.2.1]
  exact (hW.2.2.2.2.2.2 m this.1).1
theorem s_dg_m {S : sT} (hI : Iv S) {m : Nat} (hm : m < s_nX S) : s_dg S (S.1 57 m) (10 * S.1 58 m + S.1 59 m) = some m := by
  have h := (hI.1.2.2.2.2.2.2 m hm).2.2.1
  unfold s_dg
  rw [show (10 * S.1 58 m + S.1 59 m) / 10 = S.1 58 m by omega, show (10 * S.1 58 m + S.1 59 m) % 10 = S.1 59 m by omega]
  exact hI.2.2.1 m hm
theorem s_pg_ge {S : sT} (hW : Wf S) {g i : Nat} {p : Nat → Bool} (h : s_nT S ≤ i) : s_pg S g p i = false := by
  unfold s_pg
  cases e : s_dg S i g with
  | none => rfl
  | some m => have := (s_dg_some hW e).2.2.2.2; omega
theorem s_pg_t {S : sT} {g i : Nat} {p : Nat → Bool} : s_pg S g p i = true ↔ ∃ m, s_dg S i g = some m ∧ p m = true := by
  unfold s_pg
  cases e : s_dg S i g with
  | none => simp
  | some m => simp
theorem s_pg_m {S : sT} (hI : Iv S) {m : Nat} (hm : m < s_nX S) {p : Nat → Bool} : s_pg S (10 * S.1 58 m + S.1 59 m) p (S.1 57 m) = p m := by
  unfold s_pg
  rw [s_dg_m hI hm]
/-- the least bit -/
theorem ab_bt_neg {x : Int64} {i : Nat} (hi : i < 64) (h1 : ab_bt x i = true) (h0 : ∀ j, j < i → ab_bt x j = false) : x &&& (-x) = ab_one i := by
  apply ab_bt_ext
  intro k hk
  rw [ab_bt_and, ab_bt_one hi]
  have hn : (ab_un x) % 2 ^ i = 0 := by
    apply Nat.eq_of_testBit_eq
    intro j
    rw [Nat.testBit_mod_two_pow, Nat.zero_testBit]
    by_cases hj : j < i
    · rw [ab_un_bt, h0 j hj]; simp
    · simp [hj]
  have hd : ab_un x = 2 ^ i * (ab_un x / 2 ^ i) := by
    have := Nat.div_add_mod (ab_un x) (2 ^ i)
    omega
  have hb : (ab_un x / 2 ^ i) % 2 = 1 := by
    have := ab_un_bt x i
    rw [h1, Nat.testBit_eq_decide_div_mod_eq] at this
    simpa using this
  have hpos : 0 < 2 ^ i := Nat.two_pow_pos i
  have hx : ab_un x < 2 ^ 64 := ab_un_lt x
  have h5 : ∀ c, ab_bt x (i + (c + 1)) = (ab_un x / 2 ^ i).testBit (c + 1) := by
    intro c
    rw [← ab_un_bt, ← Nat.shiftRight_eq_div_pow, Nat.testBit_shiftRight]
  generalize ab_un x / 2 ^ i = q at hd hb h5
  have hq : ab_un x - 1 = 2 ^ i * (q - 1) + (2 ^ i - 1) := by
    have h2 : q = (q - 1) + 1 := by omega
    have h3 : 2 ^ i * q = 2 ^ i * (q - 1) + 2 ^ i := by
      conv => lhs; rw [h2]
      rw [Nat.mul_add, Nat.mul_one]
    omega
  have hx0 : 0 < ab_un x := by
    rw [hd]
    exact Nat.mul_pos hpos (by omega)
  have hneg : ab_un (-x) = 2 ^ 64 - ((ab_un x - 1) + 1) := by
    unfold ab_un at hx0 ⊢
    rw [Int64.toBitVec_neg, BitVec.toNat_neg]
    rw [show x.toBitVec.toNat - 1 + 1 = x.toBitVec.toNat by omega]
    exact Nat.mod_eq_of_lt (by omega)
  have hnb : ab_bt (-x) k = !(ab_un x - 1).testBit k := by
    rw [← ab_un_bt, hneg, Nat.testBit_two_pow_sub_succ (by omega)]
    simp [hk]
  rw [hnb, hq, Nat.testBit_two_pow_mul_add _ (by omega)]
  by_cases hki : k < i
  · simp [hki, h0 k hki, show ¬ k = i by omega]
  · rw [if_neg hki]
    by_cases e : k = i
    · subst e
      simp [h1, show (q - 1) % 2 = 0 by omega]
    · obtain ⟨c, rfl⟩ : ∃ c, k = i + (c + 1) := ⟨k - i - 1, by omega⟩
      have h4 : (q - 1).testBit (c + 1) = q.testBit (c + 1) := by
        rw [Nat.testBit_succ, Nat.testBit_succ]
        congr 1
        omega
      rw [show i + (c + 1) - i = c + 1 by omega, h4, h5]
      simp
theorem ab_cnt_lt {i : Nat} : ∀ n, ab_cnt (fun j => decide (j < i)) n = min i n
  | 0 => by simp [ab_cnt]
  | n + 1 => by
    simp only [ab_cnt, ab_cnt_lt n]
    by_cases h : n < i
    · simp [h]; omega
    · simp [h]; omega
theorem ab_least {x : Int64} {i : Nat} (hi : i < 64) (h1 : ab_bt x i = true) (h0 : ∀ j, j < i → ab_bt x j = false) : ab_pc ((x &&& (-x)) - 1) = i := by
  rw [ab_bt_neg hi h1 h0]
  have e1 : ab_un (ab_one i) = 2 ^ i := by
    apply Nat.eq_of_testBit_eq
    intro j
    rw [ab_un_bt, ab_bt_one hi, Nat.testBit_two_pow]
    rw [decide_eq_decide]
    omega
  have hpos : 0 < 2 ^ i := Nat.two_pow_pos i
  have e2 : ab_un (ab_one i - 1) = 2 ^ i - 1 := by
    rw [ab_un_sub _ _ (by rw [e1]; show 1 ≤ _; omega), e1]
    rfl
  have e3 : ∀ j, j < 64 → ab_bt (ab_one i - 1) j = decide (j < i) := by
    intro j hj
    rw [← ab_un_bt, e2, Nat.testBit_two_pow_sub_one]
  unfold ab_pc
  rw [ab_cnt_congr e3, ab_cnt_lt]
  omega
theorem nI_ti {n : Nat} (h : n < 2 ^ 31) : (nI n).toInt = (n : Int) := by
  unfold nI
  exact Int32.toInt_ofNat_of_lt h
section K4
variable {l : Launch} {ω : ab_W} {S : sT} {μ : ab_M} {Q : Int32 → ab_M → Prop}
theorem x_least (hω : ω.2.2.2 = ab_SH) {x : Int64} {i : Nat} (hi : i < 64) (h1 : ab_bt x i = true) (h0 : ∀ j, j < i → ab_bt x j = false) (hQ : Q (nI i) μ) : ab_CI l ω mX7_least [.long x] μ Q := by
  refine ab_intro (sh := ab_SH) (cd := kX7_least) hω vX7_least (by decide +kernel) rfl (Nat.le_of_ble_eq_true rfl) (fun j hj hw => ?_)
  repeat' (first | refine hj _ _ _ _ ?_ | (refine br_c (fun h => ?_) (fun h => ?_) <;> (try simp (disch := omega) only [nI_clamp, li_2, li_3, li_4, li_5, li_6, li_7, li_8, li_9, li_10, li_40, li_120, pk_mul, nI_add, nI_1, ix_eq, ix_lt, ix_le, ix_l0, ix_l1, ix_n0, ix_p0, ix_1lt, ix_lt1, ix_1le, ix_le1, ix_le0, ix_0lt, ab_z0, ab_z1, i_10, i_01, eq_self, ab_ozn, ab_ozp, ab_o_some, not_true_eq_false, not_false_eq_true, Bool.not_eq_false, Bool.not_eq_true, Bool.not_eq_false', Bool.not_eq_true', Bool.false_eq_true, Bool.true_eq_false, reduceCtorEq, Option.isSome_some, Option.isSome_none] at h) <;> (try omega)) | (refine br_n (fun h => ?_) (fun h => ?_) <;> (try simp (disch := omega) only [nI_clamp, li_2, li_3, li_4, li_5, li_6, li_7, li_8, li_9, li_10, li_40, li_120, pk_mul, nI_add, nI_1, ix_eq, ix_lt, ix_le, ix_l0, ix_l1, ix_n0, ix_p0, ix_1lt, ix_lt1, ix_1le, ix_le1, ix_le0, ix_0lt, ab_z0, ab_z1, i_10, i_01, eq_self, ab_ozn, ab_ozp, ab_o_some, not_true_eq_false, not_false_eq_true, Bool.not_eq_false, Bool.not_eq_true, Bool.not_eq_false', Bool.not_eq_true', Bool.false_eq_true, Bool.true_eq_false, reduceCtorEq, Option.isSome_some, Option.isSome_none] at h) <;> (try omega)) | refine ab_sd (by first | (with_reducible refine vp_in_nI ?_ ?_ <;> omega) | (simp (disch := omega) only [nI_clamp, li_2, li_3, li_4, li_5, li_6, li_7, li_8, li_9, li_10, li_40, li_120, pk_mul, nI_add, nI_1, ix_eq, ix_lt, ix_le, ix_l0, ix_l1, ix_n0, ix_p0, ix_1lt, ix_lt1, ix_1le, ix_le1, ix_le0, ix_0lt, ab_z0, ab_z1, i_10, i_01, eq_self, ab_ozn, ab_ozp, ab_o_some, not_true_eq_false, not_false_eq_true, Bool.not_eq_false, Bool.not_eq_true, Bool.not_eq_false', Bool.not_eq_true', Bool.false_eq_true, Bool.true_eq_false, reduceCtorEq, Option.isSome_some, Option.isSome_none]; with_reducible refine vp_in_nI ?_ ?_ <;> omega)) ?_ | refine x_bitCount hω ?_ | refine ab_sd ?_ ?_ | refine ab_sz (Or.inl rfl) ?_ | refine ab_sz (Or.inr rfl) ?_ | refine ab_sz ?_ ?_)
  show Q _ _
  rw [ab_least hi h1 h0]
  exact hQ
theorem x_mexists (hω : ω.2.2.2 = ab_SH) (X : RepX S μ) {x : Int32} (hQ : Q (ab_z (ab_ok (s_nX S) x)) μ) : ab_CI l ω mX3_exists [.ref 3, .int x] μ Q := by
  refine ab_intro (sh := ab_SH) (cd := kX3_exists) hω vX3_exists (by decide +kernel) rfl (Nat.le_of_ble_eq_true rfl) (fun j hj hw => ?_)
  have e := X.1
  repeat' (first | refine hj _ _ _ _ ?_ | (refine br_c (fun h => ?_) (fun h => ?_) <;> (try simp (disch := omega) only [nI_clamp, li_2, li_3, li_4, li_5, li_6, li_7, li_8, li_9, li_10, li_40, li_120, pk_mul, nI_add, nI_1, ix_eq, ix_lt, ix_le, ix_l0, ix_l1, ix_n0, ix_p0, ix_1lt, ix_lt1, ix_1le, ix_le1, ix_le0, ix_0lt, ab_z0, ab_z1, i_10, i_01, eq_self, ab_ozn, ab_ozp, ab_o_some, not_true_eq_false, not_false_eq_true, Bool.not_eq_false, Bool.not_eq_true, Bool.not_eq_false', Bool.not_eq_true', Bool.false_eq_true, Bool.true_eq_false, reduceCtorEq, Option.isSome_some, Option.isSome_none] at h) <;> (try omega)) | (refine br_n (fun h => ?_) (fun h => ?_) <;> (try simp (disch := omega) only [nI_clamp, li_2, li_3, li_4, li_5, li_6, li_7, li_8, li_9, li_10, li_40, li_120, pk_mul, nI_add, nI_1, ix_eq, ix_lt, ix_le, ix_l0, ix_l1, ix_n0, ix_p0, ix_1lt, ix_lt1, ix_1le, ix_le1, ix_le0, ix_0lt, ab_z0, ab_z1, i_10, i_01, eq_self, ab_ozn, ab_ozp, ab_o_some, not_true_eq_false, not_false_eq_true, Bool.not_eq_false, Bool.not_eq_true, Bool.not_eq_false', Bool.not_eq_true', Bool.false_eq_true, Bool.true_eq_false, reduceCtorEq, Option.isSome_some, Option.isSome_none] at h) <;> (try omega)) | refine ab_sd (by first | (with_reducible refine vp_in_nI ?_ ?_ <;> omega) | (simp (disch := omega) only [nI_clamp, li_2, li_3, li_4, li_5, li_6, li_7, li_8, li_9, li_10, li_40, li_120, pk_mul, nI_add, nI_1, ix_eq, ix_lt, ix_le, ix_l0, ix_l1, ix_n0, ix_p0, ix_1lt, ix_lt1, ix_1le, ix_le1, ix_le0, ix_0lt, ab_z0, ab_z1, i_10, i_01, eq_self, ab_ozn, ab_ozp, ab_o_some, not_true_eq_false, not_false_eq_true, Bool.not_eq_false, Bool.not_eq_true, Bool.not_eq_false', Bool.not_eq_true', Bool.false_eq_true, Bool.true_eq_false, reduceCtorEq, Option.isSome_some, Option.isSome_none]; with_reducible refine vp_in_nI ?_ ?_ <;> omega)) ?_ | refine ab_sd ?_ ?_ | refine ab_sz (Or.inl rfl) ?_ | refine ab_sz (Or.inr rfl) ?_ | refine ab_sz ?_ ?_)
  all_goals (refine q_of hQ ?_; unfold ab_z ab_ok; grind)
theorem x_isMethodGroup (hω : ω.2.2.2 = ab_SH) {x : Int32} {g : Nat} (ex : x = nI g) (hg : g < 30) (hQ : Q (ab_z (g / 10 == 1)) μ) : ab_CI l ω mX3_isMethodGroup [.ref 3, .int x] μ Q := by
  subst ex
  refine ab_intro (sh := ab_SH) (cd := kX3_isMethodGroup) hω vX3_isMethodGroup (by decide +kernel) rfl (Nat.le_of_ble_eq_true rfl) (fun j hj hw => ?_)
  repeat' (first | refine hj _ _ _ _ ?_ | (refine br_c (fun h => ?_) (fun h => ?_) <;> (try simp (disch := omega) only [nI_clamp, li_2, li_3, li_4, li_5, li_6, li_7, li_8, li_9, li_10, li_40, li_120, pk_mul, nI_add, nI_1, ix_eq, ix_lt, ix_le, ix_l0, ix_l1, ix_n0, ix_p0, ix_1lt, ix_lt1, ix_1le, ix_le1, ix_le0, ix_0lt, ab_z0, ab_z1, i_10, i_01, eq_self, ab_ozn, ab_ozp, ab_o_some, not_true_eq_false, not_false_eq_true, Bool.not_eq_false, Bool.not_eq_true, Bool.not_eq_false', Bool.not_eq_true', Bool.false_eq_true, Bool.true_eq_false, reduceCtorEq, Option.isSome_some, Option.isSome_none, show (20 : Int32) = nI 20 from rfl] at h) <;> (try omega)) | (refine br_n (fun h => ?_) (fun h => ?_) <;> (try simp (disch := omega) only [nI_clamp, li_2, li_3, li_4, li_5, li_6, li_7, li_8, li_9, li_10, li_40, li_120, pk_mul, nI_add, nI_1, ix_eq, ix_lt, ix_le, ix_l0, ix_l1, ix_n0, ix_p0, ix_1lt, ix_lt1, ix_1le, ix_le1, ix_le0, ix_0lt, ab_z0, ab_z1, i_10, i_01, eq_self, ab_ozn, ab_ozp, ab_o_some, not_true_eq_false, not_false_eq_true, Bool.not_eq_false, Bool.not_eq_true, Bool.not_eq_false', Bool.not_eq_true', Bool.false_eq_true, Bool.true_eq_false, reduceCtorEq, Option.isSome_some, Option.isSome_none, show (20 : Int32) = nI 20 from rfl] at h) <;> (try omega)) | refine ab_sd (by first | (with_reducible refine vp_in_nI ?_ ?_ <;> omega) | (simp (disch := omega) only [nI_clamp, li_2, li_3, li_4, li_5, li_6, li_7, li_8, li_9, li_10, li_40, li_120, pk_mul, nI_add, nI_1, ix_eq, ix_lt, ix_le, ix_l0, ix_l1, ix_n0, ix_p0, ix_1lt, ix_lt1, ix_1le, ix_le1, ix_le0, ix_0lt, ab_z0, ab_z1, i_10, i_01, eq_self, ab_ozn, ab_ozp, ab_o_some, not_true_eq_false, not_false_eq_true, Bool.not_eq_false, Bool.not_eq_true, Bool.not_eq_false', Bool.not_eq_true', Bool.false_eq_true, Bool.true_eq_false, reduceCtorEq, Option.isSome_some, Option.isSome_none, show (20 : Int32) = nI 20 from rfl]; with_reducible refine vp_in_nI ?_ ?_ <;> omega)) ?_ | refine ab_sd ?_ ?_ | refine ab_sz (Or.inl rfl) ?_ | refine ab_sz (Or.inr rfl) ?_ | refine ab_sz ?_ ?_)
  · refine q_of hQ ?_
    rw [show (g / 10 == 1) = false by rw [beq_eq_false_iff_ne]; omega]; rfl
  · refine q_of hQ ?_
    rw [show (g / 10 == 1) = false by rw [beq_eq_false_iff_ne]; omega]; rfl
  · refine q_of hQ ?_
    rw [show (g / 10 == 1) = true by rw [beq_iff_eq]; omega]; rfl
theorem x_isMethod (hω : ω.2.2.2 = ab_SH) (X : RepX S μ) (hW : Wf S) {x : Int32} (hQ : Q (ab_z (v_meth S x)) μ) : ab_CI l ω mX3_isMethod [.ref 3, .int x] μ Q := by
  refine ab_intro (sh := ab_SH) (cd := kX3_isMethod) hω vX3_isMethod (by decide +kernel) rfl (Nat.le_of_ble_eq_true rfl) (fun j hj hw => ?_)
  have hX := hW.2.2.2.1
  unfold v_meth at hQ
  cases hx : ab_ok (s_nX S) x with
  | false =>
    rw [hx] at hQ
    repeat' (first | refine hj _ _ _ _ ?_ | (refine br_c (fun h => ?_) (fun h => ?_) <;> (try simp (disch := omega) only [nI_clamp, li_2, li_3, li_4, li_5, li_6, li_7, li_8, li_9, li_10, li_40, li_120, pk_mul, nI_add, nI_1, ix_eq, ix_lt, ix_le, ix_l0, ix_l1, ix_n0, ix_p0, ix_1lt, ix_lt1, ix_1le, ix_le1, ix_le0, ix_0lt, ab_z0, ab_z1, i_10, i_01, eq_self, ab_ozn, ab_ozp, ab_o_some, not_true_eq_false, not_false_eq_true, Bool.not_eq_false, Bool.not_eq_true, Bool.not_eq_false', Bool.not_eq_true', Bool.false_eq_true, Bool.true_eq_false, reduceCtorEq, Option.isSome_some, Option.isSome_none, hx] at h) <;> (try omega)) | (refine br_n (fun h => ?_) (fun h => ?_) <;> (try simp (disch := omega) only [nI_clamp, li_2, li_3, li_4, li_5, li_6, li_7, li_8, li_9, li_10, li_40, li_120, pk_mul, nI_add, nI_1, ix_eq, ix_lt, ix_le, ix_l0, ix_l1, ix_n0, ix_p0, ix_1lt, ix_lt1, ix_1le, ix_le1, ix_le0, ix_0lt, ab_z0, ab_z1, i_10, i_01, eq_self, ab_ozn, ab_ozp, ab_o_some, not_true_eq_false, not_false_eq_true, Bool.not_eq_false, Bool.not_eq_true, Bool.not_eq_false', Bool.not_eq_true', Bool.false_eq_true, Bool.true_eq_false, reduceCtorEq, Option.isSome_some, Option.isSome_none, hx] at h) <;> (try omega)) | refine ab_sd (by first | (with_reducible refine vp_in_nI ?_ ?_ <;> omega) | (simp (disch := omega) only [nI_clamp, li_2, li_3, li_4, li_5, li_6, li_7, li_8, li_9, li_10, li_40, li_120, pk_mul, nI_add, nI_1, ix_eq, ix_lt, ix_le, ix_l0, ix_l1, ix_n0, ix_p0, ix_1lt, ix_lt1, ix_1le, ix_le1, ix_le0, ix_0lt, ab_z0, ab_z1, i_10, i_01, eq_self, ab_ozn, ab_ozp, ab_o_some, not_true_eq_false, not_false_eq_true, Bool.not_eq_false, Bool.not_eq_true, Bool.not_eq_false', Bool.not_eq_true', Bool.false_eq_true, Bool.true_eq_false, reduceCtorEq, Option.isSome_some, Option.isSome_none, hx]; with_reducible refine vp_in_nI ?_ ?_ <;> omega)) ?_ | refine x_mexists hω X ?_ | refine ab_sd ?_ ?_ | refine ab_sz (Or.inl rfl) ?_ | refine ab_sz (Or.inr rfl) ?_ | refine ab_sz ?_ ?_)
    all_goals exact hQ
  | true =>
    have hx1 := hx
    obtain ⟨m, hm, rfl⟩ := ab_ok_t (by omega) hx
    obtain ⟨m1, m2, m3, m4, m5⟩ := hW.2.2.2.2.2.2 m hm
    have x27 := (X.2.1 m hm).2.1
    rw [hx1, nI_clamp (by omega)] at hQ
    repeat' (first | refine hj _ _ _ _ ?_ | (refine br_c (fun h => ?_) (fun h => ?_) <;> (try simp (disch := omega) only [nI_clamp, li_2, li_3, li_4, li_5, li_6, li_7, li_8, li_9, li_10, li_40, li_120, pk_mul, nI_add, nI_1, ix_eq, ix_lt, ix_le, ix_l0, ix_l1, ix_n0, ix_p0, ix_1lt, ix_lt1, ix_1le, ix_le1, ix_le0, ix_0lt, ab_z0, ab_z1, i_10, i_01, eq_self, ab_ozn, ab_ozp, ab_o_some, not_true_eq_false, not_false_eq_true, Bool.not_eq_false, Bool.not_eq_true, Bool.not_eq_false', Bool.not_eq_true', Bool.false_eq_true, Bool.true_eq_false, reduceCtorEq, Option.isSome_some, Option.isSome_none, hx1, x27] at h) <;> (try omega)) | (refine br_n (fun h => ?_) (fun h => ?_) <;> (try simp (disch := omega) only [nI_clamp, li_2, li_3, li_4, li_5, li_6, li_7, li_8, li_9, li_10, li_40, li_120, pk_mul, nI_add, nI_1, ix_eq, ix_lt, ix_le, ix_l0, ix_l1, ix_n0, ix_p0, ix_1lt, ix_lt1, ix_1le, ix_le1, ix_le0, ix_0lt, ab_z0, ab_z1, i_10, i_01, eq_self, ab_ozn, ab_ozp, ab_o_some, not_true_eq_false, not_false_eq_true, Bool.not_eq_false, Bool.not_eq_true, Bool.not_eq_false', Bool.not_eq_true', Bool.false_eq_true, Bool.true_eq_false, reduceCtorEq, Option.isSome_some, Option.isSome_none, hx1, x27] at h) <;> (try omega)) | refine ab_sd (by first | (with_reducible refine vp_in_nI ?_ ?_ <;> omega) | (simp (disch := omega) only [nI_clamp, li_2, li_3, li_4, li_5, li_6, li_7, li_8, li_9, li_10, li_40, li_120, pk_mul, nI_add, nI_1, ix_eq, ix_lt, ix_le, ix_l0, ix_l1, ix_n0, ix_p0, ix_1lt, ix_lt1, ix_1le, ix_le1, ix_le0, ix_0lt, ab_z0, ab_z1, i_10, i_01, eq_self, ab_ozn, ab_ozp, ab_o_some, not_true_eq_false, not_false_eq_true, Bool.not_eq_false, Bool.not_eq_true, Bool.not_eq_false', Bool.not_eq_true', Bool.false_eq_true, Bool.true_eq_false, reduceCtorEq, Option.isSome_some, Option.isSome_none, hx1, x27]; with_reducible refine vp_in_nI ?_ ?_ <;> omega)) ?_ | refine x_mexists hω X ?_ | refine x_isMethodGroup hω (g := 10 * S.1 58 m + S.1 59 m) (by rw [nI_clamp (by omega), x27]) (by omega) ?_ | refine ab_sd ?_ ?_ | refine ab_sz (Or.inl rfl) ?_ | refine ab_sz (Or.inr rfl) ?_ | refine ab_sz ?_ ?_)
    all_goals (refine q_of hQ ?_; rw [show (10 * S.1 58 m + S.1 59 m) / 10 = S.1 58 m by omega] at h; simp_all [ab_z])
theorem x_mhasFlag (hω : ω.2.2.2 = ab_SH) (X : RepX S μ) (hW : Wf S) {x y : Int32} {m f : Nat} (ex : x = nI m) (ey : y = nI f) (hm : m < s_nX S) (hQ : Q (ab_z (s_has (S.1 61 m) f)) μ) : ab_CI l ω mX3_hasFlag [.ref 3, .int x, .int y] μ Q := by
  subst ex ey
  refine ab_intro (sh := ab_SH) (cd := kX3_hasFlag) hω vX3_hasFlag (by decide +kernel) rfl (Nat.le_of_ble_eq_true rfl) (fun j hj hw => ?_)
  have hX := hW.2.2.2.1
  obtain ⟨m1, m2, m3, m4, m5⟩ := hW.2.2.2.2.2.2 m hm
  have x29 := (X.2.1 m hm).2.2.2
  have q := s_and_lt (b := f) m5
  repeat' (first | refine hj _ _ _ _ ?_ | (refine br_c (fun h => ?_) (fun h => ?_) <;> (try simp (disch := omega) only [nI_clamp, li_2, li_3, li_4, li_5, li_6, li_7, li_8, li_9, li_10, li_40, li_120, pk_mul, nI_add, nI_1, ix_eq, ix_lt, ix_le, ix_l0, ix_l1, ix_n0, ix_p0, ix_1lt, ix_lt1, ix_1le, ix_le1, ix_le0, ix_0lt, ab_z0, ab_z1, i_10, i_01, eq_self, ab_ozn, ab_ozp, ab_o_some, not_true_eq_false, not_false_eq_true, Bool.not_eq_false, Bool.not_eq_true, Bool.not_eq_false', Bool.not_eq_true', Bool.false_eq_true, Bool.true_eq_false, reduceCtorEq, Option.isSome_some, Option.isSome_none, x29, ab_nand] at h) <;> (try omega)) | (refine br_n (fun h => ?_) (fun h => ?_) <;> (try simp (disch := omega) only [nI_clamp, li_2, li_3, li_4, li_5, li_6, li_7, li_8, li_9, li_10, li_40, li_120, pk_mul, nI_add, nI_1, ix_eq, ix_lt, ix_le, ix_l0, ix_l1, ix_n0, ix_p0, ix_1lt, ix_lt1, ix_1le, ix_le1, ix_le0, ix_0lt, ab_z0, ab_z1, i_10, i_01, eq_self, ab_ozn, ab_ozp, ab_o_some, not_true_eq_false, not_false_eq_true, Bool.not_eq_false, Bool.not_eq_true, Bool.not_eq_false', Bool.not_eq_true', Bool.false_eq_true, Bool.true_eq_false, reduceCtorEq, Option.isSome_some, Option.isSome_none, x29, ab_nand] at h) <;> (try omega)) | refine ab_sd (by first | (with_reducible refine vp_in_nI ?_ ?_ <;> omega) | (simp (disch := omega) only [nI_clamp, li_2, li_3, li_4, li_5, li_6, li_7, li_8, li_9, li_10, li_40, li_120, pk_mul, nI_add, nI_1, ix_eq, ix_lt, ix_le, ix_l0, ix_l1, ix_n0, ix_p0, ix_1lt, ix_lt1, ix_1le, ix_le1, ix_le0, ix_0lt, ab_z0, ab_z1, i_10, i_01, eq_self, ab_ozn, ab_ozp, ab_o_some, not_true_eq_false, not_false_eq_true, Bool.not_eq_false, Bool.not_eq_true, Bool.not_eq_false', Bool.not_eq_true', Bool.false_eq_true, Bool.true_eq_false, reduceCtorEq, Option.isSome_some, Option.isSome_none, x29, ab_nand]; with_reducible refine vp_in_nI ?_ ?_ <;> omega)) ?_ | refine ab_sd ?_ ?_ | refine ab_sz (Or.inl rfl) ?_ | refine ab_sz (Or.inr rfl) ?_ | refine ab_sz ?_ ?_)
  all_goals (refine q_of hQ ?_; unfold s_has; simp [h, ab_z])
theorem x_declared (hω : ω.2.2.2 = ab_SH) (X : RepX S μ) {x y : Int32} {t g : Nat} (ex : x = nI t) (ey : y = nI g) (ht : t < 40) (hg : g < 30) (hQ : Q (ab_o1 (s_dg S t g)) μ) : ab_CI l ω mX3_declared [.ref 3, .int x, .int y] μ Q := by
  subst ex ey
  refine ab_intro (sh := ab_SH) (cd := kX3_declared) hω vX3_declared (by decide +kernel) rfl (Nat.le_of_ble_eq_true rfl) (fun j hj hw => ?_)
  obtain ⟨xN, x26, x27, x28, x29, x30, x31, x32, x33, x34, x35⟩ := RepX_fs X
  repeat' (first | refine hj _ _ _ _ ?_ | (refine br_c (fun h => ?_) (fun h => ?_) <;> (try simp (disch := omega) only [nI_clamp, li_2, li_3, li_4, li_5, li_6, li_7, li_8, li_9, li_10, li_40, li_120, pk_mul, nI_add, nI_1, ix_eq, ix_lt, ix_le, ix_l0, ix_l1, ix_n0, ix_p0, ix_1lt, ix_lt1, ix_1le, ix_le1, ix_le0, ix_0lt, ab_z0, ab_z1, i_10, i_01, eq_self, ab_ozn, ab_ozp, ab_o_some, not_true_eq_false, not_false_eq_true, Bool.not_eq_false, Bool.not_eq_true, Bool.not_eq_false', Bool.not_eq_true', Bool.false_eq_true, Bool.true_eq_false, reduceCtorEq, Option.isSome_some, Option.isSome_none] at h) <;> (try omega)) | (refine br_n (fun h => ?_) (fun h => ?_) <;> (try simp (disch := omega) only [nI_clamp, li_2, li_3, li_4, li_5, li_6, li_7, li_8, li_9, li_10, li_40, li_120, pk_mul, nI_add, nI_1, ix_eq, ix_lt, ix_le, ix_l0, ix_l1, ix_n0, ix_p0, ix_1lt, ix_lt1, ix_1le, ix_le1, ix_le0, ix_0lt, ab_z0, ab_z1, i_10, i_01, eq_self, ab_ozn, ab_ozp, ab_o_some, not_true_eq_false, not_false_eq_true, Bool.not_eq_false, Bool.not_eq_true, Bool.not_eq_false', Bool.not_eq_true', Bool.false_eq_true, Bool.true_eq_false, reduceCtorEq, Option.isSome_some, Option.isSome_none] at h) <;> (try omega)) | refine ab_sd (by first | (with_reducible refine vp_in_nI ?_ ?_ <;> omega) | (simp (disch := omega) only [nI_clamp, li_2, li_3, li_4, li_5, li_6, li_7, li_8, li_9, li_10, li_40, li_120, pk_mul, nI_add, nI_1, ix_eq, ix_lt, ix_le, ix_l0, ix_l1, ix_n0, ix_p0, ix_1lt, ix_lt1, ix_1le, ix_le1, ix_le0, ix_0lt, ab_z0, ab_z1, i_10, i_01, eq_self, ab_ozn, ab_ozp, ab_o_some, not_true_eq_false, not_false_eq_true, Bool.not_eq_false, Bool.not_eq_true, Bool.not_eq_false', Bool.not_eq_true', Bool.false_eq_true, Bool.true_eq_false, reduceCtorEq, Option.isSome_some, Option.isSome_none]; with_reducible refine vp_in_nI ?_ ?_ <;> omega)) ?_ | refine ab_sd ?_ ?_ | refine ab_sz (Or.inl rfl) ?_ | refine ab_sz (Or.inr rfl) ?_ | refine ab_sz ?_ ?_)
  show Q _ _
  simp (disch := omega) only [nI_clamp, li_2, li_3, li_4, li_5, li_6, li_7, li_8, li_9, li_10, li_40, li_120, pk_mul, nI_add, nI_1, ix_eq, ix_lt, ix_le, ix_l0, ix_l1, ix_n0, ix_p0, ix_1lt, ix_lt1, ix_1le, ix_le1, ix_le0, ix_0lt, ab_z0, ab_z1, i_10, i_01, eq_self, ab_ozn, ab_ozp, ab_o_some, not_true_eq_false, not_false_eq_true, Bool.not_eq_false, Bool.not_eq_true, Bool.not_eq_false', Bool.not_eq_true', Bool.false_eq_true, Bool.true_eq_false, reduceCtorEq, Option.isSome_some, Option.isSome_none, x30]
  exact hQ
theorem x_overridable {Q : Int64 → ab_M → Prop} (hω : ω.2.2.2 = ab_SH) (X : RepX S μ) {x : Int32} {g : Nat} (ex : x = nI g) (hg : g < 30) (hQ : ∀ y, (∀ i, i < 64 → ab_bt y i = s_pg S g (s_pl S) i) → Q y μ) : ab_CL l ω mX3_overridable [.ref 3, .int x] μ Q := by
  subst ex
  refine ab_intro (sh := ab_SH) (cd := kX3_overridable) hω vX3_overridable (by decide +kernel) rfl (Nat.le_of_ble_eq_true rfl) (fun j hj hw => ?_)
  obtain ⟨xN, x26, x27, x28, x29, x30, x31, x32, x33, x34, x35⟩ := RepX_fs X
  repeat' (first | refine hj _ _ _ _ ?_ | (refine br_c (fun h => ?_) (fun h => ?_) <;> (try simp (disch := omega) only [nI_clamp, li_2, li_3, li_4, li_5, li_6, li_7, li_8, li_9, li_10, li_40, li_120, pk_mul, nI_add, nI_1, ix_eq, ix_lt, ix_le, ix_l0, ix_l1, ix_n0, ix_p0, ix_1lt, ix_lt1, ix_1le, ix_le1, ix_le0, ix_0lt, ab_z0, ab_z1, i_10, i_01, eq_self, ab_ozn, ab_ozp, ab_o_some, not_true_eq_false, not_false_eq_true, Bool.not_eq_false, Bool.not_eq_true, Bool.not_eq_false', Bool.not_eq_true', Bool.false_eq_true, Bool.true_eq_false, reduceCtorEq, Option.isSome_some, Option.isSome_none] at h) <;> (try omega)) | (refine br_n (fun h => ?_) (fun h => ?_) <;> (try simp (disch := omega) only [nI_clamp, li_2, li_3, li_4, li_5, li_6, li_7, li_8, li_9, li_10, li_40, li_120, pk_mul, nI_add, nI_1, ix_eq, ix_lt, ix_le, ix_l0, ix_l1, ix_n0, ix_p0, ix_1lt, ix_lt1, ix_1le, ix_le1, ix_le0, ix_0lt, ab_z0, ab_z1, i_10, i_01, eq_self, ab_ozn, ab_ozp, ab_o_some, not_true_eq_false, not_false_eq_true, Bool.not_eq_false, Bool.not_eq_true, Bool.not_eq_false', Bool.not_eq_true', Bool.false_eq_true, Bool.true_eq_false, reduceCtorEq, Option.isSome_some, Option.isSome_none] at h) <;> (try omega)) | refine ab_sd (by first | (with_reducible refine vp_in_nI ?_ ?_ <;> omega) | (simp (disch := omega) only [nI_clamp, li_2, li_3, li_4, li_5, li_6, li_7, li_8, li_9, li_10, li_40, li_120, pk_mul, nI_add, nI_1, ix_eq, ix_lt, ix_le, ix_l0, ix_l1, ix_n0, ix_p0, ix_1lt, ix_lt1, ix_1le, ix_le1, ix_le0, ix_0lt, ab_z0, ab_z1, i_10, i_01, eq_self, ab_ozn, ab_ozp, ab_o_some, not_true_eq_false, not_false_eq_true, Bool.not_eq_false, Bool.not_eq_true, Bool.not_eq_false', Bool.not_eq_true', Bool.false_eq_true, Bool.true_eq_false, reduceCtorEq, Option.isSome_some, Option.isSome_none]; with_reducible refine vp_in_nI ?_ ?_ <;> omega)) ?_ | refine ab_sd ?_ ?_ | refine ab_sz (Or.inl rfl) ?_ | refine ab_sz (Or.inr rfl) ?_ | refine ab_sz ?_ ?_)
  show Q _ _
  rw [nI_clamp (by omega)]
  refine hQ _ (fun i hi => ?_)
  rw [ab_bt_and, ab_bt_and, ab_bt_not hi, ab_bt_not hi, x31 g i hg, x32 g i hg, x34 g i hg]
  unfold s_pg s_pl
  cases s_dg S i g <;> simp
theorem x_withoutAnyBelow {Q : Int64 → ab_M → Prop} (hω : ω.2.2.2 = ab_SH) (T : RepT S μ) (hW : Wf S) {x y : Int64} (hQ : ∀ z, (∀ i, i < 64 → ab_bt z i = (ab_bt x i && !ab_ex (fun t => ab_bt y t && (decide (i < s_nT S) && s_ab S t i)) (s_nT S))) → Q z μ) : ab_CL l ω mX8_withoutAnyBelow [.ref 2, .long x, .long y] μ Q := by
  refine ab_intro (sh := ab_SH) (cd := kX8_withoutAnyBelow) hω vX8_withoutAnyBelow (by decide +kernel) rfl (Nat.le_of_ble_eq_true rfl) (fun j hj hw => ?_)
  have hjx : ∀ i ll st μ, i ∉ ([4] : List Nat) → _ → j i ll st μ := fun i ll st μ _ h => hj i ll st μ h
  have hT := hW.2.2.1.2
  have h20 := T.2.2.2.2.1
  obtain ⟨kT, kc, ks, k13, k14, k15, k16, k17, k18, k22, k19, k20, k21, k25⟩ := RepT_fs T
  have key : ∀ d n b, n + d = s_nT S → (∀ i, i < 64 → ab_bt b i = ab_ex (fun t => ab_bt y t && (decide (i < s_nT S) && s_ab S t i)) n) → j 4 [some (.ref 2), some (.long x), none, some (.long y), none, some (.long b), none, some (.int (nI n))] [] μ := by
    intro d
    induction d with
    | zero =>
      intro n b hn hb
      refine hj _ _ _ _ ?_
      repeat' (first | refine hjx _ _ _ _ (by decide) ?_ | (refine br_c (fun h => ?_) (fun h => ?_) <;> (try simp (disch := omega) only [nI_clamp, li_2, li_3, li_4, li_5, li_6, li_7, li_8, li_9, li_10, li_40, li_120, pk_mul, nI_add, nI_1, ix_eq, ix_lt, ix_le, ix_l0, ix_l1, ix_n0, ix_p0, ix_1lt, ix_lt1, ix_1le, ix_le1, ix_le0, ix_0lt, ab_z0, ab_z1, i_10, i_01, eq_self, ab_ozn, ab_ozp, ab_o_some, not_true_eq_false, not_false_eq_true, Bool.not_eq_false, Bool.not_eq_true, Bool.not_eq_false', Bool.not_eq_true', Bool.false_eq_true, Bool.true_eq_false, reduceCtorEq, Option.isSome_some, Option.isSome_none, kT] at h) <;> (try omega)) | (refine br_n (fun h => ?_) (fun h => ?_) <;> (try simp (disch := omega) only [nI_clamp, li_2, li_3, li_4, li_5, li_6, li_7, li_8, li_9, li_10, li_40, li_120, pk_mul, nI_add, nI_1, ix_eq, ix_lt, ix_le, ix_l0, ix_l1, ix_n0, ix_p0, ix_1lt, ix_lt1, ix_1le, ix_le1, ix_le0, ix_0lt, ab_z0, ab_z1, i_10, i_01, eq_self, ab_ozn, ab_ozp, ab_o_some, not_true_eq_false, not_false_eq_true, Bool.not_eq_false, Bool.not_eq_true, Bool.not_eq_false', Bool.not_eq_true', Bool.false_eq_true, Bool.true_eq_false, reduceCtorEq, Option.isSome_some, Option.isSome_none, kT] at h) <;> (try omega)) | refine ab_sd (by first | (with_reducible refine vp_in_nI ?_ ?_ <;> omega) | (simp (disch := omega) only [nI_clamp, li_2, li_3, li_4, li_5, li_6, li_7, li_8, li_9, li_10, li_40, li_120, pk_mul, nI_add, nI_1, ix_eq, ix_lt, ix_le, ix_l0, ix_l1, ix_n0, ix_p0, ix_1lt, ix_lt1, ix_1le, ix_le1, ix_le0, ix_0lt, ab_z0, ab_z1, i_10, i_01, eq_self, ab_ozn, ab_ozp, ab_o_some, not_true_eq_false, not_false_eq_true, Bool.not_eq_false, Bool.not_eq_true, Bool.not_eq_false', Bool.not_eq_true', Bool.false_eq_true, Bool.true_eq_false, reduceCtorEq, Option.isSome_some, Option.isSome_none, kT]; with_reducible refine vp_in_nI ?_ ?_ <;> omega)) ?_ | refine ab_sd ?_ ?_ | refine ab_sz (Or.inl rfl) ?_ | refine ab_sz (Or.inr rfl) ?_ | refine ab_sz ?_ ?_)
      show Q _ _
      refine hQ _ (fun i hi => ?_)
      rw [ab_bt_and, ab_bt_not hi, hb i hi, show n = s_nT S by omega]
    | succ d ih =>
      intro n b hn hb
      refine hj _ _ _ _ ?_
      have e := ab_bt_has (x := y) (k := n) (by omega)
      have st : ∀ b', (∀ i, i < 64 → ab_bt b' i = (ab_bt b i || (ab_bt y n && (decide (i < s_nT S) && s_ab S n i)))) → j 4 [some (.ref 2), some (.long x), none, some (.long y), none, some (.long b'), none, some (.int (nI (n + 1)))] [] μ := fun b' hb' => ih (n + 1) b' (by omega) (fun i hi => by rw [hb' i hi, hb i hi]; rfl)
      repeat' (first | refine hjx _ _ _ _ (by decide) ?_ | (refine br_c (fun h => ?_) (fun h => ?_) <;> (try simp (disch := omega) only [nI_clamp, li_2, li_3, li_4, li_5, li_6, li_7, li_8, li_9, li_10, li_40, li_120, pk_mul, nI_add, nI_1, ix_eq, ix_lt, ix_le, ix_l0, ix_l1, ix_n0, ix_p0, ix_1lt, ix_lt1, ix_1le, ix_le1, ix_le0, ix_0lt, ab_z0, ab_z1, i_10, i_01, eq_self, ab_ozn, ab_ozp, ab_o_some, not_true_eq_false, not_false_eq_true, Bool.not_eq_false, Bool.not_eq_true, Bool.not_eq_false', Bool.not_eq_true', Bool.false_eq_true, Bool.true_eq_false, reduceCtorEq, Option.isSome_some, Option.isSome_none, kT, lg_cmp_eq, e] at h) <;> (try omega)) | (refine br_n (fun h => ?_) (fun h => ?_) <;> (try simp (disch := omega) only [nI_clamp, li_2, li_3, li_4, li_5, li_6, li_7, li_8, li_9, li_10, li_40, li_120, pk_mul, nI_add, nI_1, ix_eq, ix_lt, ix_le, ix_l0, ix_l1, ix_n0, ix_p0, ix_1lt, ix_lt1, ix_1le, ix_le1, ix_le0, ix_0lt, ab_z0, ab_z1, i_10, i_01, eq_self, ab_ozn, ab_ozp, ab_o_some, not_true_eq_false, not_false_eq_true, Bool.not_eq_false, Bool.not_eq_true, Bool.not_eq_false', Bool.not_eq_true', Bool.false_eq_true, Bool.true_eq_false, reduceCtorEq, Option.isSome_some, Option.isSome_none, kT, lg_cmp_eq, e] at h) <;> (try omega)) | refine ab_sd (by first | (with_reducible refine vp_in_nI ?_ ?_ <;> omega) | (simp (disch := omega) only [nI_clamp, li_2, li_3, li_4, li_5, li_6, li_7, li_8, li_9, li_10, li_40, li_120, pk_mul, nI_add, nI_1, ix_eq, ix_lt, ix_le, ix_l0, ix_l1, ix_n0, ix_p0, ix_1lt, ix_lt1, ix_1le, ix_le1, ix_le0, ix_0lt, ab_z0, ab_z1, i_10, i_01, eq_self, ab_ozn, ab_ozp, ab_o_some, not_true_eq_false, not_false_eq_true, Bool.not_eq_false, Bool.not_eq_true, Bool.not_eq_false', Bool.not_eq_true', Bool.false_eq_true, Bool.true_eq_false, reduceCtorEq, Option.isSome_some, Option.isSome_none, kT, lg_cmp_eq, e]; with_reducible refine vp_in_nI ?_ ?_ <;> omega)) ?_ | refine ab_sd ?_ ?_ | refine ab_sz (Or.inl rfl) ?_ | refine ab_sz (Or.inr rfl) ?_ | refine ab_sz ?_ ?_)
      · show j 4 _ _ _
        rw [nI_1]
        refine st _ (fun i hi => ?_)
        rw [ab_bt_or, ab_bt_0, h]; simp
      · show j 4 _ _ _
        rw [nI_1]
        refine st _ (fun i hi => ?_)
        rw [ab_bt_or, nI_clamp (by omega), (h20 n (by omega) i).2.1, h]; simp [show n < s_nT S by omega]
  repeat' (first | refine hjx _ _ _ _ (by decide) ?_ | (refine br_c (fun h => ?_) (fun h => ?_) <;> (try simp (disch := omega) only [nI_clamp, li_2, li_3, li_4, li_5, li_6, li_7, li_8, li_9, li_10, li_40, li_120, pk_mul, nI_add, nI_1, ix_eq, ix_lt, ix_le, ix_l0, ix_l1, ix_n0, ix_p0, ix_1lt, ix_lt1, ix_1le, ix_le1, ix_le0, ix_0lt, ab_z0, ab_z1, i_10, i_01, eq_self, ab_ozn, ab_ozp, ab_o_some, not_true_eq_false, not_false_eq_true, Bool.not_eq_false, Bool.not_eq_true, Bool.not_eq_false', Bool.not_eq_true', Bool.false_eq_true, Bool.true_eq_false, reduceCtorEq, Option.isSome_some, Option.isSome_none] at h) <;> (try omega)) | (refine br_n (fun h => ?_) (fun h => ?_) <;> (try simp (disch := omega) only [nI_clamp, li_2, li_3, li_4, li_5, li_6, li_7, li_8, li_9, li_10, li_40, li_120, pk_mul, nI_add, nI_1, ix_eq, ix_lt, ix_le, ix_l0, ix_l1, ix_n0, ix_p0, ix_1lt, ix_lt1, ix_1le, ix_le1, ix_le0, ix_0lt, ab_z0, ab_z1, i_10, i_01, eq_self, ab_ozn, ab_ozp, ab_o_some, not_true_eq_false, not_false_eq_true, Bool.not_eq_false, Bool.not_eq_true, Bool.not_eq_false', Bool.not_eq_true', Bool.false_eq_true, Bool.true_eq_false, reduceCtorEq, Option.isSome_some, Option.isSome_none] at h) <;> (try omega)) | refine ab_sd (by first | (with_reducible refine vp_in_nI ?_ ?_ <;> omega) | (simp (disch := omega) only [nI_clamp, li_2, li_3, li_4, li_5, li_6, li_7, li_8, li_9, li_10, li_40, li_120, pk_mul, nI_add, nI_1, ix_eq, ix_lt, ix_le, ix_l0, ix_l1, ix_n0, ix_p0, ix_1lt, ix_lt1, ix_1le, ix_le1, ix_le0, ix_0lt, ab_z0, ab_z1, i_10, i_01, eq_self, ab_ozn, ab_ozp, ab_o_some, not_true_eq_false, not_false_eq_true, Bool.not_eq_false, Bool.not_eq_true, Bool.not_eq_false', Bool.not_eq_true', Bool.false_eq_true, Bool.true_eq_false, reduceCtorEq, Option.isSome_some, Option.isSome_none]; with_reducible refine vp_in_nI ?_ ?_ <;> omega)) ?_ | refine ab_sd ?_ ?_ | refine ab_sz (Or.inl rfl) ?_ | refine ab_sz (Or.inr rfl) ?_ | refine ab_sz ?_ ?_)
  exact key (s_nT S) 0 0 (by omega) (fun i hi => ab_bt_0 i)
def s_nr (S : sT) (f m : Nat) : Bool := if S.1 60 m = 0 then s_top S f == s_top S (S.1 57 m) else if S.1 60 m = 3 then true else S.1 48 f == S.1 48 (S.1 57 m)
theorem x_isNearEnough (hω : ω.2.2.2 = ab_SH) (T : RepT S μ) (X : RepX S μ) (hW : Wf S) {x y : Int32} {f m : Nat} (ex : x = nI f) (ey : y = nI m) (hf : f < s_nT S) (hm : m < s_nX S) (hQ : Q (ab_z (s_nr S f m)) μ) : ab_CI l ω mX5_isNearEnough [.ref 6, .int x, .int y] μ Q := by
  subst ex ey
  refine ab_intro (sh := ab_SH) (cd := kX5_isNearEnough) hω vX5_isNearEnough (by decide +kernel) rfl (Nat.le_of_ble_eq_true rfl) (fun j hj hw => ?_)
  have hT := hW.2.2.1.2
  have hX := hW.2.2.2.1
  have hP := hW.2.1.2
  obtain ⟨m1, m2, m3, m4, m5⟩ := hW.2.2.2.2.2.2 m hm
  obtain ⟨f1, f2, f3, f4, f5, f6, f7, f8⟩ := hW.2.2.2.2.2.1 f hf
  obtain ⟨t1, t2, t3, t4, t5, t6, t7, t8⟩ := hW.2.2.2.2.2.1 _ m1
  have tf := s_top_lt hW (f + 1) f (by omega) hf
  have tt := s_top_lt hW (S.1 57 m + 1) (S.1 57 m) (by omega) m1
  obtain ⟨kT, kc, ks, k13, k14, k15, k16, k17, k18, k22, k19, k20, k21, k25⟩ := RepT_fs T
  obtain ⟨xN, x26, x27, x28, x29, x30, x31, x32, x33, x34, x35⟩ := RepX_fs X
  unfold s_nr at hQ
  repeat' (first | refine hj _ _ _ _ ?_ | (refine br_c (fun h => ?_) (fun h => ?_) <;> (try simp (disch := omega) only [nI_clamp, li_2, li_3, li_4, li_5, li_6, li_7, li_8, li_9, li_10, li_40, li_120, pk_mul, nI_add, nI_1, ix_eq, ix_lt, ix_le, ix_l0, ix_l1, ix_n0, ix_p0, ix_1lt, ix_lt1, ix_1le, ix_le1, ix_le0, ix_0lt, ab_z0, ab_z1, i_10, i_01, eq_self, ab_ozn, ab_ozp, ab_o_some, not_true_eq_false, not_false_eq_true, Bool.not_eq_false, Bool.not_eq_true, Bool.not_eq_false', Bool.not_eq_true', Bool.false_eq_true, Bool.true_eq_false, reduceCtorEq, Option.isSome_some, Option.isSome_none, kT, k13, k14, k15, k16, k17, k18, kc, ks, k19, k20, k21, k22, k25, ab_o1_some, ab_bt_or, ab_bt_and, ab_bt_one, ab_o1n, ab_o1p, decide_true, decide_false, Bool.true_and, Bool.and_true, beq_iff_eq, nI_ti, xN, x26, x27, x28, x29, x30] at h) <;> (try omega)) | (refine br_n (fun h => ?_) (fun h => ?_) <;> (try simp (disch := omega) only [nI_clamp, li_2, li_3, li_4, li_5, li_6, li_7, li_8, li_9, li_10, li_40, li_120, pk_mul, nI_add, nI_1, ix_eq, ix_lt, ix_le, ix_l0, ix_l1, ix_n0, ix_p0, ix_1lt, ix_lt1, ix_1le, ix_le1, ix_le0, ix_0lt, ab_z0, ab_z1, i_10, i_01, eq_self, ab_ozn, ab_ozp, ab_o_some, not_true_eq_false, not_false_eq_true, Bool.not_eq_false, Bool.not_eq_true, Bool.not_eq_false', Bool.not_eq_true', Bool.false_eq_true, Bool.true_eq_false, reduceCtorEq, Option.isSome_some, Option.isSome_none, kT, k13, k14, k15, k16, k17, k18, kc, ks, k19, k20, k21, k22, k25, ab_o1_some, ab_bt_or, ab_bt_and, ab_bt_one, ab_o1n, ab_o1p, decide_true, decide_false, Bool.true_and, Bool.and_true, beq_iff_eq, nI_ti, xN, x26, x27, x28, x29, x30] at h) <;> (try omega)) | refine ab_sd (by first | (with_reducible refine vp_in_nI ?_ ?_ <;> omega) | (simp (disch := omega) only [nI_clamp, li_2, li_3, li_4, li_5, li_6, li_7, li_8, li_9, li_10, li_40, li_120, pk_mul, nI_add, nI_1, ix_eq, ix_lt, ix_le, ix_l0, ix_l1, ix_n0, ix_p0, ix_1lt, ix_lt1, ix_1le, ix_le1, ix_le0, ix_0lt, ab_z0, ab_z1, i_10, i_01, eq_self, ab_ozn, ab_ozp, ab_o_some, not_true_eq_false, not_false_eq_true, Bool.not_eq_false, Bool.not_eq_true, Bool.not_eq_false', Bool.not_eq_true', Bool.false_eq_true, Bool.true_eq_false, reduceCtorEq, Option.isSome_some, Option.isSome_none, kT, k13, k14, k15, k16, k17, k18, kc, ks, k19, k20, k21, k22, k25, ab_o1_some, ab_bt_or, ab_bt_and, ab_bt_one, ab_o1n, ab_o1p, decide_true, decide_false, Bool.true_and, Bool.and_true, beq_iff_eq, nI_ti, xN, x26, x27, x28, x29, x30]; with_reducible refine vp_in_nI ?_ ?_ <;> omega)) ?_ | refine ab_sd ?_ ?_ | refine ab_sz (Or.inl rfl) ?_ | refine ab_sz (Or.inr rfl) ?_ | refine ab_sz ?_ ?_)
  all_goals (refine q_of hQ ?_; clear hQ hj hw; by_cases a0 : S.1 60 m = 0 <;> by_cases a3 : S.1 60 m = 3 <;> first | (exfalso; omega) | (simp [a0, a3, h, ab_z]; done))
theorem ab_deq (q s : Nat) : decide (s = q) = (q == s) := by
  by_cases h : s = q
  · subst h; simp
  · have : ¬ q = s := fun e => h e.symm
    simp [h, this]
theorem x_prot (T : RepT S μ) (hW : Wf S) {f d : Nat} (hf : f < s_nT S) (hd : d < s_nT S) : ∀ i, i < 64 → ab_bt (μ.2 22 f &&& (ab_one d ||| μ.2 21 d)) i = ((s_ch S f).contains i && s_at S i d) := by
  intro i hi
  have hT := hW.2.2.1.2
  obtain ⟨kT, kc, ks, k13, k14, k15, k16, k17, k18, k22, k19, k20, k21, k25⟩ := RepT_fs T
  rw [ab_bt_and, ab_bt_or, k22 f i hf, ab_bt_one (by omega)]
  by_cases hx : i ∈ s_ch S f
  · have hl := s_ch_le hW (f + 1) f (by omega) hf i hx
    rw [k21 d i hd (by omega) (by omega)]
    rfl
  · have : (s_ch S f).contains i = false := by simpa using hx
    rw [this]; rfl
theorem x_isProtectedOpen (hω : ω.2.2.2 = ab_SH) (T : RepT S μ) (X : RepX S μ) (hW : Wf S) {x y z v : Int32} {f q m : Nat} (ex : x = nI f) (ez : z = nI q) (ev : v = nI m) (hf : f < s_nT S) (hq : q < s_nT S) (hm : m < s_nX S) (hQ : Q (ab_z ((s_ch S f).any (fun s => s_at S s (S.1 57 m) && (s_has (S.1 61 m) 1 || !(y == 0) || s_at S q s)))) μ) : ab_CI l ω mX5_isProtectedOpen [.ref 6, .int x, .int y, .int z, .int v] μ Q := by
  subst ex ez ev
  refine ab_intro (sh := ab_SH) (cd := kX5_isProtectedOpen) hω vX5_isProtectedOpen (by decide +kernel) rfl (Nat.le_of_ble_eq_true rfl) (fun j hj hw => ?_)
  have hT := hW.2.2.1.2
  have hX := hW.2.2.2.1
  obtain ⟨m1, m2, m3, m4, m5⟩ := hW.2.2.2.2.2.2 m hm
  have px := x_prot T hW hf m1
  obtain ⟨kT, kc, ks, k13, k14, k15, k16, k17, k18, k22, k19, k20, k21, k25⟩ := RepT_fs T
  obtain ⟨xN, x26, x27, x28, x29, x30, x31, x32, x33, x34, x35⟩ := RepX_fs X
  have z1 : (μ.2 22 f &&& (ab_one (S.1 57 m) ||| μ.2 21 (S.1 57 m)) = 0) ↔ (s_ch S f).any (fun s => s_at S s (S.1 57 m)) = false := by
    rw [ab_bt_zero, List.any_eq_false]
    constructor
    · intro h s hs
      have hl := s_ch_le hW (f + 1) f (by omega) hf s hs
      have := h s (by omega)
      rw [px s (by omega), List.contains_iff_mem.mpr hs] at this
      simpa using this
    · intro h i hi
      rw [px i hi]
      by_cases hx : i ∈ s_ch S f
      · have := h i hx
        simp at this
        simp [this]
      · have : (s_ch S f).contains i = false := by simpa using hx
        rw [this]; rfl
  have z2 : (μ.2 22 f &&& (ab_one (S.1 57 m) ||| μ.2 21 (S.1 57 m)) &&& (ab_one q ||| μ.2 20 q) = 0) ↔ (s_ch S f).any (fun s => s_at S s (S.1 57 m) && s_at S q s) = false := by
    rw [ab_bt_zero, List.any_eq_false]
    constructor
    · intro h s hs
      have hl := s_ch_le hW (f + 1) f (by omega) hf s hs
      have := h s (by omega)
      rw [ab_bt_and, px s (by omega), List.contains_iff_mem.mpr hs, ab_bt_or, ab_bt_one (by omega), k20 q s hq (by omega) (by omega)] at this
      unfold s_at at this ⊢
      rw [ab_deq] at this
      simpa using this
    · intro h i hi
      rw [ab_bt_and, px i hi]
      by_cases hx : i ∈ s_ch S f
      · have := h i hx
        have hl := s_ch_le hW (f + 1) f (by omega) hf i hx
        rw [List.contains_iff_mem.mpr hx, ab_bt_or, ab_bt_one (by omega), k20 q i hq (by omega) (by omega)]
        rw [ab_deq]
        unfold s_at at this ⊢
        simpa using this
      · have : (s_ch S f).contains i = false := by simpa using hx
        rw [this]; rfl
  cases hs : s_has (S.1 61 m) 1 with
  | true =>
    simp only [hs, Bool.true_or, Bool.and_true] at hQ
    repeat' (first | refine hj _ _ _ _ ?_ | (refine br_c (fun h => ?_) (fun h => ?_) <;> (try simp (disch := omega) only [nI_clamp, li_2, li_3, li_4, li_5, li_6, li_7, li_8, li_9, li_10, li_40, li_120, pk_mul, nI_add, nI_1, ix_eq, ix_lt, ix_le, ix_l0, ix_l1, ix_n0, ix_p0, ix_1lt, ix_lt1, ix_1le, ix_le1, ix_le0, ix_0lt, ab_z0, ab_z1, i_10, i_01, eq_self, ab_ozn, ab_ozp, ab_o_some, not_true_eq_false, not_false_eq_true, Bool.not_eq_false, Bool.not_eq_true, Bool.not_eq_false', Bool.not_eq_true', Bool.false_eq_true, Bool.true_eq_false, reduceCtorEq, Option.isSome_some, Option.isSome_none, kT, k13, k14, k15, k16, k17, k18, kc, ks, k19, k20, k21, k22, k25, ab_o1_some, ab_bt_or, ab_bt_and, ab_bt_one, ab_o1n, ab_o1p, decide_true, decide_false, Bool.true_and, Bool.and_true, beq_iff_eq, nI_ti, xN, x26, x27, x28, x29, x30, lg_cmp_eq, z1, z2, hs] at h) <;> (try omega)) | (refine br_n (fun h => ?_) (fun h => ?_) <;> (try simp (disch := omega) only [nI_clamp, li_2, li_3, li_4, li_5, li_6, li_7, li_8, li_9, li_10, li_40, li_120, pk_mul, nI_add, nI_1, ix_eq, ix_lt, ix_le, ix_l0, ix_l1, ix_n0, ix_p0, ix_1lt, ix_lt1, ix_1le, ix_le1, ix_le0, ix_0lt, ab_z0, ab_z1, i_10, i_01, eq_self, ab_ozn, ab_ozp, ab_o_some, not_true_eq_false, not_false_eq_true, Bool.not_eq_false, Bool.not_eq_true, Bool.not_eq_false', Bool.not_eq_true', Bool.false_eq_true, Bool.true_eq_false, reduceCtorEq, Option.isSome_some, Option.isSome_none, kT, k13, k14, k15, k16, k17, k18, kc, ks, k19, k20, k21, k22, k25, ab_o1_some, ab_bt_or, ab_bt_and, ab_bt_one, ab_o1n, ab_o1p, decide_true, decide_false, Bool.true_and, Bool.and_true, beq_iff_eq, nI_ti, xN, x26, x27, x28, x29, x30, lg_cmp_eq, z1, z2, hs] at h) <;> (try omega)) | refine ab_sd (by first | (with_reducible refine vp_in_nI ?_ ?_ <;> omega) | (simp (disch := omega) only [nI_clamp, li_2, li_3, li_4, li_5, li_6, li_7, li_8, li_9, li_10, li_40, li_120, pk_mul, nI_add, nI_1, ix_eq, ix_lt, ix_le, ix_l0, ix_l1, ix_n0, ix_p0, ix_1lt, ix_lt1, ix_1le, ix_le1, ix_le0, ix_0lt, ab_z0, ab_z1, i_10, i_01, eq_self, ab_ozn, ab_ozp, ab_o_some, not_true_eq_false, not_false_eq_true, Bool.not_eq_false, Bool.not_eq_true, Bool.not_eq_false', Bool.not_eq_true', Bool.false_eq_true, Bool.true_eq_false, reduceCtorEq, Option.isSome_some, Option.isSome_none, kT, k13, k14, k15, k16, k17, k18, kc, ks, k19, k20, k21, k22, k25, ab_o1_some, ab_bt_or, ab_bt_and, ab_bt_one, ab_o1n, ab_o1p, decide_true, decide_false, Bool.true_and, Bool.and_true, beq_iff_eq, nI_ti, xN, x26, x27, x28, x29, x30, lg_cmp_eq, z1, z2, hs]; with_reducible refine vp_in_nI ?_ ?_ <;> omega)) ?_ | refine x_sameOrBelow hω (t := S.1 57 m) (by first | with_reducible rfl | (simp (disch := omega) only [nI_clamp, li_2, li_3, li_4, li_5, li_6, li_7, li_8, li_9, li_10, li_40, li_120, pk_mul, nI_add, nI_1, ix_eq, ix_lt, ix_le, ix_l0, ix_l1, ix_n0, ix_p0, ix_1lt, ix_lt1, ix_1le, ix_le1, ix_le0, ix_0lt, ab_z0, ab_z1, i_10, i_01, eq_self, ab_ozn, ab_ozp, ab_o_some, not_true_eq_false, not_false_eq_true, Bool.not_eq_false, Bool.not_eq_true, Bool.not_eq_false', Bool.not_eq_true', Bool.false_eq_true, Bool.true_eq_false, reduceCtorEq, Option.isSome_some, Option.isSome_none, kT, k13, k14, k15, k16, k17, k18, kc, ks, k19, k20, k21, k22, k25, ab_o1_some, ab_bt_or, ab_bt_and, ab_bt_one, ab_o1n, ab_o1p, decide_true, decide_false, Bool.true_and, Bool.and_true, beq_iff_eq, nI_ti, xN, x26, x27, x28, x29, x30]; done)) (by omega) ?_ | refine x_mhasFlag hω X hW (m := m) (f := 1) rfl rfl hm ?_ | refine x_sameOrAbove hω (t := q) rfl (by omega) ?_ | refine ab_sd ?_ ?_ | refine ab_sz (Or.inl rfl) ?_ | refine ab_sz (Or.inr rfl) ?_ | refine ab_sz ?_ ?_)
    all_goals (rw [h] at hQ; exact hQ)
  | false =>
    by_cases hy : y = 0
    · subst hy
      simp only [hs, beq_self_eq_true, Bool.not_true, Bool.or_false, Bool.false_or] at hQ
      repeat' (first | refine hj _ _ _ _ ?_ | (refine br_c (fun h => ?_) (fun h => ?_) <;> (try simp (disch := omega) only [nI_clamp, li_2, li_3, li_4, li_5, li_6, li_7, li_8, li_9, li_10, li_40, li_120, pk_mul, nI_add, nI_1, ix_eq, ix_lt, ix_le, ix_l0, ix_l1, ix_n0, ix_p0, ix_1lt, ix_lt1, ix_1le, ix_le1, ix_le0, ix_0lt, ab_z0, ab_z1, i_10, i_01, eq_self, ab_ozn, ab_ozp, ab_o_some, not_true_eq_false, not_false_eq_true, Bool.not_eq_false, Bool.not_eq_true, Bool.not_eq_false', Bool.not_eq_true', Bool.false_eq_true, Bool.true_eq_false, reduceCtorEq, Option.isSome_some, Option.isSome_none, kT, k13, k14, k15, k16, k17, k18, kc, ks, k19, k20, k21, k22, k25, ab_o1_some, ab_bt_or, ab_bt_and, ab_bt_one, ab_o1n, ab_o1p, decide_true, decide_false, Bool.true_and, Bool.and_true, beq_iff_eq, nI_ti, xN, x26, x27, x28, x29, x30, lg_cmp_eq, z1, z2, hs] at h) <;> (try omega)) | (refine br_n (fun h => ?_) (fun h => ?_) <;> (try simp (disch := omega) only [nI_clamp, li_2, li_3, li_4, li_5, li_6, li_7, li_8, li_9, li_10, li_40, li_120, pk_mul, nI_add, nI_1, ix_eq, ix_lt, ix_le, ix_l0, ix_l1, ix_n0, ix_p0, ix_1lt, ix_lt1, ix_1le, ix_le1, ix_le0, ix_0lt, ab_z0, ab_z1, i_10, i_01, eq_self, ab_ozn, ab_ozp, ab_o_some, not_true_eq_false, not_false_eq_true, Bool.not_eq_false, Bool.not_eq_true, Bool.not_eq_false', Bool.not_eq_true', Bool.false_eq_true, Bool.true_eq_false, reduceCtorEq, Option.isSome_some, Option.isSome_none, kT, k13, k14, k15, k16, k17, k18, kc, ks, k19, k20, k21, k22, k25, ab_o1_some, ab_bt_or, ab_bt_and, ab_bt_one, ab_o1n, ab_o1p, decide_true, decide_false, Bool.true_and, Bool.and_true, beq_iff_eq, nI_ti, xN, x26, x27, x28, x29, x30, lg_cmp_eq, z1, z2, hs] at h) <;> (try omega)) | refine ab_sd (by first | (with_reducible refine vp_in_nI ?_ ?_ <;> omega) | (simp (disch := omega) only [nI_clamp, li_2, li_3, li_4, li_5, li_6, li_7, li_8, li_9, li_10, li_40, li_120, pk_mul, nI_add, nI_1, ix_eq, ix_lt, ix_le, ix_l0, ix_l1, ix_n0, ix_p0, ix_1lt, ix_lt1, ix_1le, ix_le1, ix_le0, ix_0lt, ab_z0, ab_z1, i_10, i_01, eq_self, ab_ozn, ab_ozp, ab_o_some, not_true_eq_false, not_false_eq_true, Bool.not_eq_false, Bool.not_eq_true, Bool.not_eq_false', Bool.not_eq_true', Bool.false_eq_true, Bool.true_eq_false, reduceCtorEq, Option.isSome_some, Option.isSome_none, kT, k13, k14, k15, k16, k17, k18, kc, ks, k19, k20, k21, k22, k25, ab_o1_some, ab_bt_or, ab_bt_and, ab_bt_one, ab_o1n, ab_o1p, decide_true, decide_false, Bool.true_and, Bool.and_true, beq_iff_eq, nI_ti, xN, x26, x27, x28, x29, x30, lg_cmp_eq, z1, z2, hs]; with_reducible refine vp_in_nI ?_ ?_ <;> omega)) ?_ | refine x_sameOrBelow hω (t := S.1 57 m) (by first | with_reducible rfl | (simp (disch := omega) only [nI_clamp, li_2, li_3, li_4, li_5, li_6, li_7, li_8, li_9, li_10, li_40, li_120, pk_mul, nI_add, nI_1, ix_eq, ix_lt, ix_le, ix_l0, ix_l1, ix_n0, ix_p0, ix_1lt, ix_lt1, ix_1le, ix_le1, ix_le0, ix_0lt, ab_z0, ab_z1, i_10, i_01, eq_self, ab_ozn, ab_ozp, ab_o_some, not_true_eq_false, not_false_eq_true, Bool.not_eq_false, Bool.not_eq_true, Bool.not_eq_false', Bool.not_eq_true', Bool.false_eq_true, Bool.true_eq_false, reduceCtorEq, Option.isSome_some, Option.isSome_none, kT, k13, k14, k15, k16, k17, k18, kc, ks, k19, k20, k21, k22, k25, ab_o1_some, ab_bt_or, ab_bt_and, ab_bt_one, ab_o1n, ab_o1p, decide_true, decide_false, Bool.true_and, Bool.and_true, beq_iff_eq, nI_ti, xN, x26, x27, x28, x29, x30]; done)) (by omega) ?_ | refine x_mhasFlag hω X hW (m := m) (f := 1) rfl rfl hm ?_ | refine x_sameOrAbove hω (t := q) rfl (by omega) ?_ | refine ab_sd ?_ ?_ | refine ab_sz (Or.inl rfl) ?_ | refine ab_sz (Or.inr rfl) ?_ | refine ab_sz ?_ ?_)
      all_goals (rw [h] at hQ; exact hQ)
    · have e : (y == 0) = false := by simpa using hy
      simp only [hs, e, Bool.not_false, Bool.or_true, Bool.false_or, Bool.true_or, Bool.and_true] at hQ
      repeat' (first | refine hj _ _ _ _ ?_ | (refine br_c (fun h => ?_) (fun h => ?_) <;> (try simp (disch := omega) only [nI_clamp, li_2, li_3, li_4, li_5, li_6, li_7, li_8, li_9, li_10, li_40, li_120, pk_mul, nI_add, nI_1, ix_eq, ix_lt, ix_le, ix_l0, ix_l1, ix_n0, ix_p0, ix_1lt, ix_lt1, ix_1le, ix_le1, ix_le0, ix_0lt, ab_z0, ab_z1, i_10, i_01, eq_self, ab_ozn, ab_ozp, ab_o_some, not_true_eq_false, not_false_eq_true, Bool.not_eq_false, Bool.not_eq_true, Bool.not_eq_false', Bool.not_eq_true', Bool.false_eq_true, Bool.true_eq_false, reduceCtorEq, Option.isSome_some, Option.isSome_none, kT, k13, k14, k15, k16, k17, k18, kc, ks, k19, k20, k21, k22, k25, ab_o1_some, ab_bt_or, ab_bt_and, ab_bt_one, ab_o1n, ab_o1p, decide_true, decide_false, Bool.true_and, Bool.and_true, beq_iff_eq, nI_ti, xN, x26, x27, x28, x29, x30, lg_cmp_eq, z1, z2, hs, hy] at h) <;> (try omega)) | (refine br_n (fun h => ?_) (fun h => ?_) <;> (try simp (disch := omega) only [nI_clamp, li_2, li_3, li_4, li_5, li_6, li_7, li_8, li_9, li_10, li_40, li_120, pk_mul, nI_add, nI_1, ix_eq, ix_lt, ix_le, ix_l0, ix_l1, ix_n0, ix_p0, ix_1lt, ix_lt1, ix_1le, ix_le1, ix_le0, ix_0lt, ab_z0, ab_z1, i_10, i_01, eq_self, ab_ozn, ab_ozp, ab_o_some, not_true_eq_false, not_false_eq_true, Bool.not_eq_false, Bool.not_eq_true, Bool.not_eq_false', Bool.not_eq_true', Bool.false_eq_true, Bool.true_eq_false, reduceCtorEq, Option.isSome_some, Option.isSome_none, kT, k13, k14, k15, k16, k17, k18, kc, ks, k19, k20, k21, k22, k25, ab_o1_some, ab_bt_or, ab_bt_and, ab_bt_one, ab_o1n, ab_o1p, decide_true, decide_false, Bool.true_and, Bool.and_true, beq_iff_eq, nI_ti, xN, x26, x27, x28, x29, x30, lg_cmp_eq, z1, z2, hs, hy] at h) <;> (try omega)) | refine ab_sd (by first | (with_reducible refine vp_in_nI ?_ ?_ <;> omega) | (simp (disch := omega) only [nI_clamp, li_2, li_3, li_4, li_5, li_6, li_7, li_8, li_9, li_10, li_40, li_120, pk_mul, nI_add, nI_1, ix_eq, ix_lt, ix_le, ix_l0, ix_l1, ix_n0, ix_p0, ix_1lt, ix_lt1, ix_1le, ix_le1, ix_le0, ix_0lt, ab_z0, ab_z1, i_10, i_01, eq_self, ab_ozn, ab_ozp, ab_o_some, not_true_eq_false, not_false_eq_true, Bool.not_eq_false, Bool.not_eq_true, Bool.not_eq_false', Bool.not_eq_true', Bool.false_eq_true, Bool.true_eq_false, reduceCtorEq, Option.isSome_some, Option.isSome_none, kT, k13, k14, k15, k16, k17, k18, kc, ks, k19, k20, k21, k22, k25, ab_o1_some, ab_bt_or, ab_bt_and, ab_bt_one, ab_o1n, ab_o1p, decide_true, decide_false, Bool.true_and, Bool.and_true, beq_iff_eq, nI_ti, xN, x26, x27, x28, x29, x30, lg_cmp_eq, z1, z2, hs, hy]; with_reducible refine vp_in_nI ?_ ?_ <;> omega)) ?_ | refine x_sameOrBelow hω (t := S.1 57 m) (by first | with_reducible rfl | (simp (disch := omega) only [nI_clamp, li_2, li_3, li_4, li_5, li_6, li_7, li_8, li_9, li_10, li_40, li_120, pk_mul, nI_add, nI_1, ix_eq, ix_lt, ix_le, ix_l0, ix_l1, ix_n0, ix_p0, ix_1lt, ix_lt1, ix_1le, ix_le1, ix_le0, ix_0lt, ab_z0, ab_z1, i_10, i_01, eq_self, ab_ozn, ab_ozp, ab_o_some, not_true_eq_false, not_false_eq_true, Bool.not_eq_false, Bool.not_eq_true, Bool.not_eq_false', Bool.not_eq_true', Bool.false_eq_true, Bool.true_eq_false, reduceCtorEq, Option.isSome_some, Option.isSome_none, kT, k13, k14, k15, k16, k17, k18, kc, ks, k19, k20, k21, k22, k25, ab_o1_some, ab_bt_or, ab_bt_and, ab_bt_one, ab_o1n, ab_o1p, decide_true, decide_false, Bool.true_and, Bool.and_true, beq_iff_eq, nI_ti, xN, x26, x27, x28, x29, x30]; done)) (by omega) ?_ | refine x_mhasFlag hω X hW (m := m) (f := 1) rfl rfl hm ?_ | refine x_sameOrAbove hω (t := q) rfl (by omega) ?_ | refine ab_sd ?_ ?_ | refine ab_sz (Or.inl rfl) ?_ | refine ab_sz (Or.inr rfl) ?_ | refine ab_sz ?_ ?_)
      all_goals (rw [h] at hQ; exact hQ)
theorem x_isMemberOpen (hω : ω.2.2.2 = ab_SH) (T : RepT S μ) (X : RepX S μ) (hW : Wf S) {x y z v : Int32} {f q : Nat} {o : Option Nat} {b : Bool} (ex : x = nI f) (ez : z = nI q) (ev : v = ab_o1 o) (hf : f < s_nT S) (hq : q < s_nT S) (hm : ∀ m, o = some m → m < s_nX S) (hb0 : o = none → b = false) (hb : ∀ m, o = some m → b = s_opM S f y q m) (hQ : Q (ab_z b) μ) : ab_CI l ω mX5_isMemberOpen [.ref 6, .int x, .int y, .int z, .int v] μ Q := by
  subst ex ez ev
  refine ab_intro (sh := ab_SH) (cd := kX5_isMemberOpen) hω vX5_isMemberOpen (by decide +kernel) rfl (Nat.le_of_ble_eq_true rfl) (fun j hj hw => ?_)
  have hX := hW.2.2.2.1
  obtain ⟨xN, x26, x27, x28, x29, x30, x31, x32, x33, x34, x35⟩ := RepX_fs X
  cases o with
  | none =>
    rw [hb0 rfl] at hQ
    repeat' (first | refine hj _ _ _ _ ?_ | (refine br_c (fun h => ?_) (fun h => ?_) <;> (try simp (disch := omega) only [nI_clamp, li_2, li_3, li_4, li_5, li_6, li_7, li_8, li_9, li_10, li_40, li_120, pk_mul, nI_add, nI_1, ix_eq, ix_lt, ix_le, ix_l0, ix_l1, ix_n0, ix_p0, ix_1lt, ix_lt1, ix_1le, ix_le1, ix_le0, ix_0lt, ab_z0, ab_z1, i_10, i_01, eq_self, ab_ozn, ab_ozp, ab_o_some, not_true_eq_false, not_false_eq_true, Bool.not_eq_false, Bool.not_eq_true, Bool.not_eq_false', Bool.not_eq_true', Bool.false_eq_true, Bool.true_eq_false, reduceCtorEq, Option.isSome_some, Option.isSome_none] at h) <;> (try omega)) | (refine br_n (fun h => ?_) (fun h => ?_) <;> (try simp (disch := omega) only [nI_clamp, li_2, li_3, li_4, li_5, li_6, li_7, li_8, li_9, li_10, li_40, li_120, pk_mul, nI_add, nI_1, ix_eq, ix_lt, ix_le, ix_l0, ix_l1, ix_n0, ix_p0, ix_1lt, ix_lt1, ix_1le, ix_le1, ix_le0, ix_0lt, ab_z0, ab_z1, i_10, i_01, eq_self, ab_ozn, ab_ozp, ab_o_some, not_true_eq_false, not_false_eq_true, Bool.not_eq_false, Bool.not_eq_true, Bool.not_eq_false', Bool.not_eq_true', Bool.false_eq_true, Bool.true_eq_false, reduceCtorEq, Option.isSome_some, Option.isSome_none] at h) <;> (try omega)) | refine ab_sd (by first | (with_reducible refine vp_in_nI ?_ ?_ <;> omega) | (simp (disch := omega) only [nI_clamp, li_2, li_3, li_4, li_5, li_6, li_7, li_8, li_9, li_10, li_40, li_120, pk_mul, nI_add, nI_1, ix_eq, ix_lt, ix_le, ix_l0, ix_l1, ix_n0, ix_p0, ix_1lt, ix_lt1, ix_1le, ix_le1, ix_le0, ix_0lt, ab_z0, ab_z1, i_10, i_01, eq_self, ab_ozn, ab_ozp, ab_o_some, not_true_eq_false, not_false_eq_true, Bool.not_eq_false, Bool.not_eq_true, Bool.not_eq_false', Bool.not_eq_true', Bool.false_eq_true, Bool.true_eq_false, reduceCtorEq, Option.isSome_some, Option.isSome_none]; with_reducible refine vp_in_nI ?_ ?_ <;> omega)) ?_ | refine ab_sd ?_ ?_ | refine ab_sz (Or.inl rfl) ?_ | refine ab_sz (Or.inr rfl) ?_ | refine ab_sz ?_ ?_)
    all_goals first | exact hQ | (exfalso; exact h rfl)
  | some m =>
    have hm := hm m rfl
    rw [hb m rfl] at hQ
    obtain ⟨m1, m2, m3, m4, m5⟩ := hW.2.2.2.2.2.2 m hm
    have c3 : (nI m = -1) ↔ False := ⟨fun q => by have := nI_pos (n := m) (by omega); rw [q] at this; exact this (by decide), False.elim⟩
    have x28 := x28 m hm
    dsimp only [ab_o1] at hQ ⊢
    repeat' (first | refine hj _ _ _ _ ?_ | (refine br_c (fun h => ?_) (fun h => ?_) <;> (try simp (disch := omega) only [nI_clamp, li_2, li_3, li_4, li_5, li_6, li_7, li_8, li_9, li_10, li_40, li_120, pk_mul, nI_add, nI_1, ix_eq, ix_lt, ix_le, ix_l0, ix_l1, ix_n0, ix_p0, ix_1lt, ix_lt1, ix_1le, ix_le1, ix_le0, ix_0lt, ab_z0, ab_z1, i_10, i_01, eq_self, ab_ozn, ab_ozp, ab_o_some, not_true_eq_false, not_false_eq_true, Bool.not_eq_false, Bool.not_eq_true, Bool.not_eq_false', Bool.not_eq_true', Bool.false_eq_true, Bool.true_eq_false, reduceCtorEq, Option.isSome_some, Option.isSome_none, c3, x28] at h) <;> (try omega)) | (refine br_n (fun h => ?_) (fun h => ?_) <;> (try simp (disch := omega) only [nI_clamp, li_2, li_3, li_4, li_5, li_6, li_7, li_8, li_9, li_10, li_40, li_120, pk_mul, nI_add, nI_1, ix_eq, ix_lt, ix_le, ix_l0, ix_l1, ix_n0, ix_p0, ix_1lt, ix_lt1, ix_1le, ix_le1, ix_le0, ix_0lt, ab_z0, ab_z1, i_10, i_01, eq_self, ab_ozn, ab_ozp, ab_o_some, not_true_eq_false, not_false_eq_true, Bool.not_eq_false, Bool.not_eq_true, Bool.not_eq_false', Bool.not_eq_true', Bool.false_eq_true, Bool.true_eq_false, reduceCtorEq, Option.isSome_some, Option.isSome_none, c3, x28] at h) <;> (try omega)) | refine ab_sd (by first | (with_reducible refine vp_in_nI ?_ ?_ <;> omega) | (simp (disch := omega) only [nI_clamp, li_2, li_3, li_4, li_5, li_6, li_7, li_8, li_9, li_10, li_40, li_120, pk_mul, nI_add, nI_1, ix_eq, ix_lt, ix_le, ix_l0, ix_l1, ix_n0, ix_p0, ix_1lt, ix_lt1, ix_1le, ix_le1, ix_le0, ix_0lt, ab_z0, ab_z1, i_10, i_01, eq_self, ab_ozn, ab_ozp, ab_o_some, not_true_eq_false, not_false_eq_true, Bool.not_eq_false, Bool.not_eq_true, Bool.not_eq_false', Bool.not_eq_true', Bool.false_eq_true, Bool.true_eq_false, reduceCtorEq, Option.isSome_some, Option.isSome_none, c3, x28]; with_reducible refine vp_in_nI ?_ ?_ <;> omega)) ?_ | refine x_isNearEnough hω T X hW (f := f) (m := m) rfl rfl hf hm ?_ | refine x_isProtectedOpen hω T X hW (f := f) (q := q) (m := m) rfl rfl rfl hf hq hm ?_ | refine ab_sd ?_ ?_ | refine ab_sz (Or.inl rfl) ?_ | refine ab_sz (Or.inr rfl) ?_ | refine ab_sz ?_ ?_)
    all_goals (refine q_of hQ ?_; clear hQ hj hw hb hb0; unfold s_opM; unfold s_nr at *; by_cases a0 : S.1 60 m = 0 <;> by_cases a3 : S.1 60 m = 3 <;> by_cases a2 : S.1 60 m = 2 <;> by_cases a4 : S.1 48 f = S.1 48 (S.1 57 m) <;> first | (exfalso; omega) | (simp_all [ab_z]; done) | (simp_all [ab_z]; exact fun x hx hs => (h x hx hs).1))
theorem x_openOnes {Q : Int64 → ab_M → Prop} (hω : ω.2.2.2 = ab_SH) (T : RepT S μ) (X : RepX S μ) (hW : Wf S) {d : Int64} {x y z v : Int32} {f q g : Nat} (ex : x = nI f) (ez : z = nI q) (ev : v = nI g) (hf : f < s_nT S) (hq : q < s_nT S) (hg : g < 30) (hQ : ∀ w, (∀ i, i < 64 → ab_bt w i = (ab_bt d i && s_pg S g (s_opM S f y q) i)) → Q w μ) : ab_CL l ω mX5_openOnes [.ref 6, .long d, .int x, .int y, .int z, .int v] μ Q := by
  subst ex ez ev
  refine ab_intro (sh := ab_SH) (cd := kX5_openOnes) hω vX5_openOnes (by decide +kernel) rfl (Nat.le_of_ble_eq_true rfl) (fun j hj hw => ?_)
  have hjx : ∀ i ll st μ, i ∉ ([4] : List Nat) → _ → j i ll st μ := fun i ll st μ _ h => hj i ll st μ h
  have hT := hW.2.2.1.2
  have kT := T.1
  have key : ∀ dd n w, n + dd = s_nT S → (∀ i, i < 64 → ab_bt w i = (decide (i < n) && (ab_bt d i && s_pg S g (s_opM S f y q) i))) → j 4 [some (.ref 6), some (.long d), none, some (.int (nI f)), some (.int y), some (.int (nI q)), some (.int (nI g)), some (.long w), none, some (.int (nI n))] [] μ := by
    intro dd
    induction dd with
    | zero =>
      intro n w hn hw'
      refine hj _ _ _ _ ?_
      repeat' (first | refine hjx _ _ _ _ (by decide) ?_ | (refine br_c (fun h => ?_) (fun h => ?_) <;> (try simp (disch := omega) only [nI_clamp, li_2, li_3, li_4, li_5, li_6, li_7, li_8, li_9, li_10, li_40, li_120, pk_mul, nI_add, nI_1, ix_eq, ix_lt, ix_le, ix_l0, ix_l1, ix_n0, ix_p0, ix_1lt, ix_lt1, ix_1le, ix_le1, ix_le0, ix_0lt, ab_z0, ab_z1, i_10, i_01, eq_self, ab_ozn, ab_ozp, ab_o_some, not_true_eq_false, not_false_eq_true, Bool.not_eq_false, Bool.not_eq_true, Bool.not_eq_false', Bool.not_eq_true', Bool.false_eq_true, Bool.true_eq_false, reduceCtorEq, Option.isSome_some, Option.isSome_none, kT] at h) <;> (try omega)) | (refine br_n (fun h => ?_) (fun h => ?_) <;> (try simp (disch := omega) only [nI_clamp, li_2, li_3, li_4, li_5, li_6, li_7, li_8, li_9, li_10, li_40, li_120, pk_mul, nI_add, nI_1, ix_eq, ix_lt, ix_le, ix_l0, ix_l1, ix_n0, ix_p0, ix_1lt, ix_lt1, ix_1le, ix_le1, ix_le0, ix_0lt, ab_z0, ab_z1, i_10, i_01, eq_self, ab_ozn, ab_ozp, ab_o_some, not_true_eq_false, not_false_eq_true, Bool.not_eq_false, Bool.not_eq_true, Bool.not_eq_false', Bool.not_eq_true', Bool.false_eq_true, Bool.true_eq_false, reduceCtorEq, Option.isSome_some, Option.isSome_none, kT] at h) <;> (try omega)) | refine ab_sd (by first | (with_reducible refine vp_in_nI ?_ ?_ <;> omega) | (simp (disch := omega) only [nI_clamp, li_2, li_3, li_4, li_5, li_6, li_7, li_8, li_9, li_10, li_40, li_120, pk_mul, nI_add, nI_1, ix_eq, ix_lt, ix_le, ix_l0, ix_l1, ix_n0, ix_p0, ix_1lt, ix_lt1, ix_1le, ix_le1, ix_le0, ix_0lt, ab_z0, ab_z1, i_10, i_01, eq_self, ab_ozn, ab_ozp, ab_o_some, not_true_eq_false, not_false_eq_true, Bool.not_eq_false, Bool.not_eq_true, Bool.not_eq_false', Bool.not_eq_true', Bool.false_eq_true, Bool.true_eq_false, reduceCtorEq, Option.isSome_some, Option.isSome_none, kT]; with_reducible refine vp_in_nI ?_ ?_ <;> omega)) ?_ | refine ab_sd ?_ ?_ | refine ab_sz (Or.inl rfl) ?_ | refine ab_sz (Or.inr rfl) ?_ | refine ab_sz ?_ ?_)
      show Q _ _
      refine hQ _ (fun i hi => ?_)
      rw [hw' i hi]
      by_cases hin : i < n
      · simp [hin]
      · rw [s_pg_ge hW (by omega)]; simp
    | succ dd ih =>
      intro n w hn hw'
      refine hj _ _ _ _ ?_
      have st : ∀ w', (∀ i, i < 64 → ab_bt w' i = (ab_bt w i || (decide (i = n) && (ab_bt d n && s_pg S g (s_opM S f y q) n)))) → j 4 [some (.ref 6), some (.long d), none, some (.int (nI f)), some (.int y), some (.int (nI q)), some (.int (nI g)), some (.long w'), none, some (.int (nI (n + 1)))] [] μ := fun w' hw2 => ih (n + 1) w' (by omega) (fun i hi => by
        rw [hw2 i hi, hw' i hi]
        by_cases e : i = n
        · subst e; simp
        · by_cases e2 : i < n
          · simp [e, e2, show i < n + 1 by omega]
          · simp [e, e2, show ¬ i < n + 1 by omega])
      have b0 : s_dg S n g = none → s_pg S g (s_opM S f y q) n = false := fun e => by unfold s_pg; rw [e]
      have b1 : ∀ m, s_dg S n g = some m → s_pg S g (s_opM S f y q) n = s_opM S f y q m := fun m e => by unfold s_pg; rw [e]
      have b2 : ∀ m, s_dg S n g = some m → m < s_nX S := fun m e => (s_dg_some hW e).1
      repeat' (first | refine hjx _ _ _ _ (by decide) ?_ | (refine br_c (fun h => ?_) (fun h => ?_) <;> (try simp (disch := omega) only [nI_clamp, li_2, li_3, li_4, li_5, li_6, li_7, li_8, li_9, li_10, li_40, li_120, pk_mul, nI_add, nI_1, ix_eq, ix_lt, ix_le, ix_l0, ix_l1, ix_n0, ix_p0, ix_1lt, ix_lt1, ix_1le, ix_le1, ix_le0, ix_0lt, ab_z0, ab_z1, i_10, i_01, eq_self, ab_ozn, ab_ozp, ab_o_some, not_true_eq_false, not_false_eq_true, Bool.not_eq_false, Bool.not_eq_true, Bool.not_eq_false', Bool.not_eq_true', Bool.false_eq_true, Bool.true_eq_false, reduceCtorEq, Option.isSome_some, Option.isSome_none, kT] at h) <;> (try omega)) | (refine br_n (fun h => ?_) (fun h => ?_) <;> (try simp (disch := omega) only [nI_clamp, li_2, li_3, li_4, li_5, li_6, li_7, li_8, li_9, li_10, li_40, li_120, pk_mul, nI_add, nI_1, ix_eq, ix_lt, ix_le, ix_l0, ix_l1, ix_n0, ix_p0, ix_1lt, ix_lt1, ix_1le, ix_le1, ix_le0, ix_0lt, ab_z0, ab_z1, i_10, i_01, eq_self, ab_ozn, ab_ozp, ab_o_some, not_true_eq_false, not_false_eq_true, Bool.not_eq_false, Bool.not_eq_true, Bool.not_eq_false', Bool.not_eq_true', Bool.false_eq_true, Bool.true_eq_false, reduceCtorEq, Option.isSome_some, Option.isSome_none, kT] at h) <;> (try omega)) | refine ab_sd (by first | (with_reducible refine vp_in_nI ?_ ?_ <;> omega) | (simp (disch := omega) only [nI_clamp, li_2, li_3, li_4, li_5, li_6, li_7, li_8, li_9, li_10, li_40, li_120, pk_mul, nI_add, nI_1, ix_eq, ix_lt, ix_le, ix_l0, ix_l1, ix_n0, ix_p0, ix_1lt, ix_lt1, ix_1le, ix_le1, ix_le0, ix_0lt, ab_z0, ab_z1, i_10, i_01, eq_self, ab_ozn, ab_ozp, ab_o_some, not_true_eq_false, not_false_eq_true, Bool.not_eq_false, Bool.not_eq_true, Bool.not_eq_false', Bool.not_eq_true', Bool.false_eq_true, Bool.true_eq_false, reduceCtorEq, Option.isSome_some, Option.isSome_none, kT]; with_reducible refine vp_in_nI ?_ ?_ <;> omega)) ?_ | refine x_has hω (t := n) rfl (by omega) ?_ | refine x_declared hω X (t := n) (g := g) rfl rfl (by omega) hg ?_ | refine x_isMemberOpen hω T X hW (f := f) (q := q) (o := s_dg S n g) rfl rfl rfl hf hq b2 b0 b1 ?_ | refine x_one hω (t := n) rfl ?_ | refine ab_sd ?_ ?_ | refine ab_sz (Or.inl rfl) ?_ | refine ab_sz (Or.inr rfl) ?_ | refine ab_sz ?_ ?_)
      all_goals (show j 4 _ _ _; rw [nI_1]; refine st _ (fun i hi => ?_))
      · rw [h]; simp
      · rw [h]; simp
      · rename_i h2
        rw [ab_bt_or, ab_bt_one (by omega), h, h2]; simp
  repeat' (first | refine hjx _ _ _ _ (by decide) ?_ | (refine br_c (fun h => ?_) (fun h => ?_) <;> (try simp (disch := omega) only [nI_clamp, li_2, li_3, li_4, li_5, li_6, li_7, li_8, li_9, li_10, li_40, li_120, pk_mul, nI_add, nI_1, ix_eq, ix_lt, ix_le, ix_l0, ix_l1, ix_n0, ix_p0, ix_1lt, ix_lt1, ix_1le, ix_le1, ix_le0, ix_0lt, ab_z0, ab_z1, i_10, i_01, eq_self, ab_ozn, ab_ozp, ab_o_some, not_true_eq_false, not_false_eq_true, Bool.not_eq_false, Bool.not_eq_true, Bool.not_eq_false', Bool.not_eq_true', Bool.false_eq_true, Bool.true_eq_false, reduceCtorEq, Option.isSome_some, Option.isSome_none] at h) <;> (try omega)) | (refine br_n (fun h => ?_) (fun h => ?_) <;> (try simp (disch := omega) only [nI_clamp, li_2, li_3, li_4, li_5, li_6, li_7, li_8, li_9, li_10, li_40, li_120, pk_mul, nI_add, nI_1, ix_eq, ix_lt, ix_le, ix_l0, ix_l1, ix_n0, ix_p0, ix_1lt, ix_lt1, ix_1le, ix_le1, ix_le0, ix_0lt, ab_z0, ab_z1, i_10, i_01, eq_self, ab_ozn, ab_ozp, ab_o_some, not_true_eq_false, not_false_eq_true, Bool.not_eq_false, Bool.not_eq_true, Bool.not_eq_false', Bool.not_eq_true', Bool.false_eq_true, Bool.true_eq_false, reduceCtorEq, Option.isSome_some, Option.isSome_none] at h) <;> (try omega)) | refine ab_sd (by first | (with_reducible refine vp_in_nI ?_ ?_ <;> omega) | (simp (disch := omega) only [nI_clamp, li_2, li_3, li_4, li_5, li_6, li_7, li_8, li_9, li_10, li_40, li_120, pk_mul, nI_add, nI_1, ix_eq, ix_lt, ix_le, ix_l0, ix_l1, ix_n0, ix_p0, ix_1lt, ix_lt1, ix_1le, ix_le1, ix_le0, ix_0lt, ab_z0, ab_z1, i_10, i_01, eq_self, ab_ozn, ab_ozp, ab_o_some, not_true_eq_false, not_false_eq_true, Bool.not_eq_false, Bool.not_eq_true, Bool.not_eq_false', Bool.not_eq_true', Bool.false_eq_true, Bool.true_eq_false, reduceCtorEq, Option.isSome_some, Option.isSome_none]; with_reducible refine vp_in_nI ?_ ?_ <;> omega)) ?_ | refine ab_sd ?_ ?_ | refine ab_sz (Or.inl rfl) ?_ | refine ab_sz (Or.inr rfl) ?_ | refine ab_sz ?_ ?_)
  exact key (s_nT S) 0 0 (by omega) (fun i hi => by rw [ab_bt_0]; simp)
theorem x_isMakerOpen (hω : ω.2.2.2 = ab_SH) (T : RepT S μ) (X : RepX S μ) (hW : Wf S) {x y z : Int32} {f m : Nat} (ex : x = nI f) (ez : z = nI m) (hf : f < s_nT S) (hm : m < s_nX S) (hQ : Q (ab_z (s_nr S f m || (S.1 60 m == 2 && !(y == 0)))) μ) : ab_CI l ω mX5_isMakerOpen [.ref 6, .int x, .int y, .int z] μ Q := by
  subst ex ez
  refine ab_intro (sh := ab_SH) (cd := kX5_isMakerOpen) hω vX5_isMakerOpen (by decide +kernel) rfl (Nat.le_of_ble_eq_true rfl) (fun j hj hw => ?_)
  have hX := hW.2.2.2.1
  obtain ⟨m1, m2, m3, m4, m5⟩ := hW.2.2.2.2.2.2 m hm
  obtain ⟨xN, x26, x27, x28, x29, x30, x31, x32, x33, x34, x35⟩ := RepX_fs X
  have x28 := x28 m hm
  repeat' (first | refine hj _ _ _ _ ?_ | (refine br_c (fun h => ?_) (fun h => ?_) <;> (try simp (disch := omega) only [nI_clamp, li_2, li_3, li_4, li_5, li_6, li_7, li_8, li_9, li_10, li_40, li_120, pk_mul, nI_add, nI_1, ix_eq, ix_lt, ix_le, ix_l0, ix_l1, ix_n0, ix_p0, ix_1lt, ix_lt1, ix_1le, ix_le1, ix_le0, ix_0lt, ab_z0, ab_z1, i_10, i_01, eq_self, ab_ozn, ab_ozp, ab_o_some, not_true_eq_false, not_false_eq_true, Bool.not_eq_false, Bool.not_eq_true, Bool.not_eq_false', Bool.not_eq_true', Bool.false_eq_true, Bool.true_eq_false, reduceCtorEq, Option.isSome_some, Option.isSome_none, x28] at h) <;> (try omega)) | (refine br_n (fun h => ?_) (fun h => ?_) <;> (try simp (disch := omega) only [nI_clamp, li_2, li_3, li_4, li_5, li_6, li_7, li_8, li_9, li_10, li_40, li_120, pk_mul, nI_add, nI_1, ix_eq, ix_lt, ix_le, ix_l0, ix_l1, ix_n0, ix_p0, ix_1lt, ix_lt1, ix_1le, ix_le1, ix_le0, ix_0lt, ab_z0, ab_z1, i_10, i_01, eq_self, ab_ozn, ab_ozp, ab_o_some, not_true_eq_false, not_false_eq_true, Bool.not_eq_false, Bool.not_eq_true, Bool.not_eq_false', Bool.not_eq_true', Bool.false_eq_true, Bool.true_eq_false, reduceCtorEq, Option.isSome_some, Option.isSome_none, x28] at h) <;> (try omega)) | refine ab_sd (by first | (with_reducible refine vp_in_nI ?_ ?_ <;> omega) | (simp (disch := omega) only [nI_clamp, li_2, li_3, li_4, li_5, li_6, li_7, li_8, li_9, li_10, li_40, li_120, pk_mul, nI_add, nI_1, ix_eq, ix_lt, ix_le, ix_l0, ix_l1, ix_n0, ix_p0, ix_1lt, ix_lt1, ix_1le, ix_le1, ix_le0, ix_0lt, ab_z0, ab_z1, i_10, i_01, eq_self, ab_ozn, ab_ozp, ab_o_some, not_true_eq_false, not_false_eq_true, Bool.not_eq_false, Bool.not_eq_true, Bool.not_eq_false', Bool.not_eq_true', Bool.false_eq_true, Bool.true_eq_false, reduceCtorEq, Option.isSome_some, Option.isSome_none, x28]; with_reducible refine vp_in_nI ?_ ?_ <;> omega)) ?_ | refine x_isNearEnough hω T X hW (f := f) (m := m) rfl rfl hf hm ?_ | refine ab_sd ?_ ?_ | refine ab_sz (Or.inl rfl) ?_ | refine ab_sz (Or.inr rfl) ?_ | refine ab_sz ?_ ?_)
  all_goals (refine q_of hQ ?_; clear hj hw hQ; simp_all [ab_z])
theorem ab_cnt_eq (a : Nat) : ∀ n, ab_cnt (fun i => a == i) n = if a < n then 1 else 0
  | 0 => by simp [ab_cnt]
  | n + 1 => by
    simp only [ab_cnt, ab_cnt_eq a n]
    by_cases h : a = n
    · subst h; simp
    · by_cases h2 : a < n
      · simp [h, h2, show a < n + 1 by omega]
      · simp [h, h2, show ¬ a < n + 1 by omega]
theorem ab_cnt_inj {F : Nat → Nat} {n : Nat} : ∀ K, (∀ k, k < K → F k < n) → (∀ k k', k < K → k' < K → F k = F k' → k = k') → ab_cnt (fun i => ab_ex (fun k => F k == i) K) n = K
  | 0, _, _ => by
    have : ∀ i, i < n → (fun i => ab_ex (fun k => F k == i) 0) i = false := fun i _ => rfl
    exact ab_cnt_zero this
  | K + 1, h1, h2 => by
    have ih := ab_cnt_inj K (fun k hk => h1 k (by omega)) (fun k k' a b => h2 k k' (by omega) (by omega))
    have : ab_cnt (fun i => ab_ex (fun k => F k == i) (K + 1)) n = ab_cnt (fun i => ab_ex (fun k => F k == i) K || F K == i) n := rfl
    rw [this, ab_cnt_dis (f := fun i => ab_ex (fun k => F k == i) K) (g := fun i => F K == i) n, ih, ab_cnt_eq, if_pos (h1 K (by omega))]
    rintro i hi ⟨a, b⟩
    obtain ⟨k, hk, e⟩ := ab_ex_iff.mp a
    simp only [beq_iff_eq] at b e
    have := h2 k K (by omega) (by omega) (by omega)
    omega
theorem s_isf_cnt (T : RepT S μ) (hI : Iv S) {t : Nat} (ht : t < s_nT S) : ab_pc (μ.2 19 t) = S.1 55 t := by
  have hW := hI.1
  have hT := hW.2.2.1.2
  obtain ⟨t1, t2, t3, t4, t5, t6, t7, t8⟩ := hW.2.2.2.2.2.1 t ht
  obtain ⟨kT, kc, ks, k13, k14, k15, k16, k17, k18, k22, k19, k20, k21, k25⟩ := RepT_fs T
  unfold ab_pc
  rw [ab_cnt_congr (g := fun i => ab_ex (fun k => S.1 54 (4 * t + k) == i) (S.1 55 t)) (fun i hi => by rw [k19 t i ht (by omega)]; rfl)]
  refine ab_cnt_inj _ (fun k hk => by have := t6 k hk; omega) (fun k k' hk hk' e => hI.2.2.2.2.2.2.1 t k k' ht hk hk' e)
theorem x_faceCount (hω : ω.2.2.2 = ab_SH) (T : RepT S μ) (hI : Iv S) {x : Int32} {t : Nat} (ex : x = nI t) (ht : t < s_nT S) (hQ : Q (nI (S.1 55 t)) μ) : ab_CI l ω mX8_faceCount [.ref 2, .int x] μ Q := by
  subst ex
  refine ab_intro (sh := ab_SH) (cd := kX8_faceCount) hω vX8_faceCount (by decide +kernel) rfl (Nat.le_of_ble_eq_true rfl) (fun j hj hw => ?_)
  have hT := hI.1.2.2.1.2
  repeat' (first | refine hj _ _ _ _ ?_ | (refine br_c (fun h => ?_) (fun h => ?_) <;> (try simp (disch := omega) only [nI_clamp, li_2, li_3, li_4, li_5, li_6, li_7, li_8, li_9, li_10, li_40, li_120, pk_mul, nI_add, nI_1, ix_eq, ix_lt, ix_le, ix_l0, ix_l1, ix_n0, ix_p0, ix_1lt, ix_lt1, ix_1le, ix_le1, ix_le0, ix_0lt, ab_z0, ab_z1, i_10, i_01, eq_self, ab_ozn, ab_ozp, ab_o_some, not_true_eq_false, not_false_eq_true, Bool.not_eq_false, Bool.not_eq_true, Bool.not_eq_false', Bool.not_eq_true', Bool.false_eq_true, Bool.true_eq_false, reduceCtorEq, Option.isSome_some, Option.isSome_none] at h) <;> (try omega)) | (refine br_n (fun h => ?_) (fun h => ?_) <;> (try simp (disch := omega) only [nI_clamp, li_2, li_3, li_4, li_5, li_6, li_7, li_8, li_9, li_10, li_40, li_120, pk_mul, nI_add, nI_1, ix_eq, ix_lt, ix_le, ix_l0, ix_l1, ix_n0, ix_p0, ix_1lt, ix_lt1, ix_1le, ix_le1, ix_le0, ix_0lt, ab_z0, ab_z1, i_10, i_01, eq_self, ab_ozn, ab_ozp, ab_o_some, not_true_eq_false, not_false_eq_true, Bool.not_eq_false, Bool.not_eq_true, Bool.not_eq_false', Bool.not_eq_true', Bool.false_eq_true, Bool.true_eq_false, reduceCtorEq, Option.isSome_some, Option.isSome_none] at h) <;> (try omega)) | refine ab_sd (by first | (with_reducible refine vp_in_nI ?_ ?_ <;> omega) | (simp (disch := omega) only [nI_clamp, li_2, li_3, li_4, li_5, li_6, li_7, li_8, li_9, li_10, li_40, li_120, pk_mul, nI_add, nI_1, ix_eq, ix_lt, ix_le, ix_l0, ix_l1, ix_n0, ix_p0, ix_1lt, ix_lt1, ix_1le, ix_le1, ix_le0, ix_0lt, ab_z0, ab_z1, i_10, i_01, eq_self, ab_ozn, ab_ozp, ab_o_some, not_true_eq_false, not_false_eq_true, Bool.not_eq_false, Bool.not_eq_true, Bool.not_eq_false', Bool.not_eq_true', Bool.false_eq_true, Bool.true_eq_false, reduceCtorEq, Option.isSome_some, Option.isSome_none]; with_reducible refine vp_in_nI ?_ ?_ <;> omega)) ?_ | refine x_bitCount hω ?_ | refine ab_sd ?_ ?_ | refine ab_sz (Or.inl rfl) ?_ | refine ab_sz (Or.inr rfl) ?_ | refine ab_sz ?_ ?_)
  show Q _ _
  rw [nI_clamp (by omega), s_isf_cnt T hI ht]
  exact hQ
end K4
