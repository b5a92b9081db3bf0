/-! THE CLASS: member -/
def s_Pm (ac fl r : Nat) : Bool := r == 31 || (r == 32 && ac == 0) || (r == 33 && ac == 1) || (r == 34 && s_has fl 1) || (r == 35 && s_has fl 4)
/-- a MEMBER is written; of the sets those below d -/
def MB (S : sT) (t g ac fl d : Nat) (μ μ' : ab_M) : Prop := (μ'.1 3 1 = nI (s_nX S + 1) ∧ μ'.1 26 (s_nX S) = nI t ∧ μ'.1 27 (s_nX S) = nI g ∧ μ'.1 28 (s_nX S) = nI ac ∧ μ'.1 29 (s_nX S) = nI fl ∧ μ'.1 30 (40 * g + t) = nI (s_nX S)) ∧ (∀ k j, ¬ (k = 3 ∧ j = 1) → ¬ ((k = 26 ∨ k = 27 ∨ k = 28 ∨ k = 29) ∧ j = s_nX S) → ¬ (k = 30 ∧ j = 40 * g + t) → μ'.1 k j = μ.1 k j) ∧ (∀ r j i, 31 ≤ r → r ≤ 35 → ab_bt (μ'.2 r j) i = (ab_bt (μ.2 r j) i || (decide (r < d) && s_Pm ac fl r && decide (j = g) && decide (i = t)))) ∧ (∀ k j, k < 31 ∨ 35 < k → μ'.2 k j = μ.2 k j)
theorem MB_s {S : sT} {t g ac fl d : Nat} {μ μ' : ab_M} (h : MB S t g ac fl d μ μ') (hd : 31 ≤ d ∧ d ≤ 35) (ht : t < 40) {v : Int64} (hv : ∀ i, i < 64 → ab_bt v i = (s_Pm ac fl d && decide (i = t))) : MB S t g ac fl (d + 1) μ (ab_mj μ' d g (μ'.2 d g ||| v)) := by
  obtain ⟨h1, h2, h3, h4⟩ := h
  have hv : ∀ i, ab_bt v i = (s_Pm ac fl d && decide (i = t)) := fun i => by
    by_cases hi : i < 64
    · exact hv i hi
    · rw [ab_bt_big (by omega)]; simp [show ¬ i = t by omega]
  refine ⟨h1, h2, fun r j i hr1 hr2 => ?_, fun k j hk => ?_⟩
  · by_cases q : r = d ∧ j = g
    · obtain ⟨rfl, rfl⟩ := q
      simp only [ab_mj, and_self, if_true, ab_bt_or]
      rw [h3 r j i hr1 hr2, hv i]
      simp
    · simp only [ab_mj, if_neg q]
      rw [h3 r j i hr1 hr2]
      by_cases q2 : r = d
      · have : ¬ j = g := fun e => q ⟨q2, e⟩
        simp [this]
      · rw [show decide (r < d + 1) = decide (r < d) by rw [decide_eq_decide]; omega]
  · have : ¬ (k = d ∧ j = g) := by omega
    simp only [ab_mj, if_neg this]
    exact h4 k j hk
theorem me_dg {S : sT} {t k n ac fl : Nat} (hk : k < 3) (hn : n < 10) (hd : s_dec S t k n = none) (i g : Nat) (hg : g < 30) : s_dg (s_mem S t k n ac fl) i g = if i = t ∧ g = 10 * k + n then some (s_nX S) else s_dg S i g := by
  unfold s_dg
  rw [me_dec hd]
  by_cases q : i = t ∧ g = 10 * k + n
  · rw [if_pos q, if_pos ⟨q.1, by omega, by omega⟩]
  · rw [if_neg q, if_neg (by omega)]
theorem RepX_me {S : sT} {μ μ' : ab_M} (X : RepX S μ) (hW : Wf S) {t k n ac fl : Nat} (ht : t < s_nT S) (hk : k < 3) (hn : n < 10) (hd : s_dec S t k n = none) (h : MB S t (10 * k + n) ac fl 36 μ μ') : RepX (s_mem S t k n ac fl) μ' := by
  obtain ⟨x1, x2, x3, x4⟩ := X
  obtain ⟨⟨a1, a2, a3, a4, a5, a6⟩, b, c, -⟩ := h
  obtain ⟨e1, e2, e3, e4, e5⟩ := me_new (S := S) (t := t) (k := k) (n := n) (ac := ac) (fl := fl)
  have hT := hW.2.2.1.2
  have dgo : s_dg S t (10 * k + n) = none := by
    unfold s_dg
    rw [show (10 * k + n) / 10 = k by omega, show (10 * k + n) % 10 = n by omega]
    exact hd
  refine ⟨by rw [a1, me_nX], fun m hm => ?_, fun g t' hg ht' => ?_, fun g i hg => ?_⟩
  · rw [me_nX] at hm
    by_cases q : m = s_nX S
    · subst q
      rw [e1, e2, e3, e4, e5]
      exact ⟨a2, a3, a4, a5⟩
    · rw [me_1 (a := 57) (by omega) (by omega), me_1 (a := 58) (by omega) (by omega), me_1 (a := 59) (by omega) (by omega), me_1 (a := 60) (by omega) (by omega), me_1 (a := 61) (by omega) (by omega), b 26 m (by omega) (by omega) (by omega), b 27 m (by omega) (by omega) (by omega), b 28 m (by omega) (by omega) (by omega), b 29 m (by omega) (by omega) (by omega)]
      exact x2 m (by omega)
  · rw [me_dg hk hn hd t' g hg]
    by_cases q : t' = t ∧ g = 10 * k + n
    · rw [if_pos q, q.1, q.2, a6]; rfl
    · rw [if_neg q, b 30 _ (by omega) (by omega) (by omega)]
      exact x3 g t' hg ht'
  · have key : ∀ p p' : Nat → Bool, (∀ m, m < s_nX S → p' m = p m) → s_pg (s_mem S t k n ac fl) g p' i = (s_pg S g p i || (p' (s_nX S) && decide (g = 10 * k + n) && decide (i = t))) := by
      intro p p' hp
      unfold s_pg
      rw [me_dg hk hn hd i g hg]
      by_cases q : i = t ∧ g = 10 * k + n
      · rw [if_pos q, q.1, q.2, dgo]
        simp
      · rw [if_neg q]
        have : (decide (g = 10 * k + n) && decide (i = t)) = false := by
          simp only [Bool.and_eq_false_iff, decide_eq_false_iff_not]
          omega
        rw [Bool.and_assoc, this, Bool.and_false, Bool.or_false]
        cases e : s_dg S i g with
        | none => rfl
        | some m => exact hp m (s_dg_some hW e).1
    obtain ⟨y1, y2, y3, y4, y5⟩ := x4 g i hg
    rw [c 31 g i (by omega) (by omega), c 32 g i (by omega) (by omega), c 33 g i (by omega) (by omega), c 34 g i (by omega) (by omega), c 35 g i (by omega) (by omega), y1, y2, y3, y4, y5]
    have o60 : ∀ m, m < s_nX S → (s_mem S t k n ac fl).1 60 m = S.1 60 m := fun m hm => me_1 (by omega) (by omega)
    have o61 : ∀ m, m < s_nX S → (s_mem S t k n ac fl).1 61 m = S.1 61 m := fun m hm => me_1 (by omega) (by omega)
    refine ⟨?_, ?_, ?_, ?_, ?_⟩
    · rw [me_dg hk hn hd i g hg]
      by_cases q : i = t ∧ g = 10 * k + n
      · rw [if_pos q, q.1, q.2]
        simp [s_Pm]
      · rw [if_neg q]
        have : (decide (g = 10 * k + n) && decide (i = t)) = false := by
          simp only [Bool.and_eq_false_iff, decide_eq_false_iff_not]
          omega
        rw [Bool.and_assoc, this]
        simp
    · rw [key (fun m => S.1 60 m == 0) _ (fun m hm => by simp only [o60 m hm]), e4]
      simp [s_Pm]
    · rw [key (fun m => S.1 60 m == 1) _ (fun m hm => by simp only [o60 m hm]), e4]
      simp [s_Pm]
    · rw [key (fun m => s_has (S.1 61 m) 1) _ (fun m hm => by simp only [o61 m hm]), e5]
      simp [s_Pm]
    · rw [key (fun m => s_has (S.1 61 m) 4) _ (fun m hm => by simp only [o61 m hm]), e5]
      simp [s_Pm]
def KX (μ μ' : ab_M) : Prop := ∀ k j, ¬ (k = 3 ∨ (26 ≤ k ∧ k ≤ 35)) → μ'.1 k j = μ.1 k j ∧ μ'.2 k j = μ.2 k j
section KJ
variable {l : Launch} {ω : ab_W} {S : sT} {μ : ab_M} {Q : Int32 → ab_M → Prop}
theorem x_fitsInterface (hω : ω.2.2.2 = ab_SH) {x y z : Int32} {k ac fl : Nat} (ex : x = nI k) (ey : y = nI ac) (ez : z = nI fl) (hk : k < 3) (ha : ac < 4) (hf : fl < 8) (hQ : Q (ab_z ((k == 0 && ac == 3 && s_has fl 1) || (k == 1 && (ac == 3 || ac == 0) && !s_has fl 2))) μ) : ab_CI l ω mX3_fitsInterface [.ref 3, .int x, .int y, .int z] μ Q := by
  subst ex ey ez
  refine ab_intro (sh := ab_SH) (cd := kX3_fitsInterface) hω vX3_fitsInterface (by decide +kernel) rfl (Nat.le_of_ble_eq_true rfl) (fun j hj hw => ?_)
  have q1 := s_and_lt (b := 1) hf
  have q2 := s_and_lt (b := 2) hf
  have b1 : fl &&& 1 = 0 ↔ s_has fl 1 = false := by unfold s_has; simp
  have b2 : fl &&& 2 = 0 ↔ s_has fl 2 = false := by unfold s_has; simp
  repeat' (first | refine hj _ _ _ _ ?_ | (refine br_c (fun h => ?_) (fun h => ?_) <;> (try simp (disch := omega) only [nI_clamp, li_2, li_3, li_4, li_5, li_6, li_7, li_8, li_9, li_10, li_40, li_120, pk_mul, nI_add, nI_1, ix_eq, ix_lt, ix_le, ix_l0, ix_l1, ix_n0, ix_p0, ix_1lt, ix_lt1, ix_1le, ix_le1, ix_le0, ix_0lt, ab_z0, ab_z1, i_10, i_01, eq_self, ab_ozn, ab_ozp, ab_o_some, not_true_eq_false, not_false_eq_true, Bool.not_eq_false, Bool.not_eq_true, Bool.not_eq_false', Bool.not_eq_true', Bool.false_eq_true, Bool.true_eq_false, reduceCtorEq, Option.isSome_some, Option.isSome_none, ab_n1, ab_nand, b1, b2] at h) <;> (try omega)) | (refine br_n (fun h => ?_) (fun h => ?_) <;> (try simp (disch := omega) only [nI_clamp, li_2, li_3, li_4, li_5, li_6, li_7, li_8, li_9, li_10, li_40, li_120, pk_mul, nI_add, nI_1, ix_eq, ix_lt, ix_le, ix_l0, ix_l1, ix_n0, ix_p0, ix_1lt, ix_lt1, ix_1le, ix_le1, ix_le0, ix_0lt, ab_z0, ab_z1, i_10, i_01, eq_self, ab_ozn, ab_ozp, ab_o_some, not_true_eq_false, not_false_eq_true, Bool.not_eq_false, Bool.not_eq_true, Bool.not_eq_false', Bool.not_eq_true', Bool.false_eq_true, Bool.true_eq_false, reduceCtorEq, Option.isSome_some, Option.isSome_none, ab_n1, ab_nand, b1, b2] at h) <;> (try omega)) | refine ab_sd (by first | (with_reducible refine vp_in_nI ?_ ?_ <;> omega) | (simp (disch := omega) only [nI_clamp, li_2, li_3, li_4, li_5, li_6, li_7, li_8, li_9, li_10, li_40, li_120, pk_mul, nI_add, nI_1, ix_eq, ix_lt, ix_le, ix_l0, ix_l1, ix_n0, ix_p0, ix_1lt, ix_lt1, ix_1le, ix_le1, ix_le0, ix_0lt, ab_z0, ab_z1, i_10, i_01, eq_self, ab_ozn, ab_ozp, ab_o_some, not_true_eq_false, not_false_eq_true, Bool.not_eq_false, Bool.not_eq_true, Bool.not_eq_false', Bool.not_eq_true', Bool.false_eq_true, Bool.true_eq_false, reduceCtorEq, Option.isSome_some, Option.isSome_none, ab_n1, ab_nand, b1, b2]; with_reducible refine vp_in_nI ?_ ?_ <;> omega)) ?_ | refine ab_sd ?_ ?_ | refine ab_sz (Or.inl rfl) ?_ | refine ab_sz (Or.inr rfl) ?_ | refine ab_sz ?_ ?_)
  all_goals (refine q_of hQ ?_; clear hj hw hQ; simp_all [ab_z])
theorem x_madd (hω : ω.2.2.2 = ab_SH) (X : RepX S μ) (hW : Wf S) {x y z v w : Int32} {t k n ac fl : Nat} (ex : x = nI t) (ey : y = nI k) (ez : z = nI n) (ev : v = nI ac) (ew : w = nI fl) (ht : t < s_nT S) (hk : k < 3) (hn : n < 10) (ha : ac < 4) (hf : fl < 8) (hd : s_dec S t k n = none) (hQf : s_nX S = 120 → Q (-4) μ) (hQ : ∀ μ', ¬ s_nX S = 120 → RepX (s_mem S t k n ac fl) μ' → KX μ μ' → Q (nI (s_nX S)) μ') : ab_CI l ω mX3_add [.ref 3, .int x, .int y, .int z, .int v, .int w] μ Q := by
  subst ex ey ez ev ew
  refine ab_intro (sh := ab_SH) (cd := kX3_add) hω vX3_add (by decide +kernel) rfl (Nat.le_of_ble_eq_true rfl) (fun j hj hw => ?_)
  have hjx : ∀ i ll st μ, i ∉ ([49, 69, 83, 98, 113] : List Nat) → _ → j i ll st μ := fun i ll st μ _ h => hj i ll st μ h
  have hT := hW.2.2.1.2
  have hX := hW.2.2.2.1
  have xN := X.1
  by_cases h120 : s_nX S = 120
  · repeat' (first | refine hjx _ _ _ _ (by decide) ?_ | (refine br_c (fun h => ?_) (fun h => ?_) <;> (try simp (disch := omega) only [nI_clamp, li_2, li_3, li_4, li_5, li_6, li_7, li_8, li_9, li_10, li_40, li_120, pk_mul, nI_add, nI_1, ix_eq, ix_lt, ix_le, ix_l0, ix_l1, ix_n0, ix_p0, ix_1lt, ix_lt1, ix_1le, ix_le1, ix_le0, ix_0lt, ab_z0, ab_z1, i_10, i_01, eq_self, ab_ozn, ab_ozp, ab_o_some, not_true_eq_false, not_false_eq_true, Bool.not_eq_false, Bool.not_eq_true, Bool.not_eq_false', Bool.not_eq_true', Bool.false_eq_true, Bool.true_eq_false, reduceCtorEq, Option.isSome_some, Option.isSome_none, xN] at h) <;> (try omega)) | (refine br_n (fun h => ?_) (fun h => ?_) <;> (try simp (disch := omega) only [nI_clamp, li_2, li_3, li_4, li_5, li_6, li_7, li_8, li_9, li_10, li_40, li_120, pk_mul, nI_add, nI_1, ix_eq, ix_lt, ix_le, ix_l0, ix_l1, ix_n0, ix_p0, ix_1lt, ix_lt1, ix_1le, ix_le1, ix_le0, ix_0lt, ab_z0, ab_z1, i_10, i_01, eq_self, ab_ozn, ab_ozp, ab_o_some, not_true_eq_false, not_false_eq_true, Bool.not_eq_false, Bool.not_eq_true, Bool.not_eq_false', Bool.not_eq_true', Bool.false_eq_true, Bool.true_eq_false, reduceCtorEq, Option.isSome_some, Option.isSome_none, xN] at h) <;> (try omega)) | refine ab_sd (by first | (with_reducible refine vp_in_nI ?_ ?_ <;> omega) | (simp (disch := omega) only [nI_clamp, li_2, li_3, li_4, li_5, li_6, li_7, li_8, li_9, li_10, li_40, li_120, pk_mul, nI_add, nI_1, ix_eq, ix_lt, ix_le, ix_l0, ix_l1, ix_n0, ix_p0, ix_1lt, ix_lt1, ix_1le, ix_le1, ix_le0, ix_0lt, ab_z0, ab_z1, i_10, i_01, eq_self, ab_ozn, ab_ozp, ab_o_some, not_true_eq_false, not_false_eq_true, Bool.not_eq_false, Bool.not_eq_true, Bool.not_eq_false', Bool.not_eq_true', Bool.false_eq_true, Bool.true_eq_false, reduceCtorEq, Option.isSome_some, Option.isSome_none, xN]; with_reducible refine vp_in_nI ?_ ?_ <;> omega)) ?_ | refine ab_sd ?_ ?_ | refine ab_sz (Or.inl rfl) ?_ | refine ab_sz (Or.inr rfl) ?_ | refine ab_sz ?_ ?_)
    all_goals exact hQf h120
  · have hQ := fun μ' => hQ μ' h120
    have q1 := s_and_lt (b := 1) hf
    have q4 := s_and_lt (b := 4) hf
    have b1 : fl &&& 1 = 0 ↔ s_has fl 1 = false := by unfold s_has; simp
    have b4 : fl &&& 4 = 0 ↔ s_has fl 4 = false := by unfold s_has; simp
    have cX : (nI (s_nX S)).toNatClampNeg = s_nX S := nI_clamp (by omega)
    have ge : nI k * 10 + nI n = nI (10 * k + n) := by rw [li_10, pk_mul, nI_add, Nat.mul_comm]
    have cg : (nI (10 * k + n)).toNatClampNeg = 10 * k + n := nI_clamp (by omega)
    have gt : nI (10 * k + n) * 40 + nI t = nI (40 * (10 * k + n) + t) := by rw [li_40, pk_mul, nI_add, Nat.mul_comm]
    have v0 : ∀ P : Bool, P = false → ∀ i, i < 64 → ab_bt (0 : Int64) i = (P && decide (i = t)) := fun P h i _ => by rw [ab_bt_0, h]; rfl
    have v1 : ∀ P : Bool, P = true → ∀ i, i < 64 → ab_bt (ab_one t) i = (P && decide (i = t)) := fun P h i _ => by rw [ab_bt_one (by omega), h]; rfl
    have h113 : ∀ μ' (v : Int64), MB S t (10 * k + n) ac fl 35 μ μ' → (∀ i, i < 64 → ab_bt v i = (s_Pm ac fl 35 && decide (i = t))) → j 113 [some (.ref 3), some (.int (nI t)), some (.int (nI k)), some (.int (nI n)), some (.int (nI ac)), some (.int (nI fl)), some (.int (nI (s_nX S))), some (.int (nI (10 * k + n)))] [.long v, .long (μ'.2 35 (10 * k + n)), .int (nI (10 * k + n)), .ref 35] μ' := by
      intro μ' v h hv
      refine hj _ _ _ _ ?_
      repeat' (first | refine hjx _ _ _ _ (by decide) ?_ | (refine br_c (fun h => ?_) (fun h => ?_) <;> (try simp (disch := omega) only [nI_clamp, li_2, li_3, li_4, li_5, li_6, li_7, li_8, li_9, li_10, li_40, li_120, pk_mul, nI_add, nI_1, ix_eq, ix_lt, ix_le, ix_l0, ix_l1, ix_n0, ix_p0, ix_1lt, ix_lt1, ix_1le, ix_le1, ix_le0, ix_0lt, ab_z0, ab_z1, i_10, i_01, eq_self, ab_ozn, ab_ozp, ab_o_some, not_true_eq_false, not_false_eq_true, Bool.not_eq_false, Bool.not_eq_true, Bool.not_eq_false', Bool.not_eq_true', Bool.false_eq_true, Bool.true_eq_false, reduceCtorEq, Option.isSome_some, Option.isSome_none] at h) <;> (try omega)) | (refine br_n (fun h => ?_) (fun h => ?_) <;> (try simp (disch := omega) only [nI_clamp, li_2, li_3, li_4, li_5, li_6, li_7, li_8, li_9, li_10, li_40, li_120, pk_mul, nI_add, nI_1, ix_eq, ix_lt, ix_le, ix_l0, ix_l1, ix_n0, ix_p0, ix_1lt, ix_lt1, ix_1le, ix_le1, ix_le0, ix_0lt, ab_z0, ab_z1, i_10, i_01, eq_self, ab_ozn, ab_ozp, ab_o_some, not_true_eq_false, not_false_eq_true, Bool.not_eq_false, Bool.not_eq_true, Bool.not_eq_false', Bool.not_eq_true', Bool.false_eq_true, Bool.true_eq_false, reduceCtorEq, Option.isSome_some, Option.isSome_none] at h) <;> (try omega)) | refine ab_sd (by first | (with_reducible refine vp_in_nI ?_ ?_ <;> omega) | (simp (disch := omega) only [nI_clamp, li_2, li_3, li_4, li_5, li_6, li_7, li_8, li_9, li_10, li_40, li_120, pk_mul, nI_add, nI_1, ix_eq, ix_lt, ix_le, ix_l0, ix_l1, ix_n0, ix_p0, ix_1lt, ix_lt1, ix_1le, ix_le1, ix_le0, ix_0lt, ab_z0, ab_z1, i_10, i_01, eq_self, ab_ozn, ab_ozp, ab_o_some, not_true_eq_false, not_false_eq_true, Bool.not_eq_false, Bool.not_eq_true, Bool.not_eq_false', Bool.not_eq_true', Bool.false_eq_true, Bool.true_eq_false, reduceCtorEq, Option.isSome_some, Option.isSome_none]; with_reducible refine vp_in_nI ?_ ?_ <;> omega)) ?_ | refine ab_sd ?_ ?_ | refine ab_sz (Or.inl rfl) ?_ | refine ab_sz (Or.inr rfl) ?_ | refine ab_sz ?_ ?_)
      show Q _ _
      rw [cg]
      have h2 := MB_s h (by omega) (by omega) hv
      refine hQ _ (RepX_me X hW ht hk hn hd h2) (fun a b hab => ⟨h2.2.1 a b (by omega) (by omega) (by omega), h2.2.2.2 a b (by omega)⟩)
    have h98 : ∀ μ' (v : Int64), MB S t (10 * k + n) ac fl 34 μ μ' → (∀ i, i < 64 → ab_bt v i = (s_Pm ac fl 34 && decide (i = t))) → j 98 [some (.ref 3), some (.int (nI t)), some (.int (nI k)), some (.int (nI n)), some (.int (nI ac)), some (.int (nI fl)), some (.int (nI (s_nX S))), some (.int (nI (10 * k + n)))] [.long v, .long (μ'.2 34 (10 * k + n)), .int (nI (10 * k + n)), .ref 34] μ' := by
      intro μ' v hM hv
      refine hj _ _ _ _ ?_
      have h2 := MB_s hM (by omega) (by omega) hv
      repeat' (first | refine hjx _ _ _ _ (by decide) ?_ | (refine br_c (fun h => ?_) (fun h => ?_) <;> (try simp (disch := omega) only [nI_clamp, li_2, li_3, li_4, li_5, li_6, li_7, li_8, li_9, li_10, li_40, li_120, pk_mul, nI_add, nI_1, ix_eq, ix_lt, ix_le, ix_l0, ix_l1, ix_n0, ix_p0, ix_1lt, ix_lt1, ix_1le, ix_le1, ix_le0, ix_0lt, ab_z0, ab_z1, i_10, i_01, eq_self, ab_ozn, ab_ozp, ab_o_some, not_true_eq_false, not_false_eq_true, Bool.not_eq_false, Bool.not_eq_true, Bool.not_eq_false', Bool.not_eq_true', Bool.false_eq_true, Bool.true_eq_false, reduceCtorEq, Option.isSome_some, Option.isSome_none, ab_nand, b4] at h) <;> (try omega)) | (refine br_n (fun h => ?_) (fun h => ?_) <;> (try simp (disch := omega) only [nI_clamp, li_2, li_3, li_4, li_5, li_6, li_7, li_8, li_9, li_10, li_40, li_120, pk_mul, nI_add, nI_1, ix_eq, ix_lt, ix_le, ix_l0, ix_l1, ix_n0, ix_p0, ix_1lt, ix_lt1, ix_1le, ix_le1, ix_le0, ix_0lt, ab_z0, ab_z1, i_10, i_01, eq_self, ab_ozn, ab_ozp, ab_o_some, not_true_eq_false, not_false_eq_true, Bool.not_eq_false, Bool.not_eq_true, Bool.not_eq_false', Bool.not_eq_true', Bool.false_eq_true, Bool.true_eq_false, reduceCtorEq, Option.isSome_some, Option.isSome_none, ab_nand, b4] at h) <;> (try omega)) | refine ab_sd (by first | (with_reducible refine vp_in_nI ?_ ?_ <;> omega) | (simp (disch := omega) only [nI_clamp, li_2, li_3, li_4, li_5, li_6, li_7, li_8, li_9, li_10, li_40, li_120, pk_mul, nI_add, nI_1, ix_eq, ix_lt, ix_le, ix_l0, ix_l1, ix_n0, ix_p0, ix_1lt, ix_lt1, ix_1le, ix_le1, ix_le0, ix_0lt, ab_z0, ab_z1, i_10, i_01, eq_self, ab_ozn, ab_ozp, ab_o_some, not_true_eq_false, not_false_eq_true, Bool.not_eq_false, Bool.not_eq_true, Bool.not_eq_false', Bool.not_eq_true', Bool.false_eq_true, Bool.true_eq_false, reduceCtorEq, Option.isSome_some, Option.isSome_none, ab_nand, b4]; with_reducible refine vp_in_nI ?_ ?_ <;> omega)) ?_ | refine x_one hω (t := t) rfl ?_ | refine ab_sd ?_ ?_ | refine ab_sz (Or.inl rfl) ?_ | refine ab_sz (Or.inr rfl) ?_ | refine ab_sz ?_ ?_)
      all_goals (rw [cg]; first | exact h113 _ _ h2 (v0 _ (by simp [s_Pm, h])) | exact h113 _ _ h2 (v1 _ (by simp [s_Pm, h])))
    have h83 : ∀ μ' (v : Int64), MB S t (10 * k + n) ac fl 33 μ μ' → (∀ i, i < 64 → ab_bt v i = (s_Pm ac fl 33 && decide (i = t))) → j 83 [some (.ref 3), some (.int (nI t)), some (.int (nI k)), some (.int (nI n)), some (.int (nI ac)), some (.int (nI fl)), some (.int (nI (s_nX S))), some (.int (nI (10 * k + n)))] [.long v, .long (μ'.2 33 (10 * k + n)), .int (nI (10 * k + n)), .ref 33] μ' := by
      intro μ' v hM hv
      refine hj _ _ _ _ ?_
      have h2 := MB_s hM (by omega) (by omega) hv
      repeat' (first | refine hjx _ _ _ _ (by decide) ?_ | (refine br_c (fun h => ?_) (fun h => ?_) <;> (try simp (disch := omega) only [nI_clamp, li_2, li_3, li_4, li_5, li_6, li_7, li_8, li_9, li_10, li_40, li_120, pk_mul, nI_add, nI_1, ix_eq, ix_lt, ix_le, ix_l0, ix_l1, ix_n0, ix_p0, ix_1lt, ix_lt1, ix_1le, ix_le1, ix_le0, ix_0lt, ab_z0, ab_z1, i_10, i_01, eq_self, ab_ozn, ab_ozp, ab_o_some, not_true_eq_false, not_false_eq_true, Bool.not_eq_false, Bool.not_eq_true, Bool.not_eq_false', Bool.not_eq_true', Bool.false_eq_true, Bool.true_eq_false, reduceCtorEq, Option.isSome_some, Option.isSome_none, ab_n1, b1] at h) <;> (try omega)) | (refine br_n (fun h => ?_) (fun h => ?_) <;> (try simp (disch := omega) only [nI_clamp, li_2, li_3, li_4, li_5, li_6, li_7, li_8, li_9, li_10, li_40, li_120, pk_mul, nI_add, nI_1, ix_eq, ix_lt, ix_le, ix_l0, ix_l1, ix_n0, ix_p0, ix_1lt, ix_lt1, ix_1le, ix_le1, ix_le0, ix_0lt, ab_z0, ab_z1, i_10, i_01, eq_self, ab_ozn, ab_ozp, ab_o_some, not_true_eq_false, not_false_eq_true, Bool.not_eq_false, Bool.not_eq_true, Bool.not_eq_false', Bool.not_eq_true', Bool.false_eq_true, Bool.true_eq_false, reduceCtorEq, Option.isSome_some, Option.isSome_none, ab_n1, b1] at h) <;> (try omega)) | refine ab_sd (by first | (with_reducible refine vp_in_nI ?_ ?_ <;> omega) | (simp (disch := omega) only [nI_clamp, li_2, li_3, li_4, li_5, li_6, li_7, li_8, li_9, li_10, li_40, li_120, pk_mul, nI_add, nI_1, ix_eq, ix_lt, ix_le, ix_l0, ix_l1, ix_n0, ix_p0, ix_1lt, ix_lt1, ix_1le, ix_le1, ix_le0, ix_0lt, ab_z0, ab_z1, i_10, i_01, eq_self, ab_ozn, ab_ozp, ab_o_some, not_true_eq_false, not_false_eq_true, Bool.not_eq_false, Bool.not_eq_true, Bool.not_eq_false', Bool.not_eq_true', Bool.false_eq_true, Bool.true_eq_false, reduceCtorEq, Option.isSome_some, Option.isSome_none, ab_n1, b1]; with_reducible refine vp_in_nI ?_ ?_ <;> omega)) ?_ | refine x_one hω (t := t) rfl ?_ | refine ab_sd ?_ ?_ | refine ab_sz (Or.inl rfl) ?_ | refine ab_sz (Or.inr rfl) ?_ | refine ab_sz ?_ ?_)
      all_goals (rw [cg]; first | exact h98 _ _ h2 (v0 _ (by simp [s_Pm, h])) | exact h98 _ _ h2 (v1 _ (by simp [s_Pm, h])))
    have h69 : ∀ μ' (v : Int64), MB S t (10 * k + n) ac fl 32 μ μ' → (∀ i, i < 64 → ab_bt v i = (s_Pm ac fl 32 && decide (i = t))) → j 69 [some (.ref 3), some (.int (nI t)), some (.int (nI k)), some (.int (nI n)), some (.int (nI ac)), some (.int (nI fl)), some (.int (nI (s_nX S))), some (.int (nI (10 * k + n)))] [.long v, .long (μ'.2 32 (10 * k + n)), .int (nI (10 * k + n)), .ref 32] μ' := by
      intro μ' v hM hv
      refine hj _ _ _ _ ?_
      have h2 := MB_s hM (by omega) (by omega) hv
      repeat' (first | refine hjx _ _ _ _ (by decide) ?_ | (refine br_c (fun h => ?_) (fun h => ?_) <;> (try simp (disch := omega) only [nI_clamp, li_2, li_3, li_4, li_5, li_6, li_7, li_8, li_9, li_10, li_40, li_120, pk_mul, nI_add, nI_1, ix_eq, ix_lt, ix_le, ix_l0, ix_l1, ix_n0, ix_p0, ix_1lt, ix_lt1, ix_1le, ix_le1, ix_le0, ix_0lt, ab_z0, ab_z1, i_10, i_01, eq_self, ab_ozn, ab_ozp, ab_o_some, not_true_eq_false, not_false_eq_true, Bool.not_eq_false, Bool.not_eq_true, Bool.not_eq_false', Bool.not_eq_true', Bool.false_eq_true, Bool.true_eq_false, reduceCtorEq, Option.isSome_some, Option.isSome_none, ab_n1] at h) <;> (try omega)) | (refine br_n (fun h => ?_) (fun h => ?_) <;> (try simp (disch := omega) only [nI_clamp, li_2, li_3, li_4, li_5, li_6, li_7, li_8, li_9, li_10, li_40, li_120, pk_mul, nI_add, nI_1, ix_eq, ix_lt, ix_le, ix_l0, ix_l1, ix_n0, ix_p0, ix_1lt, ix_lt1, ix_1le, ix_le1, ix_le0, ix_0lt, ab_z0, ab_z1, i_10, i_01, eq_self, ab_ozn, ab_ozp, ab_o_some, not_true_eq_false, not_false_eq_true, Bool.not_eq_false, Bool.not_eq_true, Bool.not_eq_false', Bool.not_eq_true', Bool.false_eq_true, Bool.true_eq_false, reduceCtorEq, Option.isSome_some, Option.isSome_none, ab_n1] at h) <;> (try omega)) | refine ab_sd (by first | (with_reducible refine vp_in_nI ?_ ?_ <;> omega) | (simp (disch := omega) only [nI_clamp, li_2, li_3, li_4, li_5, li_6, li_7, li_8, li_9, li_10, li_40, li_120, pk_mul, nI_add, nI_1, ix_eq, ix_lt, ix_le, ix_l0, ix_l1, ix_n0, ix_p0, ix_1lt, ix_lt1, ix_1le, ix_le1, ix_le0, ix_0lt, ab_z0, ab_z1, i_10, i_01, eq_self, ab_ozn, ab_ozp, ab_o_some, not_true_eq_false, not_false_eq_true, Bool.not_eq_false, Bool.not_eq_true, Bool.not_eq_false', Bool.not_eq_true', Bool.false_eq_true, Bool.true_eq_false, reduceCtorEq, Option.isSome_some, Option.isSome_none, ab_n1]; with_reducible refine vp_in_nI ?_ ?_ <;> omega)) ?_ | refine x_one hω (t := t) rfl ?_ | refine ab_sd ?_ ?_ | refine ab_sz (Or.inl rfl) ?_ | refine ab_sz (Or.inr rfl) ?_ | refine ab_sz ?_ ?_)
      all_goals (rw [cg]; first | exact h83 _ _ h2 (v0 _ (by simp [s_Pm, h])) | exact h83 _ _ h2 (v1 _ (by simp [s_Pm, h])))
    have h49 : ∀ μ', MB S t (10 * k + n) ac fl 31 μ μ' → j 49 [some (.ref 3), some (.int (nI t)), some (.int (nI k)), some (.int (nI n)), some (.int (nI ac)), some (.int (nI fl)), some (.int (nI (s_nX S))), some (.int (nI (10 * k + n)))] [] μ' := by
      intro μ' hM
      refine hj _ _ _ _ ?_
      have h2 := MB_s hM (by omega) (by omega) (v := ab_one t) (v1 _ (by simp [s_Pm]))
      repeat' (first | refine hjx _ _ _ _ (by decide) ?_ | (refine br_c (fun h => ?_) (fun h => ?_) <;> (try simp (disch := omega) only [nI_clamp, li_2, li_3, li_4, li_5, li_6, li_7, li_8, li_9, li_10, li_40, li_120, pk_mul, nI_add, nI_1, ix_eq, ix_lt, ix_le, ix_l0, ix_l1, ix_n0, ix_p0, ix_1lt, ix_lt1, ix_1le, ix_le1, ix_le0, ix_0lt, ab_z0, ab_z1, i_10, i_01, eq_self, ab_ozn, ab_ozp, ab_o_some, not_true_eq_false, not_false_eq_true, Bool.not_eq_false, Bool.not_eq_true, Bool.not_eq_false', Bool.not_eq_true', Bool.false_eq_true, Bool.true_eq_false, reduceCtorEq, Option.isSome_some, Option.isSome_none] at h) <;> (try omega)) | (refine br_n (fun h => ?_) (fun h => ?_) <;> (try simp (disch := omega) only [nI_clamp, li_2, li_3, li_4, li_5, li_6, li_7, li_8, li_9, li_10, li_40, li_120, pk_mul, nI_add, nI_1, ix_eq, ix_lt, ix_le, ix_l0, ix_l1, ix_n0, ix_p0, ix_1lt, ix_lt1, ix_1le, ix_le1, ix_le0, ix_0lt, ab_z0, ab_z1, i_10, i_01, eq_self, ab_ozn, ab_ozp, ab_o_some, not_true_eq_false, not_false_eq_true, Bool.not_eq_false, Bool.not_eq_true, Bool.not_eq_false', Bool.not_eq_true', Bool.false_eq_true, Bool.true_eq_false, reduceCtorEq, Option.isSome_some, Option.isSome_none] at h) <;> (try omega)) | refine ab_sd (by first | (with_reducible refine vp_in_nI ?_ ?_ <;> omega) | (simp (disch := omega) only [nI_clamp, li_2, li_3, li_4, li_5, li_6, li_7, li_8, li_9, li_10, li_40, li_120, pk_mul, nI_add, nI_1, ix_eq, ix_lt, ix_le, ix_l0, ix_l1, ix_n0, ix_p0, ix_1lt, ix_lt1, ix_1le, ix_le1, ix_le0, ix_0lt, ab_z0, ab_z1, i_10, i_01, eq_self, ab_ozn, ab_ozp, ab_o_some, not_true_eq_false, not_false_eq_true, Bool.not_eq_false, Bool.not_eq_true, Bool.not_eq_false', Bool.not_eq_true', Bool.false_eq_true, Bool.true_eq_false, reduceCtorEq, Option.isSome_some, Option.isSome_none]; with_reducible refine vp_in_nI ?_ ?_ <;> omega)) ?_ | refine x_one hω (t := t) rfl ?_ | refine ab_sd ?_ ?_ | refine ab_sz (Or.inl rfl) ?_ | refine ab_sz (Or.inr rfl) ?_ | refine ab_sz ?_ ?_)
      all_goals (rw [cg]; first | exact h69 _ _ h2 (v0 _ (by simp [s_Pm, h])) | exact h69 _ _ h2 (v1 _ (by simp [s_Pm, h])))
    repeat' (first | refine hjx _ _ _ _ (by decide) ?_ | (refine br_c (fun h => ?_) (fun h => ?_) <;> (try simp (disch := omega) only [nI_clamp, li_2, li_3, li_4, li_5, li_6, li_7, li_8, li_9, li_10, li_40, li_120, pk_mul, nI_add, nI_1, ix_eq, ix_lt, ix_le, ix_l0, ix_l1, ix_n0, ix_p0, ix_1lt, ix_lt1, ix_1le, ix_le1, ix_le0, ix_0lt, ab_z0, ab_z1, i_10, i_01, eq_self, ab_ozn, ab_ozp, ab_o_some, not_true_eq_false, not_false_eq_true, Bool.not_eq_false, Bool.not_eq_true, Bool.not_eq_false', Bool.not_eq_true', Bool.false_eq_true, Bool.true_eq_false, reduceCtorEq, Option.isSome_some, Option.isSome_none, xN, ge, gt] at h) <;> (try omega)) | (refine br_n (fun h => ?_) (fun h => ?_) <;> (try simp (disch := omega) only [nI_clamp, li_2, li_3, li_4, li_5, li_6, li_7, li_8, li_9, li_10, li_40, li_120, pk_mul, nI_add, nI_1, ix_eq, ix_lt, ix_le, ix_l0, ix_l1, ix_n0, ix_p0, ix_1lt, ix_lt1, ix_1le, ix_le1, ix_le0, ix_0lt, ab_z0, ab_z1, i_10, i_01, eq_self, ab_ozn, ab_ozp, ab_o_some, not_true_eq_false, not_false_eq_true, Bool.not_eq_false, Bool.not_eq_true, Bool.not_eq_false', Bool.not_eq_true', Bool.false_eq_true, Bool.true_eq_false, reduceCtorEq, Option.isSome_some, Option.isSome_none, xN, ge, gt] at h) <;> (try omega)) | refine ab_sd (by first | (with_reducible refine vp_in_nI ?_ ?_ <;> omega) | (simp (disch := omega) only [nI_clamp, li_2, li_3, li_4, li_5, li_6, li_7, li_8, li_9, li_10, li_40, li_120, pk_mul, nI_add, nI_1, ix_eq, ix_lt, ix_le, ix_l0, ix_l1, ix_n0, ix_p0, ix_1lt, ix_lt1, ix_1le, ix_le1, ix_le0, ix_0lt, ab_z0, ab_z1, i_10, i_01, eq_self, ab_ozn, ab_ozp, ab_o_some, not_true_eq_false, not_false_eq_true, Bool.not_eq_false, Bool.not_eq_true, Bool.not_eq_false', Bool.not_eq_true', Bool.false_eq_true, Bool.true_eq_false, reduceCtorEq, Option.isSome_some, Option.isSome_none, xN, ge, gt]; with_reducible refine vp_in_nI ?_ ?_ <;> omega)) ?_ | refine ab_sd ?_ ?_ | refine ab_sz (Or.inl rfl) ?_ | refine ab_sz (Or.inr rfl) ?_ | refine ab_sz ?_ ?_)
    show j 49 _ _ _
    simp only [xN, cX, nI_1, ge, gt, nI_clamp (show 40 * (10 * k + n) + t < 2 ^ 31 by omega)]
    refine h49 _ ⟨⟨?_, ?_, ?_, ?_, ?_, ?_⟩, fun a b h1 h2 h3 => ?_, fun r jj i hr1 hr2 => ?_, fun a b hab => rfl⟩
    · simp [ab_mi]
    · simp [ab_mi]
    · simp [ab_mi]
    · simp [ab_mi]
    · simp [ab_mi]
    · simp [ab_mi]
    · simp only [ab_mi, h1, h3, show ¬ (a = 26 ∧ b = s_nX S) by omega, show ¬ (a = 27 ∧ b = s_nX S) by omega, show ¬ (a = 28 ∧ b = s_nX S) by omega, show ¬ (a = 29 ∧ b = s_nX S) by omega, if_false]
    · simp [show ¬ r < 31 by omega, ab_mi]
set_option maxHeartbeats 4000000 in
theorem x_mbroken (hω : ω.2.2.2 = ab_SH) (T : RepT S μ) (X : RepX S μ) (hW : Wf S) {x y z v w : Int32} {t k n ac fl : Nat} (ex : x = nI t) (ey : y = nI k) (ez : z = nI n) (ev : v = nI ac) (ew : w = nI fl) (ht : t < s_nT S) (hk : k < 3) (hn : n < 10) (ha : ac < 4) (hf : fl < 8) (hQ : Q (nI (s_rM S t k n ac fl)) μ) : ab_CI l ω mX3_brokenRule [.ref 3, .int x, .int y, .int z, .int v, .int w] μ Q := by
  subst ex ey ez ev ew
  refine ab_intro (sh := ab_SH) (cd := kX3_brokenRule) hω vX3_brokenRule (by decide +kernel) rfl (Nat.le_of_ble_eq_true rfl) (fun j hj hw => ?_)
  have hjx : ∀ i ll st μ, i ∉ ([19, 27, 60] : List Nat) → _ → j i ll st μ := fun i ll st μ _ h => hj i ll st μ h
  have hT := hW.2.2.1.2
  have hX := hW.2.2.2.1
  have so := (hW.2.2.2.2.2.1 t ht).2.1
  have q3 := s_and_lt (b := 3) hf
  have q4 := s_and_lt (b := 4) hf
  have b3 : fl &&& 3 = 0 ↔ s_has fl 3 = false := by unfold s_has; simp
  have b4 : fl &&& 4 = 0 ↔ s_has fl 4 = false := by unfold s_has; simp
  have ge : nI k * 10 + nI n = nI (10 * k + n) := by rw [li_10, pk_mul, nI_add, Nat.mul_comm]
  have dge : s_dg S t (10 * k + n) = s_dec S t k n := by
    unfold s_dg
    rw [show (10 * k + n) / 10 = k by omega, show (10 * k + n) % 10 = n by omega]
  have h60 : ∀ v6 v7, Q (nI (if (s_dec S t k n).isSome then 8 else 0)) μ → j 60 [some (.ref 3), some (.int (nI t)), some (.int (nI k)), some (.int (nI n)), some (.int (nI ac)), some (.int (nI fl)), v6, v7] [] μ := by
    intro v6 v7 hQ
    refine hj _ _ _ _ ?_
    cases e : s_dec S t k n with
    | none =>
      rw [e] at hQ
      have e' : s_dg S t (10 * k + n) = none := by rw [dge, e]
      repeat' (first | refine hjx _ _ _ _ (by decide) ?_ | (refine br_c (fun h => ?_) (fun h => ?_) <;> (try simp (disch := omega) only [nI_clamp, li_2, li_3, li_4, li_5, li_6, li_7, li_8, li_9, li_10, li_40, li_120, pk_mul, nI_add, nI_1, ix_eq, ix_lt, ix_le, ix_l0, ix_l1, ix_n0, ix_p0, ix_1lt, ix_lt1, ix_1le, ix_le1, ix_le0, ix_0lt, ab_z0, ab_z1, i_10, i_01, eq_self, ab_ozn, ab_ozp, ab_o_some, not_true_eq_false, not_false_eq_true, Bool.not_eq_false, Bool.not_eq_true, Bool.not_eq_false', Bool.not_eq_true', Bool.false_eq_true, Bool.true_eq_false, reduceCtorEq, Option.isSome_some, Option.isSome_none, e', ab_o1p] at h) <;> (try omega)) | (refine br_n (fun h => ?_) (fun h => ?_) <;> (try simp (disch := omega) only [nI_clamp, li_2, li_3, li_4, li_5, li_6, li_7, li_8, li_9, li_10, li_40, li_120, pk_mul, nI_add, nI_1, ix_eq, ix_lt, ix_le, ix_l0, ix_l1, ix_n0, ix_p0, ix_1lt, ix_lt1, ix_1le, ix_le1, ix_le0, ix_0lt, ab_z0, ab_z1, i_10, i_01, eq_self, ab_ozn, ab_ozp, ab_o_some, not_true_eq_false, not_false_eq_true, Bool.not_eq_false, Bool.not_eq_true, Bool.not_eq_false', Bool.not_eq_true', Bool.false_eq_true, Bool.true_eq_false, reduceCtorEq, Option.isSome_some, Option.isSome_none, e', ab_o1p] at h) <;> (try omega)) | refine ab_sd (by first | (with_reducible refine vp_in_nI ?_ ?_ <;> omega) | (simp (disch := omega) only [nI_clamp, li_2, li_3, li_4, li_5, li_6, li_7, li_8, li_9, li_10, li_40, li_120, pk_mul, nI_add, nI_1, ix_eq, ix_lt, ix_le, ix_l0, ix_l1, ix_n0, ix_p0, ix_1lt, ix_lt1, ix_1le, ix_le1, ix_le0, ix_0lt, ab_z0, ab_z1, i_10, i_01, eq_self, ab_ozn, ab_ozp, ab_o_some, not_true_eq_false, not_false_eq_true, Bool.not_eq_false, Bool.not_eq_true, Bool.not_eq_false', Bool.not_eq_true', Bool.false_eq_true, Bool.true_eq_false, reduceCtorEq, Option.isSome_some, Option.isSome_none, e', ab_o1p]; with_reducible refine vp_in_nI ?_ ?_ <;> omega)) ?_ | refine x_declared hω X (t := t) (g := 10 * k + n) rfl ge (by omega) (by omega) ?_ | refine ab_sd ?_ ?_ | refine ab_sz (Or.inl rfl) ?_ | refine ab_sz (Or.inr rfl) ?_ | refine ab_sz ?_ ?_)
      all_goals exact hQ
    | some m =>
      rw [e] at hQ
      have e' : s_dg S t (10 * k + n) = some m := by rw [dge, e]
      have m1 := (s_dg_some hW e').1
      have c3 : (nI m = -1) ↔ False := ⟨fun q => by have := nI_pos (n := m) (by omega); rw [q] at this; exact this (by decide), False.elim⟩
      repeat' (first | refine hjx _ _ _ _ (by decide) ?_ | (refine br_c (fun h => ?_) (fun h => ?_) <;> (try simp (disch := omega) only [nI_clamp, li_2, li_3, li_4, li_5, li_6, li_7, li_8, li_9, li_10, li_40, li_120, pk_mul, nI_add, nI_1, ix_eq, ix_lt, ix_le, ix_l0, ix_l1, ix_n0, ix_p0, ix_1lt, ix_lt1, ix_1le, ix_le1, ix_le0, ix_0lt, ab_z0, ab_z1, i_10, i_01, eq_self, ab_ozn, ab_ozp, ab_o_some, not_true_eq_false, not_false_eq_true, Bool.not_eq_false, Bool.not_eq_true, Bool.not_eq_false', Bool.not_eq_true', Bool.false_eq_true, Bool.true_eq_false, reduceCtorEq, Option.isSome_some, Option.isSome_none, e', ab_o1_some, c3] at h) <;> (try omega)) | (refine br_n (fun h => ?_) (fun h => ?_) <;> (try simp (disch := omega) only [nI_clamp, li_2, li_3, li_4, li_5, li_6, li_7, li_8, li_9, li_10, li_40, li_120, pk_mul, nI_add, nI_1, ix_eq, ix_lt, ix_le, ix_l0, ix_l1, ix_n0, ix_p0, ix_1lt, ix_lt1, ix_1le, ix_le1, ix_le0, ix_0lt, ab_z0, ab_z1, i_10, i_01, eq_self, ab_ozn, ab_ozp, ab_o_some, not_true_eq_false, not_false_eq_true, Bool.not_eq_false, Bool.not_eq_true, Bool.not_eq_false', Bool.not_eq_true', Bool.false_eq_true, Bool.true_eq_false, reduceCtorEq, Option.isSome_some, Option.isSome_none, e', ab_o1_some, c3] at h) <;> (try omega)) | refine ab_sd (by first | (with_reducible refine vp_in_nI ?_ ?_ <;> omega) | (simp (disch := omega) only [nI_clamp, li_2, li_3, li_4, li_5, li_6, li_7, li_8, li_9, li_10, li_40, li_120, pk_mul, nI_add, nI_1, ix_eq, ix_lt, ix_le, ix_l0, ix_l1, ix_n0, ix_p0, ix_1lt, ix_lt1, ix_1le, ix_le1, ix_le0, ix_0lt, ab_z0, ab_z1, i_10, i_01, eq_self, ab_ozn, ab_ozp, ab_o_some, not_true_eq_false, not_false_eq_true, Bool.not_eq_false, Bool.not_eq_true, Bool.not_eq_false', Bool.not_eq_true', Bool.false_eq_true, Bool.true_eq_false, reduceCtorEq, Option.isSome_some, Option.isSome_none, e', ab_o1_some, c3]; with_reducible refine vp_in_nI ?_ ?_ <;> omega)) ?_ | refine x_declared hω X (t := t) (g := 10 * k + n) rfl ge (by omega) (by omega) ?_ | refine ab_sd ?_ ?_ | refine ab_sz (Or.inl rfl) ?_ | refine ab_sz (Or.inr rfl) ?_ | refine ab_sz ?_ ?_)
      all_goals exact hQ
  have h27 : ∀ b6 : Bool, (b6 = true ↔ S.1 50 t = 1) → Q (nI (if (k = 2 ∧ fl ≠ 0) ∨ (k = 0 ∧ s_has fl 4) then 6 else if k = 1 ∧ s_has fl 4 ∧ (ac = 0 ∨ s_has fl 3 ∨ (S.1 50 t = 0 ∧ ¬ s_has (S.1 52 t) 4)) then 7 else if (s_dec S t k n).isSome then 8 else 0)) μ → j 27 [some (.ref 3), some (.int (nI t)), some (.int (nI k)), some (.int (nI n)), some (.int (nI ac)), some (.int (nI fl)), some (.int (ab_z b6)), some (.int (ab_z (s_has fl 4)))] [] μ := by
    intro b6 hb6 hQ
    refine hj _ _ _ _ ?_
    repeat' (first | refine hjx _ _ _ _ (by decide) ?_ | (refine br_c (fun h => ?_) (fun h => ?_) <;> (try simp (disch := omega) only [nI_clamp, li_2, li_3, li_4, li_5, li_6, li_7, li_8, li_9, li_10, li_40, li_120, pk_mul, nI_add, nI_1, ix_eq, ix_lt, ix_le, ix_l0, ix_l1, ix_n0, ix_p0, ix_1lt, ix_lt1, ix_1le, ix_le1, ix_le0, ix_0lt, ab_z0, ab_z1, i_10, i_01, eq_self, ab_ozn, ab_ozp, ab_o_some, not_true_eq_false, not_false_eq_true, Bool.not_eq_false, Bool.not_eq_true, Bool.not_eq_false', Bool.not_eq_true', Bool.false_eq_true, Bool.true_eq_false, reduceCtorEq, Option.isSome_some, Option.isSome_none, ab_nand, b3] at h) <;> (try omega)) | (refine br_n (fun h => ?_) (fun h => ?_) <;> (try simp (disch := omega) only [nI_clamp, li_2, li_3, li_4, li_5, li_6, li_7, li_8, li_9, li_10, li_40, li_120, pk_mul, nI_add, nI_1, ix_eq, ix_lt, ix_le, ix_l0, ix_l1, ix_n0, ix_p0, ix_1lt, ix_lt1, ix_1le, ix_le1, ix_le0, ix_0lt, ab_z0, ab_z1, i_10, i_01, eq_self, ab_ozn, ab_ozp, ab_o_some, not_true_eq_false, not_false_eq_true, Bool.not_eq_false, Bool.not_eq_true, Bool.not_eq_false', Bool.not_eq_true', Bool.false_eq_true, Bool.true_eq_false, reduceCtorEq, Option.isSome_some, Option.isSome_none, ab_nand, b3] at h) <;> (try omega)) | refine ab_sd (by first | (with_reducible refine vp_in_nI ?_ ?_ <;> omega) | (simp (disch := omega) only [nI_clamp, li_2, li_3, li_4, li_5, li_6, li_7, li_8, li_9, li_10, li_40, li_120, pk_mul, nI_add, nI_1, ix_eq, ix_lt, ix_le, ix_l0, ix_l1, ix_n0, ix_p0, ix_1lt, ix_lt1, ix_1le, ix_le1, ix_le0, ix_0lt, ab_z0, ab_z1, i_10, i_01, eq_self, ab_ozn, ab_ozp, ab_o_some, not_true_eq_false, not_false_eq_true, Bool.not_eq_false, Bool.not_eq_true, Bool.not_eq_false', Bool.not_eq_true', Bool.false_eq_true, Bool.true_eq_false, reduceCtorEq, Option.isSome_some, Option.isSome_none, ab_nand, b3]; with_reducible refine vp_in_nI ?_ ?_ <;> omega)) ?_ | refine x_hasFlag hω T hW (t := t) (f := 4) rfl rfl ht ?_ | refine ab_sd ?_ ?_ | refine ab_sz (Or.inl rfl) ?_ | refine ab_sz (Or.inr rfl) ?_ | refine ab_sz ?_ ?_)
    all_goals first | (refine q_n hQ 6 rfl ?_; clear hj hw hjx hQ h60; grind) | (refine q_n hQ 7 rfl ?_; clear hj hw hjx hQ h60; grind) | (refine h60 _ _ (q_n hQ _ rfl ?_); clear hj hw hjx hQ h60; grind)
  have h19 : ∀ b6 : Bool, (b6 = true ↔ S.1 50 t = 1) → Q (nI (if (k = 2 ∧ fl ≠ 0) ∨ (k = 0 ∧ s_has fl 4) then 6 else if k = 1 ∧ s_has fl 4 ∧ (ac = 0 ∨ s_has fl 3 ∨ (S.1 50 t = 0 ∧ ¬ s_has (S.1 52 t) 4)) then 7 else if (s_dec S t k n).isSome then 8 else 0)) μ → j 19 [some (.ref 3), some (.int (nI t)), some (.int (nI k)), some (.int (nI n)), some (.int (nI ac)), some (.int (nI fl)), some (.int (ab_z b6)), none] [] μ := by
    intro b6 hb6 hQ
    refine hj _ _ _ _ ?_
    have h27 := h27 b6 hb6 hQ
    cases h4 : s_has fl 4 with
    | false =>
      rw [h4] at b4 h27
      (repeat' (first | refine hjx _ _ _ _ (by decide) ?_ | (refine br_c (fun h => ?_) (fun h => ?_) <;> (try simp (disch := omega) only [nI_clamp, li_2, li_3, li_4, li_5, li_6, li_7, li_8, li_9, li_10, li_40, li_120, pk_mul, nI_add, nI_1, ix_eq, ix_lt, ix_le, ix_l0, ix_l1, ix_n0, ix_p0, ix_1lt, ix_lt1, ix_1le, ix_le1, ix_le0, ix_0lt, ab_z0, ab_z1, i_10, i_01, eq_self, ab_ozn, ab_ozp, ab_o_some, not_true_eq_false, not_false_eq_true, Bool.not_eq_false, Bool.not_eq_true, Bool.not_eq_false', Bool.not_eq_true', Bool.false_eq_true, Bool.true_eq_false, reduceCtorEq, Option.isSome_some, Option.isSome_none, ab_nand, b4] at h) <;> (try omega)) | (refine br_n (fun h => ?_) (fun h => ?_) <;> (try simp (disch := omega) only [nI_clamp, li_2, li_3, li_4, li_5, li_6, li_7, li_8, li_9, li_10, li_40, li_120, pk_mul, nI_add, nI_1, ix_eq, ix_lt, ix_le, ix_l0, ix_l1, ix_n0, ix_p0, ix_1lt, ix_lt1, ix_1le, ix_le1, ix_le0, ix_0lt, ab_z0, ab_z1, i_10, i_01, eq_self, ab_ozn, ab_ozp, ab_o_some, not_true_eq_false, not_false_eq_true, Bool.not_eq_false, Bool.not_eq_true, Bool.not_eq_false', Bool.not_eq_true', Bool.false_eq_true, Bool.true_eq_false, reduceCtorEq, Option.isSome_some, Option.isSome_none, ab_nand, b4] at h) <;> (try omega)) | refine ab_sd (by first | (with_reducible refine vp_in_nI ?_ ?_ <;> omega) | (simp (disch := omega) only [nI_clamp, li_2, li_3, li_4, li_5, li_6, li_7, li_8, li_9, li_10, li_40, li_120, pk_mul, nI_add, nI_1, ix_eq, ix_lt, ix_le, ix_l0, ix_l1, ix_n0, ix_p0, ix_1lt, ix_lt1, ix_1le, ix_le1, ix_le0, ix_0lt, ab_z0, ab_z1, i_10, i_01, eq_self, ab_ozn, ab_ozp, ab_o_some, not_true_eq_false, not_false_eq_true, Bool.not_eq_false, Bool.not_eq_true, Bool.not_eq_false', Bool.not_eq_true', Bool.false_eq_true, Bool.true_eq_false, reduceCtorEq, Option.isSome_some, Option.isSome_none, ab_nand, b4]; with_reducible refine vp_in_nI ?_ ?_ <;> omega)) ?_ | refine ab_sd ?_ ?_ | refine ab_sz (Or.inl rfl) ?_ | refine ab_sz (Or.inr rfl) ?_ | refine ab_sz ?_ ?_)) <;> exact h27
    | true =>
      rw [h4] at b4 h27
      (repeat' (first | refine hjx _ _ _ _ (by decide) ?_ | (refine br_c (fun h => ?_) (fun h => ?_) <;> (try simp (disch := omega) only [nI_clamp, li_2, li_3, li_4, li_5, li_6, li_7, li_8, li_9, li_10, li_40, li_120, pk_mul, nI_add, nI_1, ix_eq, ix_lt, ix_le, ix_l0, ix_l1, ix_n0, ix_p0, ix_1lt, ix_lt1, ix_1le, ix_le1, ix_le0, ix_0lt, ab_z0, ab_z1, i_10, i_01, eq_self, ab_ozn, ab_ozp, ab_o_some, not_true_eq_false, not_false_eq_true, Bool.not_eq_false, Bool.not_eq_true, Bool.not_eq_false', Bool.not_eq_true', Bool.false_eq_true, Bool.true_eq_false, reduceCtorEq, Option.isSome_some, Option.isSome_none, ab_nand, b4] at h) <;> (try omega)) | (refine br_n (fun h => ?_) (fun h => ?_) <;> (try simp (disch := omega) only [nI_clamp, li_2, li_3, li_4, li_5, li_6, li_7, li_8, li_9, li_10, li_40, li_120, pk_mul, nI_add, nI_1, ix_eq, ix_lt, ix_le, ix_l0, ix_l1, ix_n0, ix_p0, ix_1lt, ix_lt1, ix_1le, ix_le1, ix_le0, ix_0lt, ab_z0, ab_z1, i_10, i_01, eq_self, ab_ozn, ab_ozp, ab_o_some, not_true_eq_false, not_false_eq_true, Bool.not_eq_false, Bool.not_eq_true, Bool.not_eq_false', Bool.not_eq_true', Bool.false_eq_true, Bool.true_eq_false, reduceCtorEq, Option.isSome_some, Option.isSome_none, ab_nand, b4] at h) <;> (try omega)) | refine ab_sd (by first | (with_reducible refine vp_in_nI ?_ ?_ <;> omega) | (simp (disch := omega) only [nI_clamp, li_2, li_3, li_4, li_5, li_6, li_7, li_8, li_9, li_10, li_40, li_120, pk_mul, nI_add, nI_1, ix_eq, ix_lt, ix_le, ix_l0, ix_l1, ix_n0, ix_p0, ix_1lt, ix_lt1, ix_1le, ix_le1, ix_le0, ix_0lt, ab_z0, ab_z1, i_10, i_01, eq_self, ab_ozn, ab_ozp, ab_o_some, not_true_eq_false, not_false_eq_true, Bool.not_eq_false, Bool.not_eq_true, Bool.not_eq_false', Bool.not_eq_true', Bool.false_eq_true, Bool.true_eq_false, reduceCtorEq, Option.isSome_some, Option.isSome_none, ab_nand, b4]; with_reducible refine vp_in_nI ?_ ?_ <;> omega)) ?_ | refine ab_sd ?_ ?_ | refine ab_sz (Or.inl rfl) ?_ | refine ab_sz (Or.inr rfl) ?_ | refine ab_sz ?_ ?_)) <;> exact h27
  unfold s_rM at hQ
  cases hc : (S.1 50 t == 0) with
  | true =>
    have hc2 : S.1 50 t = 0 := by simpa using hc
    rw [if_neg (by omega)] at hQ
    repeat' (first | refine hjx _ _ _ _ (by decide) ?_ | (refine br_c (fun h => ?_) (fun h => ?_) <;> (try simp (disch := omega) only [nI_clamp, li_2, li_3, li_4, li_5, li_6, li_7, li_8, li_9, li_10, li_40, li_120, pk_mul, nI_add, nI_1, ix_eq, ix_lt, ix_le, ix_l0, ix_l1, ix_n0, ix_p0, ix_1lt, ix_lt1, ix_1le, ix_le1, ix_le0, ix_0lt, ab_z0, ab_z1, i_10, i_01, eq_self, ab_ozn, ab_ozp, ab_o_some, not_true_eq_false, not_false_eq_true, Bool.not_eq_false, Bool.not_eq_true, Bool.not_eq_false', Bool.not_eq_true', Bool.false_eq_true, Bool.true_eq_false, reduceCtorEq, Option.isSome_some, Option.isSome_none, hc] at h) <;> (try omega)) | (refine br_n (fun h => ?_) (fun h => ?_) <;> (try simp (disch := omega) only [nI_clamp, li_2, li_3, li_4, li_5, li_6, li_7, li_8, li_9, li_10, li_40, li_120, pk_mul, nI_add, nI_1, ix_eq, ix_lt, ix_le, ix_l0, ix_l1, ix_n0, ix_p0, ix_1lt, ix_lt1, ix_1le, ix_le1, ix_le0, ix_0lt, ab_z0, ab_z1, i_10, i_01, eq_self, ab_ozn, ab_ozp, ab_o_some, not_true_eq_false, not_false_eq_true, Bool.not_eq_false, Bool.not_eq_true, Bool.not_eq_false', Bool.not_eq_true', Bool.false_eq_true, Bool.true_eq_false, reduceCtorEq, Option.isSome_some, Option.isSome_none, hc] at h) <;> (try omega)) | refine ab_sd (by first | (with_reducible refine vp_in_nI ?_ ?_ <;> omega) | (simp (disch := omega) only [nI_clamp, li_2, li_3, li_4, li_5, li_6, li_7, li_8, li_9, li_10, li_40, li_120, pk_mul, nI_add, nI_1, ix_eq, ix_lt, ix_le, ix_l0, ix_l1, ix_n0, ix_p0, ix_1lt, ix_lt1, ix_1le, ix_le1, ix_le0, ix_0lt, ab_z0, ab_z1, i_10, i_01, eq_self, ab_ozn, ab_ozp, ab_o_some, not_true_eq_false, not_false_eq_true, Bool.not_eq_false, Bool.not_eq_true, Bool.not_eq_false', Bool.not_eq_true', Bool.false_eq_true, Bool.true_eq_false, reduceCtorEq, Option.isSome_some, Option.isSome_none, hc]; with_reducible refine vp_in_nI ?_ ?_ <;> omega)) ?_ | refine x_isClass hω T hT (t := t) rfl ht ?_ | refine ab_sd ?_ ?_ | refine ab_sz (Or.inl rfl) ?_ | refine ab_sz (Or.inr rfl) ?_ | refine ab_sz ?_ ?_)
    all_goals first | (exfalso; revert h; decide) | exact h19 false (by simp [hc2]) hQ
  | false =>
    have hc2 : S.1 50 t = 1 := by
      have : ¬ S.1 50 t = 0 := by simpa using hc
      omega
    cases hfi : ((k == 0 && ac == 3 && s_has fl 1) || (k == 1 && (ac == 3 || ac == 0) && !s_has fl 2)) with
    | true =>
      rw [if_neg (by
        simp only [Bool.or_eq_true, Bool.and_eq_true, beq_iff_eq, Bool.not_eq_true'] at hfi
        rintro ⟨-, a, b⟩
        rcases hfi with c | c
        · exact a ⟨c.1.1, c.1.2, c.2⟩
        · exact b ⟨c.1.1, c.1.2, by rw [c.2]; simp⟩)] at hQ
      repeat' (first | refine hjx _ _ _ _ (by decide) ?_ | (refine br_c (fun h => ?_) (fun h => ?_) <;> (try simp (disch := omega) only [nI_clamp, li_2, li_3, li_4, li_5, li_6, li_7, li_8, li_9, li_10, li_40, li_120, pk_mul, nI_add, nI_1, ix_eq, ix_lt, ix_le, ix_l0, ix_l1, ix_n0, ix_p0, ix_1lt, ix_lt1, ix_1le, ix_le1, ix_le0, ix_0lt, ab_z0, ab_z1, i_10, i_01, eq_self, ab_ozn, ab_ozp, ab_o_some, not_true_eq_false, not_false_eq_true, Bool.not_eq_false, Bool.not_eq_true, Bool.not_eq_false', Bool.not_eq_true', Bool.false_eq_true, Bool.true_eq_false, reduceCtorEq, Option.isSome_some, Option.isSome_none, hc, hfi] at h) <;> (try omega)) | (refine br_n (fun h => ?_) (fun h => ?_) <;> (try simp (disch := omega) only [nI_clamp, li_2, li_3, li_4, li_5, li_6, li_7, li_8, li_9, li_10, li_40, li_120, pk_mul, nI_add, nI_1, ix_eq, ix_lt, ix_le, ix_l0, ix_l1, ix_n0, ix_p0, ix_1lt, ix_lt1, ix_1le, ix_le1, ix_le0, ix_0lt, ab_z0, ab_z1, i_10, i_01, eq_self, ab_ozn, ab_ozp, ab_o_some, not_true_eq_false, not_false_eq_true, Bool.not_eq_false, Bool.not_eq_true, Bool.not_eq_false', Bool.not_eq_true', Bool.false_eq_true, Bool.true_eq_false, reduceCtorEq, Option.isSome_some, Option.isSome_none, hc, hfi] at h) <;> (try omega)) | refine ab_sd (by first | (with_reducible refine vp_in_nI ?_ ?_ <;> omega) | (simp (disch := omega) only [nI_clamp, li_2, li_3, li_4, li_5, li_6, li_7, li_8, li_9, li_10, li_40, li_120, pk_mul, nI_add, nI_1, ix_eq, ix_lt, ix_le, ix_l0, ix_l1, ix_n0, ix_p0, ix_1lt, ix_lt1, ix_1le, ix_le1, ix_le0, ix_0lt, ab_z0, ab_z1, i_10, i_01, eq_self, ab_ozn, ab_ozp, ab_o_some, not_true_eq_false, not_false_eq_true, Bool.not_eq_false, Bool.not_eq_true, Bool.not_eq_false', Bool.not_eq_true', Bool.false_eq_true, Bool.true_eq_false, reduceCtorEq, Option.isSome_some, Option.isSome_none, hc, hfi]; with_reducible refine vp_in_nI ?_ ?_ <;> omega)) ?_ | refine x_isClass hω T hT (t := t) rfl ht ?_ | refine x_fitsInterface hω (k := k) (ac := ac) (fl := fl) rfl rfl rfl hk ha hf ?_ | refine ab_sd ?_ ?_ | refine ab_sz (Or.inl rfl) ?_ | refine ab_sz (Or.inr rfl) ?_ | refine ab_sz ?_ ?_)
      all_goals first | (exfalso; revert h; decide) | exact h19 true (by simp [hc2]) hQ
    | false =>
      rw [if_pos (by
        refine ⟨hc2, fun c => ?_, fun c => ?_⟩
        · rw [c.1, c.2.1, c.2.2] at hfi; simp at hfi
        · have c3 : s_has fl 2 = false := by simpa using c.2.2
          rw [c.1, c3] at hfi
          rcases c.2.1 with c2 | c2 <;> rw [c2] at hfi <;> simp at hfi)] at hQ
      repeat' (first | refine hjx _ _ _ _ (by decide) ?_ | (refine br_c (fun h => ?_) (fun h => ?_) <;> (try simp (disch := omega) only [nI_clamp, li_2, li_3, li_4, li_5, li_6, li_7, li_8, li_9, li_10, li_40, li_120, pk_mul, nI_add, nI_1, ix_eq, ix_lt, ix_le, ix_l0, ix_l1, ix_n0, ix_p0, ix_1lt, ix_lt1, ix_1le, ix_le1, ix_le0, ix_0lt, ab_z0, ab_z1, i_10, i_01, eq_self, ab_ozn, ab_ozp, ab_o_some, not_true_eq_false, not_false_eq_true, Bool.not_eq_false, Bool.not_eq_true, Bool.not_eq_false', Bool.not_eq_true', Bool.false_eq_true, Bool.true_eq_false, reduceCtorEq, Option.isSome_some, Option.isSome_none, hc, hfi] at h) <;> (try omega)) | (refine br_n (fun h => ?_) (fun h => ?_) <;> (try simp (disch := omega) only [nI_clamp, li_2, li_3, li_4, li_5, li_6, li_7, li_8, li_9, li_10, li_40, li_120, pk_mul, nI_add, nI_1, ix_eq, ix_lt, ix_le, ix_l0, ix_l1, ix_n0, ix_p0, ix_1lt, ix_lt1, ix_1le, ix_le1, ix_le0, ix_0lt, ab_z0, ab_z1, i_10, i_01, eq_self, ab_ozn, ab_ozp, ab_o_some, not_true_eq_false, not_false_eq_true, Bool.not_eq_false, Bool.not_eq_true, Bool.not_eq_false', Bool.not_eq_true', Bool.false_eq_true, Bool.true_eq_false, reduceCtorEq, Option.isSome_some, Option.isSome_none, hc, hfi] at h) <;> (try omega)) | refine ab_sd (by first | (with_reducible refine vp_in_nI ?_ ?_ <;> omega) | (simp (disch := omega) only [nI_clamp, li_2, li_3, li_4, li_5, li_6, li_7, li_8, li_9, li_10, li_40, li_120, pk_mul, nI_add, nI_1, ix_eq, ix_lt, ix_le, ix_l0, ix_l1, ix_n0, ix_p0, ix_1lt, ix_lt1, ix_1le, ix_le1, ix_le0, ix_0lt, ab_z0, ab_z1, i_10, i_01, eq_self, ab_ozn, ab_ozp, ab_o_some, not_true_eq_false, not_false_eq_true, Bool.not_eq_false, Bool.not_eq_true, Bool.not_eq_false', Bool.not_eq_true', Bool.false_eq_true, Bool.true_eq_false, reduceCtorEq, Option.isSome_some, Option.isSome_none, hc, hfi]; with_reducible refine vp_in_nI ?_ ?_ <;> omega)) ?_ | refine x_isClass hω T hT (t := t) rfl ht ?_ | refine x_fitsInterface hω (k := k) (ac := ac) (fl := fl) rfl rfl rfl hk ha hf ?_ | refine ab_sd ?_ ?_ | refine ab_sz (Or.inl rfl) ?_ | refine ab_sz (Or.inr rfl) ?_ | refine ab_sz ?_ ?_)
      all_goals first | (exfalso; revert h; decide) | exact hQ
end KJ
