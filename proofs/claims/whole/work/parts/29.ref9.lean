/-! member, make -/
def s_mem (S : sT) (t k n ac fl : Nat) : sT := (fun a b => if a = 43 ∧ b = 16 then s_nX S + 1 else if a = 57 ∧ b = s_nX S then t else if a = 58 ∧ b = s_nX S then k else if a = 59 ∧ b = s_nX S then n else if a = 60 ∧ b = s_nX S then ac else if a = 61 ∧ b = s_nX S then fl else S.1 a b, S.2)
def v_mem (S : sT) (t k n ac fl : Int32) : Bool := ab_ok (s_nT S) t && ab_ok 3 k && ab_ok 10 n && (ab_ok 4 ac && ab_ok 8 fl)
def s_rM2 (S : sT) (t k n ac fl : Int32) : Nat := s_rM S t.toNatClampNeg k.toNatClampNeg n.toNatClampNeg ac.toNatClampNeg fl.toNatClampNeg
def a_member (S : sT) (t k n ac fl : Int32) : Int32 := if v_mem S t k n ac fl then (if 0 < s_rM2 S t k n ac fl then -10 - nI (s_rM2 S t k n ac fl) else if s_nX S = 120 then -4 else nI (s_nX S)) else -1
def o_member (S : sT) (t k n ac fl : Int32) : sT := if v_mem S t k n ac fl = true ∧ s_rM2 S t k n ac fl = 0 ∧ ¬ s_nX S = 120 then s_mem S t.toNatClampNeg k.toNatClampNeg n.toNatClampNeg ac.toNatClampNeg fl.toNatClampNeg else S
theorem s_rM_le (S : sT) (t k n ac fl : Nat) : s_rM S t k n ac fl ≤ 8 := by
  unfold s_rM
  grind
theorem ab_ok3 (x : Int32) : ab_ok 3 x = (decide (0 ≤ x) && decide (x ≤ nI 2)) := by
  unfold ab_ok
  congr 1
  rw [decide_eq_decide, Int32.lt_iff_toInt_lt, Int32.le_iff_toInt_le]
  show _ < (3 : Int) ↔ _ ≤ (2 : Int)
  omega
theorem ab_ok10 (x : Int32) : ab_ok 10 x = (decide (0 ≤ x) && decide (x ≤ nI 9)) := by
  unfold ab_ok
  congr 1
  rw [decide_eq_decide, Int32.lt_iff_toInt_lt, Int32.le_iff_toInt_le]
  show _ < (10 : Int) ↔ _ ≤ (9 : Int)
  omega
theorem rep_mem {S : sT} {μ μ' : ab_M} (R : RepR S μ) {t k n ac fl : Nat}
    (hμ : μ' = ab_mi (ab_mi (ab_mi (ab_mi (ab_mi (ab_mi (ab_mi μ 43 16 (nI (s_nX S + 1))) 57 (s_nX S) (nI t)) 58 (s_nX S) (nI k)) 59 (s_nX S) (nI n)) 60 (s_nX S) (nI ac)) 61 (s_nX S) (nI fl)) 43 22 0) : RepR (s_mem S t k n ac fl) μ' := by
  subst hμ
  refine ⟨fun k j h => ?_, fun k j h => ?_, fun k j h hb => ?_⟩
  · have h0 := R.1 k j h
    obtain ⟨e1, e2, e3⟩ := s_ikb h
    have e5 : ¬ (k = 43 ∧ j = 22) := fun q => by rw [q.1, q.2] at h; simp [s_ik] at h
    simp only [ab_mi, s_mem]
    grind
  · have h0 := R.2.1 k j h
    have e1 : k ≠ 43 ∧ k ≠ 57 ∧ k ≠ 58 ∧ k ≠ 59 ∧ k ≠ 60 ∧ k ≠ 61 := by
      simp only [s_bk, Bool.or_eq_true, beq_iff_eq] at h
      omega
    simp only [ab_mi, s_mem]
    grind
  · have hb2 : j < s_nT S := by
      simpa [s_nT, s_mem] using hb
    have h0 := R.2.2 k j h hb2
    simp only [ab_mi, s_mem]
    rcases h with h | h <;> subst h <;> simp <;> exact h0
section R9
variable {l : Launch} {ω : ab_W} {S : sT} {μ : ab_M} {Q : Int32 → ab_M → Prop}
set_option maxHeartbeats 4000000 in
set_option maxRecDepth 10000 in
theorem r_member (hω : ω.2.2.2 = ab_SH) (R : RepR S μ) (hW : Wf S) {x y z v w : Int32} (hQ : ∀ μ', RepR (o_member S x y z v w) μ' → SameD μ μ' → (SameK μ μ' ∧ o_member S x y z v w = S) ∨ μ'.1 43 22 = 0 → Q (a_member S x y z v w) μ') : ab_CI l ω mX11_member [.ref 43, .int x, .int y, .int z, .int v, .int w] μ Q := by
  refine ab_intro (sh := ab_SH) (cd := kX11_member) hω vX11_member (by decide +kernel) rfl (Nat.le_of_ble_eq_true rfl) (fun j hj hw => ?_)
  have hT := hW.2.2.1.2
  have hX := hW.2.2.2.1
  obtain ⟨r44, r45, r46, r47, r48, r49, r50, r51, r52, r53, r54, r55, r56, r57, r58, r59, r60, r61, g0, g2, g6, g16⟩ := RepR_fs R
  cases hv : v_mem S x y z v w with
  | false =>
    have e1 : a_member S x y z v w = -1 := by simp [a_member, hv]
    have e2 : o_member S x y z v w = S := by simp [o_member, hv]
    rw [e1, e2] at hQ
    have hQ := hQ μ R SameD.rf (Or.inl ⟨SameK.rf, rfl⟩)
    unfold v_mem at hv
    rw [ab_ok3, ab_ok10] at hv
    repeat' (first | refine hj _ _ _ _ ?_ | (refine br_c (fun h => ?_) (fun h => ?_) <;> (try simp (disch := omega) only [nI_clamp, li_2, li_3, li_4, li_5, li_6, li_7, li_8, li_9, li_10, li_40, li_120, pk_mul, nI_add, nI_1, ix_eq, ix_lt, ix_le, ix_l0, ix_l1, ix_n0, ix_p0, ix_1lt, ix_lt1, ix_1le, ix_le1, ix_le0, ix_0lt, ab_z0, ab_z1, i_10, i_01, eq_self, ab_ozn, ab_ozp, ab_o_some, not_true_eq_false, not_false_eq_true, Bool.not_eq_false, Bool.not_eq_true, Bool.not_eq_false', Bool.not_eq_true', Bool.false_eq_true, Bool.true_eq_false, reduceCtorEq, Option.isSome_some, Option.isSome_none, r44, r45, r46, r47, r48, r49, r50, r51, r52, r53, r54, r55, r56, r57, r58, r59, r60, r61, g0, g2, g6, g16] at h) <;> (try omega)) | (refine br_n (fun h => ?_) (fun h => ?_) <;> (try simp (disch := omega) only [nI_clamp, li_2, li_3, li_4, li_5, li_6, li_7, li_8, li_9, li_10, li_40, li_120, pk_mul, nI_add, nI_1, ix_eq, ix_lt, ix_le, ix_l0, ix_l1, ix_n0, ix_p0, ix_1lt, ix_lt1, ix_1le, ix_le1, ix_le0, ix_0lt, ab_z0, ab_z1, i_10, i_01, eq_self, ab_ozn, ab_ozp, ab_o_some, not_true_eq_false, not_false_eq_true, Bool.not_eq_false, Bool.not_eq_true, Bool.not_eq_false', Bool.not_eq_true', Bool.false_eq_true, Bool.true_eq_false, reduceCtorEq, Option.isSome_some, Option.isSome_none, r44, r45, r46, r47, r48, r49, r50, r51, r52, r53, r54, r55, r56, r57, r58, r59, r60, r61, g0, g2, g6, g16] at h) <;> (try omega)) | refine ab_sd (by first | (with_reducible refine vp_in_nI ?_ ?_ <;> omega) | (simp (disch := omega) only [nI_clamp, li_2, li_3, li_4, li_5, li_6, li_7, li_8, li_9, li_10, li_40, li_120, pk_mul, nI_add, nI_1, ix_eq, ix_lt, ix_le, ix_l0, ix_l1, ix_n0, ix_p0, ix_1lt, ix_lt1, ix_1le, ix_le1, ix_le0, ix_0lt, ab_z0, ab_z1, i_10, i_01, eq_self, ab_ozn, ab_ozp, ab_o_some, not_true_eq_false, not_false_eq_true, Bool.not_eq_false, Bool.not_eq_true, Bool.not_eq_false', Bool.not_eq_true', Bool.false_eq_true, Bool.true_eq_false, reduceCtorEq, Option.isSome_some, Option.isSome_none, r44, r45, r46, r47, r48, r49, r50, r51, r52, r53, r54, r55, r56, r57, r58, r59, r60, r61, g0, g2, g6, g16]; with_reducible refine vp_in_nI ?_ ?_ <;> omega)) ?_ | refine r_noType hω R ?_ | refine r_noForm hω ?_ | (exfalso; clear hj hw hQ; grind) | refine ab_sd ?_ ?_ | refine ab_sz (Or.inl rfl) ?_ | refine ab_sz (Or.inr rfl) ?_ | refine ab_sz ?_ ?_)
    all_goals first | (show Q _ _; with_reducible exact hQ) | (exfalso; clear hj hw hQ; grind)
  | true =>
    have hv2 := hv
    unfold v_mem at hv2
    simp only [Bool.and_eq_true] at hv2
    obtain ⟨⟨⟨hx, hy⟩, hz⟩, hf1, hf2⟩ := hv2
    obtain ⟨t, ht, rfl⟩ := ab_ok_t (by omega) hx
    obtain ⟨k, hk, rfl⟩ := ab_ok_t (by omega) hy
    obtain ⟨n, hn, rfl⟩ := ab_ok_t (by omega) hz
    obtain ⟨ac, hac, rfl⟩ := ab_ok_t (by omega) hf1
    obtain ⟨fl, hfl, rfl⟩ := ab_ok_t (by omega) hf2
    have c1 : (nI t).toNatClampNeg = t := nI_clamp (by omega)
    have c2 : (nI k).toNatClampNeg = k := nI_clamp (by omega)
    have c3 : (nI n).toNatClampNeg = n := nI_clamp (by omega)
    have c4 : (nI ac).toNatClampNeg = ac := nI_clamp (by omega)
    have c5 : (nI fl).toNatClampNeg = fl := nI_clamp (by omega)
    have e0 : s_rM2 S (nI t) (nI k) (nI n) (nI ac) (nI fl) = s_rM S t k n ac fl := by unfold s_rM2; rw [c1, c2, c3, c4, c5]
    have hr := s_rM_le S t k n ac fl
    unfold a_member o_member at hQ
    rw [hv, e0, c1, c2, c3, c4, c5] at hQ
    generalize hrr : s_rM S t k n ac fl = rr at hQ hr
    by_cases h0 : 0 < rr
    · rw [if_pos rfl, if_pos h0, if_neg (by omega)] at hQ
      have hQ := hQ μ R SameD.rf (Or.inl ⟨SameK.rf, rfl⟩)
      repeat' (first | refine hj _ _ _ _ ?_ | (refine br_c (fun h => ?_) (fun h => ?_) <;> (try simp (disch := omega) only [nI_clamp, li_2, li_3, li_4, li_5, li_6, li_7, li_8, li_9, li_10, li_40, li_120, pk_mul, nI_add, nI_1, ix_eq, ix_lt, ix_le, ix_l0, ix_l1, ix_n0, ix_p0, ix_1lt, ix_lt1, ix_1le, ix_le1, ix_le0, ix_0lt, ab_z0, ab_z1, i_10, i_01, eq_self, ab_ozn, ab_ozp, ab_o_some, not_true_eq_false, not_false_eq_true, Bool.not_eq_false, Bool.not_eq_true, Bool.not_eq_false', Bool.not_eq_true', Bool.false_eq_true, Bool.true_eq_false, reduceCtorEq, Option.isSome_some, Option.isSome_none, r44, r45, r46, r47, r48, r49, r50, r51, r52, r53, r54, r55, r56, r57, r58, r59, r60, r61, g0, g2, g6, g16, hx, hf1, hf2, Bool.and_self] at h) <;> (try omega)) | (refine br_n (fun h => ?_) (fun h => ?_) <;> (try simp (disch := omega) only [nI_clamp, li_2, li_3, li_4, li_5, li_6, li_7, li_8, li_9, li_10, li_40, li_120, pk_mul, nI_add, nI_1, ix_eq, ix_lt, ix_le, ix_l0, ix_l1, ix_n0, ix_p0, ix_1lt, ix_lt1, ix_1le, ix_le1, ix_le0, ix_0lt, ab_z0, ab_z1, i_10, i_01, eq_self, ab_ozn, ab_ozp, ab_o_some, not_true_eq_false, not_false_eq_true, Bool.not_eq_false, Bool.not_eq_true, Bool.not_eq_false', Bool.not_eq_true', Bool.false_eq_true, Bool.true_eq_false, reduceCtorEq, Option.isSome_some, Option.isSome_none, r44, r45, r46, r47, r48, r49, r50, r51, r52, r53, r54, r55, r56, r57, r58, r59, r60, r61, g0, g2, g6, g16, hx, hf1, hf2, Bool.and_self] at h) <;> (try omega)) | refine ab_sd (by first | (with_reducible refine vp_in_nI ?_ ?_ <;> omega) | (simp (disch := omega) only [nI_clamp, li_2, li_3, li_4, li_5, li_6, li_7, li_8, li_9, li_10, li_40, li_120, pk_mul, nI_add, nI_1, ix_eq, ix_lt, ix_le, ix_l0, ix_l1, ix_n0, ix_p0, ix_1lt, ix_lt1, ix_1le, ix_le1, ix_le0, ix_0lt, ab_z0, ab_z1, i_10, i_01, eq_self, ab_ozn, ab_ozp, ab_o_some, not_true_eq_false, not_false_eq_true, Bool.not_eq_false, Bool.not_eq_true, Bool.not_eq_false', Bool.not_eq_true', Bool.false_eq_true, Bool.true_eq_false, reduceCtorEq, Option.isSome_some, Option.isSome_none, r44, r45, r46, r47, r48, r49, r50, r51, r52, r53, r54, r55, r56, r57, r58, r59, r60, r61, g0, g2, g6, g16, hx, hf1, hf2, Bool.and_self]; with_reducible refine vp_in_nI ?_ ?_ <;> omega)) ?_ | refine r_noType hω R ?_ | refine r_noForm hω ?_ | (refine r_ruleOfMember hω R hW rfl rfl rfl rfl rfl ht hk hn hac hfl ?_; rw [hrr]) | refine ab_sd ?_ ?_ | refine ab_sz (Or.inl rfl) ?_ | refine ab_sz (Or.inr rfl) ?_ | refine ab_sz ?_ ?_)
      all_goals first | (show Q _ _; with_reducible exact hQ) | (exfalso; clear hj hw hQ; grind)
    · by_cases h4 : s_nX S = 120
      · rw [if_pos rfl, if_neg h0, if_pos h4, if_neg (by omega)] at hQ
        have hQ := hQ μ R SameD.rf (Or.inl ⟨SameK.rf, rfl⟩)
        repeat' (first | refine hj _ _ _ _ ?_ | (refine br_c (fun h => ?_) (fun h => ?_) <;> (try simp (disch := omega) only [nI_clamp, li_2, li_3, li_4, li_5, li_6, li_7, li_8, li_9, li_10, li_40, li_120, pk_mul, nI_add, nI_1, ix_eq, ix_lt, ix_le, ix_l0, ix_l1, ix_n0, ix_p0, ix_1lt, ix_lt1, ix_1le, ix_le1, ix_le0, ix_0lt, ab_z0, ab_z1, i_10, i_01, eq_self, ab_ozn, ab_ozp, ab_o_some, not_true_eq_false, not_false_eq_true, Bool.not_eq_false, Bool.not_eq_true, Bool.not_eq_false', Bool.not_eq_true', Bool.false_eq_true, Bool.true_eq_false, reduceCtorEq, Option.isSome_some, Option.isSome_none, r44, r45, r46, r47, r48, r49, r50, r51, r52, r53, r54, r55, r56, r57, r58, r59, r60, r61, g0, g2, g6, g16, hx, hf1, hf2, Bool.and_self] at h) <;> (try omega)) | (refine br_n (fun h => ?_) (fun h => ?_) <;> (try simp (disch := omega) only [nI_clamp, li_2, li_3, li_4, li_5, li_6, li_7, li_8, li_9, li_10, li_40, li_120, pk_mul, nI_add, nI_1, ix_eq, ix_lt, ix_le, ix_l0, ix_l1, ix_n0, ix_p0, ix_1lt, ix_lt1, ix_1le, ix_le1, ix_le0, ix_0lt, ab_z0, ab_z1, i_10, i_01, eq_self, ab_ozn, ab_ozp, ab_o_some, not_true_eq_false, not_false_eq_true, Bool.not_eq_false, Bool.not_eq_true, Bool.not_eq_false', Bool.not_eq_true', Bool.false_eq_true, Bool.true_eq_false, reduceCtorEq, Option.isSome_some, Option.isSome_none, r44, r45, r46, r47, r48, r49, r50, r51, r52, r53, r54, r55, r56, r57, r58, r59, r60, r61, g0, g2, g6, g16, hx, hf1, hf2, Bool.and_self] at h) <;> (try omega)) | refine ab_sd (by first | (with_reducible refine vp_in_nI ?_ ?_ <;> omega) | (simp (disch := omega) only [nI_clamp, li_2, li_3, li_4, li_5, li_6, li_7, li_8, li_9, li_10, li_40, li_120, pk_mul, nI_add, nI_1, ix_eq, ix_lt, ix_le, ix_l0, ix_l1, ix_n0, ix_p0, ix_1lt, ix_lt1, ix_1le, ix_le1, ix_le0, ix_0lt, ab_z0, ab_z1, i_10, i_01, eq_self, ab_ozn, ab_ozp, ab_o_some, not_true_eq_false, not_false_eq_true, Bool.not_eq_false, Bool.not_eq_true, Bool.not_eq_false', Bool.not_eq_true', Bool.false_eq_true, Bool.true_eq_false, reduceCtorEq, Option.isSome_some, Option.isSome_none, r44, r45, r46, r47, r48, r49, r50, r51, r52, r53, r54, r55, r56, r57, r58, r59, r60, r61, g0, g2, g6, g16, hx, hf1, hf2, Bool.and_self]; with_reducible refine vp_in_nI ?_ ?_ <;> omega)) ?_ | refine r_noType hω R ?_ | refine r_noForm hω ?_ | (refine r_ruleOfMember hω R hW rfl rfl rfl rfl rfl ht hk hn hac hfl ?_; rw [hrr]) | refine ab_sd ?_ ?_ | refine ab_sz (Or.inl rfl) ?_ | refine ab_sz (Or.inr rfl) ?_ | refine ab_sz ?_ ?_)
        all_goals first | (show Q _ _; with_reducible exact hQ) | (exfalso; clear hj hw hQ; grind)
      · rw [if_pos rfl, if_neg h0, if_neg h4, if_pos ⟨rfl, by omega, h4⟩] at hQ
        have h00 : rr = 0 := by omega
        subst h00
        have fin : ∀ μ', μ' = ab_mi (ab_mi (ab_mi (ab_mi (ab_mi (ab_mi (ab_mi μ 43 16 (nI (s_nX S + 1))) 57 (s_nX S) (nI t)) 58 (s_nX S) (nI k)) 59 (s_nX S) (nI n)) 60 (s_nX S) (nI ac)) 61 (s_nX S) (nI fl)) 43 22 0 → Q (nI (s_nX S)) μ' := by
          intro μ' hμ
          refine hQ μ' (rep_mem R hμ) ?_ (Or.inr ?_)
          · rw [hμ]
            exact ((((((SameD.rf.mi (k := 43) (by omega)).mi (k := 57) (by omega)).mi (k := 58) (by omega)).mi (k := 59) (by omega)).mi (k := 60) (by omega)).mi (k := 61) (by omega)).mi (k := 43) (by omega)
          · rw [hμ]
            exact mi_eq
        clear hQ
        repeat' (first | refine hj _ _ _ _ ?_ | (refine br_c (fun h => ?_) (fun h => ?_) <;> (try simp (disch := omega) only [nI_clamp, li_2, li_3, li_4, li_5, li_6, li_7, li_8, li_9, li_10, li_40, li_120, pk_mul, nI_add, nI_1, ix_eq, ix_lt, ix_le, ix_l0, ix_l1, ix_n0, ix_p0, ix_1lt, ix_lt1, ix_1le, ix_le1, ix_le0, ix_0lt, ab_z0, ab_z1, i_10, i_01, eq_self, ab_ozn, ab_ozp, ab_o_some, not_true_eq_false, not_false_eq_true, Bool.not_eq_false, Bool.not_eq_true, Bool.not_eq_false', Bool.not_eq_true', Bool.false_eq_true, Bool.true_eq_false, reduceCtorEq, Option.isSome_some, Option.isSome_none, r44, r45, r46, r47, r48, r49, r50, r51, r52, r53, r54, r55, r56, r57, r58, r59, r60, r61, g0, g2, g6, g16, hx, hf1, hf2, Bool.and_self] at h) <;> (try omega)) | (refine br_n (fun h => ?_) (fun h => ?_) <;> (try simp (disch := omega) only [nI_clamp, li_2, li_3, li_4, li_5, li_6, li_7, li_8, li_9, li_10, li_40, li_120, pk_mul, nI_add, nI_1, ix_eq, ix_lt, ix_le, ix_l0, ix_l1, ix_n0, ix_p0, ix_1lt, ix_lt1, ix_1le, ix_le1, ix_le0, ix_0lt, ab_z0, ab_z1, i_10, i_01, eq_self, ab_ozn, ab_ozp, ab_o_some, not_true_eq_false, not_false_eq_true, Bool.not_eq_false, Bool.not_eq_true, Bool.not_eq_false', Bool.not_eq_true', Bool.false_eq_true, Bool.true_eq_false, reduceCtorEq, Option.isSome_some, Option.isSome_none, r44, r45, r46, r47, r48, r49, r50, r51, r52, r53, r54, r55, r56, r57, r58, r59, r60, r61, g0, g2, g6, g16, hx, hf1, hf2, Bool.and_self] at h) <;> (try omega)) | refine ab_sd (by first | (with_reducible refine vp_in_nI ?_ ?_ <;> omega) | (simp (disch := omega) only [nI_clamp, li_2, li_3, li_4, li_5, li_6, li_7, li_8, li_9, li_10, li_40, li_120, pk_mul, nI_add, nI_1, ix_eq, ix_lt, ix_le, ix_l0, ix_l1, ix_n0, ix_p0, ix_1lt, ix_lt1, ix_1le, ix_le1, ix_le0, ix_0lt, ab_z0, ab_z1, i_10, i_01, eq_self, ab_ozn, ab_ozp, ab_o_some, not_true_eq_false, not_false_eq_true, Bool.not_eq_false, Bool.not_eq_true, Bool.not_eq_false', Bool.not_eq_true', Bool.false_eq_true, Bool.true_eq_false, reduceCtorEq, Option.isSome_some, Option.isSome_none, r44, r45, r46, r47, r48, r49, r50, r51, r52, r53, r54, r55, r56, r57, r58, r59, r60, r61, g0, g2, g6, g16, hx, hf1, hf2, Bool.and_self]; with_reducible refine vp_in_nI ?_ ?_ <;> omega)) ?_ | refine r_noType hω R ?_ | refine r_noForm hω ?_ | (refine r_ruleOfMember hω R hW rfl rfl rfl rfl rfl ht hk hn hac hfl ?_; rw [hrr]) | refine ab_sd ?_ ?_ | refine ab_sz (Or.inl rfl) ?_ | refine ab_sz (Or.inr rfl) ?_ | refine ab_sz ?_ ?_)
        all_goals first | (show Q _ _; simp (disch := omega) only [g16, nI_1, nI_clamp]; exact fin _ rfl) | (exfalso; clear hj hw fin; simp_all; done)
theorem r_isCut (hω : ω.2.2.2 = ab_SH) (R : RepR S μ) (hW : Wf S) {x y : Int32} {f t : Nat} (ex : x = nI f) (ey : y = nI t) (hf : f < s_nT S) (ht : t ∈ s_ch S f) (hQ : Q (ab_z (((s_ch S f).takeWhile (fun x => !(x == t))).any (fun x => s_has (S.1 52 x) 1))) μ) : ab_CI l ω mX11_isCut [.ref 43, .int x, .int y] μ Q := by
  subst ex ey
  refine ab_intro (sh := ab_SH) (cd := kX11_isCut) hω vX11_isCut (by decide +kernel) rfl (Nat.le_of_ble_eq_true rfl) (fun j hj hw => ?_)
  have hjx : ∀ i ll st μ, i ∉ ([4] : List Nat) → _ → j i ll st μ := fun i ll st μ _ h => hj i ll st μ h
  obtain ⟨r44, r45, r46, r47, r48, r49, r50, r51, r52, r53, r54, r55, r56, r57, r58, r59, r60, r61, g0, g2, g6, g16⟩ := RepR_fs R
  have hT := hW.2.2.1.2
  have chlt : ∀ (n a b : Nat), a < n → a < s_nT S → b ∈ s_ch S a → b ≤ a := by
    intro n
    induction n with
    | zero => intro a b h; omega
    | succ n ih =>
      intro a b h1 h2 h3
      cases e : s_ou S a with
      | none => rw [s_ch_none e] at h3; simp at h3; omega
      | some o =>
        have h4 := (hW.2.2.2.2.2.1 a h2).2.2.2.2.2.2.1 o e
        rw [s_ch_some hW h2 e] at h3
        rcases List.mem_cons.mp h3 with h3 | h3
        · omega
        · have := ih o b (by omega) (by omega) h3
          omega
  have ht2 := chlt (f + 1) f t (by omega) hf ht
  have loop : ∀ n' a b, a < n' → a < s_nT S → t ∈ s_ch S a → Q (ab_z (b || ((s_ch S a).takeWhile (fun x => !(x == t))).any (fun x => s_has (S.1 52 x) 1))) μ → j 4 [some (.ref 43), some (.int (nI f)), some (.int (nI t)), some (.int (ab_z b)), some (.int (nI a))] [] μ := by
    intro n'
    induction n' with
    | zero => intro a b h1; omega
    | succ n' ih =>
      intro a b h1 h2 h3 hQ
      obtain ⟨a1, a2, a3, a4, -, -, ho, -⟩ := hW.2.2.2.2.2.1 a h2
      have q1 := s_and_lt (b := 1) a4
      cases e : s_ou S a with
      | none =>
        rw [s_ch_none e] at h3 hQ
        have h3 : t = a := by simpa using h3
        subst h3
        refine hj _ _ _ _ ?_
        repeat' (first | refine hjx _ _ _ _ (by decide) ?_ | (refine br_c (fun h => ?_) (fun h => ?_) <;> (try simp (disch := omega) only [nI_clamp, li_2, li_3, li_4, li_5, li_6, li_7, li_8, li_9, li_10, li_40, li_120, pk_mul, nI_add, nI_1, ix_eq, ix_lt, ix_le, ix_l0, ix_l1, ix_n0, ix_p0, ix_1lt, ix_lt1, ix_1le, ix_le1, ix_le0, ix_0lt, ab_z0, ab_z1, i_10, i_01, eq_self, ab_ozn, ab_ozp, ab_o_some, not_true_eq_false, not_false_eq_true, Bool.not_eq_false, Bool.not_eq_true, Bool.not_eq_false', Bool.not_eq_true', Bool.false_eq_true, Bool.true_eq_false, reduceCtorEq, Option.isSome_some, Option.isSome_none, r44, r45, r46, r47, r48, r49, r50, r51, r52, r53, r54, r55, r56, r57, r58, r59, r60, r61, g0, g2, g6, g16, e] at h) <;> (try omega)) | (refine br_n (fun h => ?_) (fun h => ?_) <;> (try simp (disch := omega) only [nI_clamp, li_2, li_3, li_4, li_5, li_6, li_7, li_8, li_9, li_10, li_40, li_120, pk_mul, nI_add, nI_1, ix_eq, ix_lt, ix_le, ix_l0, ix_l1, ix_n0, ix_p0, ix_1lt, ix_lt1, ix_1le, ix_le1, ix_le0, ix_0lt, ab_z0, ab_z1, i_10, i_01, eq_self, ab_ozn, ab_ozp, ab_o_some, not_true_eq_false, not_false_eq_true, Bool.not_eq_false, Bool.not_eq_true, Bool.not_eq_false', Bool.not_eq_true', Bool.false_eq_true, Bool.true_eq_false, reduceCtorEq, Option.isSome_some, Option.isSome_none, r44, r45, r46, r47, r48, r49, r50, r51, r52, r53, r54, r55, r56, r57, r58, r59, r60, r61, g0, g2, g6, g16, e] at h) <;> (try omega)) | refine ab_sd (by first | (with_reducible refine vp_in_nI ?_ ?_ <;> omega) | (simp (disch := omega) only [nI_clamp, li_2, li_3, li_4, li_5, li_6, li_7, li_8, li_9, li_10, li_40, li_120, pk_mul, nI_add, nI_1, ix_eq, ix_lt, ix_le, ix_l0, ix_l1, ix_n0, ix_p0, ix_1lt, ix_lt1, ix_1le, ix_le1, ix_le0, ix_0lt, ab_z0, ab_z1, i_10, i_01, eq_self, ab_ozn, ab_ozp, ab_o_some, not_true_eq_false, not_false_eq_true, Bool.not_eq_false, Bool.not_eq_true, Bool.not_eq_false', Bool.not_eq_true', Bool.false_eq_true, Bool.true_eq_false, reduceCtorEq, Option.isSome_some, Option.isSome_none, r44, r45, r46, r47, r48, r49, r50, r51, r52, r53, r54, r55, r56, r57, r58, r59, r60, r61, g0, g2, g6, g16, e]; with_reducible refine vp_in_nI ?_ ?_ <;> omega)) ?_ | refine r_has hω (a := S.1 52 t) (b := 1) (by simp (disch := omega) only [nI_clamp, li_2, li_3, li_4, li_5, li_6, li_7, li_8, li_9, li_10, li_40, li_120, pk_mul, nI_add, nI_1, ix_eq, ix_lt, ix_le, ix_l0, ix_l1, ix_n0, ix_p0, ix_1lt, ix_lt1, ix_1le, ix_le1, ix_le0, ix_0lt, ab_z0, ab_z1, i_10, i_01, eq_self, ab_ozn, ab_ozp, ab_o_some, not_true_eq_false, not_false_eq_true, Bool.not_eq_false, Bool.not_eq_true, Bool.not_eq_false', Bool.not_eq_true', Bool.false_eq_true, Bool.true_eq_false, reduceCtorEq, Option.isSome_some, Option.isSome_none, r44, r45, r46, r47, r48, r49, r50, r51, r52, r53, r54, r55, r56, r57, r58, r59, r60, r61, g0, g2, g6, g16]) rfl q1 ?_ | refine ab_sd ?_ ?_ | refine ab_sz (Or.inl rfl) ?_ | refine ab_sz (Or.inr rfl) ?_ | refine ab_sz ?_ ?_)
        · exact ab_z01 _
        · refine q_of hQ ?_
          simp
      | some o =>
        have h4 := ho o e
        rw [s_ch_some hW h2 e] at h3 hQ
        by_cases hat : a = t
        · subst hat
          refine hj _ _ _ _ ?_
          repeat' (first | refine hjx _ _ _ _ (by decide) ?_ | (refine br_c (fun h => ?_) (fun h => ?_) <;> (try simp (disch := omega) only [nI_clamp, li_2, li_3, li_4, li_5, li_6, li_7, li_8, li_9, li_10, li_40, li_120, pk_mul, nI_add, nI_1, ix_eq, ix_lt, ix_le, ix_l0, ix_l1, ix_n0, ix_p0, ix_1lt, ix_lt1, ix_1le, ix_le1, ix_le0, ix_0lt, ab_z0, ab_z1, i_10, i_01, eq_self, ab_ozn, ab_ozp, ab_o_some, not_true_eq_false, not_false_eq_true, Bool.not_eq_false, Bool.not_eq_true, Bool.not_eq_false', Bool.not_eq_true', Bool.false_eq_true, Bool.true_eq_false, reduceCtorEq, Option.isSome_some, Option.isSome_none, r44, r45, r46, r47, r48, r49, r50, r51, r52, r53, r54, r55, r56, r57, r58, r59, r60, r61, g0, g2, g6, g16, e] at h) <;> (try omega)) | (refine br_n (fun h => ?_) (fun h => ?_) <;> (try simp (disch := omega) only [nI_clamp, li_2, li_3, li_4, li_5, li_6, li_7, li_8, li_9, li_10, li_40, li_120, pk_mul, nI_add, nI_1, ix_eq, ix_lt, ix_le, ix_l0, ix_l1, ix_n0, ix_p0, ix_1lt, ix_lt1, ix_1le, ix_le1, ix_le0, ix_0lt, ab_z0, ab_z1, i_10, i_01, eq_self, ab_ozn, ab_ozp, ab_o_some, not_true_eq_false, not_false_eq_true, Bool.not_eq_false, Bool.not_eq_true, Bool.not_eq_false', Bool.not_eq_true', Bool.false_eq_true, Bool.true_eq_false, reduceCtorEq, Option.isSome_some, Option.isSome_none, r44, r45, r46, r47, r48, r49, r50, r51, r52, r53, r54, r55, r56, r57, r58, r59, r60, r61, g0, g2, g6, g16, e] at h) <;> (try omega)) | refine ab_sd (by first | (with_reducible refine vp_in_nI ?_ ?_ <;> omega) | (simp (disch := omega) only [nI_clamp, li_2, li_3, li_4, li_5, li_6, li_7, li_8, li_9, li_10, li_40, li_120, pk_mul, nI_add, nI_1, ix_eq, ix_lt, ix_le, ix_l0, ix_l1, ix_n0, ix_p0, ix_1lt, ix_lt1, ix_1le, ix_le1, ix_le0, ix_0lt, ab_z0, ab_z1, i_10, i_01, eq_self, ab_ozn, ab_ozp, ab_o_some, not_true_eq_false, not_false_eq_true, Bool.not_eq_false, Bool.not_eq_true, Bool.not_eq_false', Bool.not_eq_true', Bool.false_eq_true, Bool.true_eq_false, reduceCtorEq, Option.isSome_some, Option.isSome_none, r44, r45, r46, r47, r48, r49, r50, r51, r52, r53, r54, r55, r56, r57, r58, r59, r60, r61, g0, g2, g6, g16, e]; with_reducible refine vp_in_nI ?_ ?_ <;> omega)) ?_ | refine r_has hω (a := S.1 52 a) (b := 1) (by simp (disch := omega) only [nI_clamp, li_2, li_3, li_4, li_5, li_6, li_7, li_8, li_9, li_10, li_40, li_120, pk_mul, nI_add, nI_1, ix_eq, ix_lt, ix_le, ix_l0, ix_l1, ix_n0, ix_p0, ix_1lt, ix_lt1, ix_1le, ix_le1, ix_le0, ix_0lt, ab_z0, ab_z1, i_10, i_01, eq_self, ab_ozn, ab_ozp, ab_o_some, not_true_eq_false, not_false_eq_true, Bool.not_eq_false, Bool.not_eq_true, Bool.not_eq_false', Bool.not_eq_true', Bool.false_eq_true, Bool.true_eq_false, reduceCtorEq, Option.isSome_some, Option.isSome_none, r44, r45, r46, r47, r48, r49, r50, r51, r52, r53, r54, r55, r56, r57, r58, r59, r60, r61, g0, g2, g6, g16]) rfl q1 ?_ | refine ab_sd ?_ ?_ | refine ab_sz (Or.inl rfl) ?_ | refine ab_sz (Or.inr rfl) ?_ | refine ab_sz ?_ ?_)
          · exact ab_z01 _
          · refine q_of hQ ?_
            simp
        · have h3 : t ∈ s_ch S o := by
            rcases List.mem_cons.mp h3 with h3 | h3
            · exact absurd h3.symm hat
            · exact h3
          refine hj _ _ _ _ ?_
          repeat' (first | refine hjx _ _ _ _ (by decide) ?_ | (refine br_c (fun h => ?_) (fun h => ?_) <;> (try simp (disch := omega) only [nI_clamp, li_2, li_3, li_4, li_5, li_6, li_7, li_8, li_9, li_10, li_40, li_120, pk_mul, nI_add, nI_1, ix_eq, ix_lt, ix_le, ix_l0, ix_l1, ix_n0, ix_p0, ix_1lt, ix_lt1, ix_1le, ix_le1, ix_le0, ix_0lt, ab_z0, ab_z1, i_10, i_01, eq_self, ab_ozn, ab_ozp, ab_o_some, not_true_eq_false, not_false_eq_true, Bool.not_eq_false, Bool.not_eq_true, Bool.not_eq_false', Bool.not_eq_true', Bool.false_eq_true, Bool.true_eq_false, reduceCtorEq, Option.isSome_some, Option.isSome_none, r44, r45, r46, r47, r48, r49, r50, r51, r52, r53, r54, r55, r56, r57, r58, r59, r60, r61, g0, g2, g6, g16, e] at h) <;> (try omega)) | (refine br_n (fun h => ?_) (fun h => ?_) <;> (try simp (disch := omega) only [nI_clamp, li_2, li_3, li_4, li_5, li_6, li_7, li_8, li_9, li_10, li_40, li_120, pk_mul, nI_add, nI_1, ix_eq, ix_lt, ix_le, ix_l0, ix_l1, ix_n0, ix_p0, ix_1lt, ix_lt1, ix_1le, ix_le1, ix_le0, ix_0lt, ab_z0, ab_z1, i_10, i_01, eq_self, ab_ozn, ab_ozp, ab_o_some, not_true_eq_false, not_false_eq_true, Bool.not_eq_false, Bool.not_eq_true, Bool.not_eq_false', Bool.not_eq_true', Bool.false_eq_true, Bool.true_eq_false, reduceCtorEq, Option.isSome_some, Option.isSome_none, r44, r45, r46, r47, r48, r49, r50, r51, r52, r53, r54, r55, r56, r57, r58, r59, r60, r61, g0, g2, g6, g16, e] at h) <;> (try omega)) | refine ab_sd (by first | (with_reducible refine vp_in_nI ?_ ?_ <;> omega) | (simp (disch := omega) only [nI_clamp, li_2, li_3, li_4, li_5, li_6, li_7, li_8, li_9, li_10, li_40, li_120, pk_mul, nI_add, nI_1, ix_eq, ix_lt, ix_le, ix_l0, ix_l1, ix_n0, ix_p0, ix_1lt, ix_lt1, ix_1le, ix_le1, ix_le0, ix_0lt, ab_z0, ab_z1, i_10, i_01, eq_self, ab_ozn, ab_ozp, ab_o_some, not_true_eq_false, not_false_eq_true, Bool.not_eq_false, Bool.not_eq_true, Bool.not_eq_false', Bool.not_eq_true', Bool.false_eq_true, Bool.true_eq_false, reduceCtorEq, Option.isSome_some, Option.isSome_none, r44, r45, r46, r47, r48, r49, r50, r51, r52, r53, r54, r55, r56, r57, r58, r59, r60, r61, g0, g2, g6, g16, e]; with_reducible refine vp_in_nI ?_ ?_ <;> omega)) ?_ | refine r_has hω (a := S.1 52 a) (b := 1) (by simp (disch := omega) only [nI_clamp, li_2, li_3, li_4, li_5, li_6, li_7, li_8, li_9, li_10, li_40, li_120, pk_mul, nI_add, nI_1, ix_eq, ix_lt, ix_le, ix_l0, ix_l1, ix_n0, ix_p0, ix_1lt, ix_lt1, ix_1le, ix_le1, ix_le0, ix_0lt, ab_z0, ab_z1, i_10, i_01, eq_self, ab_ozn, ab_ozp, ab_o_some, not_true_eq_false, not_false_eq_true, Bool.not_eq_false, Bool.not_eq_true, Bool.not_eq_false', Bool.not_eq_true', Bool.false_eq_true, Bool.true_eq_false, reduceCtorEq, Option.isSome_some, Option.isSome_none, r44, r45, r46, r47, r48, r49, r50, r51, r52, r53, r54, r55, r56, r57, r58, r59, r60, r61, g0, g2, g6, g16]) rfl q1 ?_ | refine ab_sd ?_ ?_ | refine ab_sz (Or.inl rfl) ?_ | refine ab_sz (Or.inr rfl) ?_ | refine ab_sz ?_ ?_)
          show j 4 _ _ _
          simp (disch := omega) only [nI_clamp, li_2, li_3, li_4, li_5, li_6, li_7, li_8, li_9, li_10, li_40, li_120, pk_mul, nI_add, nI_1, ix_eq, ix_lt, ix_le, ix_l0, ix_l1, ix_n0, ix_p0, ix_1lt, ix_lt1, ix_1le, ix_le1, ix_le0, ix_0lt, ab_z0, ab_z1, i_10, i_01, eq_self, ab_ozn, ab_ozp, ab_o_some, not_true_eq_false, not_false_eq_true, Bool.not_eq_false, Bool.not_eq_true, Bool.not_eq_false', Bool.not_eq_true', Bool.false_eq_true, Bool.true_eq_false, reduceCtorEq, Option.isSome_some, Option.isSome_none, r44, r45, r46, r47, r48, r49, r50, r51, r52, r53, r54, r55, r56, r57, r58, r59, r60, r61, g0, g2, g6, g16, e, ab_zor]
          refine ih o _ (by omega) (by omega) h3 (q_of hQ ?_)
          rw [List.takeWhile_cons, if_pos (by simp [hat]), List.any_cons, Bool.or_assoc]
  repeat' (first | refine hjx _ _ _ _ (by decide) ?_ | (refine br_c (fun h => ?_) (fun h => ?_) <;> (try simp (disch := omega) only [nI_clamp, li_2, li_3, li_4, li_5, li_6, li_7, li_8, li_9, li_10, li_40, li_120, pk_mul, nI_add, nI_1, ix_eq, ix_lt, ix_le, ix_l0, ix_l1, ix_n0, ix_p0, ix_1lt, ix_lt1, ix_1le, ix_le1, ix_le0, ix_0lt, ab_z0, ab_z1, i_10, i_01, eq_self, ab_ozn, ab_ozp, ab_o_some, not_true_eq_false, not_false_eq_true, Bool.not_eq_false, Bool.not_eq_true, Bool.not_eq_false', Bool.not_eq_true', Bool.false_eq_true, Bool.true_eq_false, reduceCtorEq, Option.isSome_some, Option.isSome_none, r44, r45, r46, r47, r48, r49, r50, r51, r52, r53, r54, r55, r56, r57, r58, r59, r60, r61, g0, g2, g6, g16] at h) <;> (try omega)) | (refine br_n (fun h => ?_) (fun h => ?_) <;> (try simp (disch := omega) only [nI_clamp, li_2, li_3, li_4, li_5, li_6, li_7, li_8, li_9, li_10, li_40, li_120, pk_mul, nI_add, nI_1, ix_eq, ix_lt, ix_le, ix_l0, ix_l1, ix_n0, ix_p0, ix_1lt, ix_lt1, ix_1le, ix_le1, ix_le0, ix_0lt, ab_z0, ab_z1, i_10, i_01, eq_self, ab_ozn, ab_ozp, ab_o_some, not_true_eq_false, not_false_eq_true, Bool.not_eq_false, Bool.not_eq_true, Bool.not_eq_false', Bool.not_eq_true', Bool.false_eq_true, Bool.true_eq_false, reduceCtorEq, Option.isSome_some, Option.isSome_none, r44, r45, r46, r47, r48, r49, r50, r51, r52, r53, r54, r55, r56, r57, r58, r59, r60, r61, g0, g2, g6, g16] at h) <;> (try omega)) | refine ab_sd (by first | (with_reducible refine vp_in_nI ?_ ?_ <;> omega) | (simp (disch := omega) only [nI_clamp, li_2, li_3, li_4, li_5, li_6, li_7, li_8, li_9, li_10, li_40, li_120, pk_mul, nI_add, nI_1, ix_eq, ix_lt, ix_le, ix_l0, ix_l1, ix_n0, ix_p0, ix_1lt, ix_lt1, ix_1le, ix_le1, ix_le0, ix_0lt, ab_z0, ab_z1, i_10, i_01, eq_self, ab_ozn, ab_ozp, ab_o_some, not_true_eq_false, not_false_eq_true, Bool.not_eq_false, Bool.not_eq_true, Bool.not_eq_false', Bool.not_eq_true', Bool.false_eq_true, Bool.true_eq_false, reduceCtorEq, Option.isSome_some, Option.isSome_none, r44, r45, r46, r47, r48, r49, r50, r51, r52, r53, r54, r55, r56, r57, r58, r59, r60, r61, g0, g2, g6, g16]; with_reducible refine vp_in_nI ?_ ?_ <;> omega)) ?_ | refine ab_sd ?_ ?_ | refine ab_sz (Or.inl rfl) ?_ | refine ab_sz (Or.inr rfl) ?_ | refine ab_sz ?_ ?_)
  exact loop (f + 1) f false (by omega) hf ht (by simpa using hQ)
end R9
