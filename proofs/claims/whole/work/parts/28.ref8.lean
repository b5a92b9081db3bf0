/-! type, member -/
def s_type (S : sT) (pk : Nat) (ou : Option Nat) (so ac fl : Nat) : sT := (fun a b => if a = 43 ∧ b = 6 then s_nT S + 1 else if a = 48 ∧ b = s_nT S then pk else if a = 50 ∧ b = s_nT S then so else if a = 51 ∧ b = s_nT S then ac else if a = 52 ∧ b = s_nT S then fl else S.1 a b,
  fun a b => if a = 56 ∧ b = 40 * s_nT S then so == 0 else S.2.1 a b,
  fun a b => if a = 49 ∧ b = s_nT S then ou else if a = 53 ∧ b = s_nT S then (if so = 0 then some 0 else none) else S.2.2 a b)
/-- an outer one as a call tells it -/
def s_dou (o : Int32) : Option Nat := if o = -1 then none else some o.toNatClampNeg
def v_type (S : sT) (p o so ac fl : Int32) : Bool := ab_ok (s_nP S) p && (o == -1 || ab_ok (s_nT S) o) && ab_ok 2 so && (ab_ok 4 ac && ab_ok 8 fl)
def s_rT2 (S : sT) (p o so ac fl : Int32) : Nat := s_rT S p.toNatClampNeg (s_dou o) so.toNatClampNeg ac.toNatClampNeg fl.toNatClampNeg
def a_type (S : sT) (p o so ac fl : Int32) : Int32 := if v_type S p o so ac fl then (if 0 < s_rT2 S p o so ac fl then -10 - nI (s_rT2 S p o so ac fl) else if s_nT S = 40 then -4 else nI (s_nT S)) else -1
def o_type (S : sT) (p o so ac fl : Int32) : sT := if v_type S p o so ac fl = true ∧ s_rT2 S p o so ac fl = 0 ∧ ¬ s_nT S = 40 then s_type S p.toNatClampNeg (s_dou o) so.toNatClampNeg ac.toNatClampNeg fl.toNatClampNeg else S
theorem s_rT_le (S : sT) (pk : Nat) (ou : Option Nat) (so ac fl : Nat) : s_rT S pk ou so ac fl ≤ 4 := by
  unfold s_rT s_r4
  grind
theorem ab_ok2 (x : Int32) : ab_ok 2 x = (decide (0 ≤ x) && decide (x ≤ 1)) := by
  unfold ab_ok
  congr 1
  rw [decide_eq_decide, Int32.lt_iff_toInt_lt, Int32.le_iff_toInt_le]
  show _ < (2 : Int) ↔ _ ≤ (1 : Int)
  omega
theorem rep_type {S : sT} {μ μ' : ab_M} (R : RepR S μ) {pk so ac fl : Nat} {ou : Option Nat}
    (hμ : μ' = ab_mi (ab_mi (ab_mi (ab_mi (ab_mi (ab_mi (ab_mi (ab_mi (ab_mi μ 43 6 (nI (s_nT S + 1))) 48 (s_nT S) (nI pk)) 49 (s_nT S) (ab_o ou)) 50 (s_nT S) (nI so)) 51 (s_nT S) (nI ac)) 52 (s_nT S) (nI fl)) 53 (s_nT S) (ab_o (if so = 0 then some 0 else none))) 56 (40 * s_nT S) (ab_z (so == 0))) 43 22 0) : RepR (s_type S pk ou so ac fl) μ' := by
  subst hμ
  refine ⟨fun k j h => ?_, fun k j h => ?_, fun k j h hb => ?_⟩
  · have h0 := R.1 k j h
    obtain ⟨e1, e2, e3⟩ := s_ikb h
    have e4 : ¬ k = 56 := fun q => by rw [q] at e1; simp [s_bk] at e1
    have e5 : ¬ (k = 43 ∧ j = 22) := fun q => by rw [q.1, q.2] at h; simp [s_ik] at h
    simp only [ab_mi, s_type]
    grind
  · have h0 := R.2.1 k j h
    have e1 : k ≠ 43 ∧ k ≠ 48 ∧ k ≠ 49 ∧ k ≠ 50 ∧ k ≠ 51 ∧ k ≠ 52 ∧ k ≠ 53 := by
      simp only [s_bk, Bool.or_eq_true, beq_iff_eq] at h
      omega
    simp only [ab_mi, s_type]
    grind
  · have hb2 : j < s_nT S + 1 := by
      simpa [s_nT, s_type] using hb
    have h0 := R.2.2 k j h
    simp only [ab_mi, s_type]
    rcases h with h | h <;> subst h <;> simp <;> grind
section R8
variable {l : Launch} {ω : ab_W} {S : sT} {μ : ab_M} {Q : Int32 → ab_M → Prop}
set_option maxHeartbeats 4000000 in
set_option maxRecDepth 10000 in
theorem r_type (hω : ω.2.2.2 = ab_SH) (R : RepR S μ) (hW : Wf S) {x y z v w : Int32} (hQ : ∀ μ', RepR (o_type S x y z v w) μ' → SameD μ μ' → (SameK μ μ' ∧ o_type S x y z v w = S) ∨ μ'.1 43 22 = 0 → Q (a_type S x y z v w) μ') : ab_CI l ω mX11_type [.ref 43, .int x, .int y, .int z, .int v, .int w] μ Q := by
  refine ab_intro (sh := ab_SH) (cd := kX11_type) hω vX11_type (by decide +kernel) rfl (Nat.le_of_ble_eq_true rfl) (fun j hj hw => ?_)
  have hT := hW.2.2.1.2
  have hP := hW.2.1.2
  obtain ⟨r44, r45, r46, r47, r48, r49, r50, r51, r52, r53, r54, r55, r56, r57, r58, r59, r60, r61, g0, g2, g6, g16⟩ := RepR_fs R
  cases hv : v_type S x y z v w with
  | false =>
    have e1 : a_type S x y z v w = -1 := by simp [a_type, hv]
    have e2 : o_type S x y z v w = S := by simp [o_type, hv]
    rw [e1, e2] at hQ
    have hQ := hQ μ R SameD.rf (Or.inl ⟨SameK.rf, rfl⟩)
    unfold v_type at hv
    rw [ab_ok2] at hv
    repeat' (first | refine hj _ _ _ _ ?_ | (refine br_c (fun h => ?_) (fun h => ?_) <;> (try simp (disch := omega) only [nI_clamp, li_2, li_3, li_4, li_5, li_6, li_7, li_8, li_9, li_10, li_40, li_120, pk_mul, nI_add, nI_1, ix_eq, ix_lt, ix_le, ix_l0, ix_l1, ix_n0, ix_p0, ix_1lt, ix_lt1, ix_1le, ix_le1, ix_le0, ix_0lt, ab_z0, ab_z1, i_10, i_01, eq_self, ab_ozn, ab_ozp, ab_o_some, not_true_eq_false, not_false_eq_true, Bool.not_eq_false, Bool.not_eq_true, Bool.not_eq_false', Bool.not_eq_true', Bool.false_eq_true, Bool.true_eq_false, reduceCtorEq, Option.isSome_some, Option.isSome_none, r44, r45, r46, r47, r48, r49, r50, r51, r52, r53, r54, r55, r56, r57, r58, r59, r60, r61, g0, g2, g6, g16] at h) <;> (try omega)) | (refine br_n (fun h => ?_) (fun h => ?_) <;> (try simp (disch := omega) only [nI_clamp, li_2, li_3, li_4, li_5, li_6, li_7, li_8, li_9, li_10, li_40, li_120, pk_mul, nI_add, nI_1, ix_eq, ix_lt, ix_le, ix_l0, ix_l1, ix_n0, ix_p0, ix_1lt, ix_lt1, ix_1le, ix_le1, ix_le0, ix_0lt, ab_z0, ab_z1, i_10, i_01, eq_self, ab_ozn, ab_ozp, ab_o_some, not_true_eq_false, not_false_eq_true, Bool.not_eq_false, Bool.not_eq_true, Bool.not_eq_false', Bool.not_eq_true', Bool.false_eq_true, Bool.true_eq_false, reduceCtorEq, Option.isSome_some, Option.isSome_none, r44, r45, r46, r47, r48, r49, r50, r51, r52, r53, r54, r55, r56, r57, r58, r59, r60, r61, g0, g2, g6, g16] at h) <;> (try omega)) | refine ab_sd (by first | (with_reducible refine vp_in_nI ?_ ?_ <;> omega) | (simp (disch := omega) only [nI_clamp, li_2, li_3, li_4, li_5, li_6, li_7, li_8, li_9, li_10, li_40, li_120, pk_mul, nI_add, nI_1, ix_eq, ix_lt, ix_le, ix_l0, ix_l1, ix_n0, ix_p0, ix_1lt, ix_lt1, ix_1le, ix_le1, ix_le0, ix_0lt, ab_z0, ab_z1, i_10, i_01, eq_self, ab_ozn, ab_ozp, ab_o_some, not_true_eq_false, not_false_eq_true, Bool.not_eq_false, Bool.not_eq_true, Bool.not_eq_false', Bool.not_eq_true', Bool.false_eq_true, Bool.true_eq_false, reduceCtorEq, Option.isSome_some, Option.isSome_none, r44, r45, r46, r47, r48, r49, r50, r51, r52, r53, r54, r55, r56, r57, r58, r59, r60, r61, g0, g2, g6, g16]; with_reducible refine vp_in_nI ?_ ?_ <;> omega)) ?_ | refine r_noPack hω R ?_ | refine r_noType hω R ?_ | refine r_noForm hω ?_ | (exfalso; clear hj hw hQ; grind) | refine ab_sd ?_ ?_ | refine ab_sz (Or.inl rfl) ?_ | refine ab_sz (Or.inr rfl) ?_ | refine ab_sz ?_ ?_)
    all_goals first | exact hQ | (exfalso; clear hj hw hQ; grind)
  | true =>
    have hv2 := hv
    unfold v_type at hv2
    simp only [Bool.and_eq_true, Bool.or_eq_true, beq_iff_eq] at hv2
    obtain ⟨⟨⟨hx, hy⟩, hz⟩, hf1, hf2⟩ := hv2
    obtain ⟨pk, hpk, rfl⟩ := ab_ok_t (by omega) hx
    obtain ⟨so, hso, rfl⟩ := ab_ok_t (by omega) hz
    obtain ⟨ac, hac, rfl⟩ := ab_ok_t (by omega) hf1
    obtain ⟨fl, hfl, rfl⟩ := ab_ok_t (by omega) hf2
    have c1 : (nI pk).toNatClampNeg = pk := nI_clamp (by omega)
    have c3 : (nI so).toNatClampNeg = so := nI_clamp (by omega)
    have c4 : (nI ac).toNatClampNeg = ac := nI_clamp (by omega)
    have c5 : (nI fl).toNatClampNeg = fl := nI_clamp (by omega)
    obtain ⟨ou, hou, ho1, ho2⟩ : ∃ ou : Option Nat, y = ab_o1 ou ∧ s_dou y = ou ∧ ∀ o, ou = some o → o < s_nT S := by
      rcases hy with rfl | hy
      · exact ⟨none, rfl, rfl, fun o h => by cases h⟩
      · obtain ⟨o, ho, rfl⟩ := ab_ok_t (by omega) hy
        have : ¬ nI o = -1 := fun q => by have := nI_pos (n := o) (by omega); rw [q] at this; exact this (by decide)
        exact ⟨some o, rfl, by simp [s_dou, this, nI_clamp (show o < 2 ^ 31 by omega)], fun o2 h => by cases h; exact ho⟩
    have e0 : s_rT2 S (nI pk) y (nI so) (nI ac) (nI fl) = s_rT S pk ou so ac fl := by unfold s_rT2; rw [c1, c3, c4, c5, ho1]
    have hr := s_rT_le S pk ou so ac fl
    unfold a_type o_type at hQ
    rw [hv, e0, c1, c3, c4, c5, ho1] at hQ
    generalize hrr : s_rT S pk ou so ac fl = rr at hQ hr
    have hy2 : y = -1 ∨ ab_ok (s_nT S) y = true := hy
    by_cases h0 : 0 < rr
    · rw [if_pos rfl, if_pos h0, if_neg (by omega)] at hQ
      have hQ := hQ μ R SameD.rf (Or.inl ⟨SameK.rf, rfl⟩)
      repeat' (first | refine hj _ _ _ _ ?_ | (refine br_c (fun h => ?_) (fun h => ?_) <;> (try simp (disch := omega) only [nI_clamp, li_2, li_3, li_4, li_5, li_6, li_7, li_8, li_9, li_10, li_40, li_120, pk_mul, nI_add, nI_1, ix_eq, ix_lt, ix_le, ix_l0, ix_l1, ix_n0, ix_p0, ix_1lt, ix_lt1, ix_1le, ix_le1, ix_le0, ix_0lt, ab_z0, ab_z1, i_10, i_01, eq_self, ab_ozn, ab_ozp, ab_o_some, not_true_eq_false, not_false_eq_true, Bool.not_eq_false, Bool.not_eq_true, Bool.not_eq_false', Bool.not_eq_true', Bool.false_eq_true, Bool.true_eq_false, reduceCtorEq, Option.isSome_some, Option.isSome_none, r44, r45, r46, r47, r48, r49, r50, r51, r52, r53, r54, r55, r56, r57, r58, r59, r60, r61, g0, g2, g6, g16, hx, hf1, hf2, Bool.and_self] at h) <;> (try omega)) | (refine br_n (fun h => ?_) (fun h => ?_) <;> (try simp (disch := omega) only [nI_clamp, li_2, li_3, li_4, li_5, li_6, li_7, li_8, li_9, li_10, li_40, li_120, pk_mul, nI_add, nI_1, ix_eq, ix_lt, ix_le, ix_l0, ix_l1, ix_n0, ix_p0, ix_1lt, ix_lt1, ix_1le, ix_le1, ix_le0, ix_0lt, ab_z0, ab_z1, i_10, i_01, eq_self, ab_ozn, ab_ozp, ab_o_some, not_true_eq_false, not_false_eq_true, Bool.not_eq_false, Bool.not_eq_true, Bool.not_eq_false', Bool.not_eq_true', Bool.false_eq_true, Bool.true_eq_false, reduceCtorEq, Option.isSome_some, Option.isSome_none, r44, r45, r46, r47, r48, r49, r50, r51, r52, r53, r54, r55, r56, r57, r58, r59, r60, r61, g0, g2, g6, g16, hx, hf1, hf2, Bool.and_self] at h) <;> (try omega)) | refine ab_sd (by first | (with_reducible refine vp_in_nI ?_ ?_ <;> omega) | (simp (disch := omega) only [nI_clamp, li_2, li_3, li_4, li_5, li_6, li_7, li_8, li_9, li_10, li_40, li_120, pk_mul, nI_add, nI_1, ix_eq, ix_lt, ix_le, ix_l0, ix_l1, ix_n0, ix_p0, ix_1lt, ix_lt1, ix_1le, ix_le1, ix_le0, ix_0lt, ab_z0, ab_z1, i_10, i_01, eq_self, ab_ozn, ab_ozp, ab_o_some, not_true_eq_false, not_false_eq_true, Bool.not_eq_false, Bool.not_eq_true, Bool.not_eq_false', Bool.not_eq_true', Bool.false_eq_true, Bool.true_eq_false, reduceCtorEq, Option.isSome_some, Option.isSome_none, r44, r45, r46, r47, r48, r49, r50, r51, r52, r53, r54, r55, r56, r57, r58, r59, r60, r61, g0, g2, g6, g16, hx, hf1, hf2, Bool.and_self]; with_reducible refine vp_in_nI ?_ ?_ <;> omega)) ?_ | refine r_noPack hω R ?_ | refine r_noType hω R ?_ | refine r_noForm hω ?_ | (refine r_ruleOfType hω R hW rfl hou rfl rfl rfl (by omega) ho2 hso hac hfl ?_; rw [hrr]) | refine ab_sd ?_ ?_ | refine ab_sz (Or.inl rfl) ?_ | refine ab_sz (Or.inr rfl) ?_ | refine ab_sz ?_ ?_)
      all_goals first | (show Q _ _; with_reducible exact hQ) | (exfalso; clear hj hw hQ; grind)
    · by_cases h4 : s_nT S = 40
      · rw [if_pos rfl, if_neg h0, if_pos h4, if_neg (by omega)] at hQ
        have hQ := hQ μ R SameD.rf (Or.inl ⟨SameK.rf, rfl⟩)
        repeat' (first | refine hj _ _ _ _ ?_ | (refine br_c (fun h => ?_) (fun h => ?_) <;> (try simp (disch := omega) only [nI_clamp, li_2, li_3, li_4, li_5, li_6, li_7, li_8, li_9, li_10, li_40, li_120, pk_mul, nI_add, nI_1, ix_eq, ix_lt, ix_le, ix_l0, ix_l1, ix_n0, ix_p0, ix_1lt, ix_lt1, ix_1le, ix_le1, ix_le0, ix_0lt, ab_z0, ab_z1, i_10, i_01, eq_self, ab_ozn, ab_ozp, ab_o_some, not_true_eq_false, not_false_eq_true, Bool.not_eq_false, Bool.not_eq_true, Bool.not_eq_false', Bool.not_eq_true', Bool.false_eq_true, Bool.true_eq_false, reduceCtorEq, Option.isSome_some, Option.isSome_none, r44, r45, r46, r47, r48, r49, r50, r51, r52, r53, r54, r55, r56, r57, r58, r59, r60, r61, g0, g2, g6, g16, hx, hf1, hf2, Bool.and_self] at h) <;> (try omega)) | (refine br_n (fun h => ?_) (fun h => ?_) <;> (try simp (disch := omega) only [nI_clamp, li_2, li_3, li_4, li_5, li_6, li_7, li_8, li_9, li_10, li_40, li_120, pk_mul, nI_add, nI_1, ix_eq, ix_lt, ix_le, ix_l0, ix_l1, ix_n0, ix_p0, ix_1lt, ix_lt1, ix_1le, ix_le1, ix_le0, ix_0lt, ab_z0, ab_z1, i_10, i_01, eq_self, ab_ozn, ab_ozp, ab_o_some, not_true_eq_false, not_false_eq_true, Bool.not_eq_false, Bool.not_eq_true, Bool.not_eq_false', Bool.not_eq_true', Bool.false_eq_true, Bool.true_eq_false, reduceCtorEq, Option.isSome_some, Option.isSome_none, r44, r45, r46, r47, r48, r49, r50, r51, r52, r53, r54, r55, r56, r57, r58, r59, r60, r61, g0, g2, g6, g16, hx, hf1, hf2, Bool.and_self] at h) <;> (try omega)) | refine ab_sd (by first | (with_reducible refine vp_in_nI ?_ ?_ <;> omega) | (simp (disch := omega) only [nI_clamp, li_2, li_3, li_4, li_5, li_6, li_7, li_8, li_9, li_10, li_40, li_120, pk_mul, nI_add, nI_1, ix_eq, ix_lt, ix_le, ix_l0, ix_l1, ix_n0, ix_p0, ix_1lt, ix_lt1, ix_1le, ix_le1, ix_le0, ix_0lt, ab_z0, ab_z1, i_10, i_01, eq_self, ab_ozn, ab_ozp, ab_o_some, not_true_eq_false, not_false_eq_true, Bool.not_eq_false, Bool.not_eq_true, Bool.not_eq_false', Bool.not_eq_true', Bool.false_eq_true, Bool.true_eq_false, reduceCtorEq, Option.isSome_some, Option.isSome_none, r44, r45, r46, r47, r48, r49, r50, r51, r52, r53, r54, r55, r56, r57, r58, r59, r60, r61, g0, g2, g6, g16, hx, hf1, hf2, Bool.and_self]; with_reducible refine vp_in_nI ?_ ?_ <;> omega)) ?_ | refine r_noPack hω R ?_ | refine r_noType hω R ?_ | refine r_noForm hω ?_ | (refine r_ruleOfType hω R hW rfl hou rfl rfl rfl (by omega) ho2 hso hac hfl ?_; rw [hrr]) | refine ab_sd ?_ ?_ | refine ab_sz (Or.inl rfl) ?_ | refine ab_sz (Or.inr rfl) ?_ | refine ab_sz ?_ ?_)
        all_goals first | (show Q _ _; with_reducible exact hQ) | (exfalso; clear hj hw hQ; grind)
      · rw [if_pos rfl, if_neg h0, if_neg h4, if_pos ⟨rfl, by omega, h4⟩] at hQ
        have h00 : rr = 0 := by omega
        subst h00
        have hn1 : ((0 : Int32) ≤ ab_o1 none) ↔ False := ⟨fun q => absurd q (by decide), False.elim⟩
        have hs : so = 0 ∨ so = 1 := by omega
        have done : ∀ μ', μ' = ab_mi (ab_mi (ab_mi (ab_mi (ab_mi (ab_mi (ab_mi (ab_mi (ab_mi μ 43 6 (nI (s_nT S + 1))) 48 (s_nT S) (nI pk)) 49 (s_nT S) (ab_o ou)) 50 (s_nT S) (nI so)) 51 (s_nT S) (nI ac)) 52 (s_nT S) (nI fl)) 53 (s_nT S) (ab_o (if so = 0 then some 0 else none))) 56 (40 * s_nT S) (ab_z (so == 0))) 43 22 0 → Q (nI (s_nT S)) μ' := by
          intro μ' hμ
          refine hQ μ' (rep_type R hμ) ?_ (Or.inr ?_)
          · rw [hμ]
            exact ((((((((SameD.rf.mi (k := 43) (by omega)).mi (k := 48) (by omega)).mi (k := 49) (by omega)).mi (k := 50) (by omega)).mi (k := 51) (by omega)).mi (k := 52) (by omega)).mi (k := 53) (by omega)).mi (k := 56) (by omega)).mi (k := 43) (by omega)
          · rw [hμ]
            exact mi_eq
        clear hQ
        have n1 : ((0 : Int32) ≤ -1) ↔ False := ⟨fun q => absurd q (by decide), False.elim⟩
        cases ou with
        | none =>
          have hy3 : y = -1 := hou
          subst hy3
          rcases hs with rfl | rfl
          · repeat' (first | refine hj _ _ _ _ ?_ | (refine br_c (fun h => ?_) (fun h => ?_) <;> (try simp (disch := omega) only [nI_clamp, li_2, li_3, li_4, li_5, li_6, li_7, li_8, li_9, li_10, li_40, li_120, pk_mul, nI_add, nI_1, ix_eq, ix_lt, ix_le, ix_l0, ix_l1, ix_n0, ix_p0, ix_1lt, ix_lt1, ix_1le, ix_le1, ix_le0, ix_0lt, ab_z0, ab_z1, i_10, i_01, eq_self, ab_ozn, ab_ozp, ab_o_some, not_true_eq_false, not_false_eq_true, Bool.not_eq_false, Bool.not_eq_true, Bool.not_eq_false', Bool.not_eq_true', Bool.false_eq_true, Bool.true_eq_false, reduceCtorEq, Option.isSome_some, Option.isSome_none, r44, r45, r46, r47, r48, r49, r50, r51, r52, r53, r54, r55, r56, r57, r58, r59, r60, r61, g0, g2, g6, g16, hx, hf1, hf2, Bool.and_self, n1] at h) <;> (try omega)) | (refine br_n (fun h => ?_) (fun h => ?_) <;> (try simp (disch := omega) only [nI_clamp, li_2, li_3, li_4, li_5, li_6, li_7, li_8, li_9, li_10, li_40, li_120, pk_mul, nI_add, nI_1, ix_eq, ix_lt, ix_le, ix_l0, ix_l1, ix_n0, ix_p0, ix_1lt, ix_lt1, ix_1le, ix_le1, ix_le0, ix_0lt, ab_z0, ab_z1, i_10, i_01, eq_self, ab_ozn, ab_ozp, ab_o_some, not_true_eq_false, not_false_eq_true, Bool.not_eq_false, Bool.not_eq_true, Bool.not_eq_false', Bool.not_eq_true', Bool.false_eq_true, Bool.true_eq_false, reduceCtorEq, Option.isSome_some, Option.isSome_none, r44, r45, r46, r47, r48, r49, r50, r51, r52, r53, r54, r55, r56, r57, r58, r59, r60, r61, g0, g2, g6, g16, hx, hf1, hf2, Bool.and_self, n1] at h) <;> (try omega)) | refine ab_sd (by first | (with_reducible refine vp_in_nI ?_ ?_ <;> omega) | (simp (disch := omega) only [nI_clamp, li_2, li_3, li_4, li_5, li_6, li_7, li_8, li_9, li_10, li_40, li_120, pk_mul, nI_add, nI_1, ix_eq, ix_lt, ix_le, ix_l0, ix_l1, ix_n0, ix_p0, ix_1lt, ix_lt1, ix_1le, ix_le1, ix_le0, ix_0lt, ab_z0, ab_z1, i_10, i_01, eq_self, ab_ozn, ab_ozp, ab_o_some, not_true_eq_false, not_false_eq_true, Bool.not_eq_false, Bool.not_eq_true, Bool.not_eq_false', Bool.not_eq_true', Bool.false_eq_true, Bool.true_eq_false, reduceCtorEq, Option.isSome_some, Option.isSome_none, r44, r45, r46, r47, r48, r49, r50, r51, r52, r53, r54, r55, r56, r57, r58, r59, r60, r61, g0, g2, g6, g16, hx, hf1, hf2, Bool.and_self, n1]; with_reducible refine vp_in_nI ?_ ?_ <;> omega)) ?_ | refine r_noPack hω R ?_ | refine r_noType hω R ?_ | refine r_noForm hω ?_ | (refine r_ruleOfType hω R hW rfl hou rfl rfl rfl (by omega) ho2 hso hac hfl ?_; rw [hrr]) | refine ab_sd ?_ ?_ | refine ab_sz (Or.inl rfl) ?_ | refine ab_sz (Or.inr rfl) ?_ | refine ab_sz ?_ ?_)
            all_goals first | (show Q _ _; simp (disch := omega) only [g6, nI_1, nI_clamp, li_40, pk_mul]; exact done _ rfl) | (exfalso; clear hj hw done; simp_all; done)
          · repeat' (first | refine hj _ _ _ _ ?_ | (refine br_c (fun h => ?_) (fun h => ?_) <;> (try simp (disch := omega) only [nI_clamp, li_2, li_3, li_4, li_5, li_6, li_7, li_8, li_9, li_10, li_40, li_120, pk_mul, nI_add, nI_1, ix_eq, ix_lt, ix_le, ix_l0, ix_l1, ix_n0, ix_p0, ix_1lt, ix_lt1, ix_1le, ix_le1, ix_le0, ix_0lt, ab_z0, ab_z1, i_10, i_01, eq_self, ab_ozn, ab_ozp, ab_o_some, not_true_eq_false, not_false_eq_true, Bool.not_eq_false, Bool.not_eq_true, Bool.not_eq_false', Bool.not_eq_true', Bool.false_eq_true, Bool.true_eq_false, reduceCtorEq, Option.isSome_some, Option.isSome_none, r44, r45, r46, r47, r48, r49, r50, r51, r52, r53, r54, r55, r56, r57, r58, r59, r60, r61, g0, g2, g6, g16, hx, hf1, hf2, Bool.and_self, n1] at h) <;> (try omega)) | (refine br_n (fun h => ?_) (fun h => ?_) <;> (try simp (disch := omega) only [nI_clamp, li_2, li_3, li_4, li_5, li_6, li_7, li_8, li_9, li_10, li_40, li_120, pk_mul, nI_add, nI_1, ix_eq, ix_lt, ix_le, ix_l0, ix_l1, ix_n0, ix_p0, ix_1lt, ix_lt1, ix_1le, ix_le1, ix_le0, ix_0lt, ab_z0, ab_z1, i_10, i_01, eq_self, ab_ozn, ab_ozp, ab_o_some, not_true_eq_false, not_false_eq_true, Bool.not_eq_false, Bool.not_eq_true, Bool.not_eq_false', Bool.not_eq_true', Bool.false_eq_true, Bool.true_eq_false, reduceCtorEq, Option.isSome_some, Option.isSome_none, r44, r45, r46, r47, r48, r49, r50, r51, r52, r53, r54, r55, r56, r57, r58, r59, r60, r61, g0, g2, g6, g16, hx, hf1, hf2, Bool.and_self, n1] at h) <;> (try omega)) | refine ab_sd (by first | (with_reducible refine vp_in_nI ?_ ?_ <;> omega) | (simp (disch := omega) only [nI_clamp, li_2, li_3, li_4, li_5, li_6, li_7, li_8, li_9, li_10, li_40, li_120, pk_mul, nI_add, nI_1, ix_eq, ix_lt, ix_le, ix_l0, ix_l1, ix_n0, ix_p0, ix_1lt, ix_lt1, ix_1le, ix_le1, ix_le0, ix_0lt, ab_z0, ab_z1, i_10, i_01, eq_self, ab_ozn, ab_ozp, ab_o_some, not_true_eq_false, not_false_eq_true, Bool.not_eq_false, Bool.not_eq_true, Bool.not_eq_false', Bool.not_eq_true', Bool.false_eq_true, Bool.true_eq_false, reduceCtorEq, Option.isSome_some, Option.isSome_none, r44, r45, r46, r47, r48, r49, r50, r51, r52, r53, r54, r55, r56, r57, r58, r59, r60, r61, g0, g2, g6, g16, hx, hf1, hf2, Bool.and_self, n1]; with_reducible refine vp_in_nI ?_ ?_ <;> omega)) ?_ | refine r_noPack hω R ?_ | refine r_noType hω R ?_ | refine r_noForm hω ?_ | (refine r_ruleOfType hω R hW rfl hou rfl rfl rfl (by omega) ho2 hso hac hfl ?_; rw [hrr]) | refine ab_sd ?_ ?_ | refine ab_sz (Or.inl rfl) ?_ | refine ab_sz (Or.inr rfl) ?_ | refine ab_sz ?_ ?_)
            all_goals first | (show Q _ _; simp (disch := omega) only [g6, nI_1, nI_clamp, li_40, pk_mul]; exact done _ rfl) | (exfalso; clear hj hw done; simp_all; done)
        | some o =>
          have hy3 : y = nI o := hou
          subst hy3
          have ho3 := ho2 o rfl
          have ho4 := ab_ok_nI (n := s_nT S) (by omega) ho3
          rcases hs with rfl | rfl
          · repeat' (first | refine hj _ _ _ _ ?_ | (refine br_c (fun h => ?_) (fun h => ?_) <;> (try simp (disch := omega) only [nI_clamp, li_2, li_3, li_4, li_5, li_6, li_7, li_8, li_9, li_10, li_40, li_120, pk_mul, nI_add, nI_1, ix_eq, ix_lt, ix_le, ix_l0, ix_l1, ix_n0, ix_p0, ix_1lt, ix_lt1, ix_1le, ix_le1, ix_le0, ix_0lt, ab_z0, ab_z1, i_10, i_01, eq_self, ab_ozn, ab_ozp, ab_o_some, not_true_eq_false, not_false_eq_true, Bool.not_eq_false, Bool.not_eq_true, Bool.not_eq_false', Bool.not_eq_true', Bool.false_eq_true, Bool.true_eq_false, reduceCtorEq, Option.isSome_some, Option.isSome_none, r44, r45, r46, r47, r48, r49, r50, r51, r52, r53, r54, r55, r56, r57, r58, r59, r60, r61, g0, g2, g6, g16, hx, hf1, hf2, Bool.and_self, ho4] at h) <;> (try omega)) | (refine br_n (fun h => ?_) (fun h => ?_) <;> (try simp (disch := omega) only [nI_clamp, li_2, li_3, li_4, li_5, li_6, li_7, li_8, li_9, li_10, li_40, li_120, pk_mul, nI_add, nI_1, ix_eq, ix_lt, ix_le, ix_l0, ix_l1, ix_n0, ix_p0, ix_1lt, ix_lt1, ix_1le, ix_le1, ix_le0, ix_0lt, ab_z0, ab_z1, i_10, i_01, eq_self, ab_ozn, ab_ozp, ab_o_some, not_true_eq_false, not_false_eq_true, Bool.not_eq_false, Bool.not_eq_true, Bool.not_eq_false', Bool.not_eq_true', Bool.false_eq_true, Bool.true_eq_false, reduceCtorEq, Option.isSome_some, Option.isSome_none, r44, r45, r46, r47, r48, r49, r50, r51, r52, r53, r54, r55, r56, r57, r58, r59, r60, r61, g0, g2, g6, g16, hx, hf1, hf2, Bool.and_self, ho4] at h) <;> (try omega)) | refine ab_sd (by first | (with_reducible refine vp_in_nI ?_ ?_ <;> omega) | (simp (disch := omega) only [nI_clamp, li_2, li_3, li_4, li_5, li_6, li_7, li_8, li_9, li_10, li_40, li_120, pk_mul, nI_add, nI_1, ix_eq, ix_lt, ix_le, ix_l0, ix_l1, ix_n0, ix_p0, ix_1lt, ix_lt1, ix_1le, ix_le1, ix_le0, ix_0lt, ab_z0, ab_z1, i_10, i_01, eq_self, ab_ozn, ab_ozp, ab_o_some, not_true_eq_false, not_false_eq_true, Bool.not_eq_false, Bool.not_eq_true, Bool.not_eq_false', Bool.not_eq_true', Bool.false_eq_true, Bool.true_eq_false, reduceCtorEq, Option.isSome_some, Option.isSome_none, r44, r45, r46, r47, r48, r49, r50, r51, r52, r53, r54, r55, r56, r57, r58, r59, r60, r61, g0, g2, g6, g16, hx, hf1, hf2, Bool.and_self, ho4]; with_reducible refine vp_in_nI ?_ ?_ <;> omega)) ?_ | refine r_noPack hω R ?_ | refine r_noType hω R ?_ | refine r_noForm hω ?_ | (refine r_ruleOfType hω R hW rfl hou rfl rfl rfl (by omega) ho2 hso hac hfl ?_; rw [hrr]) | refine ab_sd ?_ ?_ | refine ab_sz (Or.inl rfl) ?_ | refine ab_sz (Or.inr rfl) ?_ | refine ab_sz ?_ ?_)
            all_goals first | (show Q _ _; simp (disch := omega) only [g6, nI_1, nI_clamp, li_40, pk_mul]; exact done _ rfl) | (exfalso; clear hj hw done; simp_all; done)
          · repeat' (first | refine hj _ _ _ _ ?_ | (refine br_c (fun h => ?_) (fun h => ?_) <;> (try simp (disch := omega) only [nI_clamp, li_2, li_3, li_4, li_5, li_6, li_7, li_8, li_9, li_10, li_40, li_120, pk_mul, nI_add, nI_1, ix_eq, ix_lt, ix_le, ix_l0, ix_l1, ix_n0, ix_p0, ix_1lt, ix_lt1, ix_1le, ix_le1, ix_le0, ix_0lt, ab_z0, ab_z1, i_10, i_01, eq_self, ab_ozn, ab_ozp, ab_o_some, not_true_eq_false, not_false_eq_true, Bool.not_eq_false, Bool.not_eq_true, Bool.not_eq_false', Bool.not_eq_true', Bool.false_eq_true, Bool.true_eq_false, reduceCtorEq, Option.isSome_some, Option.isSome_none, r44, r45, r46, r47, r48, r49, r50, r51, r52, r53, r54, r55, r56, r57, r58, r59, r60, r61, g0, g2, g6, g16, hx, hf1, hf2, Bool.and_self, ho4] at h) <;> (try omega)) | (refine br_n (fun h => ?_) (fun h => ?_) <;> (try simp (disch := omega) only [nI_clamp, li_2, li_3, li_4, li_5, li_6, li_7, li_8, li_9, li_10, li_40, li_120, pk_mul, nI_add, nI_1, ix_eq, ix_lt, ix_le, ix_l0, ix_l1, ix_n0, ix_p0, ix_1lt, ix_lt1, ix_1le, ix_le1, ix_le0, ix_0lt, ab_z0, ab_z1, i_10, i_01, eq_self, ab_ozn, ab_ozp, ab_o_some, not_true_eq_false, not_false_eq_true, Bool.not_eq_false, Bool.not_eq_true, Bool.not_eq_false', Bool.not_eq_true', Bool.false_eq_true, Bool.true_eq_false, reduceCtorEq, Option.isSome_some, Option.isSome_none, r44, r45, r46, r47, r48, r49, r50, r51, r52, r53, r54, r55, r56, r57, r58, r59, r60, r61, g0, g2, g6, g16, hx, hf1, hf2, Bool.and_self, ho4] at h) <;> (try omega)) | refine ab_sd (by first | (with_reducible refine vp_in_nI ?_ ?_ <;> omega) | (simp (disch := omega) only [nI_clamp, li_2, li_3, li_4, li_5, li_6, li_7, li_8, li_9, li_10, li_40, li_120, pk_mul, nI_add, nI_1, ix_eq, ix_lt, ix_le, ix_l0, ix_l1, ix_n0, ix_p0, ix_1lt, ix_lt1, ix_1le, ix_le1, ix_le0, ix_0lt, ab_z0, ab_z1, i_10, i_01, eq_self, ab_ozn, ab_ozp, ab_o_some, not_true_eq_false, not_false_eq_true, Bool.not_eq_false, Bool.not_eq_true, Bool.not_eq_false', Bool.not_eq_true', Bool.false_eq_true, Bool.true_eq_false, reduceCtorEq, Option.isSome_some, Option.isSome_none, r44, r45, r46, r47, r48, r49, r50, r51, r52, r53, r54, r55, r56, r57, r58, r59, r60, r61, g0, g2, g6, g16, hx, hf1, hf2, Bool.and_self, ho4]; with_reducible refine vp_in_nI ?_ ?_ <;> omega)) ?_ | refine r_noPack hω R ?_ | refine r_noType hω R ?_ | refine r_noForm hω ?_ | (refine r_ruleOfType hω R hW rfl hou rfl rfl rfl (by omega) ho2 hso hac hfl ?_; rw [hrr]) | refine ab_sd ?_ ?_ | refine ab_sz (Or.inl rfl) ?_ | refine ab_sz (Or.inr rfl) ?_ | refine ab_sz ?_ ?_)
            all_goals first | (show Q _ _; simp (disch := omega) only [g6, nI_1, nI_clamp, li_40, pk_mul]; exact done _ rfl) | (exfalso; clear hj hw done; simp_all; done)
end R8
