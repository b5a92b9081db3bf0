theorem mi_rd {μ : ab_M} {k j a b : Nat} {x : Int32} : (ab_mi μ k j x).1 a b = if a = k ∧ b = j then x else μ.1 a b := rfl
section R4
variable {l : Launch} {ω : ab_W} {S : sT} {μ : ab_M} {Q : Int32 → ab_M → Prop}
theorem r_module (hω : ω.2.2.2 = ab_SH) (R : RepR S μ) (hW : Wf S) (hQ : ∀ μ', RepR (o_module S) μ' → SameC μ μ' → SameK μ μ' → Q (a_module S) μ') : ab_CI l ω mX11_module [.ref 43] μ Q := by
  refine ab_intro (sh := ab_SH) (cd := kX11_module) hω vX11_module (by decide +kernel) rfl (Nat.le_of_ble_eq_true rfl) (fun j hj hw => ?_)
  obtain ⟨r44, r45, r46, r47, r48, r49, r50, r51, r52, r53, r54, r55, r56, r57, r58, r59, r60, r61, g0, g2, g6, g16⟩ := RepR_fs R
  have hM := hW.1.2
  repeat' (first | refine hj _ _ _ _ ?_ | (refine br_c (fun h => ?_) (fun h => ?_) <;> (try simp (disch := omega) only [nI_clamp, li_2, li_3, li_4, li_5, li_6, li_7, li_8, li_9, li_10, li_40, li_120, pk_mul, nI_add, nI_1, ix_eq, ix_lt, ix_le, ix_l0, ix_l1, ix_n0, ix_p0, ix_1lt, ix_lt1, ix_1le, ix_le1, ix_le0, ix_0lt, ab_z0, ab_z1, ab_zt, ab_zf, ab_ozn, ab_ozp, ab_o_some, not_true_eq_false, not_false_eq_true, Bool.not_eq_false, Bool.not_eq_true, Bool.not_eq_false', Bool.not_eq_true', r44, r45, r46, r47, r48, r49, r50, r51, r52, r53, r54, r55, r56, r57, r58, r59, r60, r61, g0, g2, g6, g16] at h)) | (refine br_n (fun h => ?_) (fun h => ?_) <;> (try simp (disch := omega) only [nI_clamp, li_2, li_3, li_4, li_5, li_6, li_7, li_8, li_9, li_10, li_40, li_120, pk_mul, nI_add, nI_1, ix_eq, ix_lt, ix_le, ix_l0, ix_l1, ix_n0, ix_p0, ix_1lt, ix_lt1, ix_1le, ix_le1, ix_le0, ix_0lt, ab_z0, ab_z1, ab_zt, ab_zf, ab_ozn, ab_ozp, ab_o_some, not_true_eq_false, not_false_eq_true, Bool.not_eq_false, Bool.not_eq_true, Bool.not_eq_false', Bool.not_eq_true', r44, r45, r46, r47, r48, r49, r50, r51, r52, r53, r54, r55, r56, r57, r58, r59, r60, r61, g0, g2, g6, g16] at h)) | refine ab_sd (by first | (with_reducible refine vp_in_nI ?_ ?_ <;> omega) | (simp (disch := omega) only [nI_clamp, li_2, li_3, li_4, li_5, li_6, li_7, li_8, li_9, li_10, li_40, li_120, pk_mul, nI_add, nI_1, ix_eq, ix_lt, ix_le, ix_l0, ix_l1, ix_n0, ix_p0, ix_1lt, ix_lt1, ix_1le, ix_le1, ix_le0, ix_0lt, ab_z0, ab_z1, ab_zt, ab_zf, ab_ozn, ab_ozp, ab_o_some, not_true_eq_false, not_false_eq_true, Bool.not_eq_false, Bool.not_eq_true, Bool.not_eq_false', Bool.not_eq_true', r44, r45, r46, r47, r48, r49, r50, r51, r52, r53, r54, r55, r56, r57, r58, r59, r60, r61, g0, g2, g6, g16]; with_reducible refine vp_in_nI ?_ ?_ <;> omega)) ?_ | refine ab_sd ?_ ?_ | refine ab_sz (Or.inl rfl) ?_ | refine ab_sz (Or.inr rfl) ?_ | refine ab_sz ?_ ?_)
  · have h6 : ¬ s_nM S = 6 := h
    have e1 : a_module S = nI (s_nM S) := by simp [a_module, h6]
    have e2 : o_module S = s_un (s_ub S 44 (6 * s_nM S) true) 43 0 (s_nM S + 1) := by simp [o_module, h6]
    rw [e1, e2] at hQ
    show Q _ _
    simp (disch := omega) only [mi_rd, g0, li_6, pk_mul, nI_clamp, nI_1]
    exact q_of (hQ _ (rep_u (rep_ub (k := 44) (j := 6 * s_nM S) (v := true) R rfl) (k := 43) (j := 0) rfl (by omega)) ((SameC.rf.mi (by omega)).mi (by omega)) ((SameK.rf.mi (by omega) (by omega) (by omega)).mi (by omega) (by omega) (by omega))) (by simp [nI_pred])
  · have h6 : s_nM S = 6 := h
    have e1 : a_module S = -4 := by simp [a_module, h6]
    have e2 : o_module S = S := by simp [o_module, h6]
    rw [e1, e2] at hQ
    exact hQ μ R SameC.rf SameK.rf
theorem r_reads (hω : ω.2.2.2 = ab_SH) (R : RepR S μ) (hW : Wf S) {x y : Int32} (hQ : ∀ μ', RepR (o_reads S x y) μ' → SameC μ μ' → SameK μ μ' → Q (a_reads S x y) μ') : ab_CI l ω mX11_reads [.ref 43, .int x, .int y] μ Q := by
  refine ab_intro (sh := ab_SH) (cd := kX11_reads) hω vX11_reads (by decide +kernel) rfl (Nat.le_of_ble_eq_true rfl) (fun j hj hw => ?_)
  obtain ⟨r44, r45, r46, r47, r48, r49, r50, r51, r52, r53, r54, r55, r56, r57, r58, r59, r60, r61, g0, g2, g6, g16⟩ := RepR_fs R
  have hM := hW.1.2
  cases hx : ab_ok (s_nM S) x && ab_ok (s_nM S) y with
  | false =>
    have e1 : a_reads S x y = -1 := by simp [a_reads, hx]
    have e2 : o_reads S x y = S := by simp [o_reads, e1]
    rw [e1, e2] at hQ
    have hQ := hQ μ R SameC.rf SameK.rf
    repeat' (first | refine hj _ _ _ _ ?_ | (refine br_c (fun h => ?_) (fun h => ?_) <;> (try simp (disch := omega) only [nI_clamp, li_2, li_3, li_4, li_5, li_6, li_7, li_8, li_9, li_10, li_40, li_120, pk_mul, nI_add, nI_1, ix_eq, ix_lt, ix_le, ix_l0, ix_l1, ix_n0, ix_p0, ix_1lt, ix_lt1, ix_1le, ix_le1, ix_le0, ix_0lt, ab_z0, ab_z1, ab_zt, ab_zf, ab_ozn, ab_ozp, ab_o_some, not_true_eq_false, not_false_eq_true, Bool.not_eq_false, Bool.not_eq_true, Bool.not_eq_false', Bool.not_eq_true', r44, r45, r46, r47, r48, r49, r50, r51, r52, r53, r54, r55, r56, r57, r58, r59, r60, r61, g0, g2, g6, g16] at h)) | (refine br_n (fun h => ?_) (fun h => ?_) <;> (try simp (disch := omega) only [nI_clamp, li_2, li_3, li_4, li_5, li_6, li_7, li_8, li_9, li_10, li_40, li_120, pk_mul, nI_add, nI_1, ix_eq, ix_lt, ix_le, ix_l0, ix_l1, ix_n0, ix_p0, ix_1lt, ix_lt1, ix_1le, ix_le1, ix_le0, ix_0lt, ab_z0, ab_z1, ab_zt, ab_zf, ab_ozn, ab_ozp, ab_o_some, not_true_eq_false, not_false_eq_true, Bool.not_eq_false, Bool.not_eq_true, Bool.not_eq_false', Bool.not_eq_true', r44, r45, r46, r47, r48, r49, r50, r51, r52, r53, r54, r55, r56, r57, r58, r59, r60, r61, g0, g2, g6, g16] at h)) | refine ab_sd (by first | (with_reducible refine vp_in_nI ?_ ?_ <;> omega) | (simp (disch := omega) only [nI_clamp, li_2, li_3, li_4, li_5, li_6, li_7, li_8, li_9, li_10, li_40, li_120, pk_mul, nI_add, nI_1, ix_eq, ix_lt, ix_le, ix_l0, ix_l1, ix_n0, ix_p0, ix_1lt, ix_lt1, ix_1le, ix_le1, ix_le0, ix_0lt, ab_z0, ab_z1, ab_zt, ab_zf, ab_ozn, ab_ozp, ab_o_some, not_true_eq_false, not_false_eq_true, Bool.not_eq_false, Bool.not_eq_true, Bool.not_eq_false', Bool.not_eq_true', r44, r45, r46, r47, r48, r49, r50, r51, r52, r53, r54, r55, r56, r57, r58, r59, r60, r61, g0, g2, g6, g16]; with_reducible refine vp_in_nI ?_ ?_ <;> omega)) ?_ | refine r_noModule hω R ?_ | refine ab_sd ?_ ?_ | refine ab_sz (Or.inl rfl) ?_ | refine ab_sz (Or.inr rfl) ?_ | refine ab_sz ?_ ?_)
    all_goals first | exact hQ | (exfalso; simp [*] at hx; done)
  | true =>
    have hxy : ab_ok (s_nM S) x = true ∧ ab_ok (s_nM S) y = true := by simpa using hx
    obtain ⟨hx1, hy1⟩ := hxy
    obtain ⟨m, hm, rfl⟩ := ab_ok_t (by omega) hx1
    obtain ⟨n, hn, rfl⟩ := ab_ok_t (by omega) hy1
    have c1 : (nI m).toNatClampNeg = m := nI_clamp (by omega)
    have c2 : (nI n).toNatClampNeg = n := nI_clamp (by omega)
    have c3 := ix_eq (a := m) (b := n) (by omega) (by omega)
    have e1 : a_reads S (nI m) (nI n) = if m = n ∨ S.2.1 44 (6 * m + n) = true then 0 else 1 := by simp [a_reads, hx1, hy1, c1, c2, c3]
    have e2 : o_reads S (nI m) (nI n) = if m = n ∨ S.2.1 44 (6 * m + n) = true then S else s_ub S 44 (6 * m + n) true := by
      unfold o_reads
      rw [e1, c1, c2]
      by_cases hc : m = n ∨ S.2.1 44 (6 * m + n) = true
      · simp [hc]
      · simp [hc]
    rw [e1, e2] at hQ
    repeat' (first | refine hj _ _ _ _ ?_ | (refine br_c (fun h => ?_) (fun h => ?_) <;> (try simp (disch := omega) only [nI_clamp, li_2, li_3, li_4, li_5, li_6, li_7, li_8, li_9, li_10, li_40, li_120, pk_mul, nI_add, nI_1, ix_eq, ix_lt, ix_le, ix_l0, ix_l1, ix_n0, ix_p0, ix_1lt, ix_lt1, ix_1le, ix_le1, ix_le0, ix_0lt, ab_z0, ab_z1, ab_zt, ab_zf, ab_ozn, ab_ozp, ab_o_some, not_true_eq_false, not_false_eq_true, Bool.not_eq_false, Bool.not_eq_true, Bool.not_eq_false', Bool.not_eq_true', r44, r45, r46, r47, r48, r49, r50, r51, r52, r53, r54, r55, r56, r57, r58, r59, r60, r61, g0, g2, g6, g16, hx1, hy1] at h)) | (refine br_n (fun h => ?_) (fun h => ?_) <;> (try simp (disch := omega) only [nI_clamp, li_2, li_3, li_4, li_5, li_6, li_7, li_8, li_9, li_10, li_40, li_120, pk_mul, nI_add, nI_1, ix_eq, ix_lt, ix_le, ix_l0, ix_l1, ix_n0, ix_p0, ix_1lt, ix_lt1, ix_1le, ix_le1, ix_le0, ix_0lt, ab_z0, ab_z1, ab_zt, ab_zf, ab_ozn, ab_ozp, ab_o_some, not_true_eq_false, not_false_eq_true, Bool.not_eq_false, Bool.not_eq_true, Bool.not_eq_false', Bool.not_eq_true', r44, r45, r46, r47, r48, r49, r50, r51, r52, r53, r54, r55, r56, r57, r58, r59, r60, r61, g0, g2, g6, g16, hx1, hy1] at h)) | refine ab_sd (by first | (with_reducible refine vp_in_nI ?_ ?_ <;> omega) | (simp (disch := omega) only [nI_clamp, li_2, li_3, li_4, li_5, li_6, li_7, li_8, li_9, li_10, li_40, li_120, pk_mul, nI_add, nI_1, ix_eq, ix_lt, ix_le, ix_l0, ix_l1, ix_n0, ix_p0, ix_1lt, ix_lt1, ix_1le, ix_le1, ix_le0, ix_0lt, ab_z0, ab_z1, ab_zt, ab_zf, ab_ozn, ab_ozp, ab_o_some, not_true_eq_false, not_false_eq_true, Bool.not_eq_false, Bool.not_eq_true, Bool.not_eq_false', Bool.not_eq_true', r44, r45, r46, r47, r48, r49, r50, r51, r52, r53, r54, r55, r56, r57, r58, r59, r60, r61, g0, g2, g6, g16, hx1, hy1]; with_reducible refine vp_in_nI ?_ ?_ <;> omega)) ?_ | refine r_noModule hω R ?_ | refine ab_sd ?_ ?_ | refine ab_sz (Or.inl rfl) ?_ | refine ab_sz (Or.inr rfl) ?_ | refine ab_sz ?_ ?_)
    · rw [if_pos (Or.inl h), if_pos (Or.inl h)] at hQ
      exact hQ μ R SameC.rf SameK.rf
    · rename_i h0 _
      rw [if_neg (by simp [h, h0]), if_neg (by simp [h, h0])] at hQ
      show Q _ _
      simp (disch := omega) only [ix_6, nI_clamp]
      exact hQ _ (rep_ub (k := 44) (j := 6 * m + n) (v := true) R rfl) (SameC.rf.mi (by omega)) (SameK.rf.mi (by omega) (by omega) (by omega))
    · rw [if_pos (Or.inr h), if_pos (Or.inr h)] at hQ
      exact hQ μ R SameC.rf SameK.rf
theorem r_pack (hω : ω.2.2.2 = ab_SH) (R : RepR S μ) (hW : Wf S) {x : Int32} (hQ : ∀ μ', RepR (o_pack S x) μ' → SameC μ μ' → SameK μ μ' → Q (a_pack S x) μ') : ab_CI l ω mX11_pack [.ref 43, .int x] μ Q := by
  refine ab_intro (sh := ab_SH) (cd := kX11_pack) hω vX11_pack (by decide +kernel) rfl (Nat.le_of_ble_eq_true rfl) (fun j hj hw => ?_)
  obtain ⟨r44, r45, r46, r47, r48, r49, r50, r51, r52, r53, r54, r55, r56, r57, r58, r59, r60, r61, g0, g2, g6, g16⟩ := RepR_fs R
  have hM := hW.1.2
  have hP := hW.2.1.2
  cases hx : ab_ok (s_nM S) x with
  | false =>
    have e1 : a_pack S x = -1 := by simp [a_pack, hx]
    have e2 : o_pack S x = S := by simp [o_pack, hx]
    rw [e1, e2] at hQ
    have hQ := hQ μ R SameC.rf SameK.rf
    repeat' (first | refine hj _ _ _ _ ?_ | (refine br_c (fun h => ?_) (fun h => ?_) <;> (try simp (disch := omega) only [nI_clamp, li_2, li_3, li_4, li_5, li_6, li_7, li_8, li_9, li_10, li_40, li_120, pk_mul, nI_add, nI_1, ix_eq, ix_lt, ix_le, ix_l0, ix_l1, ix_n0, ix_p0, ix_1lt, ix_lt1, ix_1le, ix_le1, ix_le0, ix_0lt, ab_z0, ab_z1, ab_zt, ab_zf, ab_ozn, ab_ozp, ab_o_some, not_true_eq_false, not_false_eq_true, Bool.not_eq_false, Bool.not_eq_true, Bool.not_eq_false', Bool.not_eq_true', r44, r45, r46, r47, r48, r49, r50, r51, r52, r53, r54, r55, r56, r57, r58, r59, r60, r61, g0, g2, g6, g16, hx] at h)) | (refine br_n (fun h => ?_) (fun h => ?_) <;> (try simp (disch := omega) only [nI_clamp, li_2, li_3, li_4, li_5, li_6, li_7, li_8, li_9, li_10, li_40, li_120, pk_mul, nI_add, nI_1, ix_eq, ix_lt, ix_le, ix_l0, ix_l1, ix_n0, ix_p0, ix_1lt, ix_lt1, ix_1le, ix_le1, ix_le0, ix_0lt, ab_z0, ab_z1, ab_zt, ab_zf, ab_ozn, ab_ozp, ab_o_some, not_true_eq_false, not_false_eq_true, Bool.not_eq_false, Bool.not_eq_true, Bool.not_eq_false', Bool.not_eq_true', r44, r45, r46, r47, r48, r49, r50, r51, r52, r53, r54, r55, r56, r57, r58, r59, r60, r61, g0, g2, g6, g16, hx] at h)) | refine ab_sd (by first | (with_reducible refine vp_in_nI ?_ ?_ <;> omega) | (simp (disch := omega) only [nI_clamp, li_2, li_3, li_4, li_5, li_6, li_7, li_8, li_9, li_10, li_40, li_120, pk_mul, nI_add, nI_1, ix_eq, ix_lt, ix_le, ix_l0, ix_l1, ix_n0, ix_p0, ix_1lt, ix_lt1, ix_1le, ix_le1, ix_le0, ix_0lt, ab_z0, ab_z1, ab_zt, ab_zf, ab_ozn, ab_ozp, ab_o_some, not_true_eq_false, not_false_eq_true, Bool.not_eq_false, Bool.not_eq_true, Bool.not_eq_false', Bool.not_eq_true', r44, r45, r46, r47, r48, r49, r50, r51, r52, r53, r54, r55, r56, r57, r58, r59, r60, r61, g0, g2, g6, g16, hx]; with_reducible refine vp_in_nI ?_ ?_ <;> omega)) ?_ | refine r_noModule hω R ?_ | refine ab_sd ?_ ?_ | refine ab_sz (Or.inl rfl) ?_ | refine ab_sz (Or.inr rfl) ?_ | refine ab_sz ?_ ?_)
    all_goals first | exact hQ | (exfalso; simp [*] at hx; done)
  | true =>
    obtain ⟨m, hm, rfl⟩ := ab_ok_t (by omega) hx
    have c1 : (nI m).toNatClampNeg = m := nI_clamp (by omega)
    unfold a_pack o_pack at hQ
    rw [hx, c1] at hQ
    repeat' (first | refine hj _ _ _ _ ?_ | (refine br_c (fun h => ?_) (fun h => ?_) <;> (try simp (disch := omega) only [nI_clamp, li_2, li_3, li_4, li_5, li_6, li_7, li_8, li_9, li_10, li_40, li_120, pk_mul, nI_add, nI_1, ix_eq, ix_lt, ix_le, ix_l0, ix_l1, ix_n0, ix_p0, ix_1lt, ix_lt1, ix_1le, ix_le1, ix_le0, ix_0lt, ab_z0, ab_z1, ab_zt, ab_zf, ab_ozn, ab_ozp, ab_o_some, not_true_eq_false, not_false_eq_true, Bool.not_eq_false, Bool.not_eq_true, Bool.not_eq_false', Bool.not_eq_true', r44, r45, r46, r47, r48, r49, r50, r51, r52, r53, r54, r55, r56, r57, r58, r59, r60, r61, g0, g2, g6, g16, hx] at h)) | (refine br_n (fun h => ?_) (fun h => ?_) <;> (try simp (disch := omega) only [nI_clamp, li_2, li_3, li_4, li_5, li_6, li_7, li_8, li_9, li_10, li_40, li_120, pk_mul, nI_add, nI_1, ix_eq, ix_lt, ix_le, ix_l0, ix_l1, ix_n0, ix_p0, ix_1lt, ix_lt1, ix_1le, ix_le1, ix_le0, ix_0lt, ab_z0, ab_z1, ab_zt, ab_zf, ab_ozn, ab_ozp, ab_o_some, not_true_eq_false, not_false_eq_true, Bool.not_eq_false, Bool.not_eq_true, Bool.not_eq_false', Bool.not_eq_true', r44, r45, r46, r47, r48, r49, r50, r51, r52, r53, r54, r55, r56, r57, r58, r59, r60, r61, g0, g2, g6, g16, hx] at h)) | refine ab_sd (by first | (with_reducible refine vp_in_nI ?_ ?_ <;> omega) | (simp (disch := omega) only [nI_clamp, li_2, li_3, li_4, li_5, li_6, li_7, li_8, li_9, li_10, li_40, li_120, pk_mul, nI_add, nI_1, ix_eq, ix_lt, ix_le, ix_l0, ix_l1, ix_n0, ix_p0, ix_1lt, ix_lt1, ix_1le, ix_le1, ix_le0, ix_0lt, ab_z0, ab_z1, ab_zt, ab_zf, ab_ozn, ab_ozp, ab_o_some, not_true_eq_false, not_false_eq_true, Bool.not_eq_false, Bool.not_eq_true, Bool.not_eq_false', Bool.not_eq_true', r44, r45, r46, r47, r48, r49, r50, r51, r52, r53, r54, r55, r56, r57, r58, r59, r60, r61, g0, g2, g6, g16, hx]; with_reducible refine vp_in_nI ?_ ?_ <;> omega)) ?_ | refine r_noModule hω R ?_ | refine ab_sd ?_ ?_ | refine ab_sz (Or.inl rfl) ?_ | refine ab_sz (Or.inr rfl) ?_ | refine ab_sz ?_ ?_)
    · have h : ¬ s_nP S = 10 := h
      simp only [h, if_true, if_false, not_false_eq_true, and_self] at hQ
      show Q _ _
      simp (disch := omega) only [mi_rd, g2, nI_clamp, nI_1]
      exact q_of (hQ _ (rep_u (rep_u (k := 45) (j := s_nP S) (v := m) R rfl (by omega)) (k := 43) (j := 2) rfl (by omega)) ((SameC.rf.mi (by omega)).mi (by omega)) ((SameK.rf.mi (by omega) (by omega) (by omega)).mi (by omega) (by omega) (by omega))) (by simp [nI_pred])
    · have h : s_nP S = 10 := h
      simp only [h, if_true, not_true_eq_false, and_false, if_false] at hQ
      exact hQ μ R SameC.rf SameK.rf
theorem r_export (hω : ω.2.2.2 = ab_SH) (R : RepR S μ) (hW : Wf S) {x y : Int32} (hQ : ∀ μ', RepR (o_export S x y) μ' → SameC μ μ' → SameK μ μ' → Q (a_export S x y) μ') : ab_CI l ω mX11_export [.ref 43, .int x, .int y] μ Q := by
  refine ab_intro (sh := ab_SH) (cd := kX11_export) hω vX11_export (by decide +kernel) rfl (Nat.le_of_ble_eq_true rfl) (fun j hj hw => ?_)
  obtain ⟨r44, r45, r46, r47, r48, r49, r50, r51, r52, r53, r54, r55, r56, r57, r58, r59, r60, r61, g0, g2, g6, g16⟩ := RepR_fs R
  have hM := hW.1.2
  have hP := hW.2.1.2
  cases hx : ab_ok (s_nP S) x && (y == -1 || ab_ok (s_nM S) y) with
  | false =>
    have e1 : a_export S x y = -1 := by simp [a_export, hx]
    have e2 : o_export S x y = S := by simp [o_export, e1]
    rw [e1, e2] at hQ
    have hQ := hQ μ R SameC.rf SameK.rf
    repeat' (first | refine hj _ _ _ _ ?_ | (refine br_c (fun h => ?_) (fun h => ?_) <;> (try simp (disch := omega) only [nI_clamp, li_2, li_3, li_4, li_5, li_6, li_7, li_8, li_9, li_10, li_40, li_120, pk_mul, nI_add, nI_1, ix_eq, ix_lt, ix_le, ix_l0, ix_l1, ix_n0, ix_p0, ix_1lt, ix_lt1, ix_1le, ix_le1, ix_le0, ix_0lt, ab_z0, ab_z1, ab_zt, ab_zf, ab_ozn, ab_ozp, ab_o_some, not_true_eq_false, not_false_eq_true, Bool.not_eq_false, Bool.not_eq_true, Bool.not_eq_false', Bool.not_eq_true', r44, r45, r46, r47, r48, r49, r50, r51, r52, r53, r54, r55, r56, r57, r58, r59, r60, r61, g0, g2, g6, g16] at h)) | (refine br_n (fun h => ?_) (fun h => ?_) <;> (try simp (disch := omega) only [nI_clamp, li_2, li_3, li_4, li_5, li_6, li_7, li_8, li_9, li_10, li_40, li_120, pk_mul, nI_add, nI_1, ix_eq, ix_lt, ix_le, ix_l0, ix_l1, ix_n0, ix_p0, ix_1lt, ix_lt1, ix_1le, ix_le1, ix_le0, ix_0lt, ab_z0, ab_z1, ab_zt, ab_zf, ab_ozn, ab_ozp, ab_o_some, not_true_eq_false, not_false_eq_true, Bool.not_eq_false, Bool.not_eq_true, Bool.not_eq_false', Bool.not_eq_true', r44, r45, r46, r47, r48, r49, r50, r51, r52, r53, r54, r55, r56, r57, r58, r59, r60, r61, g0, g2, g6, g16] at h)) | refine ab_sd (by first | (with_reducible refine vp_in_nI ?_ ?_ <;> omega) | (simp (disch := omega) only [nI_clamp, li_2, li_3, li_4, li_5, li_6, li_7, li_8, li_9, li_10, li_40, li_120, pk_mul, nI_add, nI_1, ix_eq, ix_lt, ix_le, ix_l0, ix_l1, ix_n0, ix_p0, ix_1lt, ix_lt1, ix_1le, ix_le1, ix_le0, ix_0lt, ab_z0, ab_z1, ab_zt, ab_zf, ab_ozn, ab_ozp, ab_o_some, not_true_eq_false, not_false_eq_true, Bool.not_eq_false, Bool.not_eq_true, Bool.not_eq_false', Bool.not_eq_true', r44, r45, r46, r47, r48, r49, r50, r51, r52, r53, r54, r55, r56, r57, r58, r59, r60, r61, g0, g2, g6, g16]; with_reducible refine vp_in_nI ?_ ?_ <;> omega)) ?_ | refine r_noModule hω R ?_ | refine r_noPack hω R ?_ | refine ab_sd ?_ ?_ | refine ab_sz (Or.inl rfl) ?_ | refine ab_sz (Or.inr rfl) ?_ | refine ab_sz ?_ ?_)
    all_goals first | exact hQ | (exfalso; simp [*] at hx; done) | skip
    all_goals trace_state
    all_goals sorry
  | true =>
    have hxy : ab_ok (s_nP S) x = true ∧ (y = -1 ∨ ab_ok (s_nM S) y = true) := by simpa using hx
    obtain ⟨hx1, hy1⟩ := hxy
    obtain ⟨p, hp, rfl⟩ := ab_ok_t (by omega) hx1
    have c1 : (nI p).toNatClampNeg = p := nI_clamp (by omega)
    rcases hy1 with rfl | hy1
    · have e1 : a_export S (nI p) (-1) = if S.2.1 47 p = true then 0 else 1 := by simp [a_export, hx1, c1]
      have e2 : o_export S (nI p) (-1) = if S.2.1 47 p = true then S else s_ub S 47 p true := by
        unfold o_export
        rw [e1, c1]
        by_cases hc : S.2.1 47 p = true <;> simp [hc]
      rw [e1, e2] at hQ
      have c0 : ((-1 : Int32) < 0) ↔ True := by decide
      have c9 : ((0 : Int32) ≤ -1) ↔ False := by decide
      repeat' (first | refine hj _ _ _ _ ?_ | (refine br_c (fun h => ?_) (fun h => ?_) <;> (try simp (disch := omega) only [nI_clamp, li_2, li_3, li_4, li_5, li_6, li_7, li_8, li_9, li_10, li_40, li_120, pk_mul, nI_add, nI_1, ix_eq, ix_lt, ix_le, ix_l0, ix_l1, ix_n0, ix_p0, ix_1lt, ix_lt1, ix_1le, ix_le1, ix_le0, ix_0lt, ab_z0, ab_z1, ab_zt, ab_zf, ab_ozn, ab_ozp, ab_o_some, not_true_eq_false, not_false_eq_true, Bool.not_eq_false, Bool.not_eq_true, Bool.not_eq_false', Bool.not_eq_true', r44, r45, r46, r47, r48, r49, r50, r51, r52, r53, r54, r55, r56, r57, r58, r59, r60, r61, g0, g2, g6, g16, hx1, c0, c9] at h)) | (refine br_n (fun h => ?_) (fun h => ?_) <;> (try simp (disch := omega) only [nI_clamp, li_2, li_3, li_4, li_5, li_6, li_7, li_8, li_9, li_10, li_40, li_120, pk_mul, nI_add, nI_1, ix_eq, ix_lt, ix_le, ix_l0, ix_l1, ix_n0, ix_p0, ix_1lt, ix_lt1, ix_1le, ix_le1, ix_le0, ix_0lt, ab_z0, ab_z1, ab_zt, ab_zf, ab_ozn, ab_ozp, ab_o_some, not_true_eq_false, not_false_eq_true, Bool.not_eq_false, Bool.not_eq_true, Bool.not_eq_false', Bool.not_eq_true', r44, r45, r46, r47, r48, r49, r50, r51, r52, r53, r54, r55, r56, r57, r58, r59, r60, r61, g0, g2, g6, g16, hx1, c0, c9] at h)) | refine ab_sd (by first | (with_reducible refine vp_in_nI ?_ ?_ <;> omega) | (simp (disch := omega) only [nI_clamp, li_2, li_3, li_4, li_5, li_6, li_7, li_8, li_9, li_10, li_40, li_120, pk_mul, nI_add, nI_1, ix_eq, ix_lt, ix_le, ix_l0, ix_l1, ix_n0, ix_p0, ix_1lt, ix_lt1, ix_1le, ix_le1, ix_le0, ix_0lt, ab_z0, ab_z1, ab_zt, ab_zf, ab_ozn, ab_ozp, ab_o_some, not_true_eq_false, not_false_eq_true, Bool.not_eq_false, Bool.not_eq_true, Bool.not_eq_false', Bool.not_eq_true', r44, r45, r46, r47, r48, r49, r50, r51, r52, r53, r54, r55, r56, r57, r58, r59, r60, r61, g0, g2, g6, g16, hx1, c0, c9]; with_reducible refine vp_in_nI ?_ ?_ <;> omega)) ?_ | refine r_noModule hω R ?_ | refine r_noPack hω R ?_ | refine ab_sd ?_ ?_ | refine ab_sz (Or.inl rfl) ?_ | refine ab_sz (Or.inr rfl) ?_ | refine ab_sz ?_ ?_)
      all_goals trace_state
      all_goals sorry
    · obtain ⟨m, hm, rfl⟩ := ab_ok_t (by omega) hy1
      have c2 : (nI m).toNatClampNeg = m := nI_clamp (by omega)
      have c3 : ¬ nI m = -1 := fun q => by have := nI_pos (n := m) (by omega); rw [q] at this; exact this (by decide)
      have e1 : a_export S (nI p) (nI m) = if S.2.1 47 p = true ∨ S.2.1 46 (6 * p + m) = true then 0 else 1 := by simp [a_export, hx1, hy1, c1, c2, c3]
      have e2 : o_export S (nI p) (nI m) = if S.2.1 47 p = true ∨ S.2.1 46 (6 * p + m) = true then S else s_ub S 46 (6 * p + m) true := by
        unfold o_export
        rw [e1, c1, c2]
        by_cases hc : S.2.1 47 p = true ∨ S.2.1 46 (6 * p + m) = true <;> simp [hc, c3]
      rw [e1, e2] at hQ
      repeat' (first | refine hj _ _ _ _ ?_ | (refine br_c (fun h => ?_) (fun h => ?_) <;> (try simp (disch := omega) only [nI_clamp, li_2, li_3, li_4, li_5, li_6, li_7, li_8, li_9, li_10, li_40, li_120, pk_mul, nI_add, nI_1, ix_eq, ix_lt, ix_le, ix_l0, ix_l1, ix_n0, ix_p0, ix_1lt, ix_lt1, ix_1le, ix_le1, ix_le0, ix_0lt, ab_z0, ab_z1, ab_zt, ab_zf, ab_ozn, ab_ozp, ab_o_some, not_true_eq_false, not_false_eq_true, Bool.not_eq_false, Bool.not_eq_true, Bool.not_eq_false', Bool.not_eq_true', r44, r45, r46, r47, r48, r49, r50, r51, r52, r53, r54, r55, r56, r57, r58, r59, r60, r61, g0, g2, g6, g16, hx1, hy1, c3] at h)) | (refine br_n (fun h => ?_) (fun h => ?_) <;> (try simp (disch := omega) only [nI_clamp, li_2, li_3, li_4, li_5, li_6, li_7, li_8, li_9, li_10, li_40, li_120, pk_mul, nI_add, nI_1, ix_eq, ix_lt, ix_le, ix_l0, ix_l1, ix_n0, ix_p0, ix_1lt, ix_lt1, ix_1le, ix_le1, ix_le0, ix_0lt, ab_z0, ab_z1, ab_zt, ab_zf, ab_ozn, ab_ozp, ab_o_some, not_true_eq_false, not_false_eq_true, Bool.not_eq_false, Bool.not_eq_true, Bool.not_eq_false', Bool.not_eq_true', r44, r45, r46, r47, r48, r49, r50, r51, r52, r53, r54, r55, r56, r57, r58, r59, r60, r61, g0, g2, g6, g16, hx1, hy1, c3] at h)) | refine ab_sd (by first | (with_reducible refine vp_in_nI ?_ ?_ <;> omega) | (simp (disch := omega) only [nI_clamp, li_2, li_3, li_4, li_5, li_6, li_7, li_8, li_9, li_10, li_40, li_120, pk_mul, nI_add, nI_1, ix_eq, ix_lt, ix_le, ix_l0, ix_l1, ix_n0, ix_p0, ix_1lt, ix_lt1, ix_1le, ix_le1, ix_le0, ix_0lt, ab_z0, ab_z1, ab_zt, ab_zf, ab_ozn, ab_ozp, ab_o_some, not_true_eq_false, not_false_eq_true, Bool.not_eq_false, Bool.not_eq_true, Bool.not_eq_false', Bool.not_eq_true', r44, r45, r46, r47, r48, r49, r50, r51, r52, r53, r54, r55, r56, r57, r58, r59, r60, r61, g0, g2, g6, g16, hx1, hy1, c3]; with_reducible refine vp_in_nI ?_ ?_ <;> omega)) ?_ | refine r_noModule hω R ?_ | refine r_noPack hω R ?_ | refine ab_sd ?_ ?_ | refine ab_sz (Or.inl rfl) ?_ | refine ab_sz (Or.inr rfl) ?_ | refine ab_sz ?_ ?_)
      all_goals trace_state
      all_goals sorry
end R4
