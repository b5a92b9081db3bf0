/-! RULES, makers -/
def s_r4 (so fl : Nat) : Nat := if (so = 1 ∧ s_has fl 2) ∨ (s_has fl 2 ∧ s_has fl 4) then 4 else 0
def s_rT (S : sT) (pk : Nat) (ou : Option Nat) (so ac fl : Nat) : Nat := match ou with
  | none => if (ac ≠ 1 ∧ ac ≠ 3) ∨ s_has fl 1 then 1 else s_r4 so fl
  | some o => if S.1 48 o ≠ pk then 2 else if (S.1 50 o = 1 ∧ (ac ≠ 3 ∨ ¬ s_has fl 1)) ∨ (so = 1 ∧ ¬ s_has fl 1) then 3 else s_r4 so fl
def s_rM (S : sT) (t k n ac fl : Nat) : Nat := if S.1 50 t = 1 ∧ ¬ (k = 0 ∧ ac = 3 ∧ s_has fl 1) ∧ ¬ (k = 1 ∧ (ac = 3 ∨ ac = 0) ∧ ¬ s_has fl 2) then 5
  else if (k = 2 ∧ fl ≠ 0) ∨ (k = 0 ∧ s_has fl 4) then 6
  else if k = 1 ∧ s_has fl 4 ∧ (ac = 0 ∨ s_has fl 3 ∨ (S.1 50 t = 0 ∧ ¬ s_has (S.1 52 t) 4)) then 7
  else if (s_dec S t k n).isSome then 8 else 0
section R3
variable {l : Launch} {ω : ab_W} {S : sT} {μ : ab_M} {Q : Int32 → ab_M → Prop}
theorem r_ruleOfType (hω : ω.2.2.2 = ab_SH) (R : RepR S μ) (hW : Wf S) {x y z v w : Int32} {pk so ac fl : Nat} {ou : Option Nat} (ex : x = nI pk) (ey : y = ab_o1 ou) (ez : z = nI so) (ev : v = nI ac) (ew : w = nI fl) (hp : pk < 10) (ho : ∀ o, ou = some o → o < s_nT S) (hs : so < 2) (ha : ac < 4) (hf : fl < 8)
    (hQ : Q (nI (s_rT S pk ou so ac fl)) μ) : ab_CI l ω mX11_ruleOfType [.ref 43, .int x, .int y, .int z, .int v, .int w] μ Q := by
  subst ex ey ez ev ew
  refine ab_intro (sh := ab_SH) (cd := kX11_ruleOfType) hω vX11_ruleOfType (by decide +kernel) rfl (Nat.le_of_ble_eq_true rfl) (fun j hj hw => ?_)
  obtain ⟨r44, r45, r46, r47, r48, r49, r50, r51, r52, r53, r54, r55, r56, r57, r58, r59, r60, r61, g0, g2, g6, g16⟩ := RepR_fs R
  have hT := hW.2.2.1.2
  have q1 := s_and_lt (b := 1) hf
  have q2 := s_and_lt (b := 2) hf
  have q4 := s_and_lt (b := 4) hf
  have hP := hW.2.1.2
  cases ou with
  | none =>
    have c0 : (0 ≤ ab_o1 none) ↔ False := ⟨fun q => absurd q (by decide), False.elim⟩
    repeat' (first | refine hj _ _ _ _ ?_ | (refine br_c (fun h => ?_) (fun h => ?_) <;> (try simp (disch := omega) only [nI_clamp, li_2, li_3, li_4, li_5, li_6, li_7, li_8, li_9, li_10, li_40, li_120, pk_mul, nI_add, nI_1, ix_eq, ix_lt, ix_le, ix_l0, ix_l1, ix_n0, ix_p0, ix_1lt, ix_lt1, ix_1le, ix_le1, ix_le0, ix_0lt, ab_z0, ab_z1, ab_zt, ab_zf, ab_ozn, ab_ozp, ab_o_some, not_true_eq_false, not_false_eq_true, Bool.not_eq_false, Bool.not_eq_true, r44, r45, r46, r47, r48, r49, r50, r51, r52, r53, r54, r55, r56, r57, r58, r59, r60, r61, g0, g2, g6, g16, c0] at h)) | (refine br_n (fun h => ?_) (fun h => ?_) <;> (try simp (disch := omega) only [nI_clamp, li_2, li_3, li_4, li_5, li_6, li_7, li_8, li_9, li_10, li_40, li_120, pk_mul, nI_add, nI_1, ix_eq, ix_lt, ix_le, ix_l0, ix_l1, ix_n0, ix_p0, ix_1lt, ix_lt1, ix_1le, ix_le1, ix_le0, ix_0lt, ab_z0, ab_z1, ab_zt, ab_zf, ab_ozn, ab_ozp, ab_o_some, not_true_eq_false, not_false_eq_true, Bool.not_eq_false, Bool.not_eq_true, r44, r45, r46, r47, r48, r49, r50, r51, r52, r53, r54, r55, r56, r57, r58, r59, r60, r61, g0, g2, g6, g16, c0] at h)) | refine ab_sd (by first | (with_reducible refine vp_in_nI ?_ ?_ <;> omega) | (simp (disch := omega) only [nI_clamp, li_2, li_3, li_4, li_5, li_6, li_7, li_8, li_9, li_10, li_40, li_120, pk_mul, nI_add, nI_1, ix_eq, ix_lt, ix_le, ix_l0, ix_l1, ix_n0, ix_p0, ix_1lt, ix_lt1, ix_1le, ix_le1, ix_le0, ix_0lt, ab_z0, ab_z1, ab_zt, ab_zf, ab_ozn, ab_ozp, ab_o_some, not_true_eq_false, not_false_eq_true, Bool.not_eq_false, Bool.not_eq_true, r44, r45, r46, r47, r48, r49, r50, r51, r52, r53, r54, r55, r56, r57, r58, r59, r60, r61, g0, g2, g6, g16, c0]; with_reducible refine vp_in_nI ?_ ?_ <;> omega)) ?_ | refine r_has hω (a := fl) (b := 1) rfl rfl q1 ?_ | refine r_has hω (a := fl) (b := 2) rfl rfl q2 ?_ | refine r_has hω (a := fl) (b := 4) rfl rfl q4 ?_ | refine ab_sd ?_ ?_ | refine ab_sz (Or.inl rfl) ?_ | refine ab_sz (Or.inr rfl) ?_ | refine ab_sz ?_ ?_)
    all_goals (refine q_of hQ ?_; unfold s_rT s_r4; simp [*]; rfl)
  | some o =>
    have ho := ho o rfl
    obtain ⟨a1, a2, a3, a4, -⟩ := hW.2.2.2.2.2.1 o ho
    repeat' (first | refine hj _ _ _ _ ?_ | (refine br_c (fun h => ?_) (fun h => ?_) <;> (try simp (disch := omega) only [nI_clamp, li_2, li_3, li_4, li_5, li_6, li_7, li_8, li_9, li_10, li_40, li_120, pk_mul, nI_add, nI_1, ix_eq, ix_lt, ix_le, ix_l0, ix_l1, ix_n0, ix_p0, ix_1lt, ix_lt1, ix_1le, ix_le1, ix_le0, ix_0lt, ab_z0, ab_z1, ab_zt, ab_zf, ab_ozn, ab_ozp, ab_o_some, not_true_eq_false, not_false_eq_true, Bool.not_eq_false, Bool.not_eq_true, r44, r45, r46, r47, r48, r49, r50, r51, r52, r53, r54, r55, r56, r57, r58, r59, r60, r61, g0, g2, g6, g16, ab_o1_some] at h)) | (refine br_n (fun h => ?_) (fun h => ?_) <;> (try simp (disch := omega) only [nI_clamp, li_2, li_3, li_4, li_5, li_6, li_7, li_8, li_9, li_10, li_40, li_120, pk_mul, nI_add, nI_1, ix_eq, ix_lt, ix_le, ix_l0, ix_l1, ix_n0, ix_p0, ix_1lt, ix_lt1, ix_1le, ix_le1, ix_le0, ix_0lt, ab_z0, ab_z1, ab_zt, ab_zf, ab_ozn, ab_ozp, ab_o_some, not_true_eq_false, not_false_eq_true, Bool.not_eq_false, Bool.not_eq_true, r44, r45, r46, r47, r48, r49, r50, r51, r52, r53, r54, r55, r56, r57, r58, r59, r60, r61, g0, g2, g6, g16, ab_o1_some] at h)) | refine ab_sd (by first | (with_reducible refine vp_in_nI ?_ ?_ <;> omega) | (simp (disch := omega) only [nI_clamp, li_2, li_3, li_4, li_5, li_6, li_7, li_8, li_9, li_10, li_40, li_120, pk_mul, nI_add, nI_1, ix_eq, ix_lt, ix_le, ix_l0, ix_l1, ix_n0, ix_p0, ix_1lt, ix_lt1, ix_1le, ix_le1, ix_le0, ix_0lt, ab_z0, ab_z1, ab_zt, ab_zf, ab_ozn, ab_ozp, ab_o_some, not_true_eq_false, not_false_eq_true, Bool.not_eq_false, Bool.not_eq_true, r44, r45, r46, r47, r48, r49, r50, r51, r52, r53, r54, r55, r56, r57, r58, r59, r60, r61, g0, g2, g6, g16, ab_o1_some]; with_reducible refine vp_in_nI ?_ ?_ <;> omega)) ?_ | refine r_has hω (a := fl) (b := 1) rfl rfl q1 ?_ | refine r_has hω (a := fl) (b := 2) rfl rfl q2 ?_ | refine r_has hω (a := fl) (b := 4) rfl rfl q4 ?_ | refine ab_sd ?_ ?_ | refine ab_sz (Or.inl rfl) ?_ | refine ab_sz (Or.inr rfl) ?_ | refine ab_sz ?_ ?_)
    all_goals (refine q_of hQ ?_; unfold s_rT s_r4; simp [*]; rfl)
end R3
