/-! findOvers -/
def s_dir (S : sT) (d a : Nat) : Bool := s_can S d a && (!(S.1 60 a == 1) || S.1 48 (S.1 57 d) == S.1 48 (S.1 57 a))
def s_ovS (S : sT) (V : Nat → Bool) (d a : Nat) : Bool := s_can S d a && ((!(S.1 60 a == 1) || S.1 48 (S.1 57 d) == S.1 48 (S.1 57 a)) || s_by S V d a)
def FO (μ μ' : ab_M) : Prop := SameC μ μ' ∧ μ'.1 62 = μ.1 62 ∧ μ'.1 63 = μ.1 63 ∧ μ'.1 65 = μ.1 65 ∧ μ'.1 43 22 = μ.1 43 22
theorem FO.rf {μ : ab_M} : FO μ μ := ⟨SameC.rf, rfl, rfl, rfl, rfl⟩
theorem FO.mi {μ μ' : ab_M} (h : FO μ μ') {j : Nat} {x : Int32} : FO μ (ab_mi μ' 64 j x) := by
  refine ⟨h.1.mi (by omega), ?_, ?_, ?_, ?_⟩
  · rw [← h.2.1]; funext b; simp [ab_mi]
  · rw [← h.2.2.1]; funext b; simp [ab_mi]
  · rw [← h.2.2.2.1]; funext b; simp [ab_mi]
  · rw [← h.2.2.2.2]; simp [ab_mi]
theorem ab_cnt_set {V V' : Nat → Bool} {i : Nat} (hi : V i = false) (h : ∀ j, V' j = if j = i then true else V j) : ∀ n, i < n → ab_cnt V' n = ab_cnt V n + 1
  | 0, h => by omega
  | n + 1, hin => by
    simp only [ab_cnt]
    by_cases e : i = n
    · subst e
      have : ab_cnt V' i = ab_cnt V i := ab_cnt_congr (fun j hj => by rw [h j, if_neg (by omega)])
      rw [this, h i, if_pos rfl, hi]
      simp
    · have e2 : V' n = V n := by rw [h n, if_neg (fun q => e q.symm)]
      rw [ab_cnt_set hi h n (by omega), e2]
      omega
theorem s_by_mono {S : sT} {V V' : Nat → Bool} (h : ∀ j, V j = true → V' j = true) {d a : Nat} (hb : s_by S V d a = true) : s_by S V' d a = true := by
  obtain ⟨b, h1, h2⟩ := ab_ex_iff.mp hb
  simp only [Bool.and_eq_true] at h2
  exact ab_ex_iff.mpr ⟨b, h1, by simp only [Bool.and_eq_true]; exact ⟨⟨h _ h2.1.1, h _ h2.1.2⟩, h2.2⟩⟩
def s_v1 (S : sT) (V : Nat → Bool) (d a j : Nat) : Bool := if j % 120 < s_nX S ∧ (j / 120 < d ∨ (j / 120 = d ∧ j % 120 < a)) then s_dir S (j / 120) (j % 120) else V j
theorem s_v1_s {S : sT} {V : Nat → Bool} {d a : Nat} (ha : a < s_nX S) (hX : s_nX S ≤ 120) (j : Nat) : s_v1 S V d (a + 1) j = if j = 120 * d + a then s_dir S d a else s_v1 S V d a j := by
  unfold s_v1
  by_cases e : j = 120 * d + a
  · subst e
    rw [if_pos rfl, if_pos (by omega), show (120 * d + a) / 120 = d by omega, show (120 * d + a) % 120 = a by omega]
  · rw [if_neg e]
    by_cases h : j % 120 < s_nX S ∧ (j / 120 < d ∨ (j / 120 = d ∧ j % 120 < a))
    · rw [if_pos h, if_pos (by omega)]
    · rw [if_neg h, if_neg (by omega)]
theorem s_v1_n {S : sT} {V : Nat → Bool} {d : Nat} (j : Nat) : s_v1 S V (d + 1) 0 j = s_v1 S V d (s_nX S) j := by
  unfold s_v1
  by_cases h : j % 120 < s_nX S ∧ (j / 120 < d ∨ (j / 120 = d ∧ j % 120 < s_nX S))
  · rw [if_pos h, if_pos (by omega)]
  · rw [if_neg h, if_neg (by omega)]
/-- supported, and with all that is direct -/
def s_IV (S : sT) (V : Nat → Bool) : Prop := ∀ d a, d < s_nX S → a < s_nX S → (s_dir S d a = true → V (120 * d + a) = true) ∧ (V (120 * d + a) = true → s_can S d a = true ∧ (s_dir S d a = true ∨ s_by S V d a = true))
def s_cl (S : sT) (V : Nat → Bool) (d a : Nat) : Prop := V (120 * d + a) = true ∨ s_can S d a = false ∨ s_by S V d a = false
theorem s_fix {S : sT} {V : Nat → Bool} (hI : s_IV S V) (hc : ∀ d a, d < s_nX S → a < s_nX S → s_cl S V d a) {d a : Nat} (hd : d < s_nX S) (ha : a < s_nX S) : V (120 * d + a) = s_ovS S V d a := by
  have h1 := hI d a hd ha
  have h2 := hc d a hd ha
  unfold s_dir at h1
  unfold s_cl at h2
  unfold s_ovS
  generalize s_can S d a = x at *
  generalize (!(S.1 60 a == 1) || S.1 48 (S.1 57 d) == S.1 48 (S.1 57 a)) = y at *
  generalize s_by S V d a = z at *
  generalize V (120 * d + a) = w at *
  cases x <;> cases y <;> cases z <;> cases w <;> simp_all
section R14
variable {l : Launch} {ω : ab_W} {S : sT} {μ : ab_M}
set_option maxHeartbeats 4000000 in
theorem r_findOvers {Q : ab_M → Prop} (hω : ω.2.2.2 = ab_SH) (R : RepR S μ) (hW : Wf S) (r64 : ∃ V : Nat → Bool, ∀ j, μ.1 64 j = ab_z (V j))
    (hQ : ∀ μ' V, RepR S μ' → FO μ μ' → (∀ j, μ'.1 64 j = ab_z (V j)) → (∀ d a, d < s_nX S → a < s_nX S → V (120 * d + a) = s_ovS S V d a) → Q μ') : ab_CV l ω mX11_findOvers [.ref 43] μ Q := by
  refine ab_intro (sh := ab_SH) (cd := kX11_findOvers) hω vX11_findOvers (by decide +kernel) rfl (Nat.le_of_ble_eq_true rfl) (fun j hj hw => ?_)
  have hjx : ∀ i ll st μ, i ∉ ([2, 8, 55, 61, 67] : List Nat) → _ → j i ll st μ := fun i ll st μ _ h => hj i ll st μ h
  have hT := hW.2.2.1.2
  have hX := hW.2.2.2.1
  have hP := hW.2.1.2
  obtain ⟨V0, r64⟩ := r64
  have fin : ∀ μ' V, RepR S μ' → FO μ μ' → (∀ j, μ'.1 64 j = ab_z (V j)) → s_IV S V → (∀ d a, d < s_nX S → a < s_nX S → s_cl S V d a) → ∀ v2 v3, j 55 [some (.ref 43), some (.int (ab_z false)), v2, v3] [] μ' := by
    intro μ' V R hF r64 hI hc v2 v3
    refine hj _ _ _ _ ?_
    obtain ⟨r44, r45, r46, r47, r48, r49, r50, r51, r52, r53, r54, r55, r56, r57, r58, r59, r60, r61, g0, g2, g6, g16⟩ := RepR_fs R
    repeat' (first | refine hjx _ _ _ _ (by decide) ?_ | (refine br_c (fun h => ?_) (fun h => ?_) <;> (try simp (disch := omega) only [nI_clamp, li_2, li_3, li_4, li_5, li_6, li_7, li_8, li_9, li_10, li_40, li_120, pk_mul, nI_add, nI_1, ix_eq, ix_lt, ix_le, ix_l0, ix_l1, ix_n0, ix_p0, ix_1lt, ix_lt1, ix_1le, ix_le1, ix_le0, ix_0lt, ab_z0, ab_z1, i_10, i_01, eq_self, ab_ozn, ab_ozp, ab_o_some, not_true_eq_false, not_false_eq_true, Bool.not_eq_false, Bool.not_eq_true, Bool.not_eq_false', Bool.not_eq_true', Bool.false_eq_true, Bool.true_eq_false, reduceCtorEq, Option.isSome_some, Option.isSome_none, r44, r45, r46, r47, r48, r49, r50, r51, r52, r53, r54, r55, r56, r57, r58, r59, r60, r61, g0, g2, g6, g16] at h) <;> (try omega)) | (refine br_n (fun h => ?_) (fun h => ?_) <;> (try simp (disch := omega) only [nI_clamp, li_2, li_3, li_4, li_5, li_6, li_7, li_8, li_9, li_10, li_40, li_120, pk_mul, nI_add, nI_1, ix_eq, ix_lt, ix_le, ix_l0, ix_l1, ix_n0, ix_p0, ix_1lt, ix_lt1, ix_1le, ix_le1, ix_le0, ix_0lt, ab_z0, ab_z1, i_10, i_01, eq_self, ab_ozn, ab_ozp, ab_o_some, not_true_eq_false, not_false_eq_true, Bool.not_eq_false, Bool.not_eq_true, Bool.not_eq_false', Bool.not_eq_true', Bool.false_eq_true, Bool.true_eq_false, reduceCtorEq, Option.isSome_some, Option.isSome_none, r44, r45, r46, r47, r48, r49, r50, r51, r52, r53, r54, r55, r56, r57, r58, r59, r60, r61, g0, g2, g6, g16] at h) <;> (try omega)) | refine ab_sd (by first | (with_reducible refine vp_in_nI ?_ ?_ <;> omega) | (simp (disch := omega) only [nI_clamp, li_2, li_3, li_4, li_5, li_6, li_7, li_8, li_9, li_10, li_40, li_120, pk_mul, nI_add, nI_1, ix_eq, ix_lt, ix_le, ix_l0, ix_l1, ix_n0, ix_p0, ix_1lt, ix_lt1, ix_1le, ix_le1, ix_le0, ix_0lt, ab_z0, ab_z1, i_10, i_01, eq_self, ab_ozn, ab_ozp, ab_o_some, not_true_eq_false, not_false_eq_true, Bool.not_eq_false, Bool.not_eq_true, Bool.not_eq_false', Bool.not_eq_true', Bool.false_eq_true, Bool.true_eq_false, reduceCtorEq, Option.isSome_some, Option.isSome_none, r44, r45, r46, r47, r48, r49, r50, r51, r52, r53, r54, r55, r56, r57, r58, r59, r60, r61, g0, g2, g6, g16]; with_reducible refine vp_in_nI ?_ ?_ <;> omega)) ?_ | refine ab_sd ?_ ?_ | refine ab_sz (Or.inl rfl) ?_ | refine ab_sz (Or.inr rfl) ?_ | refine ab_sz ?_ ?_)
    exact hQ μ' V R hF r64 (fun d a hd ha => s_fix hI hc hd ha)
  have main : ∀ N μ' V, 14400 < ab_cnt V 14400 + N → RepR S μ' → FO μ μ' → (∀ j, μ'.1 64 j = ab_z (V j)) → s_IV S V → ∀ v2 v3, j 55 [some (.ref 43), some (.int (ab_z true)), v2, v3] [] μ' := by
    intro N
    induction N with
    | zero => intro μ' V h; have := ab_cnt_le V 14400; omega
    | succ N ihN =>
      intro μ' V hN R hF r64 hI v2 v3
      refine hw _ _ [some (.ref 43), some (.int (ab_z true)), none, none] _ _ ⟨rfl, rfl, trivial⟩ ?_
      have loopD : ∀ n' d μ' V mo, s_nX S + 1 ≤ d + n' → d ≤ s_nX S → RepR S μ' → FO μ μ' → (∀ j, μ'.1 64 j = ab_z (V j)) → s_IV S V → (mo = true → 14400 < ab_cnt V 14400 + N) → (mo = false → ∀ d' a', d' < d → a' < s_nX S → s_cl S V d' a') → 14400 < ab_cnt V 14400 + (N + 1) → ∀ v3, j 61 [some (.ref 43), some (.int (ab_z mo)), some (.int (nI d)), v3] [] μ' := by
        intro n'
        induction n' with
        | zero => intro d μ' V mo h1 h2; omega
        | succ n' ihD =>
          intro d μ' V mo h1 h2 R hF r64 hI hm1 hm2 hN v3
          refine hw _ _ [some (.ref 43), some (.int (ab_z mo)), some (.int (nI d)), none] _ _ ⟨rfl, rfl, rfl, trivial⟩ ?_
          by_cases hd : d < s_nX S
          · have loopA : ∀ m' a μ' V mo, s_nX S + 1 ≤ a + m' → a ≤ s_nX S → RepR S μ' → FO μ μ' → (∀ j, μ'.1 64 j = ab_z (V j)) → s_IV S V → (mo = true → 14400 < ab_cnt V 14400 + N) → (mo = false → (∀ d' a', d' < d → a' < s_nX S → s_cl S V d' a') ∧ ∀ a', a' < a → s_cl S V d a') → 14400 < ab_cnt V 14400 + (N + 1) → j 67 [some (.ref 43), some (.int (ab_z mo)), some (.int (nI d)), some (.int (nI a))] [] μ' := by
              intro m'
              induction m' with
              | zero => intro a μ' V mo h1 h2; omega
              | succ m' ihA =>
                intro a μ' V mo h3 h4 R hF r64 hI hm1 hm2 hN
                obtain ⟨r44, r45, r46, r47, r48, r49, r50, r51, r52, r53, r54, r55, r56, r57, r58, r59, r60, r61, g0, g2, g6, g16⟩ := RepR_fs R
                by_cases ha : a < s_nX S
                · have keep : s_cl S V d a → j 67 [some (.ref 43), some (.int (ab_z mo)), some (.int (nI d)), some (.int (nI (a + 1)))] [] μ' := by
                    intro hc
                    refine ihA (a + 1) μ' V mo (by omega) (by omega) R hF r64 hI hm1 (fun q => ⟨(hm2 q).1, fun a' ha' => ?_⟩) hN
                    by_cases e : a' = a
                    · subst e; exact hc
                    · exact (hm2 q).2 a' (by omega)
                  refine hj _ _ _ _ ?_
                  repeat' (first | refine hjx _ _ _ _ (by decide) ?_ | (refine br_c (fun h => ?_) (fun h => ?_) <;> (try simp (disch := omega) only [nI_clamp, li_2, li_3, li_4, li_5, li_6, li_7, li_8, li_9, li_10, li_40, li_120, pk_mul, nI_add, nI_1, ix_eq, ix_lt, ix_le, ix_l0, ix_l1, ix_n0, ix_p0, ix_1lt, ix_lt1, ix_1le, ix_le1, ix_le0, ix_0lt, ab_z0, ab_z1, i_10, i_01, eq_self, ab_ozn, ab_ozp, ab_o_some, not_true_eq_false, not_false_eq_true, Bool.not_eq_false, Bool.not_eq_true, Bool.not_eq_false', Bool.not_eq_true', Bool.false_eq_true, Bool.true_eq_false, reduceCtorEq, Option.isSome_some, Option.isSome_none, r44, r45, r46, r47, r48, r49, r50, r51, r52, r53, r54, r55, r56, r57, r58, r59, r60, r61, g0, g2, g6, g16, r64] at h) <;> (try omega)) | (refine br_n (fun h => ?_) (fun h => ?_) <;> (try simp (disch := omega) only [nI_clamp, li_2, li_3, li_4, li_5, li_6, li_7, li_8, li_9, li_10, li_40, li_120, pk_mul, nI_add, nI_1, ix_eq, ix_lt, ix_le, ix_l0, ix_l1, ix_n0, ix_p0, ix_1lt, ix_lt1, ix_1le, ix_le1, ix_le0, ix_0lt, ab_z0, ab_z1, i_10, i_01, eq_self, ab_ozn, ab_ozp, ab_o_some, not_true_eq_false, not_false_eq_true, Bool.not_eq_false, Bool.not_eq_true, Bool.not_eq_false', Bool.not_eq_true', Bool.false_eq_true, Bool.true_eq_false, reduceCtorEq, Option.isSome_some, Option.isSome_none, r44, r45, r46, r47, r48, r49, r50, r51, r52, r53, r54, r55, r56, r57, r58, r59, r60, r61, g0, g2, g6, g16, r64] at h) <;> (try omega)) | refine ab_sd (by first | (with_reducible refine vp_in_nI ?_ ?_ <;> omega) | (simp (disch := omega) only [nI_clamp, li_2, li_3, li_4, li_5, li_6, li_7, li_8, li_9, li_10, li_40, li_120, pk_mul, nI_add, nI_1, ix_eq, ix_lt, ix_le, ix_l0, ix_l1, ix_n0, ix_p0, ix_1lt, ix_lt1, ix_1le, ix_le1, ix_le0, ix_0lt, ab_z0, ab_z1, i_10, i_01, eq_self, ab_ozn, ab_ozp, ab_o_some, not_true_eq_false, not_false_eq_true, Bool.not_eq_false, Bool.not_eq_true, Bool.not_eq_false', Bool.not_eq_true', Bool.false_eq_true, Bool.true_eq_false, reduceCtorEq, Option.isSome_some, Option.isSome_none, r44, r45, r46, r47, r48, r49, r50, r51, r52, r53, r54, r55, r56, r57, r58, r59, r60, r61, g0, g2, g6, g16, r64]; with_reducible refine vp_in_nI ?_ ?_ <;> omega)) ?_ | refine r_canOver hω R hW (d := d) (a := a) rfl rfl hd ha ?_ | refine r_isOverBy hω R hW r64 (d := d) (a := a) rfl rfl hd ha ?_ | refine ab_sd ?_ ?_ | refine ab_sz (Or.inl rfl) ?_ | refine ab_sz (Or.inr rfl) ?_ | refine ab_sz ?_ ?_)
                  · show j 67 _ _ _
                    simp (disch := omega) only [nI_clamp, li_2, li_3, li_4, li_5, li_6, li_7, li_8, li_9, li_10, li_40, li_120, pk_mul, nI_add, nI_1, ix_eq, ix_lt, ix_le, ix_l0, ix_l1, ix_n0, ix_p0, ix_1lt, ix_lt1, ix_1le, ix_le1, ix_le0, ix_0lt, ab_z0, ab_z1, i_10, i_01, eq_self, ab_ozn, ab_ozp, ab_o_some, not_true_eq_false, not_false_eq_true, Bool.not_eq_false, Bool.not_eq_true, Bool.not_eq_false', Bool.not_eq_true', Bool.false_eq_true, Bool.true_eq_false, reduceCtorEq, Option.isSome_some, Option.isSome_none, r44, r45, r46, r47, r48, r49, r50, r51, r52, r53, r54, r55, r56, r57, r58, r59, r60, r61, g0, g2, g6, g16]
                    exact keep (Or.inl h)
                  · show j 67 _ _ _
                    simp (disch := omega) only [nI_clamp, li_2, li_3, li_4, li_5, li_6, li_7, li_8, li_9, li_10, li_40, li_120, pk_mul, nI_add, nI_1, ix_eq, ix_lt, ix_le, ix_l0, ix_l1, ix_n0, ix_p0, ix_1lt, ix_lt1, ix_1le, ix_le1, ix_le0, ix_0lt, ab_z0, ab_z1, i_10, i_01, eq_self, ab_ozn, ab_ozp, ab_o_some, not_true_eq_false, not_false_eq_true, Bool.not_eq_false, Bool.not_eq_true, Bool.not_eq_false', Bool.not_eq_true', Bool.false_eq_true, Bool.true_eq_false, reduceCtorEq, Option.isSome_some, Option.isSome_none, r44, r45, r46, r47, r48, r49, r50, r51, r52, r53, r54, r55, r56, r57, r58, r59, r60, r61, g0, g2, g6, g16]
                    exact keep (Or.inr (Or.inl h))
                  · show j 67 _ _ _
                    simp (disch := omega) only [nI_clamp, li_2, li_3, li_4, li_5, li_6, li_7, li_8, li_9, li_10, li_40, li_120, pk_mul, nI_add, nI_1, ix_eq, ix_lt, ix_le, ix_l0, ix_l1, ix_n0, ix_p0, ix_1lt, ix_lt1, ix_1le, ix_le1, ix_le0, ix_0lt, ab_z0, ab_z1, i_10, i_01, eq_self, ab_ozn, ab_ozp, ab_o_some, not_true_eq_false, not_false_eq_true, Bool.not_eq_false, Bool.not_eq_true, Bool.not_eq_false', Bool.not_eq_true', Bool.false_eq_true, Bool.true_eq_false, reduceCtorEq, Option.isSome_some, Option.isSome_none, r44, r45, r46, r47, r48, r49, r50, r51, r52, r53, r54, r55, r56, r57, r58, r59, r60, r61, g0, g2, g6, g16]
                    exact keep (Or.inr (Or.inr h))
                  · rename_i hV hc
                    show j 67 _ _ _
                    simp (disch := omega) only [nI_clamp, li_2, li_3, li_4, li_5, li_6, li_7, li_8, li_9, li_10, li_40, li_120, pk_mul, nI_add, nI_1, ix_eq, ix_lt, ix_le, ix_l0, ix_l1, ix_n0, ix_p0, ix_1lt, ix_lt1, ix_1le, ix_le1, ix_le0, ix_0lt, ab_z0, ab_z1, i_10, i_01, eq_self, ab_ozn, ab_ozp, ab_o_some, not_true_eq_false, not_false_eq_true, Bool.not_eq_false, Bool.not_eq_true, Bool.not_eq_false', Bool.not_eq_true', Bool.false_eq_true, Bool.true_eq_false, reduceCtorEq, Option.isSome_some, Option.isSome_none, r44, r45, r46, r47, r48, r49, r50, r51, r52, r53, r54, r55, r56, r57, r58, r59, r60, r61, g0, g2, g6, g16]
                    have hup : ∀ j, V j = true → (fun j => if j = 120 * d + a then true else V j) j = true := by
                      intro j hjt
                      by_cases e : j = 120 * d + a
                      · simp [e]
                      · simp [e, hjt]
                    have hcnt := ab_cnt_set (V := V) (V' := fun j => if j = 120 * d + a then true else V j) (i := 120 * d + a) hV (fun j => rfl) 14400 (by omega)
                    refine ihA (a + 1) (ab_mi μ' 64 (120 * d + a) (ab_z true)) (fun j => if j = 120 * d + a then true else V j) true (by omega) (by omega) (rep_c R rfl rfl ⟨by decide, by decide⟩) hF.mi (bool_up r64 (fun j => rfl)) (fun d' a' hd' ha' => ?_) (fun _ => by omega) (fun q => by cases q) (by omega)
                    have h5 := hI d' a' hd' ha'
                    by_cases e : 120 * d' + a' = 120 * d + a
                    · have e1 : d' = d := by omega
                      have e2 : a' = a := by omega
                      subst e1 e2
                      exact ⟨fun _ => by simp, fun _ => ⟨hc, Or.inr (s_by_mono hup h)⟩⟩
                    · simp only [e, if_false]
                      refine ⟨h5.1, fun q => ⟨(h5.2 q).1, ?_⟩⟩
                      rcases (h5.2 q).2 with h6 | h6
                      · exact Or.inl h6
                      · exact Or.inr (s_by_mono hup h6)
                · have ha2 : a = s_nX S := by omega
                  refine hj _ _ _ _ ?_
                  repeat' (first | refine hjx _ _ _ _ (by decide) ?_ | (refine br_c (fun h => ?_) (fun h => ?_) <;> (try simp (disch := omega) only [nI_clamp, li_2, li_3, li_4, li_5, li_6, li_7, li_8, li_9, li_10, li_40, li_120, pk_mul, nI_add, nI_1, ix_eq, ix_lt, ix_le, ix_l0, ix_l1, ix_n0, ix_p0, ix_1lt, ix_lt1, ix_1le, ix_le1, ix_le0, ix_0lt, ab_z0, ab_z1, i_10, i_01, eq_self, ab_ozn, ab_ozp, ab_o_some, not_true_eq_false, not_false_eq_true, Bool.not_eq_false, Bool.not_eq_true, Bool.not_eq_false', Bool.not_eq_true', Bool.false_eq_true, Bool.true_eq_false, reduceCtorEq, Option.isSome_some, Option.isSome_none, r44, r45, r46, r47, r48, r49, r50, r51, r52, r53, r54, r55, r56, r57, r58, r59, r60, r61, g0, g2, g6, g16] at h) <;> (try omega)) | (refine br_n (fun h => ?_) (fun h => ?_) <;> (try simp (disch := omega) only [nI_clamp, li_2, li_3, li_4, li_5, li_6, li_7, li_8, li_9, li_10, li_40, li_120, pk_mul, nI_add, nI_1, ix_eq, ix_lt, ix_le, ix_l0, ix_l1, ix_n0, ix_p0, ix_1lt, ix_lt1, ix_1le, ix_le1, ix_le0, ix_0lt, ab_z0, ab_z1, i_10, i_01, eq_self, ab_ozn, ab_ozp, ab_o_some, not_true_eq_false, not_false_eq_true, Bool.not_eq_false, Bool.not_eq_true, Bool.not_eq_false', Bool.not_eq_true', Bool.false_eq_true, Bool.true_eq_false, reduceCtorEq, Option.isSome_some, Option.isSome_none, r44, r45, r46, r47, r48, r49, r50, r51, r52, r53, r54, r55, r56, r57, r58, r59, r60, r61, g0, g2, g6, g16] at h) <;> (try omega)) | refine ab_sd (by first | (with_reducible refine vp_in_nI ?_ ?_ <;> omega) | (simp (disch := omega) only [nI_clamp, li_2, li_3, li_4, li_5, li_6, li_7, li_8, li_9, li_10, li_40, li_120, pk_mul, nI_add, nI_1, ix_eq, ix_lt, ix_le, ix_l0, ix_l1, ix_n0, ix_p0, ix_1lt, ix_lt1, ix_1le, ix_le1, ix_le0, ix_0lt, ab_z0, ab_z1, i_10, i_01, eq_self, ab_ozn, ab_ozp, ab_o_some, not_true_eq_false, not_false_eq_true, Bool.not_eq_false, Bool.not_eq_true, Bool.not_eq_false', Bool.not_eq_true', Bool.false_eq_true, Bool.true_eq_false, reduceCtorEq, Option.isSome_some, Option.isSome_none, r44, r45, r46, r47, r48, r49, r50, r51, r52, r53, r54, r55, r56, r57, r58, r59, r60, r61, g0, g2, g6, g16]; with_reducible refine vp_in_nI ?_ ?_ <;> omega)) ?_ | refine ab_sd ?_ ?_ | refine ab_sz (Or.inl rfl) ?_ | refine ab_sz (Or.inr rfl) ?_ | refine ab_sz ?_ ?_)
                  show j 61 _ _ _
                  rw [nI_1]
                  refine ihD (d + 1) μ' V mo (by omega) (by omega) R hF r64 hI hm1 (fun q d' a' hd' ha' => ?_) hN _
                  by_cases e : d' = d
                  · subst e; exact (hm2 q).2 a' (by omega)
                  · exact (hm2 q).1 d' a' (by omega) ha'
            obtain ⟨r44, r45, r46, r47, r48, r49, r50, r51, r52, r53, r54, r55, r56, r57, r58, r59, r60, r61, g0, g2, g6, g16⟩ := RepR_fs R
            refine hj _ _ _ _ ?_
            repeat' (first | refine hjx _ _ _ _ (by decide) ?_ | (refine br_c (fun h => ?_) (fun h => ?_) <;> (try simp (disch := omega) only [nI_clamp, li_2, li_3, li_4, li_5, li_6, li_7, li_8, li_9, li_10, li_40, li_120, pk_mul, nI_add, nI_1, ix_eq, ix_lt, ix_le, ix_l0, ix_l1, ix_n0, ix_p0, ix_1lt, ix_lt1, ix_1le, ix_le1, ix_le0, ix_0lt, ab_z0, ab_z1, i_10, i_01, eq_self, ab_ozn, ab_ozp, ab_o_some, not_true_eq_false, not_false_eq_true, Bool.not_eq_false, Bool.not_eq_true, Bool.not_eq_false', Bool.not_eq_true', Bool.false_eq_true, Bool.true_eq_false, reduceCtorEq, Option.isSome_some, Option.isSome_none, r44, r45, r46, r47, r48, r49, r50, r51, r52, r53, r54, r55, r56, r57, r58, r59, r60, r61, g0, g2, g6, g16] at h) <;> (try omega)) | (refine br_n (fun h => ?_) (fun h => ?_) <;> (try simp (disch := omega) only [nI_clamp, li_2, li_3, li_4, li_5, li_6, li_7, li_8, li_9, li_10, li_40, li_120, pk_mul, nI_add, nI_1, ix_eq, ix_lt, ix_le, ix_l0, ix_l1, ix_n0, ix_p0, ix_1lt, ix_lt1, ix_1le, ix_le1, ix_le0, ix_0lt, ab_z0, ab_z1, i_10, i_01, eq_self, ab_ozn, ab_ozp, ab_o_some, not_true_eq_false, not_false_eq_true, Bool.not_eq_false, Bool.not_eq_true, Bool.not_eq_false', Bool.not_eq_true', Bool.false_eq_true, Bool.true_eq_false, reduceCtorEq, Option.isSome_some, Option.isSome_none, r44, r45, r46, r47, r48, r49, r50, r51, r52, r53, r54, r55, r56, r57, r58, r59, r60, r61, g0, g2, g6, g16] at h) <;> (try omega)) | refine ab_sd (by first | (with_reducible refine vp_in_nI ?_ ?_ <;> omega) | (simp (disch := omega) only [nI_clamp, li_2, li_3, li_4, li_5, li_6, li_7, li_8, li_9, li_10, li_40, li_120, pk_mul, nI_add, nI_1, ix_eq, ix_lt, ix_le, ix_l0, ix_l1, ix_n0, ix_p0, ix_1lt, ix_lt1, ix_1le, ix_le1, ix_le0, ix_0lt, ab_z0, ab_z1, i_10, i_01, eq_self, ab_ozn, ab_ozp, ab_o_some, not_true_eq_false, not_false_eq_true, Bool.not_eq_false, Bool.not_eq_true, Bool.not_eq_false', Bool.not_eq_true', Bool.false_eq_true, Bool.true_eq_false, reduceCtorEq, Option.isSome_some, Option.isSome_none, r44, r45, r46, r47, r48, r49, r50, r51, r52, r53, r54, r55, r56, r57, r58, r59, r60, r61, g0, g2, g6, g16]; with_reducible refine vp_in_nI ?_ ?_ <;> omega)) ?_ | refine ab_sd ?_ ?_ | refine ab_sz (Or.inl rfl) ?_ | refine ab_sz (Or.inr rfl) ?_ | refine ab_sz ?_ ?_)
            exact loopA (s_nX S + 1) 0 μ' V mo (by omega) (by omega) R hF r64 hI hm1 (fun q => ⟨hm2 q, fun a' h => by omega⟩) hN
          · have hd2 : d = s_nX S := by omega
            obtain ⟨r44, r45, r46, r47, r48, r49, r50, r51, r52, r53, r54, r55, r56, r57, r58, r59, r60, r61, g0, g2, g6, g16⟩ := RepR_fs R
            refine hj _ _ _ _ ?_
            repeat' (first | refine hjx _ _ _ _ (by decide) ?_ | (refine br_c (fun h => ?_) (fun h => ?_) <;> (try simp (disch := omega) only [nI_clamp, li_2, li_3, li_4, li_5, li_6, li_7, li_8, li_9, li_10, li_40, li_120, pk_mul, nI_add, nI_1, ix_eq, ix_lt, ix_le, ix_l0, ix_l1, ix_n0, ix_p0, ix_1lt, ix_lt1, ix_1le, ix_le1, ix_le0, ix_0lt, ab_z0, ab_z1, i_10, i_01, eq_self, ab_ozn, ab_ozp, ab_o_some, not_true_eq_false, not_false_eq_true, Bool.not_eq_false, Bool.not_eq_true, Bool.not_eq_false', Bool.not_eq_true', Bool.false_eq_true, Bool.true_eq_false, reduceCtorEq, Option.isSome_some, Option.isSome_none, r44, r45, r46, r47, r48, r49, r50, r51, r52, r53, r54, r55, r56, r57, r58, r59, r60, r61, g0, g2, g6, g16] at h) <;> (try omega)) | (refine br_n (fun h => ?_) (fun h => ?_) <;> (try simp (disch := omega) only [nI_clamp, li_2, li_3, li_4, li_5, li_6, li_7, li_8, li_9, li_10, li_40, li_120, pk_mul, nI_add, nI_1, ix_eq, ix_lt, ix_le, ix_l0, ix_l1, ix_n0, ix_p0, ix_1lt, ix_lt1, ix_1le, ix_le1, ix_le0, ix_0lt, ab_z0, ab_z1, i_10, i_01, eq_self, ab_ozn, ab_ozp, ab_o_some, not_true_eq_false, not_false_eq_true, Bool.not_eq_false, Bool.not_eq_true, Bool.not_eq_false', Bool.not_eq_true', Bool.false_eq_true, Bool.true_eq_false, reduceCtorEq, Option.isSome_some, Option.isSome_none, r44, r45, r46, r47, r48, r49, r50, r51, r52, r53, r54, r55, r56, r57, r58, r59, r60, r61, g0, g2, g6, g16] at h) <;> (try omega)) | refine ab_sd (by first | (with_reducible refine vp_in_nI ?_ ?_ <;> omega) | (simp (disch := omega) only [nI_clamp, li_2, li_3, li_4, li_5, li_6, li_7, li_8, li_9, li_10, li_40, li_120, pk_mul, nI_add, nI_1, ix_eq, ix_lt, ix_le, ix_l0, ix_l1, ix_n0, ix_p0, ix_1lt, ix_lt1, ix_1le, ix_le1, ix_le0, ix_0lt, ab_z0, ab_z1, i_10, i_01, eq_self, ab_ozn, ab_ozp, ab_o_some, not_true_eq_false, not_false_eq_true, Bool.not_eq_false, Bool.not_eq_true, Bool.not_eq_false', Bool.not_eq_true', Bool.false_eq_true, Bool.true_eq_false, reduceCtorEq, Option.isSome_some, Option.isSome_none, r44, r45, r46, r47, r48, r49, r50, r51, r52, r53, r54, r55, r56, r57, r58, r59, r60, r61, g0, g2, g6, g16]; with_reducible refine vp_in_nI ?_ ?_ <;> omega)) ?_ | refine ab_sd ?_ ?_ | refine ab_sz (Or.inl rfl) ?_ | refine ab_sz (Or.inr rfl) ?_ | refine ab_sz ?_ ?_)
            cases mo with
            | false => exact fin μ' V R hF r64 hI (fun d' a' hd' ha' => hm2 rfl d' a' (by omega) ha') _ _
            | true => exact ihN μ' V (hm1 rfl) R hF r64 hI _ _
      obtain ⟨r44, r45, r46, r47, r48, r49, r50, r51, r52, r53, r54, r55, r56, r57, r58, r59, r60, r61, g0, g2, g6, g16⟩ := RepR_fs R
      refine hj _ _ _ _ ?_
      repeat' (first | refine hjx _ _ _ _ (by decide) ?_ | (refine br_c (fun h => ?_) (fun h => ?_) <;> (try simp (disch := omega) only [nI_clamp, li_2, li_3, li_4, li_5, li_6, li_7, li_8, li_9, li_10, li_40, li_120, pk_mul, nI_add, nI_1, ix_eq, ix_lt, ix_le, ix_l0, ix_l1, ix_n0, ix_p0, ix_1lt, ix_lt1, ix_1le, ix_le1, ix_le0, ix_0lt, ab_z0, ab_z1, i_10, i_01, eq_self, ab_ozn, ab_ozp, ab_o_some, not_true_eq_false, not_false_eq_true, Bool.not_eq_false, Bool.not_eq_true, Bool.not_eq_false', Bool.not_eq_true', Bool.false_eq_true, Bool.true_eq_false, reduceCtorEq, Option.isSome_some, Option.isSome_none, r44, r45, r46, r47, r48, r49, r50, r51, r52, r53, r54, r55, r56, r57, r58, r59, r60, r61, g0, g2, g6, g16] at h) <;> (try omega)) | (refine br_n (fun h => ?_) (fun h => ?_) <;> (try simp (disch := omega) only [nI_clamp, li_2, li_3, li_4, li_5, li_6, li_7, li_8, li_9, li_10, li_40, li_120, pk_mul, nI_add, nI_1, ix_eq, ix_lt, ix_le, ix_l0, ix_l1, ix_n0, ix_p0, ix_1lt, ix_lt1, ix_1le, ix_le1, ix_le0, ix_0lt, ab_z0, ab_z1, i_10, i_01, eq_self, ab_ozn, ab_ozp, ab_o_some, not_true_eq_false, not_false_eq_true, Bool.not_eq_false, Bool.not_eq_true, Bool.not_eq_false', Bool.not_eq_true', Bool.false_eq_true, Bool.true_eq_false, reduceCtorEq, Option.isSome_some, Option.isSome_none, r44, r45, r46, r47, r48, r49, r50, r51, r52, r53, r54, r55, r56, r57, r58, r59, r60, r61, g0, g2, g6, g16] at h) <;> (try omega)) | refine ab_sd (by first | (with_reducible refine vp_in_nI ?_ ?_ <;> omega) | (simp (disch := omega) only [nI_clamp, li_2, li_3, li_4, li_5, li_6, li_7, li_8, li_9, li_10, li_40, li_120, pk_mul, nI_add, nI_1, ix_eq, ix_lt, ix_le, ix_l0, ix_l1, ix_n0, ix_p0, ix_1lt, ix_lt1, ix_1le, ix_le1, ix_le0, ix_0lt, ab_z0, ab_z1, i_10, i_01, eq_self, ab_ozn, ab_ozp, ab_o_some, not_true_eq_false, not_false_eq_true, Bool.not_eq_false, Bool.not_eq_true, Bool.not_eq_false', Bool.not_eq_true', Bool.false_eq_true, Bool.true_eq_false, reduceCtorEq, Option.isSome_some, Option.isSome_none, r44, r45, r46, r47, r48, r49, r50, r51, r52, r53, r54, r55, r56, r57, r58, r59, r60, r61, g0, g2, g6, g16]; with_reducible refine vp_in_nI ?_ ?_ <;> omega)) ?_ | refine ab_sd ?_ ?_ | refine ab_sz (Or.inl rfl) ?_ | refine ab_sz (Or.inr rfl) ?_ | refine ab_sz ?_ ?_)
      exact loopD (s_nX S + 1) 0 μ' V false (by omega) (by omega) R hF r64 hI (fun q => by cases q) (fun _ d' a' h => by omega) hN _
  have loop2 : ∀ n' d μ', s_nX S + 1 ≤ d + n' → d ≤ s_nX S → RepR S μ' → FO μ μ' → (∀ j, μ'.1 64 j = ab_z (s_v1 S V0 d 0 j)) → ∀ v2 v3, j 2 [some (.ref 43), some (.int (nI d)), v2, v3] [] μ' := by
    intro n'
    induction n' with
    | zero => intro d μ' h1 h2; omega
    | succ n' ihD =>
      intro d μ' h1 h2 R hF r64 v2 v3
      refine hw _ _ [some (.ref 43), some (.int (nI d)), none, none] _ _ ⟨rfl, rfl, trivial⟩ ?_
      by_cases hd : d < s_nX S
      · have loop8 : ∀ m' a μ', s_nX S + 1 ≤ a + m' → a ≤ s_nX S → RepR S μ' → FO μ μ' → (∀ j, μ'.1 64 j = ab_z (s_v1 S V0 d a j)) → ∀ v3, j 8 [some (.ref 43), some (.int (nI d)), some (.int (nI a)), v3] [] μ' := by
          intro m'
          induction m' with
          | zero => intro a μ' h1 h2; omega
          | succ m' ihA =>
            intro a μ' h3 h4 R hF r64 v3
            refine hw _ _ [some (.ref 43), some (.int (nI d)), some (.int (nI a)), none] _ _ ⟨rfl, rfl, rfl, trivial⟩ ?_
            obtain ⟨r44, r45, r46, r47, r48, r49, r50, r51, r52, r53, r54, r55, r56, r57, r58, r59, r60, r61, g0, g2, g6, g16⟩ := RepR_fs R
            by_cases ha : a < s_nX S
            · obtain ⟨a1, a2, a3, a4, a5⟩ := hW.2.2.2.2.2.2 a ha
              obtain ⟨d1, d2, d3, d4, d5⟩ := hW.2.2.2.2.2.2 d hd
              obtain ⟨e1, -⟩ := hW.2.2.2.2.2.1 _ a1
              obtain ⟨f1, -⟩ := hW.2.2.2.2.2.1 _ d1
              have ih : ∀ b : Bool, b = s_dir S d a → j 8 [some (.ref 43), some (.int (nI d)), some (.int (nI (a + 1))), none] [] (ab_mi μ' 64 (120 * d + a) (ab_z b)) := by
                intro b hb
                refine ihA (a + 1) _ (by omega) (by omega) (rep_c R rfl rfl ⟨by decide, by decide⟩) hF.mi ?_ _
                rw [hb]
                exact bool_up r64 (s_v1_s ha hX)
              refine hj _ _ _ _ ?_
              repeat' (first | refine hjx _ _ _ _ (by decide) ?_ | (refine br_c (fun h => ?_) (fun h => ?_) <;> (try simp (disch := omega) only [nI_clamp, li_2, li_3, li_4, li_5, li_6, li_7, li_8, li_9, li_10, li_40, li_120, pk_mul, nI_add, nI_1, ix_eq, ix_lt, ix_le, ix_l0, ix_l1, ix_n0, ix_p0, ix_1lt, ix_lt1, ix_1le, ix_le1, ix_le0, ix_0lt, ab_z0, ab_z1, i_10, i_01, eq_self, ab_ozn, ab_ozp, ab_o_some, not_true_eq_false, not_false_eq_true, Bool.not_eq_false, Bool.not_eq_true, Bool.not_eq_false', Bool.not_eq_true', Bool.false_eq_true, Bool.true_eq_false, reduceCtorEq, Option.isSome_some, Option.isSome_none, r44, r45, r46, r47, r48, r49, r50, r51, r52, r53, r54, r55, r56, r57, r58, r59, r60, r61, g0, g2, g6, g16, r64] at h) <;> (try omega)) | (refine br_n (fun h => ?_) (fun h => ?_) <;> (try simp (disch := omega) only [nI_clamp, li_2, li_3, li_4, li_5, li_6, li_7, li_8, li_9, li_10, li_40, li_120, pk_mul, nI_add, nI_1, ix_eq, ix_lt, ix_le, ix_l0, ix_l1, ix_n0, ix_p0, ix_1lt, ix_lt1, ix_1le, ix_le1, ix_le0, ix_0lt, ab_z0, ab_z1, i_10, i_01, eq_self, ab_ozn, ab_ozp, ab_o_some, not_true_eq_false, not_false_eq_true, Bool.not_eq_false, Bool.not_eq_true, Bool.not_eq_false', Bool.not_eq_true', Bool.false_eq_true, Bool.true_eq_false, reduceCtorEq, Option.isSome_some, Option.isSome_none, r44, r45, r46, r47, r48, r49, r50, r51, r52, r53, r54, r55, r56, r57, r58, r59, r60, r61, g0, g2, g6, g16, r64] at h) <;> (try omega)) | refine ab_sd (by first | (with_reducible refine vp_in_nI ?_ ?_ <;> omega) | (simp (disch := omega) only [nI_clamp, li_2, li_3, li_4, li_5, li_6, li_7, li_8, li_9, li_10, li_40, li_120, pk_mul, nI_add, nI_1, ix_eq, ix_lt, ix_le, ix_l0, ix_l1, ix_n0, ix_p0, ix_1lt, ix_lt1, ix_1le, ix_le1, ix_le0, ix_0lt, ab_z0, ab_z1, i_10, i_01, eq_self, ab_ozn, ab_ozp, ab_o_some, not_true_eq_false, not_false_eq_true, Bool.not_eq_false, Bool.not_eq_true, Bool.not_eq_false', Bool.not_eq_true', Bool.false_eq_true, Bool.true_eq_false, reduceCtorEq, Option.isSome_some, Option.isSome_none, r44, r45, r46, r47, r48, r49, r50, r51, r52, r53, r54, r55, r56, r57, r58, r59, r60, r61, g0, g2, g6, g16, r64]; with_reducible refine vp_in_nI ?_ ?_ <;> omega)) ?_ | refine r_canOver hω R hW (d := d) (a := a) rfl rfl hd ha ?_ | refine ab_sd ?_ ?_ | refine ab_sz (Or.inl rfl) ?_ | refine ab_sz (Or.inr rfl) ?_ | refine ab_sz ?_ ?_)
              all_goals (show j 8 _ _ _; simp (disch := omega) only [nI_clamp, li_2, li_3, li_4, li_5, li_6, li_7, li_8, li_9, li_10, li_40, li_120, pk_mul, nI_add, nI_1, ix_eq, ix_lt, ix_le, ix_l0, ix_l1, ix_n0, ix_p0, ix_1lt, ix_lt1, ix_1le, ix_le1, ix_le0, ix_0lt, ab_z0, ab_z1, i_10, i_01, eq_self, ab_ozn, ab_ozp, ab_o_some, not_true_eq_false, not_false_eq_true, Bool.not_eq_false, Bool.not_eq_true, Bool.not_eq_false', Bool.not_eq_true', Bool.false_eq_true, Bool.true_eq_false, reduceCtorEq, Option.isSome_some, Option.isSome_none, r44, r45, r46, r47, r48, r49, r50, r51, r52, r53, r54, r55, r56, r57, r58, r59, r60, r61, g0, g2, g6, g16]; first | exact ih true (by unfold s_dir; simp [*]) | exact ih false (by unfold s_dir; simp [*]))
            · have ha2 : a = s_nX S := by omega
              refine hj _ _ _ _ ?_
              repeat' (first | refine hjx _ _ _ _ (by decide) ?_ | (refine br_c (fun h => ?_) (fun h => ?_) <;> (try simp (disch := omega) only [nI_clamp, li_2, li_3, li_4, li_5, li_6, li_7, li_8, li_9, li_10, li_40, li_120, pk_mul, nI_add, nI_1, ix_eq, ix_lt, ix_le, ix_l0, ix_l1, ix_n0, ix_p0, ix_1lt, ix_lt1, ix_1le, ix_le1, ix_le0, ix_0lt, ab_z0, ab_z1, i_10, i_01, eq_self, ab_ozn, ab_ozp, ab_o_some, not_true_eq_false, not_false_eq_true, Bool.not_eq_false, Bool.not_eq_true, Bool.not_eq_false', Bool.not_eq_true', Bool.false_eq_true, Bool.true_eq_false, reduceCtorEq, Option.isSome_some, Option.isSome_none, r44, r45, r46, r47, r48, r49, r50, r51, r52, r53, r54, r55, r56, r57, r58, r59, r60, r61, g0, g2, g6, g16] at h) <;> (try omega)) | (refine br_n (fun h => ?_) (fun h => ?_) <;> (try simp (disch := omega) only [nI_clamp, li_2, li_3, li_4, li_5, li_6, li_7, li_8, li_9, li_10, li_40, li_120, pk_mul, nI_add, nI_1, ix_eq, ix_lt, ix_le, ix_l0, ix_l1, ix_n0, ix_p0, ix_1lt, ix_lt1, ix_1le, ix_le1, ix_le0, ix_0lt, ab_z0, ab_z1, i_10, i_01, eq_self, ab_ozn, ab_ozp, ab_o_some, not_true_eq_false, not_false_eq_true, Bool.not_eq_false, Bool.not_eq_true, Bool.not_eq_false', Bool.not_eq_true', Bool.false_eq_true, Bool.true_eq_false, reduceCtorEq, Option.isSome_some, Option.isSome_none, r44, r45, r46, r47, r48, r49, r50, r51, r52, r53, r54, r55, r56, r57, r58, r59, r60, r61, g0, g2, g6, g16] at h) <;> (try omega)) | refine ab_sd (by first | (with_reducible refine vp_in_nI ?_ ?_ <;> omega) | (simp (disch := omega) only [nI_clamp, li_2, li_3, li_4, li_5, li_6, li_7, li_8, li_9, li_10, li_40, li_120, pk_mul, nI_add, nI_1, ix_eq, ix_lt, ix_le, ix_l0, ix_l1, ix_n0, ix_p0, ix_1lt, ix_lt1, ix_1le, ix_le1, ix_le0, ix_0lt, ab_z0, ab_z1, i_10, i_01, eq_self, ab_ozn, ab_ozp, ab_o_some, not_true_eq_false, not_false_eq_true, Bool.not_eq_false, Bool.not_eq_true, Bool.not_eq_false', Bool.not_eq_true', Bool.false_eq_true, Bool.true_eq_false, reduceCtorEq, Option.isSome_some, Option.isSome_none, r44, r45, r46, r47, r48, r49, r50, r51, r52, r53, r54, r55, r56, r57, r58, r59, r60, r61, g0, g2, g6, g16]; with_reducible refine vp_in_nI ?_ ?_ <;> omega)) ?_ | refine ab_sd ?_ ?_ | refine ab_sz (Or.inl rfl) ?_ | refine ab_sz (Or.inr rfl) ?_ | refine ab_sz ?_ ?_)
              show j 2 _ _ _
              rw [nI_1]
              exact ihD (d + 1) μ' (by omega) (by omega) R hF (fun j => by rw [r64 j, s_v1_n, ha2]) _ _
        obtain ⟨r44, r45, r46, r47, r48, r49, r50, r51, r52, r53, r54, r55, r56, r57, r58, r59, r60, r61, g0, g2, g6, g16⟩ := RepR_fs R
        refine hj _ _ _ _ ?_
        repeat' (first | refine hjx _ _ _ _ (by decide) ?_ | (refine br_c (fun h => ?_) (fun h => ?_) <;> (try simp (disch := omega) only [nI_clamp, li_2, li_3, li_4, li_5, li_6, li_7, li_8, li_9, li_10, li_40, li_120, pk_mul, nI_add, nI_1, ix_eq, ix_lt, ix_le, ix_l0, ix_l1, ix_n0, ix_p0, ix_1lt, ix_lt1, ix_1le, ix_le1, ix_le0, ix_0lt, ab_z0, ab_z1, i_10, i_01, eq_self, ab_ozn, ab_ozp, ab_o_some, not_true_eq_false, not_false_eq_true, Bool.not_eq_false, Bool.not_eq_true, Bool.not_eq_false', Bool.not_eq_true', Bool.false_eq_true, Bool.true_eq_false, reduceCtorEq, Option.isSome_some, Option.isSome_none, r44, r45, r46, r47, r48, r49, r50, r51, r52, r53, r54, r55, r56, r57, r58, r59, r60, r61, g0, g2, g6, g16] at h) <;> (try omega)) | (refine br_n (fun h => ?_) (fun h => ?_) <;> (try simp (disch := omega) only [nI_clamp, li_2, li_3, li_4, li_5, li_6, li_7, li_8, li_9, li_10, li_40, li_120, pk_mul, nI_add, nI_1, ix_eq, ix_lt, ix_le, ix_l0, ix_l1, ix_n0, ix_p0, ix_1lt, ix_lt1, ix_1le, ix_le1, ix_le0, ix_0lt, ab_z0, ab_z1, i_10, i_01, eq_self, ab_ozn, ab_ozp, ab_o_some, not_true_eq_false, not_false_eq_true, Bool.not_eq_false, Bool.not_eq_true, Bool.not_eq_false', Bool.not_eq_true', Bool.false_eq_true, Bool.true_eq_false, reduceCtorEq, Option.isSome_some, Option.isSome_none, r44, r45, r46, r47, r48, r49, r50, r51, r52, r53, r54, r55, r56, r57, r58, r59, r60, r61, g0, g2, g6, g16] at h) <;> (try omega)) | refine ab_sd (by first | (with_reducible refine vp_in_nI ?_ ?_ <;> omega) | (simp (disch := omega) only [nI_clamp, li_2, li_3, li_4, li_5, li_6, li_7, li_8, li_9, li_10, li_40, li_120, pk_mul, nI_add, nI_1, ix_eq, ix_lt, ix_le, ix_l0, ix_l1, ix_n0, ix_p0, ix_1lt, ix_lt1, ix_1le, ix_le1, ix_le0, ix_0lt, ab_z0, ab_z1, i_10, i_01, eq_self, ab_ozn, ab_ozp, ab_o_some, not_true_eq_false, not_false_eq_true, Bool.not_eq_false, Bool.not_eq_true, Bool.not_eq_false', Bool.not_eq_true', Bool.false_eq_true, Bool.true_eq_false, reduceCtorEq, Option.isSome_some, Option.isSome_none, r44, r45, r46, r47, r48, r49, r50, r51, r52, r53, r54, r55, r56, r57, r58, r59, r60, r61, g0, g2, g6, g16]; with_reducible refine vp_in_nI ?_ ?_ <;> omega)) ?_ | refine ab_sd ?_ ?_ | refine ab_sz (Or.inl rfl) ?_ | refine ab_sz (Or.inr rfl) ?_ | refine ab_sz ?_ ?_)
        exact loop8 (s_nX S + 1) 0 μ' (by omega) (by omega) R hF r64 _
      · have hd2 : d = s_nX S := by omega
        obtain ⟨r44, r45, r46, r47, r48, r49, r50, r51, r52, r53, r54, r55, r56, r57, r58, r59, r60, r61, g0, g2, g6, g16⟩ := RepR_fs R
        refine hj _ _ _ _ ?_
        repeat' (first | refine hjx _ _ _ _ (by decide) ?_ | (refine br_c (fun h => ?_) (fun h => ?_) <;> (try simp (disch := omega) only [nI_clamp, li_2, li_3, li_4, li_5, li_6, li_7, li_8, li_9, li_10, li_40, li_120, pk_mul, nI_add, nI_1, ix_eq, ix_lt, ix_le, ix_l0, ix_l1, ix_n0, ix_p0, ix_1lt, ix_lt1, ix_1le, ix_le1, ix_le0, ix_0lt, ab_z0, ab_z1, i_10, i_01, eq_self, ab_ozn, ab_ozp, ab_o_some, not_true_eq_false, not_false_eq_true, Bool.not_eq_false, Bool.not_eq_true, Bool.not_eq_false', Bool.not_eq_true', Bool.false_eq_true, Bool.true_eq_false, reduceCtorEq, Option.isSome_some, Option.isSome_none, r44, r45, r46, r47, r48, r49, r50, r51, r52, r53, r54, r55, r56, r57, r58, r59, r60, r61, g0, g2, g6, g16] at h) <;> (try omega)) | (refine br_n (fun h => ?_) (fun h => ?_) <;> (try simp (disch := omega) only [nI_clamp, li_2, li_3, li_4, li_5, li_6, li_7, li_8, li_9, li_10, li_40, li_120, pk_mul, nI_add, nI_1, ix_eq, ix_lt, ix_le, ix_l0, ix_l1, ix_n0, ix_p0, ix_1lt, ix_lt1, ix_1le, ix_le1, ix_le0, ix_0lt, ab_z0, ab_z1, i_10, i_01, eq_self, ab_ozn, ab_ozp, ab_o_some, not_true_eq_false, not_false_eq_true, Bool.not_eq_false, Bool.not_eq_true, Bool.not_eq_false', Bool.not_eq_true', Bool.false_eq_true, Bool.true_eq_false, reduceCtorEq, Option.isSome_some, Option.isSome_none, r44, r45, r46, r47, r48, r49, r50, r51, r52, r53, r54, r55, r56, r57, r58, r59, r60, r61, g0, g2, g6, g16] at h) <;> (try omega)) | refine ab_sd (by first | (with_reducible refine vp_in_nI ?_ ?_ <;> omega) | (simp (disch := omega) only [nI_clamp, li_2, li_3, li_4, li_5, li_6, li_7, li_8, li_9, li_10, li_40, li_120, pk_mul, nI_add, nI_1, ix_eq, ix_lt, ix_le, ix_l0, ix_l1, ix_n0, ix_p0, ix_1lt, ix_lt1, ix_1le, ix_le1, ix_le0, ix_0lt, ab_z0, ab_z1, i_10, i_01, eq_self, ab_ozn, ab_ozp, ab_o_some, not_true_eq_false, not_false_eq_true, Bool.not_eq_false, Bool.not_eq_true, Bool.not_eq_false', Bool.not_eq_true', Bool.false_eq_true, Bool.true_eq_false, reduceCtorEq, Option.isSome_some, Option.isSome_none, r44, r45, r46, r47, r48, r49, r50, r51, r52, r53, r54, r55, r56, r57, r58, r59, r60, r61, g0, g2, g6, g16]; with_reducible refine vp_in_nI ?_ ?_ <;> omega)) ?_ | refine ab_sd ?_ ?_ | refine ab_sz (Or.inl rfl) ?_ | refine ab_sz (Or.inr rfl) ?_ | refine ab_sz ?_ ?_)
        have ev : ∀ d' a', d' < s_nX S → a' < s_nX S → s_v1 S V0 d 0 (120 * d' + a') = s_dir S d' a' := by
          intro d' a' h5 h6
          unfold s_v1
          rw [if_pos (by omega), show (120 * d' + a') / 120 = d' by omega, show (120 * d' + a') % 120 = a' by omega]
        refine main 14401 μ' (s_v1 S V0 d 0) (by omega) R hF r64 (fun d' a' h5 h6 => ?_) _ _
        rw [ev d' a' h5 h6]
        refine ⟨fun q => q, fun q => ⟨?_, Or.inl q⟩⟩
        unfold s_dir at q
        simp only [Bool.and_eq_true] at q
        exact q.1
  obtain ⟨r44, r45, r46, r47, r48, r49, r50, r51, r52, r53, r54, r55, r56, r57, r58, r59, r60, r61, g0, g2, g6, g16⟩ := RepR_fs R
  repeat' (first | refine hjx _ _ _ _ (by decide) ?_ | (refine br_c (fun h => ?_) (fun h => ?_) <;> (try simp (disch := omega) only [nI_clamp, li_2, li_3, li_4, li_5, li_6, li_7, li_8, li_9, li_10, li_40, li_120, pk_mul, nI_add, nI_1, ix_eq, ix_lt, ix_le, ix_l0, ix_l1, ix_n0, ix_p0, ix_1lt, ix_lt1, ix_1le, ix_le1, ix_le0, ix_0lt, ab_z0, ab_z1, i_10, i_01, eq_self, ab_ozn, ab_ozp, ab_o_some, not_true_eq_false, not_false_eq_true, Bool.not_eq_false, Bool.not_eq_true, Bool.not_eq_false', Bool.not_eq_true', Bool.false_eq_true, Bool.true_eq_false, reduceCtorEq, Option.isSome_some, Option.isSome_none, r44, r45, r46, r47, r48, r49, r50, r51, r52, r53, r54, r55, r56, r57, r58, r59, r60, r61, g0, g2, g6, g16] at h) <;> (try omega)) | (refine br_n (fun h => ?_) (fun h => ?_) <;> (try simp (disch := omega) only [nI_clamp, li_2, li_3, li_4, li_5, li_6, li_7, li_8, li_9, li_10, li_40, li_120, pk_mul, nI_add, nI_1, ix_eq, ix_lt, ix_le, ix_l0, ix_l1, ix_n0, ix_p0, ix_1lt, ix_lt1, ix_1le, ix_le1, ix_le0, ix_0lt, ab_z0, ab_z1, i_10, i_01, eq_self, ab_ozn, ab_ozp, ab_o_some, not_true_eq_false, not_false_eq_true, Bool.not_eq_false, Bool.not_eq_true, Bool.not_eq_false', Bool.not_eq_true', Bool.false_eq_true, Bool.true_eq_false, reduceCtorEq, Option.isSome_some, Option.isSome_none, r44, r45, r46, r47, r48, r49, r50, r51, r52, r53, r54, r55, r56, r57, r58, r59, r60, r61, g0, g2, g6, g16] at h) <;> (try omega)) | refine ab_sd (by first | (with_reducible refine vp_in_nI ?_ ?_ <;> omega) | (simp (disch := omega) only [nI_clamp, li_2, li_3, li_4, li_5, li_6, li_7, li_8, li_9, li_10, li_40, li_120, pk_mul, nI_add, nI_1, ix_eq, ix_lt, ix_le, ix_l0, ix_l1, ix_n0, ix_p0, ix_1lt, ix_lt1, ix_1le, ix_le1, ix_le0, ix_0lt, ab_z0, ab_z1, i_10, i_01, eq_self, ab_ozn, ab_ozp, ab_o_some, not_true_eq_false, not_false_eq_true, Bool.not_eq_false, Bool.not_eq_true, Bool.not_eq_false', Bool.not_eq_true', Bool.false_eq_true, Bool.true_eq_false, reduceCtorEq, Option.isSome_some, Option.isSome_none, r44, r45, r46, r47, r48, r49, r50, r51, r52, r53, r54, r55, r56, r57, r58, r59, r60, r61, g0, g2, g6, g16]; with_reducible refine vp_in_nI ?_ ?_ <;> omega)) ?_ | refine ab_sd ?_ ?_ | refine ab_sz (Or.inl rfl) ?_ | refine ab_sz (Or.inr rfl) ?_ | refine ab_sz ?_ ?_)
  exact loop2 (s_nX S + 1) 0 μ (by omega) (by omega) R FO.rf (fun j => by rw [r64 j]; unfold s_v1; rw [if_neg (by omega)]) _ _
end R14
