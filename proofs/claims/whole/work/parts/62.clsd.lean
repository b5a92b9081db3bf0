/-! THE CLASS: what is put BELOW; the order -/
theorem ab_cnt_nt {f : Nat → Bool} : ∀ n, ab_cnt (fun i => !f i) n + ab_cnt f n = n
  | 0 => rfl
  | n + 1 => by
    have := ab_cnt_nt (f := f) n
    simp only [ab_cnt]
    by_cases hf : f n = true
    · simp [hf]; omega
    · simp [hf]; omega
theorem ab_cnt_lt2 {f : Nat → Bool} {k n : Nat} (h : k < n) (hf : f k = true) : ab_cnt f k < ab_cnt f n := by
  have h1 := ab_cnt_mono (f := f) (show k + 1 ≤ n by omega)
  have h2 : ab_cnt f (k + 1) = ab_cnt f k + 1 := by simp [ab_cnt, hf]
  omega
def s_np (N : Nat) (od : Nat → Nat) (L : Nat → Bool) (k : Nat) : Nat := if L (od k) then ab_cnt (fun i => !L (od i)) N + ab_cnt (fun i => L (od i)) k else ab_cnt (fun i => !L (od i)) k
theorem s_np_lt {N : Nat} {od : Nat → Nat} {L : Nat → Bool} {k : Nat} (hk : k < N) : s_np N od L k < N := by
  have h := ab_cnt_nt (f := fun i => L (od i)) N
  unfold s_np
  cases hl : L (od k) with
  | true =>
    have := ab_cnt_lt2 (f := fun i => L (od i)) hk hl
    simp only [if_true]
    omega
  | false =>
    have := ab_cnt_lt2 (f := fun i => !L (od i)) hk (by simp [hl])
    simp only [Bool.false_eq_true, if_false]
    omega
theorem s_np_mono {N : Nat} {od : Nat → Nat} {L : Nat → Bool} {k k' : Nat} (hk : k < k') (hk' : k' < N) (h : L (od k) = L (od k') ∨ (L (od k) = false ∧ L (od k') = true)) : s_np N od L k < s_np N od L k' := by
  unfold s_np
  cases h1 : L (od k) with
  | true =>
    have h2 : L (od k') = true := by rcases h with h | h <;> simp_all
    have := ab_cnt_lt2 (f := fun i => L (od i)) hk h1
    simp only [h2, if_true]
    omega
  | false =>
    cases h2 : L (od k') with
    | true =>
      have := ab_cnt_lt2 (f := fun i => !L (od i)) (show k < N by omega) (by simp [h1])
      simp only [Bool.false_eq_true, if_false, if_true]
      omega
    | false =>
      have := ab_cnt_lt2 (f := fun i => !L (od i)) hk (by simp [h1])
      simp only [Bool.false_eq_true, if_false]
      omega
theorem s_np_nl {N : Nat} {od : Nat → Nat} {L : Nat → Bool} {k k' : Nat} (hk : k < N) (h1 : L (od k) = false) (h2 : L (od k') = true) : s_np N od L k < s_np N od L k' := by
  have := ab_cnt_lt2 (f := fun i => !L (od i)) hk (by simp [h1])
  unfold s_np
  simp only [h1, h2, Bool.false_eq_true, if_false, if_true]
  omega
theorem s_np_inj {N : Nat} {od : Nat → Nat} {L : Nat → Bool} {k k' : Nat} (hk : k < N) (hk' : k' < N) (e : s_np N od L k = s_np N od L k') : k = k' := by
  cases h1 : L (od k) with
  | true =>
    cases h2 : L (od k') with
    | true =>
      rcases Nat.lt_trichotomy k k' with h | h | h
      · have := s_np_mono (N := N) (od := od) (L := L) h hk' (Or.inl (by rw [h1, h2])); omega
      · exact h
      · have := s_np_mono (N := N) (od := od) (L := L) h hk (Or.inl (by rw [h1, h2])); omega
    | false => have := s_np_nl (N := N) hk' h2 h1; omega
  | false =>
    cases h2 : L (od k') with
    | true => have := s_np_nl (N := N) hk h1 h2; omega
    | false =>
      rcases Nat.lt_trichotomy k k' with h | h | h
      · have := s_np_mono (N := N) (od := od) (L := L) h hk' (Or.inl (by rw [h1, h2])); omega
      · exact h
      · have := s_np_mono (N := N) (od := od) (L := L) h hk (Or.inl (by rw [h1, h2])); omega
theorem ab_surj {N : Nat} {F : Nat → Nat} (h1 : ∀ k, k < N → F k < N) (h2 : ∀ k k', k < N → k' < N → F k = F k' → k = k') : ∀ i, i < N → ∃ k, k < N ∧ F k = i := by
  intro i hi
  have := ab_cnt_full (ab_cnt_inj N h1 h2) i hi
  obtain ⟨k, hk, e⟩ := ab_ex_iff.mp this
  exact ⟨k, hk, by simpa using e⟩
section KD
variable {l : Launch} {ω : ab_W} {S : sT} {μ : ab_M} {Q : ab_M → Prop}
theorem x_putLastInOrder (hω : ω.2.2.2 = ab_SH) {x : Int64} {N : Nat} {od : Nat → Nat} (hN : N ≤ 40) (hc : μ.1 2 0 = nI N) (ho : ∀ i, i < N → od i < N ∧ μ.1 23 i = nI (od i)) (hQ : ∀ μ', μ'.2 = μ.2 → (∀ k j, k ≠ 23 → k ≠ 24 → μ'.1 k j = μ.1 k j) → (∀ k, k < N → μ'.1 23 (s_np N od (ab_bt x) k) = nI (od k)) → Q μ') : ab_CV l ω mX8_putLastInOrder [.ref 2, .long x] μ Q := by
  refine ab_intro (sh := ab_SH) (cd := kX8_putLastInOrder) hω vX8_putLastInOrder (by decide +kernel) rfl (Nat.le_of_ble_eq_true rfl) (fun j hj hw => ?_)
  have hjx : ∀ i ll st μ, i ∉ ([4, 28] : List Nat) → _ → j i ll st μ := fun i ll st μ _ h => hj i ll st μ h
  have hnt := ab_cnt_nt (f := fun i => ab_bt x (od i)) N
  have key2 : ∀ r i μ', i + r = N → μ'.2 = μ.2 → (∀ k j, k ≠ 24 → μ'.1 k j = μ.1 k j) → (∀ k, k < N → (ab_bt x (od k) = false ∨ k < i) → μ'.1 24 (s_np N od (ab_bt x) k) = nI (od k)) → j 28 [some (.ref 2), some (.long x), none, some (.int (nI (ab_cnt (fun i => !ab_bt x (od i)) N + ab_cnt (fun i => ab_bt x (od i)) i))), some (.int (nI i))] [] μ' := by
    intro r
    induction r with
    | zero =>
      intro i μ' hi h1 h2 h3
      refine hj _ _ _ _ ?_
      have e0 : μ'.1 2 0 = nI N := by rw [h2 2 0 (by omega)]; exact hc
      repeat' (first | refine hjx _ _ _ _ (by decide) ?_ | (refine br_c (fun h => ?_) (fun h => ?_) <;> (try simp (disch := omega) only [nI_clamp, li_2, li_3, li_4, li_5, li_6, li_7, li_8, li_9, li_10, li_40, li_120, pk_mul, nI_add, nI_1, ix_eq, ix_lt, ix_le, ix_l0, ix_l1, ix_n0, ix_p0, ix_1lt, ix_lt1, ix_1le, ix_le1, ix_le0, ix_0lt, ab_z0, ab_z1, i_10, i_01, eq_self, ab_ozn, ab_ozp, ab_o_some, not_true_eq_false, not_false_eq_true, Bool.not_eq_false, Bool.not_eq_true, Bool.not_eq_false', Bool.not_eq_true', Bool.false_eq_true, Bool.true_eq_false, reduceCtorEq, Option.isSome_some, Option.isSome_none, e0] at h) <;> (try omega)) | (refine br_n (fun h => ?_) (fun h => ?_) <;> (try simp (disch := omega) only [nI_clamp, li_2, li_3, li_4, li_5, li_6, li_7, li_8, li_9, li_10, li_40, li_120, pk_mul, nI_add, nI_1, ix_eq, ix_lt, ix_le, ix_l0, ix_l1, ix_n0, ix_p0, ix_1lt, ix_lt1, ix_1le, ix_le1, ix_le0, ix_0lt, ab_z0, ab_z1, i_10, i_01, eq_self, ab_ozn, ab_ozp, ab_o_some, not_true_eq_false, not_false_eq_true, Bool.not_eq_false, Bool.not_eq_true, Bool.not_eq_false', Bool.not_eq_true', Bool.false_eq_true, Bool.true_eq_false, reduceCtorEq, Option.isSome_some, Option.isSome_none, e0] at h) <;> (try omega)) | refine ab_sd (by first | (with_reducible refine vp_in_nI ?_ ?_ <;> omega) | (simp (disch := omega) only [nI_clamp, li_2, li_3, li_4, li_5, li_6, li_7, li_8, li_9, li_10, li_40, li_120, pk_mul, nI_add, nI_1, ix_eq, ix_lt, ix_le, ix_l0, ix_l1, ix_n0, ix_p0, ix_1lt, ix_lt1, ix_1le, ix_le1, ix_le0, ix_0lt, ab_z0, ab_z1, i_10, i_01, eq_self, ab_ozn, ab_ozp, ab_o_some, not_true_eq_false, not_false_eq_true, Bool.not_eq_false, Bool.not_eq_true, Bool.not_eq_false', Bool.not_eq_true', Bool.false_eq_true, Bool.true_eq_false, reduceCtorEq, Option.isSome_some, Option.isSome_none, e0]; with_reducible refine vp_in_nI ?_ ?_ <;> omega)) ?_ | refine ab_sd ?_ ?_ | refine ab_sz (Or.inl rfl) ?_ | refine ab_sz (Or.inr rfl) ?_ | refine ab_sz ?_ ?_)
      refine ⟨by decide, by decide, ?_, ?_, ?_, ?_⟩
      · rw [e0]; exact nI_pos (by omega)
      · rw [e0, nI_clamp (by omega)]; exact (by simpa using hN)
      · rw [e0, nI_clamp (by omega)]; exact (by simpa using hN)
      · refine hj _ _ _ _ ?_
        repeat' (first | refine hjx _ _ _ _ (by decide) ?_ | (refine br_c (fun h => ?_) (fun h => ?_) <;> (try simp (disch := omega) only [nI_clamp, li_2, li_3, li_4, li_5, li_6, li_7, li_8, li_9, li_10, li_40, li_120, pk_mul, nI_add, nI_1, ix_eq, ix_lt, ix_le, ix_l0, ix_l1, ix_n0, ix_p0, ix_1lt, ix_lt1, ix_1le, ix_le1, ix_le0, ix_0lt, ab_z0, ab_z1, i_10, i_01, eq_self, ab_ozn, ab_ozp, ab_o_some, not_true_eq_false, not_false_eq_true, Bool.not_eq_false, Bool.not_eq_true, Bool.not_eq_false', Bool.not_eq_true', Bool.false_eq_true, Bool.true_eq_false, reduceCtorEq, Option.isSome_some, Option.isSome_none] at h) <;> (try omega)) | (refine br_n (fun h => ?_) (fun h => ?_) <;> (try simp (disch := omega) only [nI_clamp, li_2, li_3, li_4, li_5, li_6, li_7, li_8, li_9, li_10, li_40, li_120, pk_mul, nI_add, nI_1, ix_eq, ix_lt, ix_le, ix_l0, ix_l1, ix_n0, ix_p0, ix_1lt, ix_lt1, ix_1le, ix_le1, ix_le0, ix_0lt, ab_z0, ab_z1, i_10, i_01, eq_self, ab_ozn, ab_ozp, ab_o_some, not_true_eq_false, not_false_eq_true, Bool.not_eq_false, Bool.not_eq_true, Bool.not_eq_false', Bool.not_eq_true', Bool.false_eq_true, Bool.true_eq_false, reduceCtorEq, Option.isSome_some, Option.isSome_none] at h) <;> (try omega)) | refine ab_sd (by first | (with_reducible refine vp_in_nI ?_ ?_ <;> omega) | (simp (disch := omega) only [nI_clamp, li_2, li_3, li_4, li_5, li_6, li_7, li_8, li_9, li_10, li_40, li_120, pk_mul, nI_add, nI_1, ix_eq, ix_lt, ix_le, ix_l0, ix_l1, ix_n0, ix_p0, ix_1lt, ix_lt1, ix_1le, ix_le1, ix_le0, ix_0lt, ab_z0, ab_z1, i_10, i_01, eq_self, ab_ozn, ab_ozp, ab_o_some, not_true_eq_false, not_false_eq_true, Bool.not_eq_false, Bool.not_eq_true, Bool.not_eq_false', Bool.not_eq_true', Bool.false_eq_true, Bool.true_eq_false, reduceCtorEq, Option.isSome_some, Option.isSome_none]; with_reducible refine vp_in_nI ?_ ?_ <;> omega)) ?_ | refine ab_sd ?_ ?_ | refine ab_sz (Or.inl rfl) ?_ | refine ab_sz (Or.inr rfl) ?_ | refine ab_sz ?_ ?_)
        show Q _
        refine hQ _ h1 (fun k jj a b => ?_) (fun k hk => ?_)
        · simp only [ab_mr, if_neg a]
          exact h2 k jj b
        · have hlt := s_np_lt (N := N) (od := od) (L := ab_bt x) hk
          simp only [ab_mr, if_true]
          rw [e0, nI_clamp (by omega)]
          unfold va_cpy
          rw [if_pos ⟨Nat.zero_le _, by simpa using hlt⟩]
          have := h3 k hk (Or.inr (by omega))
          simpa using this
    | succ r ih =>
      intro i μ' hi h1 h2 h3
      refine hj _ _ _ _ ?_
      have e0 : μ'.1 2 0 = nI N := by rw [h2 2 0 (by omega)]; exact hc
      obtain ⟨o1, o2⟩ := ho i (by omega)
      have e1 : μ'.1 23 i = nI (od i) := by rw [h2 23 i (by omega)]; exact o2
      have eix : μ'.1 23 (nI i).toNatClampNeg = nI (od i) := by rw [nI_clamp (by omega), e1]
      have hci := ab_cnt_le (fun i => ab_bt x (od i)) i
      cases hb : ab_bt x (od i) with
      | false =>
        repeat' (first | refine hjx _ _ _ _ (by decide) ?_ | (refine br_c (fun h => ?_) (fun h => ?_) <;> (try simp (disch := omega) only [nI_clamp, li_2, li_3, li_4, li_5, li_6, li_7, li_8, li_9, li_10, li_40, li_120, pk_mul, nI_add, nI_1, ix_eq, ix_lt, ix_le, ix_l0, ix_l1, ix_n0, ix_p0, ix_1lt, ix_lt1, ix_1le, ix_le1, ix_le0, ix_0lt, ab_z0, ab_z1, i_10, i_01, eq_self, ab_ozn, ab_ozp, ab_o_some, not_true_eq_false, not_false_eq_true, Bool.not_eq_false, Bool.not_eq_true, Bool.not_eq_false', Bool.not_eq_true', Bool.false_eq_true, Bool.true_eq_false, reduceCtorEq, Option.isSome_some, Option.isSome_none, e0, e1, hb] at h) <;> (try omega)) | (refine br_n (fun h => ?_) (fun h => ?_) <;> (try simp (disch := omega) only [nI_clamp, li_2, li_3, li_4, li_5, li_6, li_7, li_8, li_9, li_10, li_40, li_120, pk_mul, nI_add, nI_1, ix_eq, ix_lt, ix_le, ix_l0, ix_l1, ix_n0, ix_p0, ix_1lt, ix_lt1, ix_1le, ix_le1, ix_le0, ix_0lt, ab_z0, ab_z1, i_10, i_01, eq_self, ab_ozn, ab_ozp, ab_o_some, not_true_eq_false, not_false_eq_true, Bool.not_eq_false, Bool.not_eq_true, Bool.not_eq_false', Bool.not_eq_true', Bool.false_eq_true, Bool.true_eq_false, reduceCtorEq, Option.isSome_some, Option.isSome_none, e0, e1, hb] at h) <;> (try omega)) | refine ab_sd (by first | (with_reducible refine vp_in_nI ?_ ?_ <;> omega) | (simp (disch := omega) only [nI_clamp, li_2, li_3, li_4, li_5, li_6, li_7, li_8, li_9, li_10, li_40, li_120, pk_mul, nI_add, nI_1, ix_eq, ix_lt, ix_le, ix_l0, ix_l1, ix_n0, ix_p0, ix_1lt, ix_lt1, ix_1le, ix_le1, ix_le0, ix_0lt, ab_z0, ab_z1, i_10, i_01, eq_self, ab_ozn, ab_ozp, ab_o_some, not_true_eq_false, not_false_eq_true, Bool.not_eq_false, Bool.not_eq_true, Bool.not_eq_false', Bool.not_eq_true', Bool.false_eq_true, Bool.true_eq_false, reduceCtorEq, Option.isSome_some, Option.isSome_none, e0, e1, hb]; with_reducible refine vp_in_nI ?_ ?_ <;> omega)) ?_ | refine x_has hω (t := od i) eix (by omega) ?_ | refine ab_sd ?_ ?_ | refine ab_sz (Or.inl rfl) ?_ | refine ab_sz (Or.inr rfl) ?_ | refine ab_sz ?_ ?_)
        show j 28 _ _ _
        rw [nI_1]
        have e2 : ab_cnt (fun i => ab_bt x (od i)) (i + 1) = ab_cnt (fun i => ab_bt x (od i)) i := by simp [ab_cnt, hb]
        have := ih (i + 1) μ' (by omega) h1 h2 (fun k hk hor => h3 k hk (by
          by_cases q : k = i
          · subst q; exact Or.inl hb
          · rcases hor with a | a
            · exact Or.inl a
            · exact Or.inr (by omega)))
        rw [e2] at this
        exact this
      | true =>
        have hlt := ab_cnt_lt2 (f := fun i => ab_bt x (od i)) (show i < N by omega) hb
        have hnp : s_np N od (ab_bt x) i = ab_cnt (fun i => !ab_bt x (od i)) N + ab_cnt (fun i => ab_bt x (od i)) i := by unfold s_np; rw [hb]; rfl
        repeat' (first | refine hjx _ _ _ _ (by decide) ?_ | (refine br_c (fun h => ?_) (fun h => ?_) <;> (try simp (disch := omega) only [nI_clamp, li_2, li_3, li_4, li_5, li_6, li_7, li_8, li_9, li_10, li_40, li_120, pk_mul, nI_add, nI_1, ix_eq, ix_lt, ix_le, ix_l0, ix_l1, ix_n0, ix_p0, ix_1lt, ix_lt1, ix_1le, ix_le1, ix_le0, ix_0lt, ab_z0, ab_z1, i_10, i_01, eq_self, ab_ozn, ab_ozp, ab_o_some, not_true_eq_false, not_false_eq_true, Bool.not_eq_false, Bool.not_eq_true, Bool.not_eq_false', Bool.not_eq_true', Bool.false_eq_true, Bool.true_eq_false, reduceCtorEq, Option.isSome_some, Option.isSome_none, e0, e1, hb] at h) <;> (try omega)) | (refine br_n (fun h => ?_) (fun h => ?_) <;> (try simp (disch := omega) only [nI_clamp, li_2, li_3, li_4, li_5, li_6, li_7, li_8, li_9, li_10, li_40, li_120, pk_mul, nI_add, nI_1, ix_eq, ix_lt, ix_le, ix_l0, ix_l1, ix_n0, ix_p0, ix_1lt, ix_lt1, ix_1le, ix_le1, ix_le0, ix_0lt, ab_z0, ab_z1, i_10, i_01, eq_self, ab_ozn, ab_ozp, ab_o_some, not_true_eq_false, not_false_eq_true, Bool.not_eq_false, Bool.not_eq_true, Bool.not_eq_false', Bool.not_eq_true', Bool.false_eq_true, Bool.true_eq_false, reduceCtorEq, Option.isSome_some, Option.isSome_none, e0, e1, hb] at h) <;> (try omega)) | refine ab_sd (by first | (with_reducible refine vp_in_nI ?_ ?_ <;> omega) | (simp (disch := omega) only [nI_clamp, li_2, li_3, li_4, li_5, li_6, li_7, li_8, li_9, li_10, li_40, li_120, pk_mul, nI_add, nI_1, ix_eq, ix_lt, ix_le, ix_l0, ix_l1, ix_n0, ix_p0, ix_1lt, ix_lt1, ix_1le, ix_le1, ix_le0, ix_0lt, ab_z0, ab_z1, i_10, i_01, eq_self, ab_ozn, ab_ozp, ab_o_some, not_true_eq_false, not_false_eq_true, Bool.not_eq_false, Bool.not_eq_true, Bool.not_eq_false', Bool.not_eq_true', Bool.false_eq_true, Bool.true_eq_false, reduceCtorEq, Option.isSome_some, Option.isSome_none, e0, e1, hb]; with_reducible refine vp_in_nI ?_ ?_ <;> omega)) ?_ | refine x_has hω (t := od i) eix (by omega) ?_ | refine ab_sd ?_ ?_ | refine ab_sz (Or.inl rfl) ?_ | refine ab_sz (Or.inr rfl) ?_ | refine ab_sz ?_ ?_)
        show j 28 _ _ _
        rw [nI_1, nI_1, eix, nI_clamp (by omega)]
        have e2 : ab_cnt (fun i => ab_bt x (od i)) (i + 1) = ab_cnt (fun i => ab_bt x (od i)) i + 1 := by simp [ab_cnt, hb]
        have := ih (i + 1) (ab_mi μ' 24 (ab_cnt (fun i => !ab_bt x (od i)) N + ab_cnt (fun i => ab_bt x (od i)) i) (nI (od i))) (by omega) h1 (fun k jj a => by
          have : ¬ (k = 24 ∧ jj = ab_cnt (fun i => !ab_bt x (od i)) N + ab_cnt (fun i => ab_bt x (od i)) i) := fun q => a q.1
          simp only [ab_mi, if_neg this]
          exact h2 k jj a) (fun k hk hor => by
          by_cases q : k = i
          · subst q
            rw [hnp]
            simp [ab_mi]
          · have hne : ¬ s_np N od (ab_bt x) k = ab_cnt (fun i => !ab_bt x (od i)) N + ab_cnt (fun i => ab_bt x (od i)) i := fun e => q (s_np_inj hk (by omega) (by rw [e, hnp]))
            simp only [ab_mi, hne, and_false, if_false]
            exact h3 k hk (by
              rcases hor with a | a
              · exact Or.inl a
              · exact Or.inr (by omega)))
        rw [e2] at this
        exact this
  have key1 : ∀ r i μ', i + r = N → μ'.2 = μ.2 → (∀ k j, k ≠ 24 → μ'.1 k j = μ.1 k j) → (∀ k, k < i → ab_bt x (od k) = false → μ'.1 24 (s_np N od (ab_bt x) k) = nI (od k)) → j 4 [some (.ref 2), some (.long x), none, some (.int (nI (ab_cnt (fun i => !ab_bt x (od i)) i))), some (.int (nI i))] [] μ' := by
    intro r
    induction r with
    | zero =>
      intro i μ' hi h1 h2 h3
      refine hj _ _ _ _ ?_
      have e0 : μ'.1 2 0 = nI N := by rw [h2 2 0 (by omega)]; exact hc
      repeat' (first | refine hjx _ _ _ _ (by decide) ?_ | (refine br_c (fun h => ?_) (fun h => ?_) <;> (try simp (disch := omega) only [nI_clamp, li_2, li_3, li_4, li_5, li_6, li_7, li_8, li_9, li_10, li_40, li_120, pk_mul, nI_add, nI_1, ix_eq, ix_lt, ix_le, ix_l0, ix_l1, ix_n0, ix_p0, ix_1lt, ix_lt1, ix_1le, ix_le1, ix_le0, ix_0lt, ab_z0, ab_z1, i_10, i_01, eq_self, ab_ozn, ab_ozp, ab_o_some, not_true_eq_false, not_false_eq_true, Bool.not_eq_false, Bool.not_eq_true, Bool.not_eq_false', Bool.not_eq_true', Bool.false_eq_true, Bool.true_eq_false, reduceCtorEq, Option.isSome_some, Option.isSome_none, e0] at h) <;> (try omega)) | (refine br_n (fun h => ?_) (fun h => ?_) <;> (try simp (disch := omega) only [nI_clamp, li_2, li_3, li_4, li_5, li_6, li_7, li_8, li_9, li_10, li_40, li_120, pk_mul, nI_add, nI_1, ix_eq, ix_lt, ix_le, ix_l0, ix_l1, ix_n0, ix_p0, ix_1lt, ix_lt1, ix_1le, ix_le1, ix_le0, ix_0lt, ab_z0, ab_z1, i_10, i_01, eq_self, ab_ozn, ab_ozp, ab_o_some, not_true_eq_false, not_false_eq_true, Bool.not_eq_false, Bool.not_eq_true, Bool.not_eq_false', Bool.not_eq_true', Bool.false_eq_true, Bool.true_eq_false, reduceCtorEq, Option.isSome_some, Option.isSome_none, e0] at h) <;> (try omega)) | refine ab_sd (by first | (with_reducible refine vp_in_nI ?_ ?_ <;> omega) | (simp (disch := omega) only [nI_clamp, li_2, li_3, li_4, li_5, li_6, li_7, li_8, li_9, li_10, li_40, li_120, pk_mul, nI_add, nI_1, ix_eq, ix_lt, ix_le, ix_l0, ix_l1, ix_n0, ix_p0, ix_1lt, ix_lt1, ix_1le, ix_le1, ix_le0, ix_0lt, ab_z0, ab_z1, i_10, i_01, eq_self, ab_ozn, ab_ozp, ab_o_some, not_true_eq_false, not_false_eq_true, Bool.not_eq_false, Bool.not_eq_true, Bool.not_eq_false', Bool.not_eq_true', Bool.false_eq_true, Bool.true_eq_false, reduceCtorEq, Option.isSome_some, Option.isSome_none, e0]; with_reducible refine vp_in_nI ?_ ?_ <;> omega)) ?_ | refine ab_sd ?_ ?_ | refine ab_sz (Or.inl rfl) ?_ | refine ab_sz (Or.inr rfl) ?_ | refine ab_sz ?_ ?_)
      rw [show i = N by omega]
      exact key2 N 0 μ' (by omega) h1 h2 (fun k hk hor => by
        rcases hor with a | a
        · exact h3 k (by omega) a
        · omega)
    | succ r ih =>
      intro i μ' hi h1 h2 h3
      refine hj _ _ _ _ ?_
      have e0 : μ'.1 2 0 = nI N := by rw [h2 2 0 (by omega)]; exact hc
      obtain ⟨o1, o2⟩ := ho i (by omega)
      have e1 : μ'.1 23 i = nI (od i) := by rw [h2 23 i (by omega)]; exact o2
      have eix : μ'.1 23 (nI i).toNatClampNeg = nI (od i) := by rw [nI_clamp (by omega), e1]
      have hci := ab_cnt_le (fun i => !ab_bt x (od i)) i
      cases hb : ab_bt x (od i) with
      | true =>
        repeat' (first | refine hjx _ _ _ _ (by decide) ?_ | (refine br_c (fun h => ?_) (fun h => ?_) <;> (try simp (disch := omega) only [nI_clamp, li_2, li_3, li_4, li_5, li_6, li_7, li_8, li_9, li_10, li_40, li_120, pk_mul, nI_add, nI_1, ix_eq, ix_lt, ix_le, ix_l0, ix_l1, ix_n0, ix_p0, ix_1lt, ix_lt1, ix_1le, ix_le1, ix_le0, ix_0lt, ab_z0, ab_z1, i_10, i_01, eq_self, ab_ozn, ab_ozp, ab_o_some, not_true_eq_false, not_false_eq_true, Bool.not_eq_false, Bool.not_eq_true, Bool.not_eq_false', Bool.not_eq_true', Bool.false_eq_true, Bool.true_eq_false, reduceCtorEq, Option.isSome_some, Option.isSome_none, e0, e1, hb] at h) <;> (try omega)) | (refine br_n (fun h => ?_) (fun h => ?_) <;> (try simp (disch := omega) only [nI_clamp, li_2, li_3, li_4, li_5, li_6, li_7, li_8, li_9, li_10, li_40, li_120, pk_mul, nI_add, nI_1, ix_eq, ix_lt, ix_le, ix_l0, ix_l1, ix_n0, ix_p0, ix_1lt, ix_lt1, ix_1le, ix_le1, ix_le0, ix_0lt, ab_z0, ab_z1, i_10, i_01, eq_self, ab_ozn, ab_ozp, ab_o_some, not_true_eq_false, not_false_eq_true, Bool.not_eq_false, Bool.not_eq_true, Bool.not_eq_false', Bool.not_eq_true', Bool.false_eq_true, Bool.true_eq_false, reduceCtorEq, Option.isSome_some, Option.isSome_none, e0, e1, hb] at h) <;> (try omega)) | refine ab_sd (by first | (with_reducible refine vp_in_nI ?_ ?_ <;> omega) | (simp (disch := omega) only [nI_clamp, li_2, li_3, li_4, li_5, li_6, li_7, li_8, li_9, li_10, li_40, li_120, pk_mul, nI_add, nI_1, ix_eq, ix_lt, ix_le, ix_l0, ix_l1, ix_n0, ix_p0, ix_1lt, ix_lt1, ix_1le, ix_le1, ix_le0, ix_0lt, ab_z0, ab_z1, i_10, i_01, eq_self, ab_ozn, ab_ozp, ab_o_some, not_true_eq_false, not_false_eq_true, Bool.not_eq_false, Bool.not_eq_true, Bool.not_eq_false', Bool.not_eq_true', Bool.false_eq_true, Bool.true_eq_false, reduceCtorEq, Option.isSome_some, Option.isSome_none, e0, e1, hb]; with_reducible refine vp_in_nI ?_ ?_ <;> omega)) ?_ | refine x_has hω (t := od i) eix (by omega) ?_ | refine ab_sd ?_ ?_ | refine ab_sz (Or.inl rfl) ?_ | refine ab_sz (Or.inr rfl) ?_ | refine ab_sz ?_ ?_)
        show j 4 _ _ _
        rw [nI_1]
        have e2 : ab_cnt (fun i => !ab_bt x (od i)) (i + 1) = ab_cnt (fun i => !ab_bt x (od i)) i := by simp [ab_cnt, hb]
        have := ih (i + 1) μ' (by omega) h1 h2 (fun k hk hf => h3 k (by
          by_cases q : k = i
          · subst q; rw [hb] at hf; cases hf
          · omega) hf)
        rw [e2] at this
        exact this
      | false =>
        have hnp : s_np N od (ab_bt x) i = ab_cnt (fun i => !ab_bt x (od i)) i := by unfold s_np; rw [hb]; rfl
        repeat' (first | refine hjx _ _ _ _ (by decide) ?_ | (refine br_c (fun h => ?_) (fun h => ?_) <;> (try simp (disch := omega) only [nI_clamp, li_2, li_3, li_4, li_5, li_6, li_7, li_8, li_9, li_10, li_40, li_120, pk_mul, nI_add, nI_1, ix_eq, ix_lt, ix_le, ix_l0, ix_l1, ix_n0, ix_p0, ix_1lt, ix_lt1, ix_1le, ix_le1, ix_le0, ix_0lt, ab_z0, ab_z1, i_10, i_01, eq_self, ab_ozn, ab_ozp, ab_o_some, not_true_eq_false, not_false_eq_true, Bool.not_eq_false, Bool.not_eq_true, Bool.not_eq_false', Bool.not_eq_true', Bool.false_eq_true, Bool.true_eq_false, reduceCtorEq, Option.isSome_some, Option.isSome_none, e0, e1, hb] at h) <;> (try omega)) | (refine br_n (fun h => ?_) (fun h => ?_) <;> (try simp (disch := omega) only [nI_clamp, li_2, li_3, li_4, li_5, li_6, li_7, li_8, li_9, li_10, li_40, li_120, pk_mul, nI_add, nI_1, ix_eq, ix_lt, ix_le, ix_l0, ix_l1, ix_n0, ix_p0, ix_1lt, ix_lt1, ix_1le, ix_le1, ix_le0, ix_0lt, ab_z0, ab_z1, i_10, i_01, eq_self, ab_ozn, ab_ozp, ab_o_some, not_true_eq_false, not_false_eq_true, Bool.not_eq_false, Bool.not_eq_true, Bool.not_eq_false', Bool.not_eq_true', Bool.false_eq_true, Bool.true_eq_false, reduceCtorEq, Option.isSome_some, Option.isSome_none, e0, e1, hb] at h) <;> (try omega)) | refine ab_sd (by first | (with_reducible refine vp_in_nI ?_ ?_ <;> omega) | (simp (disch := omega) only [nI_clamp, li_2, li_3, li_4, li_5, li_6, li_7, li_8, li_9, li_10, li_40, li_120, pk_mul, nI_add, nI_1, ix_eq, ix_lt, ix_le, ix_l0, ix_l1, ix_n0, ix_p0, ix_1lt, ix_lt1, ix_1le, ix_le1, ix_le0, ix_0lt, ab_z0, ab_z1, i_10, i_01, eq_self, ab_ozn, ab_ozp, ab_o_some, not_true_eq_false, not_false_eq_true, Bool.not_eq_false, Bool.not_eq_true, Bool.not_eq_false', Bool.not_eq_true', Bool.false_eq_true, Bool.true_eq_false, reduceCtorEq, Option.isSome_some, Option.isSome_none, e0, e1, hb]; with_reducible refine vp_in_nI ?_ ?_ <;> omega)) ?_ | refine x_has hω (t := od i) eix (by omega) ?_ | refine ab_sd ?_ ?_ | refine ab_sz (Or.inl rfl) ?_ | refine ab_sz (Or.inr rfl) ?_ | refine ab_sz ?_ ?_)
        show j 4 _ _ _
        rw [nI_1, nI_1, eix, nI_clamp (by omega)]
        have e2 : ab_cnt (fun i => !ab_bt x (od i)) (i + 1) = ab_cnt (fun i => !ab_bt x (od i)) i + 1 := by simp [ab_cnt, hb]
        have := ih (i + 1) (ab_mi μ' 24 (ab_cnt (fun i => !ab_bt x (od i)) i) (nI (od i))) (by omega) h1 (fun k jj a => by
          have : ¬ (k = 24 ∧ jj = ab_cnt (fun i => !ab_bt x (od i)) i) := fun q => a q.1
          simp only [ab_mi, if_neg this]
          exact h2 k jj a) (fun k hk hf => by
          by_cases q : k = i
          · subst q
            rw [hnp]
            simp [ab_mi]
          · have hne : ¬ s_np N od (ab_bt x) k = ab_cnt (fun i => !ab_bt x (od i)) i := fun e => q (s_np_inj (N := N) (by omega) (by omega) (by rw [e, hnp]))
            simp only [ab_mi, hne, and_false, if_false]
            exact h3 k (by omega) hf)
        rw [e2] at this
        exact this
  repeat' (first | refine hjx _ _ _ _ (by decide) ?_ | (refine br_c (fun h => ?_) (fun h => ?_) <;> (try simp (disch := omega) only [nI_clamp, li_2, li_3, li_4, li_5, li_6, li_7, li_8, li_9, li_10, li_40, li_120, pk_mul, nI_add, nI_1, ix_eq, ix_lt, ix_le, ix_l0, ix_l1, ix_n0, ix_p0, ix_1lt, ix_lt1, ix_1le, ix_le1, ix_le0, ix_0lt, ab_z0, ab_z1, i_10, i_01, eq_self, ab_ozn, ab_ozp, ab_o_some, not_true_eq_false, not_false_eq_true, Bool.not_eq_false, Bool.not_eq_true, Bool.not_eq_false', Bool.not_eq_true', Bool.false_eq_true, Bool.true_eq_false, reduceCtorEq, Option.isSome_some, Option.isSome_none] at h) <;> (try omega)) | (refine br_n (fun h => ?_) (fun h => ?_) <;> (try simp (disch := omega) only [nI_clamp, li_2, li_3, li_4, li_5, li_6, li_7, li_8, li_9, li_10, li_40, li_120, pk_mul, nI_add, nI_1, ix_eq, ix_lt, ix_le, ix_l0, ix_l1, ix_n0, ix_p0, ix_1lt, ix_lt1, ix_1le, ix_le1, ix_le0, ix_0lt, ab_z0, ab_z1, i_10, i_01, eq_self, ab_ozn, ab_ozp, ab_o_some, not_true_eq_false, not_false_eq_true, Bool.not_eq_false, Bool.not_eq_true, Bool.not_eq_false', Bool.not_eq_true', Bool.false_eq_true, Bool.true_eq_false, reduceCtorEq, Option.isSome_some, Option.isSome_none] at h) <;> (try omega)) | refine ab_sd (by first | (with_reducible refine vp_in_nI ?_ ?_ <;> omega) | (simp (disch := omega) only [nI_clamp, li_2, li_3, li_4, li_5, li_6, li_7, li_8, li_9, li_10, li_40, li_120, pk_mul, nI_add, nI_1, ix_eq, ix_lt, ix_le, ix_l0, ix_l1, ix_n0, ix_p0, ix_1lt, ix_lt1, ix_1le, ix_le1, ix_le0, ix_0lt, ab_z0, ab_z1, i_10, i_01, eq_self, ab_ozn, ab_ozp, ab_o_some, not_true_eq_false, not_false_eq_true, Bool.not_eq_false, Bool.not_eq_true, Bool.not_eq_false', Bool.not_eq_true', Bool.false_eq_true, Bool.true_eq_false, reduceCtorEq, Option.isSome_some, Option.isSome_none]; with_reducible refine vp_in_nI ?_ ?_ <;> omega)) ?_ | refine ab_sd ?_ ?_ | refine ab_sz (Or.inl rfl) ?_ | refine ab_sz (Or.inr rfl) ?_ | refine ab_sz ?_ ?_)
  exact key1 N 0 μ (by omega) rfl (fun _ _ _ => rfl) (fun k hk => by omega)
/-- how ABOVE is held by bits, and the order -/
def RepA (N : Nat) (A : Nat → Nat → Bool) (μ : ab_M) : Prop := (∀ x, x < N → ∀ i, ab_bt (μ.2 20 x) i = (decide (i < N) && A x i) ∧ ab_bt (μ.2 21 x) i = (decide (i < N) && A i x)) ∧ (∃ od ps : Nat → Nat, (∀ i, i < N → od i < N ∧ ps (od i) = i ∧ μ.1 23 i = nI (od i)) ∧ (∀ t, t < N → ps t < N ∧ od (ps t) = t) ∧ (∀ t u, t < N → u < N → A t u = true → ps u < ps t))
def ab_at (A : Nat → Nat → Bool) (x y : Nat) : Bool := x == y || A x y
def ab_A2 (A : Nat → Nat → Bool) (t u x i : Nat) : Bool := A x i || (ab_at A x t && ab_at A u i)
theorem x_putBelow (hω : ω.2.2.2 = ab_SH) {N : Nat} {A : Nat → Nat → Bool} {x y : Int32} {t u : Nat} (hN : N ≤ 40) (hc : μ.1 2 0 = nI N) (hA : RepA N A μ) (htr : ∀ a b c, a < N → b < N → c < N → A a b = true → A b c = true → A a c = true) (ex : x = nI t) (ey : y = nI u) (ht : t < N) (hu : u < N) (hut : ab_at A u t = false) (hQ : ∀ μ', (∀ k j, k ≠ 23 → k ≠ 24 → μ'.1 k j = μ.1 k j) → (∀ k j, (k ≠ 20 ∧ k ≠ 21) ∨ N ≤ j → μ'.2 k j = μ.2 k j) → RepA N (ab_A2 A t u) μ' → Q μ') : ab_CV l ω mX8_putBelow [.ref 2, .int x, .int y] μ Q := by
  subst ex ey
  refine ab_intro (sh := ab_SH) (cd := kX8_putBelow) hω vX8_putBelow (by decide +kernel) rfl (Nat.le_of_ble_eq_true rfl) (fun j hj hw => ?_)
  have hjx : ∀ i ll st μ, i ∉ ([10, 26, 38] : List Nat) → _ → j i ll st μ := fun i ll st μ _ h => hj i ll st μ h
  obtain ⟨hb, od, ps, o1, o2, o3⟩ := hA
  have lo : ∀ i, ab_bt (ab_one t ||| μ.2 21 t) i = (decide (i < N) && ab_at A i t) := by
    intro i
    rw [ab_bt_or, ab_bt_one (by omega), (hb t ht i).2]
    unfold ab_at
    by_cases q : i = t
    · simp [q, ht]
    · have : (i == t) = false := by simpa using q
      rw [this]
      simp [q]
  have up : ∀ i, ab_bt (ab_one u ||| μ.2 20 u) i = (decide (i < N) && ab_at A u i) := by
    intro i
    rw [ab_bt_or, ab_bt_one (by omega), (hb u hu i).1, ab_deq]
    unfold ab_at
    by_cases q : u = i
    · subst q; simp [hu]
    · have : (u == i) = false := by simpa using q
      rw [this]; rfl
  generalize hlo : (ab_one t ||| μ.2 21 t) = vl at lo
  generalize hup : (ab_one u ||| μ.2 20 u) = vu at up
  have key : ∀ r n μ', n + r = N → μ'.1 = μ.1 → (∀ k j, (k ≠ 20 ∧ k ≠ 21) ∨ N ≤ j → μ'.2 k j = μ.2 k j) → (∀ x, x < N → ∀ i, ab_bt (μ'.2 20 x) i = ((decide (i < N) && A x i) || (decide (x < n) && ab_bt vl x && ab_bt vu i)) ∧ ab_bt (μ'.2 21 x) i = ((decide (i < N) && A i x) || (decide (x < n) && ab_bt vu x && ab_bt vl i))) → j 10 [some (.ref 2), some (.int (nI t)), some (.int (nI u)), some (.long vl), none, some (.long vu), none, some (.int (nI n))] [] μ' := by
    intro r
    induction r with
    | zero =>
      intro n μ' hn h1 h2 h3
      refine hj _ _ _ _ ?_
      have e0 : μ'.1 2 0 = nI N := by rw [h1]; exact hc
      repeat' (first | refine hjx _ _ _ _ (by decide) ?_ | (refine br_c (fun h => ?_) (fun h => ?_) <;> (try simp (disch := omega) only [nI_clamp, li_2, li_3, li_4, li_5, li_6, li_7, li_8, li_9, li_10, li_40, li_120, pk_mul, nI_add, nI_1, ix_eq, ix_lt, ix_le, ix_l0, ix_l1, ix_n0, ix_p0, ix_1lt, ix_lt1, ix_1le, ix_le1, ix_le0, ix_0lt, ab_z0, ab_z1, i_10, i_01, eq_self, ab_ozn, ab_ozp, ab_o_some, not_true_eq_false, not_false_eq_true, Bool.not_eq_false, Bool.not_eq_true, Bool.not_eq_false', Bool.not_eq_true', Bool.false_eq_true, Bool.true_eq_false, reduceCtorEq, Option.isSome_some, Option.isSome_none, e0] at h) <;> (try omega)) | (refine br_n (fun h => ?_) (fun h => ?_) <;> (try simp (disch := omega) only [nI_clamp, li_2, li_3, li_4, li_5, li_6, li_7, li_8, li_9, li_10, li_40, li_120, pk_mul, nI_add, nI_1, ix_eq, ix_lt, ix_le, ix_l0, ix_l1, ix_n0, ix_p0, ix_1lt, ix_lt1, ix_1le, ix_le1, ix_le0, ix_0lt, ab_z0, ab_z1, i_10, i_01, eq_self, ab_ozn, ab_ozp, ab_o_some, not_true_eq_false, not_false_eq_true, Bool.not_eq_false, Bool.not_eq_true, Bool.not_eq_false', Bool.not_eq_true', Bool.false_eq_true, Bool.true_eq_false, reduceCtorEq, Option.isSome_some, Option.isSome_none, e0] at h) <;> (try omega)) | refine ab_sd (by first | (with_reducible refine vp_in_nI ?_ ?_ <;> omega) | (simp (disch := omega) only [nI_clamp, li_2, li_3, li_4, li_5, li_6, li_7, li_8, li_9, li_10, li_40, li_120, pk_mul, nI_add, nI_1, ix_eq, ix_lt, ix_le, ix_l0, ix_l1, ix_n0, ix_p0, ix_1lt, ix_lt1, ix_1le, ix_le1, ix_le0, ix_0lt, ab_z0, ab_z1, i_10, i_01, eq_self, ab_ozn, ab_ozp, ab_o_some, not_true_eq_false, not_false_eq_true, Bool.not_eq_false, Bool.not_eq_true, Bool.not_eq_false', Bool.not_eq_true', Bool.false_eq_true, Bool.true_eq_false, reduceCtorEq, Option.isSome_some, Option.isSome_none, e0]; with_reducible refine vp_in_nI ?_ ?_ <;> omega)) ?_ | refine x_putLastInOrder hω (N := N) (od := od) hN e0 (fun i hi => by rw [h1]; exact ⟨(o1 i hi).1, (o1 i hi).2.2⟩) (fun μ2 g1 g2 g3 => ?_) | refine ab_sd ?_ ?_ | refine ab_sz (Or.inl rfl) ?_ | refine ab_sz (Or.inr rfl) ?_ | refine ab_sz ?_ ?_)
      show Q _
      have sj := ab_surj (N := N) (F := s_np N od (ab_bt vl)) (fun k hk => s_np_lt hk) (fun k k' hk hk' e => s_np_inj hk hk' e)
      have ⟨iv, hiv⟩ : ∃ iv : Nat → Nat, ∀ i, i < N → iv i < N ∧ s_np N od (ab_bt vl) (iv i) = i := by
        refine ⟨fun i => if h : i < N then Classical.choose (sj i h) else 0, fun i hi => ?_⟩
        simp only [hi, dite_true]
        exact Classical.choose_spec (sj i hi)
      refine hQ _ (fun k jj a b => by rw [g2 k jj a b, h1]) (fun k jj a => by rw [g1]; exact h2 k jj a) ⟨fun x hx i => ?_, fun i => od (iv i), fun t => s_np N od (ab_bt vl) (ps t), fun i hi => ?_, fun v hv => ?_, fun a b ha hb2 hab => ?_⟩
      · rw [g1, (h3 x hx i).1, (h3 x hx i).2, lo, lo, up, up]
        unfold ab_A2
        have : x < n := by omega
        by_cases q : i < N
        · simp only [q, hx, this, decide_true, Bool.true_and]
          refine ⟨trivial, ?_⟩
          rw [Bool.and_comm (ab_at A u x)]
        · simp [q]
      · obtain ⟨w1, w2⟩ := hiv i hi
        obtain ⟨v1, v2, v3⟩ := o1 (iv i) w1
        refine ⟨v1, ?_, ?_⟩
        · show s_np N od (ab_bt vl) (ps (od (iv i))) = i
          rw [v2, w2]
        · have := g3 (iv i) w1
          rw [w2] at this
          exact this
      · obtain ⟨v1, v2⟩ := o2 v hv
        refine ⟨s_np_lt v1, ?_⟩
        obtain ⟨w1, w2⟩ := hiv _ (s_np_lt (od := od) (L := ab_bt vl) v1)
        have := s_np_inj w1 v1 w2
        show od (iv (s_np N od (ab_bt vl) (ps v))) = v
        rw [this, v2]
      · obtain ⟨a1, a2⟩ := o2 a ha
        obtain ⟨b1, b2⟩ := o2 b hb2
        show s_np N od (ab_bt vl) (ps b) < s_np N od (ab_bt vl) (ps a)
        have La : ab_bt vl (od (ps a)) = ab_at A a t := by rw [a2, lo]; simp [ha]
        have Lb : ab_bt vl (od (ps b)) = ab_at A b t := by rw [b2, lo]; simp [hb2]
        unfold ab_A2 at hab
        simp only [Bool.or_eq_true, Bool.and_eq_true] at hab
        rcases hab with hab | ⟨hat, hub⟩
        · refine s_np_mono (o3 a b ha hb2 hab) a1 ?_
          rw [La, Lb]
          cases h1 : ab_at A a t with
          | true =>
            cases ab_at A b t with
            | true => exact Or.inl rfl
            | false => exact Or.inr ⟨rfl, rfl⟩
          | false =>
            cases h2 : ab_at A b t with
            | false => exact Or.inl rfl
            | true =>
              exfalso
              unfold ab_at at h1 h2
              simp only [Bool.or_eq_true, beq_iff_eq, Bool.or_eq_false_iff, beq_eq_false_iff_ne] at h1 h2
              rcases h2 with h2 | h2
              · rw [h2] at hab; rw [h1.2] at hab; cases hab
              · have := htr a b t ha hb2 ht hab h2
                rw [h1.2] at this; cases this
        · refine s_np_nl b1 ?_ (by rw [La]; exact hat)
          rw [Lb]
          cases h2 : ab_at A b t with
          | false => rfl
          | true =>
            exfalso
            unfold ab_at at h2 hub hut
            simp only [Bool.or_eq_true, beq_iff_eq, Bool.or_eq_false_iff, beq_eq_false_iff_ne] at h2 hub hut
            rcases hub with rfl | hub
            · rcases h2 with h2 | h2
              · exact hut.1 h2
              · rw [hut.2] at h2; cases h2
            · rcases h2 with rfl | h2
              · rw [hut.2] at hub; cases hub
              · have := htr u b t hu hb2 ht hub h2
                rw [hut.2] at this; cases this
    | succ r ih =>
      intro n μ' hn h1 h2 h3
      have e0 : μ'.1 2 0 = nI N := by rw [h1]; exact hc
      have h38 : ∀ μ2, μ2.1 = μ.1 → (∀ k j, (k ≠ 20 ∧ k ≠ 21) ∨ N ≤ j → μ2.2 k j = μ.2 k j) → (∀ x, x < N → ∀ i, ab_bt (μ2.2 20 x) i = ((decide (i < N) && A x i) || (decide (x < n + 1) && ab_bt vl x && ab_bt vu i)) ∧ ab_bt (μ2.2 21 x) i = ((decide (i < N) && A i x) || (decide (x < n + 1) && ab_bt vu x && ab_bt vl i))) → j 38 [some (.ref 2), some (.int (nI t)), some (.int (nI u)), some (.long vl), none, some (.long vu), none, some (.int (nI n))] [] μ2 := by
        intro μ2 a b c
        refine hj _ _ _ _ ?_
        repeat' (first | refine hjx _ _ _ _ (by decide) ?_ | (refine br_c (fun h => ?_) (fun h => ?_) <;> (try simp (disch := omega) only [nI_clamp, li_2, li_3, li_4, li_5, li_6, li_7, li_8, li_9, li_10, li_40, li_120, pk_mul, nI_add, nI_1, ix_eq, ix_lt, ix_le, ix_l0, ix_l1, ix_n0, ix_p0, ix_1lt, ix_lt1, ix_1le, ix_le1, ix_le0, ix_0lt, ab_z0, ab_z1, i_10, i_01, eq_self, ab_ozn, ab_ozp, ab_o_some, not_true_eq_false, not_false_eq_true, Bool.not_eq_false, Bool.not_eq_true, Bool.not_eq_false', Bool.not_eq_true', Bool.false_eq_true, Bool.true_eq_false, reduceCtorEq, Option.isSome_some, Option.isSome_none] at h) <;> (try omega)) | (refine br_n (fun h => ?_) (fun h => ?_) <;> (try simp (disch := omega) only [nI_clamp, li_2, li_3, li_4, li_5, li_6, li_7, li_8, li_9, li_10, li_40, li_120, pk_mul, nI_add, nI_1, ix_eq, ix_lt, ix_le, ix_l0, ix_l1, ix_n0, ix_p0, ix_1lt, ix_lt1, ix_1le, ix_le1, ix_le0, ix_0lt, ab_z0, ab_z1, i_10, i_01, eq_self, ab_ozn, ab_ozp, ab_o_some, not_true_eq_false, not_false_eq_true, Bool.not_eq_false, Bool.not_eq_true, Bool.not_eq_false', Bool.not_eq_true', Bool.false_eq_true, Bool.true_eq_false, reduceCtorEq, Option.isSome_some, Option.isSome_none] at h) <;> (try omega)) | refine ab_sd (by first | (with_reducible refine vp_in_nI ?_ ?_ <;> omega) | (simp (disch := omega) only [nI_clamp, li_2, li_3, li_4, li_5, li_6, li_7, li_8, li_9, li_10, li_40, li_120, pk_mul, nI_add, nI_1, ix_eq, ix_lt, ix_le, ix_l0, ix_l1, ix_n0, ix_p0, ix_1lt, ix_lt1, ix_1le, ix_le1, ix_le0, ix_0lt, ab_z0, ab_z1, i_10, i_01, eq_self, ab_ozn, ab_ozp, ab_o_some, not_true_eq_false, not_false_eq_true, Bool.not_eq_false, Bool.not_eq_true, Bool.not_eq_false', Bool.not_eq_true', Bool.false_eq_true, Bool.true_eq_false, reduceCtorEq, Option.isSome_some, Option.isSome_none]; with_reducible refine vp_in_nI ?_ ?_ <;> omega)) ?_ | refine ab_sd ?_ ?_ | refine ab_sz (Or.inl rfl) ?_ | refine ab_sz (Or.inr rfl) ?_ | refine ab_sz ?_ ?_)
        show j 10 _ _ _
        rw [nI_1]
        exact ih (n + 1) μ2 (by omega) a b c
      have stp : ∀ x (b c : Bool), (decide (x < n + 1) && b && c) = ((decide (x < n) && b && c) || (decide (x = n) && b && c)) := by
        intro x b c
        by_cases q : x = n
        · subst q; simp
        · by_cases q2 : x < n
          · simp [q, q2, show x < n + 1 by omega]
          · simp [q, q2, show ¬ x < n + 1 by omega]
      have h26 : ∀ μ2, μ2.1 = μ.1 → (∀ k j, (k ≠ 20 ∧ k ≠ 21) ∨ N ≤ j → μ2.2 k j = μ.2 k j) → (∀ x, x < N → ∀ i, ab_bt (μ2.2 20 x) i = ((decide (i < N) && A x i) || (decide (x < n + 1) && ab_bt vl x && ab_bt vu i)) ∧ ab_bt (μ2.2 21 x) i = ((decide (i < N) && A i x) || (decide (x < n) && ab_bt vu x && ab_bt vl i))) → j 26 [some (.ref 2), some (.int (nI t)), some (.int (nI u)), some (.long vl), none, some (.long vu), none, some (.int (nI n))] [] μ2 := by
        intro μ2 a b c
        refine hj _ _ _ _ ?_
        cases hv : ab_bt vu n with
        | false =>
          repeat' (first | refine hjx _ _ _ _ (by decide) ?_ | (refine br_c (fun h => ?_) (fun h => ?_) <;> (try simp (disch := omega) only [nI_clamp, li_2, li_3, li_4, li_5, li_6, li_7, li_8, li_9, li_10, li_40, li_120, pk_mul, nI_add, nI_1, ix_eq, ix_lt, ix_le, ix_l0, ix_l1, ix_n0, ix_p0, ix_1lt, ix_lt1, ix_1le, ix_le1, ix_le0, ix_0lt, ab_z0, ab_z1, i_10, i_01, eq_self, ab_ozn, ab_ozp, ab_o_some, not_true_eq_false, not_false_eq_true, Bool.not_eq_false, Bool.not_eq_true, Bool.not_eq_false', Bool.not_eq_true', Bool.false_eq_true, Bool.true_eq_false, reduceCtorEq, Option.isSome_some, Option.isSome_none, hv] at h) <;> (try omega)) | (refine br_n (fun h => ?_) (fun h => ?_) <;> (try simp (disch := omega) only [nI_clamp, li_2, li_3, li_4, li_5, li_6, li_7, li_8, li_9, li_10, li_40, li_120, pk_mul, nI_add, nI_1, ix_eq, ix_lt, ix_le, ix_l0, ix_l1, ix_n0, ix_p0, ix_1lt, ix_lt1, ix_1le, ix_le1, ix_le0, ix_0lt, ab_z0, ab_z1, i_10, i_01, eq_self, ab_ozn, ab_ozp, ab_o_some, not_true_eq_false, not_false_eq_true, Bool.not_eq_false, Bool.not_eq_true, Bool.not_eq_false', Bool.not_eq_true', Bool.false_eq_true, Bool.true_eq_false, reduceCtorEq, Option.isSome_some, Option.isSome_none, hv] at h) <;> (try omega)) | refine ab_sd (by first | (with_reducible refine vp_in_nI ?_ ?_ <;> omega) | (simp (disch := omega) only [nI_clamp, li_2, li_3, li_4, li_5, li_6, li_7, li_8, li_9, li_10, li_40, li_120, pk_mul, nI_add, nI_1, ix_eq, ix_lt, ix_le, ix_l0, ix_l1, ix_n0, ix_p0, ix_1lt, ix_lt1, ix_1le, ix_le1, ix_le0, ix_0lt, ab_z0, ab_z1, i_10, i_01, eq_self, ab_ozn, ab_ozp, ab_o_some, not_true_eq_false, not_false_eq_true, Bool.not_eq_false, Bool.not_eq_true, Bool.not_eq_false', Bool.not_eq_true', Bool.false_eq_true, Bool.true_eq_false, reduceCtorEq, Option.isSome_some, Option.isSome_none, hv]; with_reducible refine vp_in_nI ?_ ?_ <;> omega)) ?_ | refine x_has hω (t := n) rfl (by omega) ?_ | refine ab_sd ?_ ?_ | refine ab_sz (Or.inl rfl) ?_ | refine ab_sz (Or.inr rfl) ?_ | refine ab_sz ?_ ?_)
          refine h38 μ2 a b (fun x hx i => ⟨(c x hx i).1, ?_⟩)
          rw [(c x hx i).2, stp]
          by_cases q : x = n
          · subst q; simp [hv]
          · simp [q]
        | true =>
          repeat' (first | refine hjx _ _ _ _ (by decide) ?_ | (refine br_c (fun h => ?_) (fun h => ?_) <;> (try simp (disch := omega) only [nI_clamp, li_2, li_3, li_4, li_5, li_6, li_7, li_8, li_9, li_10, li_40, li_120, pk_mul, nI_add, nI_1, ix_eq, ix_lt, ix_le, ix_l0, ix_l1, ix_n0, ix_p0, ix_1lt, ix_lt1, ix_1le, ix_le1, ix_le0, ix_0lt, ab_z0, ab_z1, i_10, i_01, eq_self, ab_ozn, ab_ozp, ab_o_some, not_true_eq_false, not_false_eq_true, Bool.not_eq_false, Bool.not_eq_true, Bool.not_eq_false', Bool.not_eq_true', Bool.false_eq_true, Bool.true_eq_false, reduceCtorEq, Option.isSome_some, Option.isSome_none, hv] at h) <;> (try omega)) | (refine br_n (fun h => ?_) (fun h => ?_) <;> (try simp (disch := omega) only [nI_clamp, li_2, li_3, li_4, li_5, li_6, li_7, li_8, li_9, li_10, li_40, li_120, pk_mul, nI_add, nI_1, ix_eq, ix_lt, ix_le, ix_l0, ix_l1, ix_n0, ix_p0, ix_1lt, ix_lt1, ix_1le, ix_le1, ix_le0, ix_0lt, ab_z0, ab_z1, i_10, i_01, eq_self, ab_ozn, ab_ozp, ab_o_some, not_true_eq_false, not_false_eq_true, Bool.not_eq_false, Bool.not_eq_true, Bool.not_eq_false', Bool.not_eq_true', Bool.false_eq_true, Bool.true_eq_false, reduceCtorEq, Option.isSome_some, Option.isSome_none, hv] at h) <;> (try omega)) | refine ab_sd (by first | (with_reducible refine vp_in_nI ?_ ?_ <;> omega) | (simp (disch := omega) only [nI_clamp, li_2, li_3, li_4, li_5, li_6, li_7, li_8, li_9, li_10, li_40, li_120, pk_mul, nI_add, nI_1, ix_eq, ix_lt, ix_le, ix_l0, ix_l1, ix_n0, ix_p0, ix_1lt, ix_lt1, ix_1le, ix_le1, ix_le0, ix_0lt, ab_z0, ab_z1, i_10, i_01, eq_self, ab_ozn, ab_ozp, ab_o_some, not_true_eq_false, not_false_eq_true, Bool.not_eq_false, Bool.not_eq_true, Bool.not_eq_false', Bool.not_eq_true', Bool.false_eq_true, Bool.true_eq_false, reduceCtorEq, Option.isSome_some, Option.isSome_none, hv]; with_reducible refine vp_in_nI ?_ ?_ <;> omega)) ?_ | refine x_has hω (t := n) rfl (by omega) ?_ | refine ab_sd ?_ ?_ | refine ab_sz (Or.inl rfl) ?_ | refine ab_sz (Or.inr rfl) ?_ | refine ab_sz ?_ ?_)
          rw [nI_clamp (by omega)]
          refine h38 _ a (fun k jj hk => ?_) (fun x hx i => ⟨?_, ?_⟩)
          · have : ¬ (k = 21 ∧ jj = n) := by omega
            simp only [ab_mj, if_neg this]
            exact b k jj hk
          · simp only [ab_mj, show ¬ (20 = 21 ∧ x = n) by omega, if_false]
            exact (c x hx i).1
          · rw [stp]
            by_cases q : x = n
            · subst q
              simp only [ab_mj, and_self, if_true, ab_bt_or]
              rw [(c x hx i).2, hv]; simp
            · simp only [ab_mj, q, and_false, if_false]
              rw [(c x hx i).2]; simp
      refine hj _ _ _ _ ?_
      cases hv : ab_bt vl n with
      | false =>
        repeat' (first | refine hjx _ _ _ _ (by decide) ?_ | (refine br_c (fun h => ?_) (fun h => ?_) <;> (try simp (disch := omega) only [nI_clamp, li_2, li_3, li_4, li_5, li_6, li_7, li_8, li_9, li_10, li_40, li_120, pk_mul, nI_add, nI_1, ix_eq, ix_lt, ix_le, ix_l0, ix_l1, ix_n0, ix_p0, ix_1lt, ix_lt1, ix_1le, ix_le1, ix_le0, ix_0lt, ab_z0, ab_z1, i_10, i_01, eq_self, ab_ozn, ab_ozp, ab_o_some, not_true_eq_false, not_false_eq_true, Bool.not_eq_false, Bool.not_eq_true, Bool.not_eq_false', Bool.not_eq_true', Bool.false_eq_true, Bool.true_eq_false, reduceCtorEq, Option.isSome_some, Option.isSome_none, e0, hv] at h) <;> (try omega)) | (refine br_n (fun h => ?_) (fun h => ?_) <;> (try simp (disch := omega) only [nI_clamp, li_2, li_3, li_4, li_5, li_6, li_7, li_8, li_9, li_10, li_40, li_120, pk_mul, nI_add, nI_1, ix_eq, ix_lt, ix_le, ix_l0, ix_l1, ix_n0, ix_p0, ix_1lt, ix_lt1, ix_1le, ix_le1, ix_le0, ix_0lt, ab_z0, ab_z1, i_10, i_01, eq_self, ab_ozn, ab_ozp, ab_o_some, not_true_eq_false, not_false_eq_true, Bool.not_eq_false, Bool.not_eq_true, Bool.not_eq_false', Bool.not_eq_true', Bool.false_eq_true, Bool.true_eq_false, reduceCtorEq, Option.isSome_some, Option.isSome_none, e0, hv] at h) <;> (try omega)) | refine ab_sd (by first | (with_reducible refine vp_in_nI ?_ ?_ <;> omega) | (simp (disch := omega) only [nI_clamp, li_2, li_3, li_4, li_5, li_6, li_7, li_8, li_9, li_10, li_40, li_120, pk_mul, nI_add, nI_1, ix_eq, ix_lt, ix_le, ix_l0, ix_l1, ix_n0, ix_p0, ix_1lt, ix_lt1, ix_1le, ix_le1, ix_le0, ix_0lt, ab_z0, ab_z1, i_10, i_01, eq_self, ab_ozn, ab_ozp, ab_o_some, not_true_eq_false, not_false_eq_true, Bool.not_eq_false, Bool.not_eq_true, Bool.not_eq_false', Bool.not_eq_true', Bool.false_eq_true, Bool.true_eq_false, reduceCtorEq, Option.isSome_some, Option.isSome_none, e0, hv]; with_reducible refine vp_in_nI ?_ ?_ <;> omega)) ?_ | refine x_has hω (t := n) rfl (by omega) ?_ | refine ab_sd ?_ ?_ | refine ab_sz (Or.inl rfl) ?_ | refine ab_sz (Or.inr rfl) ?_ | refine ab_sz ?_ ?_)
        refine h26 μ' h1 h2 (fun x hx i => ⟨?_, (h3 x hx i).2⟩)
        rw [(h3 x hx i).1, stp]
        by_cases q : x = n
        · subst q; simp [hv]
        · simp [q]
      | true =>
        repeat' (first | refine hjx _ _ _ _ (by decide) ?_ | (refine br_c (fun h => ?_) (fun h => ?_) <;> (try simp (disch := omega) only [nI_clamp, li_2, li_3, li_4, li_5, li_6, li_7, li_8, li_9, li_10, li_40, li_120, pk_mul, nI_add, nI_1, ix_eq, ix_lt, ix_le, ix_l0, ix_l1, ix_n0, ix_p0, ix_1lt, ix_lt1, ix_1le, ix_le1, ix_le0, ix_0lt, ab_z0, ab_z1, i_10, i_01, eq_self, ab_ozn, ab_ozp, ab_o_some, not_true_eq_false, not_false_eq_true, Bool.not_eq_false, Bool.not_eq_true, Bool.not_eq_false', Bool.not_eq_true', Bool.false_eq_true, Bool.true_eq_false, reduceCtorEq, Option.isSome_some, Option.isSome_none, e0, hv] at h) <;> (try omega)) | (refine br_n (fun h => ?_) (fun h => ?_) <;> (try simp (disch := omega) only [nI_clamp, li_2, li_3, li_4, li_5, li_6, li_7, li_8, li_9, li_10, li_40, li_120, pk_mul, nI_add, nI_1, ix_eq, ix_lt, ix_le, ix_l0, ix_l1, ix_n0, ix_p0, ix_1lt, ix_lt1, ix_1le, ix_le1, ix_le0, ix_0lt, ab_z0, ab_z1, i_10, i_01, eq_self, ab_ozn, ab_ozp, ab_o_some, not_true_eq_false, not_false_eq_true, Bool.not_eq_false, Bool.not_eq_true, Bool.not_eq_false', Bool.not_eq_true', Bool.false_eq_true, Bool.true_eq_false, reduceCtorEq, Option.isSome_some, Option.isSome_none, e0, hv] at h) <;> (try omega)) | refine ab_sd (by first | (with_reducible refine vp_in_nI ?_ ?_ <;> omega) | (simp (disch := omega) only [nI_clamp, li_2, li_3, li_4, li_5, li_6, li_7, li_8, li_9, li_10, li_40, li_120, pk_mul, nI_add, nI_1, ix_eq, ix_lt, ix_le, ix_l0, ix_l1, ix_n0, ix_p0, ix_1lt, ix_lt1, ix_1le, ix_le1, ix_le0, ix_0lt, ab_z0, ab_z1, i_10, i_01, eq_self, ab_ozn, ab_ozp, ab_o_some, not_true_eq_false, not_false_eq_true, Bool.not_eq_false, Bool.not_eq_true, Bool.not_eq_false', Bool.not_eq_true', Bool.false_eq_true, Bool.true_eq_false, reduceCtorEq, Option.isSome_some, Option.isSome_none, e0, hv]; with_reducible refine vp_in_nI ?_ ?_ <;> omega)) ?_ | refine x_has hω (t := n) rfl (by omega) ?_ | refine ab_sd ?_ ?_ | refine ab_sz (Or.inl rfl) ?_ | refine ab_sz (Or.inr rfl) ?_ | refine ab_sz ?_ ?_)
        rw [nI_clamp (by omega)]
        refine h26 _ h1 (fun k jj hk => ?_) (fun x hx i => ⟨?_, ?_⟩)
        · have : ¬ (k = 20 ∧ jj = n) := by omega
          simp only [ab_mj, if_neg this]
          exact h2 k jj hk
        · rw [stp]
          by_cases q : x = n
          · subst q
            simp only [ab_mj, and_self, if_true, ab_bt_or]
            rw [(h3 x hx i).1, hv]; simp
          · simp only [ab_mj, q, and_false, if_false]
            rw [(h3 x hx i).1]; simp
        · simp only [ab_mj, show ¬ (21 = 20 ∧ x = n) by omega, if_false]
          exact (h3 x hx i).2
  repeat' (first | refine hjx _ _ _ _ (by decide) ?_ | (refine br_c (fun h => ?_) (fun h => ?_) <;> (try simp (disch := omega) only [nI_clamp, li_2, li_3, li_4, li_5, li_6, li_7, li_8, li_9, li_10, li_40, li_120, pk_mul, nI_add, nI_1, ix_eq, ix_lt, ix_le, ix_l0, ix_l1, ix_n0, ix_p0, ix_1lt, ix_lt1, ix_1le, ix_le1, ix_le0, ix_0lt, ab_z0, ab_z1, i_10, i_01, eq_self, ab_ozn, ab_ozp, ab_o_some, not_true_eq_false, not_false_eq_true, Bool.not_eq_false, Bool.not_eq_true, Bool.not_eq_false', Bool.not_eq_true', Bool.false_eq_true, Bool.true_eq_false, reduceCtorEq, Option.isSome_some, Option.isSome_none] at h) <;> (try omega)) | (refine br_n (fun h => ?_) (fun h => ?_) <;> (try simp (disch := omega) only [nI_clamp, li_2, li_3, li_4, li_5, li_6, li_7, li_8, li_9, li_10, li_40, li_120, pk_mul, nI_add, nI_1, ix_eq, ix_lt, ix_le, ix_l0, ix_l1, ix_n0, ix_p0, ix_1lt, ix_lt1, ix_1le, ix_le1, ix_le0, ix_0lt, ab_z0, ab_z1, i_10, i_01, eq_self, ab_ozn, ab_ozp, ab_o_some, not_true_eq_false, not_false_eq_true, Bool.not_eq_false, Bool.not_eq_true, Bool.not_eq_false', Bool.not_eq_true', Bool.false_eq_true, Bool.true_eq_false, reduceCtorEq, Option.isSome_some, Option.isSome_none] at h) <;> (try omega)) | refine ab_sd (by first | (with_reducible refine vp_in_nI ?_ ?_ <;> omega) | (simp (disch := omega) only [nI_clamp, li_2, li_3, li_4, li_5, li_6, li_7, li_8, li_9, li_10, li_40, li_120, pk_mul, nI_add, nI_1, ix_eq, ix_lt, ix_le, ix_l0, ix_l1, ix_n0, ix_p0, ix_1lt, ix_lt1, ix_1le, ix_le1, ix_le0, ix_0lt, ab_z0, ab_z1, i_10, i_01, eq_self, ab_ozn, ab_ozp, ab_o_some, not_true_eq_false, not_false_eq_true, Bool.not_eq_false, Bool.not_eq_true, Bool.not_eq_false', Bool.not_eq_true', Bool.false_eq_true, Bool.true_eq_false, reduceCtorEq, Option.isSome_some, Option.isSome_none]; with_reducible refine vp_in_nI ?_ ?_ <;> omega)) ?_ | refine x_sameOrBelow hω (t := t) rfl (by omega) ?_ | refine x_sameOrAbove hω (t := u) rfl (by omega) ?_ | refine ab_sd ?_ ?_ | refine ab_sz (Or.inl rfl) ?_ | refine ab_sz (Or.inr rfl) ?_ | refine ab_sz ?_ ?_)
  rw [hlo, hup]
  exact key N 0 μ (by omega) rfl (fun _ _ _ => rfl) (fun x hx i => by rw [(hb x hx i).1, (hb x hx i).2]; simp)
end KD
