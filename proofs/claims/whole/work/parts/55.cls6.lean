/-! THE CLASS: OVERRIDES -/
theorem nI_ms (a b : Nat) : nI (a + b) - nI b = nI a := by
  rw [← nI_add, Int32.add_sub_cancel]
theorem nI_m1 (a : Nat) : nI (a + 1) - 1 = nI a := nI_ms a 1
theorem s_ovF_st {S : sT} {ρ : Nat → Nat} (hW : Wf S) (hR : Rk S ρ) : ∀ (n n' d a : Nat), d < s_nX S → a < s_nX S → ρ (S.1 57 d) < ρ (S.1 57 a) + n → ρ (S.1 57 d) < ρ (S.1 57 a) + n' → s_ovF S n d a = s_ovF S n' d a
  | 0, n', d, a, hd, ha, h, h' => by
    cases hc : s_can S d a with
    | false => rw [s_ovF_can hc, s_ovF_can hc]
    | true => have := s_can_rk hW hR hd ha hc; omega
  | n + 1, 0, d, a, hd, ha, h, h' => by
    cases hc : s_can S d a with
    | false => rw [s_ovF_can hc, s_ovF_can hc]
    | true => have := s_can_rk hW hR hd ha hc; omega
  | n + 1, n' + 1, d, a, hd, ha, h, h' => by
    have hX := hW.2.2.2.1
    cases hc : s_can S d a with
    | false => rw [s_ovF_can hc, s_ovF_can hc]
    | true =>
      have h0 := s_can_rk hW hR hd ha hc
      simp only [s_ovF, s_ovS]
      congr 2
      unfold s_by
      refine ab_ex_congr (fun b hb => ?_)
      simp only [(s_dm d b (by omega)).1, (s_dm d b (by omega)).2, (s_dm b a (by omega)).1, (s_dm b a (by omega)).2]
      congr 1
      cases c1 : s_can S d b with
      | false => rw [s_ovF_can c1, s_ovF_can c1]; rfl
      | true =>
        cases c2 : s_can S b a with
        | false => rw [s_ovF_can c2, s_ovF_can c2]; simp
        | true =>
          have h1 := s_can_rk hW hR hd hb c1
          have h2 := s_can_rk hW hR hb ha c2
          rw [s_ovF_st hW hR n n' d b hd hb (by omega) (by omega), s_ovF_st hW hR n n' b a hb ha (by omega) (by omega)]
theorem s_ov_can {S : sT} {d a : Nat} (h : s_ov S d a = true) : s_can S d a = true := by
  cases hc : s_can S d a with
  | true => rfl
  | false => unfold s_ov at h; rw [s_ovF_can hc] at h; cases h
theorem s_ovF_s {S : sT} {n d a : Nat} : s_ovF S (n + 1) d a = s_ovS S (fun j => s_ovF S n (j / 120) (j % 120)) d a := rfl
theorem s_ovF_fix {S : sT} {ρ : Nat → Nat} (hW : Wf S) (hR : Rk S ρ) {N : Nat} (hN : 40 ≤ N) {d a : Nat} (hd : d < s_nX S) (ha : a < s_nX S) : s_ovF S (N + 1) d a = (s_can S d a && ((!(S.1 60 a == 1) || S.1 48 (S.1 57 d) == S.1 48 (S.1 57 a)) || ab_ex (fun b => s_ovF S (N + 1) d b && s_ovF S (N + 1) b a && S.1 50 (S.1 57 b) == 0) (s_nX S))) := by
  have hX := hW.2.2.2.1
  have rk : ∀ m, m < s_nX S → ρ (S.1 57 m) < 40 := fun m hm => (hR.1 _ (hW.2.2.2.2.2.2 m hm).1).1
  have e1 : ∀ b, b < s_nX S → s_ovF S (N + 1) d b = s_ovF S N d b := fun b hb => by
    have r1 := rk d hd
    exact s_ovF_st hW hR (N + 1) N d b hd hb (by omega) (by omega)
  have e2 : ∀ b, b < s_nX S → s_ovF S (N + 1) b a = s_ovF S N b a := fun b hb => by
    have r1 := rk b hb
    exact s_ovF_st hW hR (N + 1) N b a hb ha (by omega) (by omega)
  have e3 : ab_ex (fun b => s_ovF S (N + 1) d b && s_ovF S (N + 1) b a && S.1 50 (S.1 57 b) == 0) (s_nX S) = s_by S (fun j => s_ovF S N (j / 120) (j % 120)) d a := by
    unfold s_by
    refine ab_ex_congr (fun b hb => ?_)
    rw [e1 b hb, e2 b hb]
    simp only [(s_dm d b (by omega)).1, (s_dm d b (by omega)).2, (s_dm b a (by omega)).1, (s_dm b a (by omega)).2]
  rw [e3, s_ovF_s]
  rfl
theorem s_ov_fix {S : sT} {ρ : Nat → Nat} (hW : Wf S) (hR : Rk S ρ) {d a : Nat} (hd : d < s_nX S) (ha : a < s_nX S) : s_ov S d a = (s_can S d a && ((!(S.1 60 a == 1) || S.1 48 (S.1 57 d) == S.1 48 (S.1 57 a)) || ab_ex (fun b => s_ov S d b && s_ov S b a && S.1 50 (S.1 57 b) == 0) (s_nX S))) := by
  have h := s_ovF_fix hW hR (Nat.le_refl 40) hd ha
  unfold s_ov
  simp only [Nat.reduceAdd] at h
  exact h
theorem s_vg_some {S : sT} {g d a m n : Nat} (e : s_dg S d g = some m) (e' : s_dg S a g = some n) : s_vg S g d a = s_ov S m n := by
  unfold s_vg
  rw [e]
  exact s_pg_some e'
theorem s_vg_t {S : sT} {g d a : Nat} (h : s_vg S g d a = true) : ∃ m n, s_dg S d g = some m ∧ s_dg S a g = some n ∧ s_ov S m n = true := by
  unfold s_vg at h
  cases e : s_dg S d g with
  | none => rw [e] at h; cases h
  | some m =>
    rw [e] at h
    obtain ⟨n, h1, h2⟩ := s_pg_t.mp h
    exact ⟨m, n, rfl, h1, h2⟩
theorem s_vg_ab {S : sT} (hW : Wf S) {g d a : Nat} (h : s_vg S g d a = true) : d < s_nT S ∧ a < s_nT S ∧ s_ab S d a = true := by
  obtain ⟨m, n, e1, e2, h⟩ := s_vg_t h
  have c := s_ov_can h
  have a1 := s_dg_some hW e1
  have a2 := s_dg_some hW e2
  unfold s_can at c
  simp only [Bool.and_eq_true] at c
  have := c.2
  rw [a1.2.1, a2.2.1] at this
  exact ⟨a1.2.2.2.2, a2.2.2.2.2, this⟩
theorem s_vg_eq {S : sT} {ρ : Nat → Nat} (hI : Iv S) (hR : Rk S ρ) {g d a : Nat} (hg : g / 10 = 1) : s_vg S g d a = ((s_pg S g (s_pl S) d && (s_pg S g (s_pl S) a && s_ab S d a)) && ((!s_pg S g (fun m => S.1 60 m == 1) a || S.1 48 d == S.1 48 a) || ab_ex (fun b => s_vg S g d b && s_vg S g b a && S.1 50 b == 0) (s_nT S))) := by
  have hW := hI.1
  cases e1 : s_dg S d g with
  | none => unfold s_vg; rw [e1, s_pg_none e1]; rfl
  | some m =>
    cases e2 : s_dg S a g with
    | none =>
      rw [s_pg_none (p := s_pl S) e2]
      unfold s_vg
      rw [e1]
      simp [s_pg_none e2]
    | some n =>
      obtain ⟨a1, a2, a3, a4, a5⟩ := s_dg_some hW e1
      obtain ⟨b1, b2, b3, b4, b5⟩ := s_dg_some hW e2
      have ex : ab_ex (fun b => s_ov S m b && s_ov S b n && S.1 50 (S.1 57 b) == 0) (s_nX S) = ab_ex (fun b => s_vg S g d b && s_vg S g b a && S.1 50 b == 0) (s_nT S) := by
        have : ab_ex (fun b => s_ov S m b && s_ov S b n && S.1 50 (S.1 57 b) == 0) (s_nX S) = ab_ex (fun b => S.1 58 b == g / 10 && S.1 59 b == g % 10 && (s_ov S m b && s_ov S b n && S.1 50 (S.1 57 b) == 0)) (s_nX S) := by
          refine ab_ex_congr (fun b hb => ?_)
          cases ho : s_ov S m b with
          | false => simp
          | true =>
            have c := s_ov_can ho
            unfold s_can at c
            simp only [Bool.and_eq_true, beq_iff_eq] at c
            simp [c.1.1.1.1.2, ← c.1.1.1.2, hg, a4]
        rw [this, s_ex_pg hI (by omega)]
        refine ab_ex_congr (fun u hu => ?_)
        cases e3 : s_dg S u g with
        | none =>
          rw [s_pg_none e3]
          have : s_vg S g d u = false := by unfold s_vg; rw [e1]; exact s_pg_none e3
          rw [this]; rfl
        | some b =>
          rw [s_pg_some e3, s_vg_some e1 e3, s_vg_some e3 e2, (s_dg_some hW e3).2.1]
      rw [s_vg_some e1 e2, s_ov_fix hW hR a1 b1, ex, s_pg_some e1, s_pg_some e2, s_pg_some e2, a2, b2]
      unfold s_can
      rw [a2, b2, a3, b3, a4, b4, hg]
      cases s_pl S m <;> cases s_pl S n <;> simp
def s_dn (ps : Nat → Nat) (P k d a : Nat) : Bool := decide (ps d < P) || (decide (ps d = P) && decide (k ≤ ps a))
def OVs (S : sT) (ps : Nat → Nat) (n P k : Nat) (μ : ab_M) : Prop := (∀ d a, d < 40 → ab_bt (μ.2 37 (40 * n + d)) a = (s_vg S (10 + n) d a && s_dn ps P k d a)) ∧ (∀ d a, a < 40 → ab_bt (μ.2 38 (40 * n + a)) d = (s_vg S (10 + n) d a && s_dn ps P k d a))
def F78 (n : Nat) (μ μ' : ab_M) : Prop := μ'.1 = μ.1 ∧ ∀ k j, ((k ≠ 37 ∧ k ≠ 38) ∨ j < 40 * n ∨ 40 * n + 40 ≤ j) → μ'.2 k j = μ.2 k j
theorem F78.rf {n : Nat} {μ : ab_M} : F78 n μ μ := ⟨rfl, fun _ _ _ => rfl⟩
theorem F78.tr {n : Nat} {μ μ' μ'' : ab_M} (h : F78 n μ μ') (h' : F78 n μ' μ'') : F78 n μ μ'' := ⟨h'.1.trans h.1, fun k j e => (h'.2 k j e).trans (h.2 k j e)⟩
theorem F78.mj {n : Nat} {μ μ' : ab_M} (h : F78 n μ μ') {k j : Nat} {x : Int64} (hk : k = 37 ∨ k = 38) (hj : 40 * n ≤ j ∧ j < 40 * n + 40) : F78 n μ (ab_mj μ' k j x) := ⟨h.1, fun a b e => by
  have : ¬ (a = k ∧ b = j) := by omega
  simp only [ab_mj, if_neg this]
  exact h.2 a b e⟩
theorem F78.sq {n : Nat} {μ μ' : ab_M} (h : F78 n μ μ') : SameQ μ μ' := ⟨fun k j _ => by rw [h.1], fun k j e => h.2 k j (Or.inl ⟨fun q => by rw [q] at e; simp [ca_k] at e, fun q => by rw [q] at e; simp [ca_k] at e⟩)⟩
theorem F78.sp {n : Nat} {μ μ' : ab_M} (h : F78 n μ μ') : SameP μ μ' := ⟨fun k j _ => by rw [h.1], fun k j e => h.2 k j (Or.inl ⟨fun q => by rw [q] at e; simp [ca_p] at e, fun q => by rw [q] at e; simp [ca_p] at e⟩)⟩
theorem OVs_same {S : sT} {ps : Nat → Nat} {n P k P' k' : Nat} {μ : ab_M} (h : OVs S ps n P k μ) (he : ∀ d a, s_vg S (10 + n) d a = true → s_dn ps P k d a = s_dn ps P' k' d a) : OVs S ps n P' k' μ := by
  refine ⟨fun d a hd => ?_, fun d a ha => ?_⟩
  · rw [h.1 d a hd]
    cases hv : s_vg S (10 + n) d a with
    | false => rfl
    | true => rw [he d a hv]
  · rw [h.2 d a ha]
    cases hv : s_vg S (10 + n) d a with
    | false => rfl
    | true => rw [he d a hv]
def ab_ik : Nat → Int32
  | 0 => -1
  | k + 1 => nI k
theorem ab_ik_s (k : Nat) : ab_ik (k + 1) + (-1) = ab_ik k := by
  cases k with
  | zero => rfl
  | succ k => exact nI_pm k
theorem ab_ik_m (k : Nat) : nI k - 1 = ab_ik k := by
  cases k with
  | zero => rfl
  | succ k => exact nI_m1 k
section K6
variable {l : Launch} {ω : ab_W} {S : sT} {μ : ab_M} {Q : Int32 → ab_M → Prop}
theorem x_clear {Q : ab_M → Prop} (hω : ω.2.2.2 = ab_SH) {x : Int32} {n : Nat} (ex : x = nI (40 * n)) (hn : n < 10) (hQ : ∀ μ', F78 n μ μ' → (∀ t, t < 40 → μ'.2 37 (40 * n + t) = 0 ∧ μ'.2 38 (40 * n + t) = 0) → Q μ') : ab_CV l ω mX6_clear [.ref 5, .int x] μ Q := by
  subst ex
  refine ab_intro (sh := ab_SH) (cd := kX6_clear) hω vX6_clear (by decide +kernel) rfl (Nat.le_of_ble_eq_true rfl) (fun j hj hw => ?_)
  have hjx : ∀ i ll st μ, i ∉ ([2] : List Nat) → _ → j i ll st μ := fun i ll st μ _ h => hj i ll st μ h
  have key : ∀ d t μ', t + d = 40 → F78 n μ μ' → (∀ u, u < t → μ'.2 37 (40 * n + u) = 0 ∧ μ'.2 38 (40 * n + u) = 0) → j 2 [some (.ref 5), some (.int (nI (40 * n))), some (.int (nI t))] [] μ' := by
    intro d
    induction d with
    | zero =>
      intro t μ' ht hF hz
      refine hj _ _ _ _ ?_
      repeat' (first | refine hjx _ _ _ _ (by decide) ?_ | (refine br_c (fun h => ?_) (fun h => ?_) <;> (try simp (disch := omega) only [nI_clamp, li_2, li_3, li_4, li_5, li_6, li_7, li_8, li_9, li_10, li_40, li_120, pk_mul, nI_add, nI_1, ix_eq, ix_lt, ix_le, ix_l0, ix_l1, ix_n0, ix_p0, ix_1lt, ix_lt1, ix_1le, ix_le1, ix_le0, ix_0lt, ab_z0, ab_z1, i_10, i_01, eq_self, ab_ozn, ab_ozp, ab_o_some, not_true_eq_false, not_false_eq_true, Bool.not_eq_false, Bool.not_eq_true, Bool.not_eq_false', Bool.not_eq_true', Bool.false_eq_true, Bool.true_eq_false, reduceCtorEq, Option.isSome_some, Option.isSome_none] at h) <;> (try omega)) | (refine br_n (fun h => ?_) (fun h => ?_) <;> (try simp (disch := omega) only [nI_clamp, li_2, li_3, li_4, li_5, li_6, li_7, li_8, li_9, li_10, li_40, li_120, pk_mul, nI_add, nI_1, ix_eq, ix_lt, ix_le, ix_l0, ix_l1, ix_n0, ix_p0, ix_1lt, ix_lt1, ix_1le, ix_le1, ix_le0, ix_0lt, ab_z0, ab_z1, i_10, i_01, eq_self, ab_ozn, ab_ozp, ab_o_some, not_true_eq_false, not_false_eq_true, Bool.not_eq_false, Bool.not_eq_true, Bool.not_eq_false', Bool.not_eq_true', Bool.false_eq_true, Bool.true_eq_false, reduceCtorEq, Option.isSome_some, Option.isSome_none] at h) <;> (try omega)) | refine ab_sd (by first | (with_reducible refine vp_in_nI ?_ ?_ <;> omega) | (simp (disch := omega) only [nI_clamp, li_2, li_3, li_4, li_5, li_6, li_7, li_8, li_9, li_10, li_40, li_120, pk_mul, nI_add, nI_1, ix_eq, ix_lt, ix_le, ix_l0, ix_l1, ix_n0, ix_p0, ix_1lt, ix_lt1, ix_1le, ix_le1, ix_le0, ix_0lt, ab_z0, ab_z1, i_10, i_01, eq_self, ab_ozn, ab_ozp, ab_o_some, not_true_eq_false, not_false_eq_true, Bool.not_eq_false, Bool.not_eq_true, Bool.not_eq_false', Bool.not_eq_true', Bool.false_eq_true, Bool.true_eq_false, reduceCtorEq, Option.isSome_some, Option.isSome_none]; with_reducible refine vp_in_nI ?_ ?_ <;> omega)) ?_ | refine ab_sd ?_ ?_ | refine ab_sz (Or.inl rfl) ?_ | refine ab_sz (Or.inr rfl) ?_ | refine ab_sz ?_ ?_)
      show Q _
      exact hQ _ hF (fun u hu => hz u (by omega))
    | succ d ih =>
      intro t μ' ht hF hz
      refine hj _ _ _ _ ?_
      repeat' (first | refine hjx _ _ _ _ (by decide) ?_ | (refine br_c (fun h => ?_) (fun h => ?_) <;> (try simp (disch := omega) only [nI_clamp, li_2, li_3, li_4, li_5, li_6, li_7, li_8, li_9, li_10, li_40, li_120, pk_mul, nI_add, nI_1, ix_eq, ix_lt, ix_le, ix_l0, ix_l1, ix_n0, ix_p0, ix_1lt, ix_lt1, ix_1le, ix_le1, ix_le0, ix_0lt, ab_z0, ab_z1, i_10, i_01, eq_self, ab_ozn, ab_ozp, ab_o_some, not_true_eq_false, not_false_eq_true, Bool.not_eq_false, Bool.not_eq_true, Bool.not_eq_false', Bool.not_eq_true', Bool.false_eq_true, Bool.true_eq_false, reduceCtorEq, Option.isSome_some, Option.isSome_none] at h) <;> (try omega)) | (refine br_n (fun h => ?_) (fun h => ?_) <;> (try simp (disch := omega) only [nI_clamp, li_2, li_3, li_4, li_5, li_6, li_7, li_8, li_9, li_10, li_40, li_120, pk_mul, nI_add, nI_1, ix_eq, ix_lt, ix_le, ix_l0, ix_l1, ix_n0, ix_p0, ix_1lt, ix_lt1, ix_1le, ix_le1, ix_le0, ix_0lt, ab_z0, ab_z1, i_10, i_01, eq_self, ab_ozn, ab_ozp, ab_o_some, not_true_eq_false, not_false_eq_true, Bool.not_eq_false, Bool.not_eq_true, Bool.not_eq_false', Bool.not_eq_true', Bool.false_eq_true, Bool.true_eq_false, reduceCtorEq, Option.isSome_some, Option.isSome_none] at h) <;> (try omega)) | refine ab_sd (by first | (with_reducible refine vp_in_nI ?_ ?_ <;> omega) | (simp (disch := omega) only [nI_clamp, li_2, li_3, li_4, li_5, li_6, li_7, li_8, li_9, li_10, li_40, li_120, pk_mul, nI_add, nI_1, ix_eq, ix_lt, ix_le, ix_l0, ix_l1, ix_n0, ix_p0, ix_1lt, ix_lt1, ix_1le, ix_le1, ix_le0, ix_0lt, ab_z0, ab_z1, i_10, i_01, eq_self, ab_ozn, ab_ozp, ab_o_some, not_true_eq_false, not_false_eq_true, Bool.not_eq_false, Bool.not_eq_true, Bool.not_eq_false', Bool.not_eq_true', Bool.false_eq_true, Bool.true_eq_false, reduceCtorEq, Option.isSome_some, Option.isSome_none]; with_reducible refine vp_in_nI ?_ ?_ <;> omega)) ?_ | refine ab_sd ?_ ?_ | refine ab_sz (Or.inl rfl) ?_ | refine ab_sz (Or.inr rfl) ?_ | refine ab_sz ?_ ?_)
      show j 2 _ _ _
      rw [nI_1, nI_add, nI_clamp (by omega)]
      refine ih (t + 1) _ (by omega) ((hF.mj (Or.inl rfl) (by omega)).mj (Or.inr rfl) (by omega)) (fun u hu => ?_)
      by_cases q : u = t
      · subst q; simp [ab_mj]
      · have := hz u (by omega)
        simp [ab_mj, q, this]
  repeat' (first | refine hjx _ _ _ _ (by decide) ?_ | (refine br_c (fun h => ?_) (fun h => ?_) <;> (try simp (disch := omega) only [nI_clamp, li_2, li_3, li_4, li_5, li_6, li_7, li_8, li_9, li_10, li_40, li_120, pk_mul, nI_add, nI_1, ix_eq, ix_lt, ix_le, ix_l0, ix_l1, ix_n0, ix_p0, ix_1lt, ix_lt1, ix_1le, ix_le1, ix_le0, ix_0lt, ab_z0, ab_z1, i_10, i_01, eq_self, ab_ozn, ab_ozp, ab_o_some, not_true_eq_false, not_false_eq_true, Bool.not_eq_false, Bool.not_eq_true, Bool.not_eq_false', Bool.not_eq_true', Bool.false_eq_true, Bool.true_eq_false, reduceCtorEq, Option.isSome_some, Option.isSome_none] at h) <;> (try omega)) | (refine br_n (fun h => ?_) (fun h => ?_) <;> (try simp (disch := omega) only [nI_clamp, li_2, li_3, li_4, li_5, li_6, li_7, li_8, li_9, li_10, li_40, li_120, pk_mul, nI_add, nI_1, ix_eq, ix_lt, ix_le, ix_l0, ix_l1, ix_n0, ix_p0, ix_1lt, ix_lt1, ix_1le, ix_le1, ix_le0, ix_0lt, ab_z0, ab_z1, i_10, i_01, eq_self, ab_ozn, ab_ozp, ab_o_some, not_true_eq_false, not_false_eq_true, Bool.not_eq_false, Bool.not_eq_true, Bool.not_eq_false', Bool.not_eq_true', Bool.false_eq_true, Bool.true_eq_false, reduceCtorEq, Option.isSome_some, Option.isSome_none] at h) <;> (try omega)) | refine ab_sd (by first | (with_reducible refine vp_in_nI ?_ ?_ <;> omega) | (simp (disch := omega) only [nI_clamp, li_2, li_3, li_4, li_5, li_6, li_7, li_8, li_9, li_10, li_40, li_120, pk_mul, nI_add, nI_1, ix_eq, ix_lt, ix_le, ix_l0, ix_l1, ix_n0, ix_p0, ix_1lt, ix_lt1, ix_1le, ix_le1, ix_le0, ix_0lt, ab_z0, ab_z1, i_10, i_01, eq_self, ab_ozn, ab_ozp, ab_o_some, not_true_eq_false, not_false_eq_true, Bool.not_eq_false, Bool.not_eq_true, Bool.not_eq_false', Bool.not_eq_true', Bool.false_eq_true, Bool.true_eq_false, reduceCtorEq, Option.isSome_some, Option.isSome_none]; with_reducible refine vp_in_nI ?_ ?_ <;> omega)) ?_ | refine ab_sd ?_ ?_ | refine ab_sz (Or.inl rfl) ?_ | refine ab_sz (Or.inr rfl) ?_ | refine ab_sz ?_ ?_)
  exact key 40 0 μ (by omega) F78.rf (fun u hu => by omega)
theorem x_reaches (hω : ω.2.2.2 = ab_SH) (T : RepT S μ) (X : RepX S μ) (hW : Wf S) {x y z v : Int32} {d a n : Nat} {B : Bool} (ex : x = nI d) (ey : y = nI a) (ez : z = nI (10 + n)) (ev : v = nI (40 * n)) (hd : d < s_nT S) (ha : a < s_nT S) (hn : n < 10) (hB : (μ.2 37 (40 * n + d) &&& μ.2 38 (40 * n + a) &&& μ.2 2 1 = 0) ↔ B = false) (hQ : Q (ab_z ((!s_pg S (10 + n) (fun m => S.1 60 m == 1) a || S.1 48 d == S.1 48 a) || B)) μ) : ab_CI l ω mX6_reaches [.ref 5, .int x, .int y, .int z, .int v] μ Q := by
  subst ex ey ez ev
  refine ab_intro (sh := ab_SH) (cd := kX6_reaches) hω vX6_reaches (by decide +kernel) rfl (Nat.le_of_ble_eq_true rfl) (fun j hj hw => ?_)
  have hT := hW.2.2.1.2
  have hP := hW.2.1.2
  have d1 := (hW.2.2.2.2.2.1 d hd).1
  have a1 := (hW.2.2.2.2.2.1 a ha).1
  obtain ⟨kT, kc, ks, k13, k14, k15, k16, k17, k18, k22, k19, k20, k21, k25⟩ := RepT_fs T
  obtain ⟨xN, x26, x27, x28, x29, x30, x31, x32, x33, x34, x35⟩ := RepX_fs X
  repeat' (first | refine hj _ _ _ _ ?_ | (refine br_c (fun h => ?_) (fun h => ?_) <;> (try simp (disch := omega) only [nI_clamp, li_2, li_3, li_4, li_5, li_6, li_7, li_8, li_9, li_10, li_40, li_120, pk_mul, nI_add, nI_1, ix_eq, ix_lt, ix_le, ix_l0, ix_l1, ix_n0, ix_p0, ix_1lt, ix_lt1, ix_1le, ix_le1, ix_le0, ix_0lt, ab_z0, ab_z1, i_10, i_01, eq_self, ab_ozn, ab_ozp, ab_o_some, not_true_eq_false, not_false_eq_true, Bool.not_eq_false, Bool.not_eq_true, Bool.not_eq_false', Bool.not_eq_true', Bool.false_eq_true, Bool.true_eq_false, reduceCtorEq, Option.isSome_some, Option.isSome_none, kT, k13, k14, k15, k16, k17, k18, kc, ks, k19, k20, k21, k22, k25, ab_o1_some, ab_bt_or, ab_bt_and, ab_bt_one, ab_o1n, ab_o1p, decide_true, decide_false, Bool.true_and, Bool.and_true, beq_iff_eq, nI_ti, xN, x26, x27, x28, x29, x30, x33, lg_cmp_eq, hB] at h) <;> (try omega)) | (refine br_n (fun h => ?_) (fun h => ?_) <;> (try simp (disch := omega) only [nI_clamp, li_2, li_3, li_4, li_5, li_6, li_7, li_8, li_9, li_10, li_40, li_120, pk_mul, nI_add, nI_1, ix_eq, ix_lt, ix_le, ix_l0, ix_l1, ix_n0, ix_p0, ix_1lt, ix_lt1, ix_1le, ix_le1, ix_le0, ix_0lt, ab_z0, ab_z1, i_10, i_01, eq_self, ab_ozn, ab_ozp, ab_o_some, not_true_eq_false, not_false_eq_true, Bool.not_eq_false, Bool.not_eq_true, Bool.not_eq_false', Bool.not_eq_true', Bool.false_eq_true, Bool.true_eq_false, reduceCtorEq, Option.isSome_some, Option.isSome_none, kT, k13, k14, k15, k16, k17, k18, kc, ks, k19, k20, k21, k22, k25, ab_o1_some, ab_bt_or, ab_bt_and, ab_bt_one, ab_o1n, ab_o1p, decide_true, decide_false, Bool.true_and, Bool.and_true, beq_iff_eq, nI_ti, xN, x26, x27, x28, x29, x30, x33, lg_cmp_eq, hB] at h) <;> (try omega)) | refine ab_sd (by first | (with_reducible refine vp_in_nI ?_ ?_ <;> omega) | (simp (disch := omega) only [nI_clamp, li_2, li_3, li_4, li_5, li_6, li_7, li_8, li_9, li_10, li_40, li_120, pk_mul, nI_add, nI_1, ix_eq, ix_lt, ix_le, ix_l0, ix_l1, ix_n0, ix_p0, ix_1lt, ix_lt1, ix_1le, ix_le1, ix_le0, ix_0lt, ab_z0, ab_z1, i_10, i_01, eq_self, ab_ozn, ab_ozp, ab_o_some, not_true_eq_false, not_false_eq_true, Bool.not_eq_false, Bool.not_eq_true, Bool.not_eq_false', Bool.not_eq_true', Bool.false_eq_true, Bool.true_eq_false, reduceCtorEq, Option.isSome_some, Option.isSome_none, kT, k13, k14, k15, k16, k17, k18, kc, ks, k19, k20, k21, k22, k25, ab_o1_some, ab_bt_or, ab_bt_and, ab_bt_one, ab_o1n, ab_o1p, decide_true, decide_false, Bool.true_and, Bool.and_true, beq_iff_eq, nI_ti, xN, x26, x27, x28, x29, x30, x33, lg_cmp_eq, hB]; with_reducible refine vp_in_nI ?_ ?_ <;> omega)) ?_ | refine x_has hω (t := a) rfl (by omega) ?_ | refine ab_sd ?_ ?_ | refine ab_sz (Or.inl rfl) ?_ | refine ab_sz (Or.inr rfl) ?_ | refine ab_sz ?_ ?_)
  all_goals (refine q_of hQ ?_; clear hj hw hQ; simp_all [ab_z])
theorem x_findOverridden {Q : ab_M → Prop} {ρ : Nat → Nat} (hω : ω.2.2.2 = ab_SH) (T : RepT S μ) (X : RepX S μ) (hI : Iv S) (hR : Rk S ρ) {od ps : Nat → Nat} (o1 : ∀ i, i < s_nT S → od i < s_nT S ∧ ps (od i) = i ∧ μ.1 23 i = nI (od i)) (o2 : ∀ t, t < s_nT S → ps t < s_nT S ∧ od (ps t) = t) (o3 : ∀ t u, t < s_nT S → u < s_nT S → s_ab S t u = true → ps u < ps t) {x z v : Int32} {y : Int64} {P n : Nat} (ex : x = nI P) (hy : ∀ i, i < 64 → ab_bt y i = s_pg S (10 + n) (s_pl S) i) (ez : z = nI (10 + n)) (ev : v = nI (40 * n)) (hP : P < s_nT S) (hn : n < 10) (hO : OVs S ps n P P μ) (hQ : ∀ μ', F78 n μ μ' → OVs S ps n (P + 1) (P + 1) μ' → Q μ') : ab_CV l ω mX6_findOverridden [.ref 5, .int x, .long y, .int z, .int v] μ Q := by
  subst ex ez ev
  refine ab_intro (sh := ab_SH) (cd := kX6_findOverridden) hω vX6_findOverridden (by decide +kernel) rfl (Nat.le_of_ble_eq_true rfl) (fun j hj hw => ?_)
  have hjx : ∀ i ll st μ, i ∉ ([19, 24] : List Nat) → _ → j i ll st μ := fun i ll st μ _ h => hj i ll st μ h
  have hW := hI.1
  have hT := hW.2.2.1.2
  have hgv : (10 + n) / 10 = 1 := by omega
  obtain ⟨w1, w2, w3⟩ := o1 P hP
  have T0 := T
  obtain ⟨kT, kc, ks, k13, k14, k15, k16, k17, k18, k22, k19, k20, k21, k25⟩ := RepT_fs T
  have h20 := T0.2.2.2.2.1
  have vt : ∀ d a, s_vg S (10 + n) d a = true → d < s_nT S ∧ a < s_nT S ∧ s_ab S d a = true ∧ ps a < ps d := fun d a h => by
    obtain ⟨q1, q2, q3⟩ := s_vg_ab hW h
    exact ⟨q1, q2, q3, o3 d a q1 q2 q3⟩
  have fin : ∀ μ' k, F78 n μ μ' → OVs S ps n P k μ' → (∀ a, s_vg S (10 + n) (od P) a = true → k ≤ ps a) → Q μ' := by
    intro μ' k hF hO hk
    refine hQ μ' hF (OVs_same hO (fun d a hv => ?_))
    obtain ⟨q1, q2, q3, q4⟩ := vt d a hv
    unfold s_dn
    by_cases c : ps d = P
    · have e : d = od P := by rw [← c]; exact (o2 d q1).2.symm
      have := hk a (by rw [← e]; exact hv)
      simp [c, this]
    · by_cases c2 : ps d < P
      · simp [c2, show ps d < P + 1 by omega]
      · simp [c, c2, show ¬ ps d < P + 1 by omega, show ¬ ps d = P + 1 ∨ ¬ P + 1 ≤ ps a by omega]
        omega
  have key : ∀ k μ' (h : Int64) v10, k ≤ P → F78 n μ μ' → OVs S ps n P k μ' → (∀ a, a < s_nT S → ab_bt h a = (s_pg S (10 + n) (s_pl S) (od P) && (s_pg S (10 + n) (s_pl S) a && s_ab S (od P) a))) → j 24 [some (.ref 5), some (.int (nI P)), some (.long y), none, some (.int (nI (10 + n))), some (.int (nI (40 * n))), some (.int (nI (od P))), some (.long h), none, some (.int (ab_ik k)), v10] [] μ' := by
    intro k
    induction k with
    | zero =>
      intro μ' h v10 hk hF hO hh
      refine hj _ _ _ _ ?_
      have c : ((ab_ik 0) < 0) ↔ True := ⟨fun _ => trivial, fun _ => by decide⟩
      repeat' (first | refine hjx _ _ _ _ (by decide) ?_ | (refine br_c (fun h => ?_) (fun h => ?_) <;> (try simp (disch := omega) only [nI_clamp, li_2, li_3, li_4, li_5, li_6, li_7, li_8, li_9, li_10, li_40, li_120, pk_mul, nI_add, nI_1, ix_eq, ix_lt, ix_le, ix_l0, ix_l1, ix_n0, ix_p0, ix_1lt, ix_lt1, ix_1le, ix_le1, ix_le0, ix_0lt, ab_z0, ab_z1, i_10, i_01, eq_self, ab_ozn, ab_ozp, ab_o_some, not_true_eq_false, not_false_eq_true, Bool.not_eq_false, Bool.not_eq_true, Bool.not_eq_false', Bool.not_eq_true', Bool.false_eq_true, Bool.true_eq_false, reduceCtorEq, Option.isSome_some, Option.isSome_none, c] at h) <;> (try omega)) | (refine br_n (fun h => ?_) (fun h => ?_) <;> (try simp (disch := omega) only [nI_clamp, li_2, li_3, li_4, li_5, li_6, li_7, li_8, li_9, li_10, li_40, li_120, pk_mul, nI_add, nI_1, ix_eq, ix_lt, ix_le, ix_l0, ix_l1, ix_n0, ix_p0, ix_1lt, ix_lt1, ix_1le, ix_le1, ix_le0, ix_0lt, ab_z0, ab_z1, i_10, i_01, eq_self, ab_ozn, ab_ozp, ab_o_some, not_true_eq_false, not_false_eq_true, Bool.not_eq_false, Bool.not_eq_true, Bool.not_eq_false', Bool.not_eq_true', Bool.false_eq_true, Bool.true_eq_false, reduceCtorEq, Option.isSome_some, Option.isSome_none, c] at h) <;> (try omega)) | refine ab_sd (by first | (with_reducible refine vp_in_nI ?_ ?_ <;> omega) | (simp (disch := omega) only [nI_clamp, li_2, li_3, li_4, li_5, li_6, li_7, li_8, li_9, li_10, li_40, li_120, pk_mul, nI_add, nI_1, ix_eq, ix_lt, ix_le, ix_l0, ix_l1, ix_n0, ix_p0, ix_1lt, ix_lt1, ix_1le, ix_le1, ix_le0, ix_0lt, ab_z0, ab_z1, i_10, i_01, eq_self, ab_ozn, ab_ozp, ab_o_some, not_true_eq_false, not_false_eq_true, Bool.not_eq_false, Bool.not_eq_true, Bool.not_eq_false', Bool.not_eq_true', Bool.false_eq_true, Bool.true_eq_false, reduceCtorEq, Option.isSome_some, Option.isSome_none, c]; with_reducible refine vp_in_nI ?_ ?_ <;> omega)) ?_ | refine ab_sd ?_ ?_ | refine ab_sz (Or.inl rfl) ?_ | refine ab_sz (Or.inr rfl) ?_ | refine ab_sz ?_ ?_)
      show Q _
      exact fin μ' 0 hF hO (fun a _ => Nat.zero_le _)
    | succ k ih =>
      intro μ' h v10 hk hF hO hh
      refine hj _ _ _ _ ?_
      obtain ⟨u1, u2, u3⟩ := o1 k (by omega)
      have hq := hF.sq
      have T' := RepT_q T0 hq
      have X' := RepX_q X hq
      have c : ((ab_ik (k + 1)) < 0) ↔ False := ⟨fun q => nI_pos (n := k) (by omega) q, False.elim⟩
      have cl : (ab_ik (k + 1)).toNatClampNeg = k := nI_clamp (by omega)
      have e23 : μ'.1 23 k = nI (od k) := by rw [hF.1]; exact u3
      have hne : ¬ od k = od P := fun q => by have := u2; rw [q, w2] at this; omega
      have hv := s_vg_eq hI hR hgv (d := od P) (a := od k)
      rw [← hh _ u1] at hv
      have hcl : ∀ i, i < s_nT S → ab_bt (μ'.2 2 1) i = (S.1 50 i == 0) := fun i hi => by rw [hF.2 2 1 (Or.inl (by omega))]; exact kc i hi
      have hB : (μ'.2 37 (40 * n + od P) &&& μ'.2 38 (40 * n + od k) &&& μ'.2 2 1 = 0) ↔ ab_ex (fun b => s_vg S (10 + n) (od P) b && s_vg S (10 + n) b (od k) && S.1 50 b == 0) (s_nT S) = false := by
        have bit : ∀ b, b < s_nT S → ab_bt (μ'.2 37 (40 * n + od P) &&& μ'.2 38 (40 * n + od k) &&& μ'.2 2 1) b = (s_vg S (10 + n) (od P) b && s_vg S (10 + n) b (od k) && S.1 50 b == 0) := by
          intro b hb
          rw [ab_bt_and, ab_bt_and, hcl b hb, hO.1 _ _ (by omega), hO.2 _ _ (by omega)]
          cases v1 : s_vg S (10 + n) (od P) b with
          | false => rfl
          | true =>
            cases v2 : s_vg S (10 + n) b (od k) with
            | false => simp
            | true =>
              have q1 := vt _ _ v1
              have q2 := vt _ _ v2
              unfold s_dn
              simp [w2, show ¬ P < P by omega, show k + 1 ≤ ps b by omega, show ps b < P by omega]
        rw [ab_bt_zero]
        constructor
        · intro hz
          refine ab_ex_f (fun b hb => ?_)
          rw [← bit b hb]
          exact hz b (by omega)
        · intro hz i hi
          by_cases q : i < s_nT S
          · rw [bit i q]
            cases hx : (s_vg S (10 + n) (od P) i && s_vg S (10 + n) i (od k) && S.1 50 i == 0) with
            | false => rfl
            | true => rw [ab_ex_iff.mpr ⟨i, q, hx⟩] at hz; cases hz
          · rw [ab_bt_and, ab_bt_and, hO.1 _ _ (by omega)]
            cases v1 : s_vg S (10 + n) (od P) i with
            | false => simp
            | true => exact absurd (vt _ _ v1).2.1 q
      have dnE : ∀ d a, s_vg S (10 + n) d a = true → ¬ (d = od P ∧ a = od k) → s_dn ps P (k + 1) d a = s_dn ps P k d a := by
        intro d a hv hne
        obtain ⟨q1, q2, q3, q4⟩ := vt d a hv
        unfold s_dn
        by_cases c1 : ps d = P
        · by_cases c2 : ps a = k
          · exfalso
            have e1 : d = od P := by rw [← c1]; exact (o2 d q1).2.symm
            have e2 : a = od k := by rw [← c2]; exact (o2 a q2).2.symm
            exact hne ⟨e1, e2⟩
          · simp only [c1, decide_true, Bool.true_and]
            rw [show decide (k + 1 ≤ ps a) = decide (k ≤ ps a) by rw [decide_eq_decide]; omega]
        · simp [c1]
      have skip : s_vg S (10 + n) (od P) (od k) = false → OVs S ps n P k μ' := by
        intro hf
        refine OVs_same hO (fun d a hv => dnE d a hv (fun q => ?_))
        rw [q.1, q.2, hf] at hv
        cases hv
      have setE : s_vg S (10 + n) (od P) (od k) = true → ∀ d a, (s_vg S (10 + n) d a && s_dn ps P k d a) = ((s_vg S (10 + n) d a && s_dn ps P (k + 1) d a) || (decide (d = od P) && decide (a = od k))) := by
        intro ht d a
        by_cases q : d = od P ∧ a = od k
        · rw [q.1, q.2, ht]
          unfold s_dn
          simp [w2, u2]
        · have : (decide (d = od P) && decide (a = od k)) = false := by simpa using q
          rw [this, Bool.or_false]
          cases hv : s_vg S (10 + n) d a with
          | false => rfl
          | true => rw [dnE d a hv q]
      by_cases hz : h = 0
      · subst hz
        repeat' (first | refine hjx _ _ _ _ (by decide) ?_ | (refine br_c (fun h => ?_) (fun h => ?_) <;> (try simp (disch := omega) only [nI_clamp, li_2, li_3, li_4, li_5, li_6, li_7, li_8, li_9, li_10, li_40, li_120, pk_mul, nI_add, nI_1, ix_eq, ix_lt, ix_le, ix_l0, ix_l1, ix_n0, ix_p0, ix_1lt, ix_lt1, ix_1le, ix_le1, ix_le0, ix_0lt, ab_z0, ab_z1, i_10, i_01, eq_self, ab_ozn, ab_ozp, ab_o_some, not_true_eq_false, not_false_eq_true, Bool.not_eq_false, Bool.not_eq_true, Bool.not_eq_false', Bool.not_eq_true', Bool.false_eq_true, Bool.true_eq_false, reduceCtorEq, Option.isSome_some, Option.isSome_none, c, lg_cmp_eq] at h) <;> (try omega)) | (refine br_n (fun h => ?_) (fun h => ?_) <;> (try simp (disch := omega) only [nI_clamp, li_2, li_3, li_4, li_5, li_6, li_7, li_8, li_9, li_10, li_40, li_120, pk_mul, nI_add, nI_1, ix_eq, ix_lt, ix_le, ix_l0, ix_l1, ix_n0, ix_p0, ix_1lt, ix_lt1, ix_1le, ix_le1, ix_le0, ix_0lt, ab_z0, ab_z1, i_10, i_01, eq_self, ab_ozn, ab_ozp, ab_o_some, not_true_eq_false, not_false_eq_true, Bool.not_eq_false, Bool.not_eq_true, Bool.not_eq_false', Bool.not_eq_true', Bool.false_eq_true, Bool.true_eq_false, reduceCtorEq, Option.isSome_some, Option.isSome_none, c, lg_cmp_eq] at h) <;> (try omega)) | refine ab_sd (by first | (with_reducible refine vp_in_nI ?_ ?_ <;> omega) | (simp (disch := omega) only [nI_clamp, li_2, li_3, li_4, li_5, li_6, li_7, li_8, li_9, li_10, li_40, li_120, pk_mul, nI_add, nI_1, ix_eq, ix_lt, ix_le, ix_l0, ix_l1, ix_n0, ix_p0, ix_1lt, ix_lt1, ix_1le, ix_le1, ix_le0, ix_0lt, ab_z0, ab_z1, i_10, i_01, eq_self, ab_ozn, ab_ozp, ab_o_some, not_true_eq_false, not_false_eq_true, Bool.not_eq_false, Bool.not_eq_true, Bool.not_eq_false', Bool.not_eq_true', Bool.false_eq_true, Bool.true_eq_false, reduceCtorEq, Option.isSome_some, Option.isSome_none, c, lg_cmp_eq]; with_reducible refine vp_in_nI ?_ ?_ <;> omega)) ?_ | refine ab_sd ?_ ?_ | refine ab_sz (Or.inl rfl) ?_ | refine ab_sz (Or.inr rfl) ?_ | refine ab_sz ?_ ?_)
        all_goals (show Q _; refine fin μ' (k + 1) hF hO (fun a ha => ?_); exfalso; obtain ⟨q1, q2, q3, q4⟩ := vt _ _ ha; rw [s_vg_eq hI hR hgv, ← hh a q2, ab_bt_0] at ha; cases ha)
      · have eix : μ'.1 23 (ab_ik (k + 1)).toNatClampNeg = nI (od k) := by rw [cl, e23]
        have vin : vp_in (ab_ik (k + 1)) 40 := vp_in_nI (by omega) (by omega)
        generalize hBe : ab_ex (fun b => s_vg S (10 + n) (od P) b && s_vg S (10 + n) b (od k) && S.1 50 b == 0) (s_nT S) = B at hB hv
        have hjk : ∀ μ2 v10, F78 n μ μ2 → OVs S ps n P k μ2 → j 24 [some (.ref 5), some (.int (nI P)), some (.long y), none, some (.int (nI (10 + n))), some (.int (nI (40 * n))), some (.int (nI (od P))), some (.long h), none, some (.int (ab_ik k)), v10] [] μ2 := fun μ2 v10 a b => ih μ2 h v10 (by omega) a b hh
        cases hb : ab_bt h (od k) with
        | false =>
          repeat' (first | refine hjx _ _ _ _ (by decide) ?_ | (refine br_c (fun h => ?_) (fun h => ?_) <;> (try simp (disch := omega) only [nI_clamp, li_2, li_3, li_4, li_5, li_6, li_7, li_8, li_9, li_10, li_40, li_120, pk_mul, nI_add, nI_1, ix_eq, ix_lt, ix_le, ix_l0, ix_l1, ix_n0, ix_p0, ix_1lt, ix_lt1, ix_1le, ix_le1, ix_le0, ix_0lt, ab_z0, ab_z1, i_10, i_01, eq_self, ab_ozn, ab_ozp, ab_o_some, not_true_eq_false, not_false_eq_true, Bool.not_eq_false, Bool.not_eq_true, Bool.not_eq_false', Bool.not_eq_true', Bool.false_eq_true, Bool.true_eq_false, reduceCtorEq, Option.isSome_some, Option.isSome_none, c, lg_cmp_eq, hz, cl, e23, hb] at h) <;> (try omega)) | (refine br_n (fun h => ?_) (fun h => ?_) <;> (try simp (disch := omega) only [nI_clamp, li_2, li_3, li_4, li_5, li_6, li_7, li_8, li_9, li_10, li_40, li_120, pk_mul, nI_add, nI_1, ix_eq, ix_lt, ix_le, ix_l0, ix_l1, ix_n0, ix_p0, ix_1lt, ix_lt1, ix_1le, ix_le1, ix_le0, ix_0lt, ab_z0, ab_z1, i_10, i_01, eq_self, ab_ozn, ab_ozp, ab_o_some, not_true_eq_false, not_false_eq_true, Bool.not_eq_false, Bool.not_eq_true, Bool.not_eq_false', Bool.not_eq_true', Bool.false_eq_true, Bool.true_eq_false, reduceCtorEq, Option.isSome_some, Option.isSome_none, c, lg_cmp_eq, hz, cl, e23, hb] at h) <;> (try omega)) | refine ab_sd (by first | (with_reducible refine vp_in_nI ?_ ?_ <;> omega) | (simp (disch := omega) only [nI_clamp, li_2, li_3, li_4, li_5, li_6, li_7, li_8, li_9, li_10, li_40, li_120, pk_mul, nI_add, nI_1, ix_eq, ix_lt, ix_le, ix_l0, ix_l1, ix_n0, ix_p0, ix_1lt, ix_lt1, ix_1le, ix_le1, ix_le0, ix_0lt, ab_z0, ab_z1, i_10, i_01, eq_self, ab_ozn, ab_ozp, ab_o_some, not_true_eq_false, not_false_eq_true, Bool.not_eq_false, Bool.not_eq_true, Bool.not_eq_false', Bool.not_eq_true', Bool.false_eq_true, Bool.true_eq_false, reduceCtorEq, Option.isSome_some, Option.isSome_none, c, lg_cmp_eq, hz, cl, e23, hb]; with_reducible refine vp_in_nI ?_ ?_ <;> omega)) ?_ | refine ab_sd vin ?_ | refine x_has hω (t := od k) eix (by omega) ?_ | refine ab_sd ?_ ?_ | refine ab_sz (Or.inl rfl) ?_ | refine ab_sz (Or.inr rfl) ?_ | refine ab_sz ?_ ?_)
          show j 24 _ _ _
          rw [ab_ik_s]
          exact hjk _ _ hF (skip (by rw [hv, hb]; rfl))
        | true =>
          cases hr : ((!s_pg S (10 + n) (fun m => S.1 60 m == 1) (od k) || S.1 48 (od P) == S.1 48 (od k)) || B) with
          | false =>
            repeat' (first | refine hjx _ _ _ _ (by decide) ?_ | (refine br_c (fun h => ?_) (fun h => ?_) <;> (try simp (disch := omega) only [nI_clamp, li_2, li_3, li_4, li_5, li_6, li_7, li_8, li_9, li_10, li_40, li_120, pk_mul, nI_add, nI_1, ix_eq, ix_lt, ix_le, ix_l0, ix_l1, ix_n0, ix_p0, ix_1lt, ix_lt1, ix_1le, ix_le1, ix_le0, ix_0lt, ab_z0, ab_z1, i_10, i_01, eq_self, ab_ozn, ab_ozp, ab_o_some, not_true_eq_false, not_false_eq_true, Bool.not_eq_false, Bool.not_eq_true, Bool.not_eq_false', Bool.not_eq_true', Bool.false_eq_true, Bool.true_eq_false, reduceCtorEq, Option.isSome_some, Option.isSome_none, c, lg_cmp_eq, hz, cl, e23, hb, hr] at h) <;> (try omega)) | (refine br_n (fun h => ?_) (fun h => ?_) <;> (try simp (disch := omega) only [nI_clamp, li_2, li_3, li_4, li_5, li_6, li_7, li_8, li_9, li_10, li_40, li_120, pk_mul, nI_add, nI_1, ix_eq, ix_lt, ix_le, ix_l0, ix_l1, ix_n0, ix_p0, ix_1lt, ix_lt1, ix_1le, ix_le1, ix_le0, ix_0lt, ab_z0, ab_z1, i_10, i_01, eq_self, ab_ozn, ab_ozp, ab_o_some, not_true_eq_false, not_false_eq_true, Bool.not_eq_false, Bool.not_eq_true, Bool.not_eq_false', Bool.not_eq_true', Bool.false_eq_true, Bool.true_eq_false, reduceCtorEq, Option.isSome_some, Option.isSome_none, c, lg_cmp_eq, hz, cl, e23, hb, hr] at h) <;> (try omega)) | refine ab_sd (by first | (with_reducible refine vp_in_nI ?_ ?_ <;> omega) | (simp (disch := omega) only [nI_clamp, li_2, li_3, li_4, li_5, li_6, li_7, li_8, li_9, li_10, li_40, li_120, pk_mul, nI_add, nI_1, ix_eq, ix_lt, ix_le, ix_l0, ix_l1, ix_n0, ix_p0, ix_1lt, ix_lt1, ix_1le, ix_le1, ix_le0, ix_0lt, ab_z0, ab_z1, i_10, i_01, eq_self, ab_ozn, ab_ozp, ab_o_some, not_true_eq_false, not_false_eq_true, Bool.not_eq_false, Bool.not_eq_true, Bool.not_eq_false', Bool.not_eq_true', Bool.false_eq_true, Bool.true_eq_false, reduceCtorEq, Option.isSome_some, Option.isSome_none, c, lg_cmp_eq, hz, cl, e23, hb, hr]; with_reducible refine vp_in_nI ?_ ?_ <;> omega)) ?_ | refine ab_sd vin ?_ | refine x_has hω (t := od k) eix (by omega) ?_ | refine x_reaches hω T' X' hW (d := od P) (a := od k) (n := n) rfl eix rfl rfl w1 u1 hn hB ?_ | refine ab_sd ?_ ?_ | refine ab_sz (Or.inl rfl) ?_ | refine ab_sz (Or.inr rfl) ?_ | refine ab_sz ?_ ?_)
            show j 24 _ _ _
            rw [ab_ik_s]
            exact hjk _ _ hF (skip (by rw [hv, hb, hr]; rfl))
          | true =>
            have ht : s_vg S (10 + n) (od P) (od k) = true := by rw [hv, hb, hr]; rfl
            repeat' (first | refine hjx _ _ _ _ (by decide) ?_ | (refine br_c (fun h => ?_) (fun h => ?_) <;> (try simp (disch := omega) only [nI_clamp, li_2, li_3, li_4, li_5, li_6, li_7, li_8, li_9, li_10, li_40, li_120, pk_mul, nI_add, nI_1, ix_eq, ix_lt, ix_le, ix_l0, ix_l1, ix_n0, ix_p0, ix_1lt, ix_lt1, ix_1le, ix_le1, ix_le0, ix_0lt, ab_z0, ab_z1, i_10, i_01, eq_self, ab_ozn, ab_ozp, ab_o_some, not_true_eq_false, not_false_eq_true, Bool.not_eq_false, Bool.not_eq_true, Bool.not_eq_false', Bool.not_eq_true', Bool.false_eq_true, Bool.true_eq_false, reduceCtorEq, Option.isSome_some, Option.isSome_none, c, lg_cmp_eq, hz, cl, e23, hb, hr] at h) <;> (try omega)) | (refine br_n (fun h => ?_) (fun h => ?_) <;> (try simp (disch := omega) only [nI_clamp, li_2, li_3, li_4, li_5, li_6, li_7, li_8, li_9, li_10, li_40, li_120, pk_mul, nI_add, nI_1, ix_eq, ix_lt, ix_le, ix_l0, ix_l1, ix_n0, ix_p0, ix_1lt, ix_lt1, ix_1le, ix_le1, ix_le0, ix_0lt, ab_z0, ab_z1, i_10, i_01, eq_self, ab_ozn, ab_ozp, ab_o_some, not_true_eq_false, not_false_eq_true, Bool.not_eq_false, Bool.not_eq_true, Bool.not_eq_false', Bool.not_eq_true', Bool.false_eq_true, Bool.true_eq_false, reduceCtorEq, Option.isSome_some, Option.isSome_none, c, lg_cmp_eq, hz, cl, e23, hb, hr] at h) <;> (try omega)) | refine ab_sd (by first | (with_reducible refine vp_in_nI ?_ ?_ <;> omega) | (simp (disch := omega) only [nI_clamp, li_2, li_3, li_4, li_5, li_6, li_7, li_8, li_9, li_10, li_40, li_120, pk_mul, nI_add, nI_1, ix_eq, ix_lt, ix_le, ix_l0, ix_l1, ix_n0, ix_p0, ix_1lt, ix_lt1, ix_1le, ix_le1, ix_le0, ix_0lt, ab_z0, ab_z1, i_10, i_01, eq_self, ab_ozn, ab_ozp, ab_o_some, not_true_eq_false, not_false_eq_true, Bool.not_eq_false, Bool.not_eq_true, Bool.not_eq_false', Bool.not_eq_true', Bool.false_eq_true, Bool.true_eq_false, reduceCtorEq, Option.isSome_some, Option.isSome_none, c, lg_cmp_eq, hz, cl, e23, hb, hr]; with_reducible refine vp_in_nI ?_ ?_ <;> omega)) ?_ | refine ab_sd vin ?_ | refine x_has hω (t := od k) eix (by omega) ?_ | refine x_reaches hω T' X' hW (d := od P) (a := od k) (n := n) rfl eix rfl rfl w1 u1 hn hB ?_ | refine x_one hω (t := od k) eix ?_ | refine x_one hω (t := od P) rfl ?_ | refine ab_sd ?_ ?_ | refine ab_sz (Or.inl rfl) ?_ | refine ab_sz (Or.inr rfl) ?_ | refine ab_sz ?_ ?_)
            show j 24 _ _ _
            rw [ab_ik_s]
            simp (disch := omega) only [eix, nI_add, nI_clamp]
            refine hjk _ _ ((hF.mj (Or.inl rfl) (by omega)).mj (Or.inr rfl) (by omega)) ⟨fun d a hd => ?_, fun d a ha => ?_⟩
            · rw [setE ht d a, ← hO.1 d a hd]
              by_cases q : d = od P
              · subst q
                simp [ab_mj, ab_bt_or, ab_bt_one (show od k < 64 by omega)]
              · simp [ab_mj, q]
            · rw [setE ht d a, ← hO.2 d a ha]
              by_cases q : a = od k
              · subst q
                simp [ab_mj, ab_bt_or, ab_bt_one (show od P < 64 by omega)]
              · simp [ab_mj, q]
  have eP : μ.1 23 (nI P).toNatClampNeg = nI (od P) := by rw [nI_clamp (by omega), w3]
  have main : ∀ h : Int64, (∀ a, a < s_nT S → ab_bt h a = (s_pg S (10 + n) (s_pl S) (od P) && (s_pg S (10 + n) (s_pl S) a && s_ab S (od P) a))) → j 19 [some (.ref 5), some (.int (nI P)), some (.long y), none, some (.int (nI (10 + n))), some (.int (nI (40 * n))), some (.int (nI (od P))), none, none, none, none] [.long h] μ := by
    intro h hh
    refine hj _ _ _ _ ?_
    repeat' (first | refine hjx _ _ _ _ (by decide) ?_ | (refine br_c (fun h => ?_) (fun h => ?_) <;> (try simp (disch := omega) only [nI_clamp, li_2, li_3, li_4, li_5, li_6, li_7, li_8, li_9, li_10, li_40, li_120, pk_mul, nI_add, nI_1, ix_eq, ix_lt, ix_le, ix_l0, ix_l1, ix_n0, ix_p0, ix_1lt, ix_lt1, ix_1le, ix_le1, ix_le0, ix_0lt, ab_z0, ab_z1, i_10, i_01, eq_self, ab_ozn, ab_ozp, ab_o_some, not_true_eq_false, not_false_eq_true, Bool.not_eq_false, Bool.not_eq_true, Bool.not_eq_false', Bool.not_eq_true', Bool.false_eq_true, Bool.true_eq_false, reduceCtorEq, Option.isSome_some, Option.isSome_none] at h) <;> (try omega)) | (refine br_n (fun h => ?_) (fun h => ?_) <;> (try simp (disch := omega) only [nI_clamp, li_2, li_3, li_4, li_5, li_6, li_7, li_8, li_9, li_10, li_40, li_120, pk_mul, nI_add, nI_1, ix_eq, ix_lt, ix_le, ix_l0, ix_l1, ix_n0, ix_p0, ix_1lt, ix_lt1, ix_1le, ix_le1, ix_le0, ix_0lt, ab_z0, ab_z1, i_10, i_01, eq_self, ab_ozn, ab_ozp, ab_o_some, not_true_eq_false, not_false_eq_true, Bool.not_eq_false, Bool.not_eq_true, Bool.not_eq_false', Bool.not_eq_true', Bool.false_eq_true, Bool.true_eq_false, reduceCtorEq, Option.isSome_some, Option.isSome_none] at h) <;> (try omega)) | refine ab_sd (by first | (with_reducible refine vp_in_nI ?_ ?_ <;> omega) | (simp (disch := omega) only [nI_clamp, li_2, li_3, li_4, li_5, li_6, li_7, li_8, li_9, li_10, li_40, li_120, pk_mul, nI_add, nI_1, ix_eq, ix_lt, ix_le, ix_l0, ix_l1, ix_n0, ix_p0, ix_1lt, ix_lt1, ix_1le, ix_le1, ix_le0, ix_0lt, ab_z0, ab_z1, i_10, i_01, eq_self, ab_ozn, ab_ozp, ab_o_some, not_true_eq_false, not_false_eq_true, Bool.not_eq_false, Bool.not_eq_true, Bool.not_eq_false', Bool.not_eq_true', Bool.false_eq_true, Bool.true_eq_false, reduceCtorEq, Option.isSome_some, Option.isSome_none]; with_reducible refine vp_in_nI ?_ ?_ <;> omega)) ?_ | refine ab_sd ?_ ?_ | refine ab_sz (Or.inl rfl) ?_ | refine ab_sz (Or.inr rfl) ?_ | refine ab_sz ?_ ?_)
    show j 24 _ _ _
    rw [ab_ik_m]
    exact key P μ h _ (Nat.le_refl _) F78.rf hO hh
  cases hb : s_pg S (10 + n) (s_pl S) (od P) with
  | false =>
    have hb' : ab_bt y (od P) = false := by rw [hy _ (by omega), hb]
    repeat' (first | refine hjx _ _ _ _ (by decide) ?_ | (refine br_c (fun h => ?_) (fun h => ?_) <;> (try simp (disch := omega) only [nI_clamp, li_2, li_3, li_4, li_5, li_6, li_7, li_8, li_9, li_10, li_40, li_120, pk_mul, nI_add, nI_1, ix_eq, ix_lt, ix_le, ix_l0, ix_l1, ix_n0, ix_p0, ix_1lt, ix_lt1, ix_1le, ix_le1, ix_le0, ix_0lt, ab_z0, ab_z1, i_10, i_01, eq_self, ab_ozn, ab_ozp, ab_o_some, not_true_eq_false, not_false_eq_true, Bool.not_eq_false, Bool.not_eq_true, Bool.not_eq_false', Bool.not_eq_true', Bool.false_eq_true, Bool.true_eq_false, reduceCtorEq, Option.isSome_some, Option.isSome_none, hb', w3] at h) <;> (try omega)) | (refine br_n (fun h => ?_) (fun h => ?_) <;> (try simp (disch := omega) only [nI_clamp, li_2, li_3, li_4, li_5, li_6, li_7, li_8, li_9, li_10, li_40, li_120, pk_mul, nI_add, nI_1, ix_eq, ix_lt, ix_le, ix_l0, ix_l1, ix_n0, ix_p0, ix_1lt, ix_lt1, ix_1le, ix_le1, ix_le0, ix_0lt, ab_z0, ab_z1, i_10, i_01, eq_self, ab_ozn, ab_ozp, ab_o_some, not_true_eq_false, not_false_eq_true, Bool.not_eq_false, Bool.not_eq_true, Bool.not_eq_false', Bool.not_eq_true', Bool.false_eq_true, Bool.true_eq_false, reduceCtorEq, Option.isSome_some, Option.isSome_none, hb', w3] at h) <;> (try omega)) | refine ab_sd (by first | (with_reducible refine vp_in_nI ?_ ?_ <;> omega) | (simp (disch := omega) only [nI_clamp, li_2, li_3, li_4, li_5, li_6, li_7, li_8, li_9, li_10, li_40, li_120, pk_mul, nI_add, nI_1, ix_eq, ix_lt, ix_le, ix_l0, ix_l1, ix_n0, ix_p0, ix_1lt, ix_lt1, ix_1le, ix_le1, ix_le0, ix_0lt, ab_z0, ab_z1, i_10, i_01, eq_self, ab_ozn, ab_ozp, ab_o_some, not_true_eq_false, not_false_eq_true, Bool.not_eq_false, Bool.not_eq_true, Bool.not_eq_false', Bool.not_eq_true', Bool.false_eq_true, Bool.true_eq_false, reduceCtorEq, Option.isSome_some, Option.isSome_none, hb', w3]; with_reducible refine vp_in_nI ?_ ?_ <;> omega)) ?_ | refine x_has hω (t := od P) eP (by omega) ?_ | refine ab_sd ?_ ?_ | refine ab_sz (Or.inl rfl) ?_ | refine ab_sz (Or.inr rfl) ?_ | refine ab_sz ?_ ?_)
    show j 19 _ _ _
    rw [eP]
    refine main _ (fun a ha => ?_)
    rw [ab_bt_0, hb]; rfl
  | true =>
    have hb' : ab_bt y (od P) = true := by rw [hy _ (by omega), hb]
    repeat' (first | refine hjx _ _ _ _ (by decide) ?_ | (refine br_c (fun h => ?_) (fun h => ?_) <;> (try simp (disch := omega) only [nI_clamp, li_2, li_3, li_4, li_5, li_6, li_7, li_8, li_9, li_10, li_40, li_120, pk_mul, nI_add, nI_1, ix_eq, ix_lt, ix_le, ix_l0, ix_l1, ix_n0, ix_p0, ix_1lt, ix_lt1, ix_1le, ix_le1, ix_le0, ix_0lt, ab_z0, ab_z1, i_10, i_01, eq_self, ab_ozn, ab_ozp, ab_o_some, not_true_eq_false, not_false_eq_true, Bool.not_eq_false, Bool.not_eq_true, Bool.not_eq_false', Bool.not_eq_true', Bool.false_eq_true, Bool.true_eq_false, reduceCtorEq, Option.isSome_some, Option.isSome_none, hb', w3] at h) <;> (try omega)) | (refine br_n (fun h => ?_) (fun h => ?_) <;> (try simp (disch := omega) only [nI_clamp, li_2, li_3, li_4, li_5, li_6, li_7, li_8, li_9, li_10, li_40, li_120, pk_mul, nI_add, nI_1, ix_eq, ix_lt, ix_le, ix_l0, ix_l1, ix_n0, ix_p0, ix_1lt, ix_lt1, ix_1le, ix_le1, ix_le0, ix_0lt, ab_z0, ab_z1, i_10, i_01, eq_self, ab_ozn, ab_ozp, ab_o_some, not_true_eq_false, not_false_eq_true, Bool.not_eq_false, Bool.not_eq_true, Bool.not_eq_false', Bool.not_eq_true', Bool.false_eq_true, Bool.true_eq_false, reduceCtorEq, Option.isSome_some, Option.isSome_none, hb', w3] at h) <;> (try omega)) | refine ab_sd (by first | (with_reducible refine vp_in_nI ?_ ?_ <;> omega) | (simp (disch := omega) only [nI_clamp, li_2, li_3, li_4, li_5, li_6, li_7, li_8, li_9, li_10, li_40, li_120, pk_mul, nI_add, nI_1, ix_eq, ix_lt, ix_le, ix_l0, ix_l1, ix_n0, ix_p0, ix_1lt, ix_lt1, ix_1le, ix_le1, ix_le0, ix_0lt, ab_z0, ab_z1, i_10, i_01, eq_self, ab_ozn, ab_ozp, ab_o_some, not_true_eq_false, not_false_eq_true, Bool.not_eq_false, Bool.not_eq_true, Bool.not_eq_false', Bool.not_eq_true', Bool.false_eq_true, Bool.true_eq_false, reduceCtorEq, Option.isSome_some, Option.isSome_none, hb', w3]; with_reducible refine vp_in_nI ?_ ?_ <;> omega)) ?_ | refine x_has hω (t := od P) eP (by omega) ?_ | refine ab_sd ?_ ?_ | refine ab_sz (Or.inl rfl) ?_ | refine ab_sz (Or.inr rfl) ?_ | refine ab_sz ?_ ?_)
    show j 19 _ _ _
    rw [eP, nI_clamp (by omega)]
    refine main _ (fun a ha => ?_)
    rw [ab_bt_and, hy a (by omega), k20 _ a w1 (by omega) ha, hb]; rfl
theorem x_knownRowP {ρ : Nat → Nat} (hω : ω.2.2.2 = ab_SH) (C : RepC S μ) (hI : Iv S) (hR : Rk S ρ) {x : Int32} {n : Nat} (ex : x = nI (10 + n)) (hn : n < 10) (hQ : ∀ μ', RepC S μ' → SameP μ μ' → bt (μ'.1 5 4) n = true → Q (nI (40 * n)) μ') : ab_CI l ω mX6_knownRow [.ref 5, .int x] μ Q := by
  subst ex
  refine ab_intro (sh := ab_SH) (cd := kX6_knownRow) hω vX6_knownRow (by decide +kernel) rfl (Nat.le_of_ble_eq_true rfl) (fun j hj hw => ?_)
  have hjx : ∀ i ll st μ, i ∉ ([25, 46] : List Nat) → _ → j i ll st μ := fun i ll st μ _ h => hj i ll st μ h
  have C0 := C
  obtain ⟨M, T, X, CI, CO⟩ := C
  have hW := hI.1
  have hT := hW.2.2.1.2
  obtain ⟨od, ps, o1, o2, o3⟩ := T.2.2.2.2.2.2
  have kT := T.1
  have e10 : nI (10 + n) - 10 = nI n := by rw [Nat.add_comm]; exact nI_ms n 10
  have e10' : nI (10 + n) - nI 10 = nI n := e10
  have e40 : nI n * 40 = nI (40 * n) := by rw [li_40, pk_mul, Nat.mul_comm]
  have fin : ∀ μ' v4 v5 v6, RepC S μ' → SameP μ μ' → bt (μ'.1 5 4) n = true → j 46 [some (.ref 5), some (.int (nI (10 + n))), some (.int (nI n)), some (.int (nI (40 * n))), v4, v5, v6] [] μ' := by
    intro μ' v4 v5 v6 h1 h2 h3
    refine hj _ _ _ _ ?_
    repeat' (first | refine hjx _ _ _ _ (by decide) ?_ | (refine br_c (fun h => ?_) (fun h => ?_) <;> (try simp (disch := omega) only [nI_clamp, li_2, li_3, li_4, li_5, li_6, li_7, li_8, li_9, li_10, li_40, li_120, pk_mul, nI_add, nI_1, ix_eq, ix_lt, ix_le, ix_l0, ix_l1, ix_n0, ix_p0, ix_1lt, ix_lt1, ix_1le, ix_le1, ix_le0, ix_0lt, ab_z0, ab_z1, i_10, i_01, eq_self, ab_ozn, ab_ozp, ab_o_some, not_true_eq_false, not_false_eq_true, Bool.not_eq_false, Bool.not_eq_true, Bool.not_eq_false', Bool.not_eq_true', Bool.false_eq_true, Bool.true_eq_false, reduceCtorEq, Option.isSome_some, Option.isSome_none] at h) <;> (try omega)) | (refine br_n (fun h => ?_) (fun h => ?_) <;> (try simp (disch := omega) only [nI_clamp, li_2, li_3, li_4, li_5, li_6, li_7, li_8, li_9, li_10, li_40, li_120, pk_mul, nI_add, nI_1, ix_eq, ix_lt, ix_le, ix_l0, ix_l1, ix_n0, ix_p0, ix_1lt, ix_lt1, ix_1le, ix_le1, ix_le0, ix_0lt, ab_z0, ab_z1, i_10, i_01, eq_self, ab_ozn, ab_ozp, ab_o_some, not_true_eq_false, not_false_eq_true, Bool.not_eq_false, Bool.not_eq_true, Bool.not_eq_false', Bool.not_eq_true', Bool.false_eq_true, Bool.true_eq_false, reduceCtorEq, Option.isSome_some, Option.isSome_none] at h) <;> (try omega)) | refine ab_sd (by first | (with_reducible refine vp_in_nI ?_ ?_ <;> omega) | (simp (disch := omega) only [nI_clamp, li_2, li_3, li_4, li_5, li_6, li_7, li_8, li_9, li_10, li_40, li_120, pk_mul, nI_add, nI_1, ix_eq, ix_lt, ix_le, ix_l0, ix_l1, ix_n0, ix_p0, ix_1lt, ix_lt1, ix_1le, ix_le1, ix_le0, ix_0lt, ab_z0, ab_z1, i_10, i_01, eq_self, ab_ozn, ab_ozp, ab_o_some, not_true_eq_false, not_false_eq_true, Bool.not_eq_false, Bool.not_eq_true, Bool.not_eq_false', Bool.not_eq_true', Bool.false_eq_true, Bool.true_eq_false, reduceCtorEq, Option.isSome_some, Option.isSome_none]; with_reducible refine vp_in_nI ?_ ?_ <;> omega)) ?_ | refine ab_sd ?_ ?_ | refine ab_sz (Or.inl rfl) ?_ | refine ab_sz (Or.inr rfl) ?_ | refine ab_sz ?_ ?_)
    show Q _ _
    exact hQ μ' h1 h2 h3
  have e4 := ab_b_has (x := μ.1 5 4) (n := n) (by omega)
  cases hk : bt (μ.1 5 4) n with
  | true =>
    rw [hk] at e4
    repeat' (first | refine hjx _ _ _ _ (by decide) ?_ | (refine br_c (fun h => ?_) (fun h => ?_) <;> (try simp (disch := omega) only [nI_clamp, li_2, li_3, li_4, li_5, li_6, li_7, li_8, li_9, li_10, li_40, li_120, pk_mul, nI_add, nI_1, ix_eq, ix_lt, ix_le, ix_l0, ix_l1, ix_n0, ix_p0, ix_1lt, ix_lt1, ix_1le, ix_le1, ix_le0, ix_0lt, ab_z0, ab_z1, i_10, i_01, eq_self, ab_ozn, ab_ozp, ab_o_some, not_true_eq_false, not_false_eq_true, Bool.not_eq_false, Bool.not_eq_true, Bool.not_eq_false', Bool.not_eq_true', Bool.false_eq_true, Bool.true_eq_false, reduceCtorEq, Option.isSome_some, Option.isSome_none, e10', e4] at h) <;> (try omega)) | (refine br_n (fun h => ?_) (fun h => ?_) <;> (try simp (disch := omega) only [nI_clamp, li_2, li_3, li_4, li_5, li_6, li_7, li_8, li_9, li_10, li_40, li_120, pk_mul, nI_add, nI_1, ix_eq, ix_lt, ix_le, ix_l0, ix_l1, ix_n0, ix_p0, ix_1lt, ix_lt1, ix_1le, ix_le1, ix_le0, ix_0lt, ab_z0, ab_z1, i_10, i_01, eq_self, ab_ozn, ab_ozp, ab_o_some, not_true_eq_false, not_false_eq_true, Bool.not_eq_false, Bool.not_eq_true, Bool.not_eq_false', Bool.not_eq_true', Bool.false_eq_true, Bool.true_eq_false, reduceCtorEq, Option.isSome_some, Option.isSome_none, e10', e4] at h) <;> (try omega)) | refine ab_sd (by first | (with_reducible refine vp_in_nI ?_ ?_ <;> omega) | (simp (disch := omega) only [nI_clamp, li_2, li_3, li_4, li_5, li_6, li_7, li_8, li_9, li_10, li_40, li_120, pk_mul, nI_add, nI_1, ix_eq, ix_lt, ix_le, ix_l0, ix_l1, ix_n0, ix_p0, ix_1lt, ix_lt1, ix_1le, ix_le1, ix_le0, ix_0lt, ab_z0, ab_z1, i_10, i_01, eq_self, ab_ozn, ab_ozp, ab_o_some, not_true_eq_false, not_false_eq_true, Bool.not_eq_false, Bool.not_eq_true, Bool.not_eq_false', Bool.not_eq_true', Bool.false_eq_true, Bool.true_eq_false, reduceCtorEq, Option.isSome_some, Option.isSome_none, e10', e4]; with_reducible refine vp_in_nI ?_ ?_ <;> omega)) ?_ | refine ab_sd ?_ ?_ | refine ab_sz (Or.inl rfl) ?_ | refine ab_sz (Or.inr rfl) ?_ | refine ab_sz ?_ ?_)
    show j 46 _ _ _
    rw [e10, e40]
    exact fin μ _ _ _ C0 SameP.rf hk
  | false =>
    rw [hk] at e4
    have key : ∀ d P μ' (y : Int64), P + d = s_nT S → (∀ i, i < 64 → ab_bt y i = s_pg S (10 + n) (s_pl S) i) → F78 n μ μ' → OVs S ps n P P μ' → j 25 [some (.ref 5), some (.int (nI (10 + n))), some (.int (nI n)), some (.int (nI (40 * n))), some (.long y), none, some (.int (nI P))] [] μ' := by
      intro d
      induction d with
      | zero =>
        intro P μ' y hP hy hF hO
        refine hj _ _ _ _ ?_
        have e0 : μ'.1 2 0 = nI (s_nT S) := by rw [hF.1]; exact kT
        repeat' (first | refine hjx _ _ _ _ (by decide) ?_ | (refine br_c (fun h => ?_) (fun h => ?_) <;> (try simp (disch := omega) only [nI_clamp, li_2, li_3, li_4, li_5, li_6, li_7, li_8, li_9, li_10, li_40, li_120, pk_mul, nI_add, nI_1, ix_eq, ix_lt, ix_le, ix_l0, ix_l1, ix_n0, ix_p0, ix_1lt, ix_lt1, ix_1le, ix_le1, ix_le0, ix_0lt, ab_z0, ab_z1, i_10, i_01, eq_self, ab_ozn, ab_ozp, ab_o_some, not_true_eq_false, not_false_eq_true, Bool.not_eq_false, Bool.not_eq_true, Bool.not_eq_false', Bool.not_eq_true', Bool.false_eq_true, Bool.true_eq_false, reduceCtorEq, Option.isSome_some, Option.isSome_none, e0] at h) <;> (try omega)) | (refine br_n (fun h => ?_) (fun h => ?_) <;> (try simp (disch := omega) only [nI_clamp, li_2, li_3, li_4, li_5, li_6, li_7, li_8, li_9, li_10, li_40, li_120, pk_mul, nI_add, nI_1, ix_eq, ix_lt, ix_le, ix_l0, ix_l1, ix_n0, ix_p0, ix_1lt, ix_lt1, ix_1le, ix_le1, ix_le0, ix_0lt, ab_z0, ab_z1, i_10, i_01, eq_self, ab_ozn, ab_ozp, ab_o_some, not_true_eq_false, not_false_eq_true, Bool.not_eq_false, Bool.not_eq_true, Bool.not_eq_false', Bool.not_eq_true', Bool.false_eq_true, Bool.true_eq_false, reduceCtorEq, Option.isSome_some, Option.isSome_none, e0] at h) <;> (try omega)) | refine ab_sd (by first | (with_reducible refine vp_in_nI ?_ ?_ <;> omega) | (simp (disch := omega) only [nI_clamp, li_2, li_3, li_4, li_5, li_6, li_7, li_8, li_9, li_10, li_40, li_120, pk_mul, nI_add, nI_1, ix_eq, ix_lt, ix_le, ix_l0, ix_l1, ix_n0, ix_p0, ix_1lt, ix_lt1, ix_1le, ix_le1, ix_le0, ix_0lt, ab_z0, ab_z1, i_10, i_01, eq_self, ab_ozn, ab_ozp, ab_o_some, not_true_eq_false, not_false_eq_true, Bool.not_eq_false, Bool.not_eq_true, Bool.not_eq_false', Bool.not_eq_true', Bool.false_eq_true, Bool.true_eq_false, reduceCtorEq, Option.isSome_some, Option.isSome_none, e0]; with_reducible refine vp_in_nI ?_ ?_ <;> omega)) ?_ | refine ab_sd ?_ ?_ | refine ab_sz (Or.inl rfl) ?_ | refine ab_sz (Or.inr rfl) ?_ | refine ab_sz ?_ ?_)
        show j 46 _ _ _
        have sq2 : SameP μ (ab_mi μ' 5 4 (μ'.1 5 4 ||| ((1 : Int32) <<< (nI n &&& 31)))) := hF.sp.mi rfl
        have dn : ∀ d a, s_vg S (10 + n) d a = true → s_dn ps P P d a = true := fun d a h => by
          have := (o2 d (s_vg_ab hW h).1).1
          unfold s_dn
          simp [show ps d < P by omega]
        have rows : ∀ u, u < 40 → ∀ i, ab_bt (μ'.2 37 (40 * n + u)) i = s_vg S (10 + n) u i ∧ ab_bt (μ'.2 38 (40 * n + u)) i = s_vg S (10 + n) i u := fun u hu i => by
          rw [hO.1 u i hu, hO.2 i u hu]
          constructor
          · cases hv : s_vg S (10 + n) u i with
            | false => rfl
            | true => rw [dn u i hv]; rfl
          · cases hv : s_vg S (10 + n) i u with
            | false => rfl
            | true => rw [dn i u hv]; rfl
        refine fin _ _ _ _ ⟨RepM_q M sq2.q, RepT_q T sq2.q, RepX_q X sq2.q, ?_, ?_⟩ sq2 ?_
        · intro g hg hb u hu i
          have hb : bt (μ.1 4 3) g = true := by
            rw [← hF.1]
            simpa [ab_mi] using hb
          show ab_bt (μ'.2 36 (40 * g + u)) i = _
          rw [hF.2 36 _ (Or.inl (by omega))]
          exact CI g hg hb u hu i
        · intro n' hn' hb u hu i
          have hb : (bt (μ'.1 5 4) n' || bt ((1 : Int32) <<< (nI n &&& 31)) n') = true := by
            rw [← b_or]
            simpa [ab_mi] using hb
          rw [ab_b_one n (by omega) n' (by omega), hF.1] at hb
          show ab_bt (μ'.2 37 (40 * n' + u)) i = _ ∧ ab_bt (μ'.2 38 (40 * n' + u)) i = _
          by_cases q : n' = n
          · subst q; exact rows u (by omega) i
          · simp only [q, decide_false, Bool.or_false] at hb
            rw [hF.2 37 _ (Or.inr (by omega)), hF.2 38 _ (Or.inr (by omega))]
            exact CO n' hn' hb u hu i
        · have : bt (μ'.1 5 4 ||| ((1 : Int32) <<< (nI n &&& 31))) n = true := by rw [b_or, ab_b_one n (by omega) n (by omega)]; simp
          simpa [ab_mi] using this
      | succ d ih =>
        intro P μ' y hP hy hF hO
        refine hj _ _ _ _ ?_
        have e0 : μ'.1 2 0 = nI (s_nT S) := by rw [hF.1]; exact kT
        have o1' : ∀ i, i < s_nT S → od i < s_nT S ∧ ps (od i) = i ∧ μ'.1 23 i = nI (od i) := by rw [hF.1]; exact o1
        repeat' (first | refine hjx _ _ _ _ (by decide) ?_ | (refine br_c (fun h => ?_) (fun h => ?_) <;> (try simp (disch := omega) only [nI_clamp, li_2, li_3, li_4, li_5, li_6, li_7, li_8, li_9, li_10, li_40, li_120, pk_mul, nI_add, nI_1, ix_eq, ix_lt, ix_le, ix_l0, ix_l1, ix_n0, ix_p0, ix_1lt, ix_lt1, ix_1le, ix_le1, ix_le0, ix_0lt, ab_z0, ab_z1, i_10, i_01, eq_self, ab_ozn, ab_ozp, ab_o_some, not_true_eq_false, not_false_eq_true, Bool.not_eq_false, Bool.not_eq_true, Bool.not_eq_false', Bool.not_eq_true', Bool.false_eq_true, Bool.true_eq_false, reduceCtorEq, Option.isSome_some, Option.isSome_none, e0] at h) <;> (try omega)) | (refine br_n (fun h => ?_) (fun h => ?_) <;> (try simp (disch := omega) only [nI_clamp, li_2, li_3, li_4, li_5, li_6, li_7, li_8, li_9, li_10, li_40, li_120, pk_mul, nI_add, nI_1, ix_eq, ix_lt, ix_le, ix_l0, ix_l1, ix_n0, ix_p0, ix_1lt, ix_lt1, ix_1le, ix_le1, ix_le0, ix_0lt, ab_z0, ab_z1, i_10, i_01, eq_self, ab_ozn, ab_ozp, ab_o_some, not_true_eq_false, not_false_eq_true, Bool.not_eq_false, Bool.not_eq_true, Bool.not_eq_false', Bool.not_eq_true', Bool.false_eq_true, Bool.true_eq_false, reduceCtorEq, Option.isSome_some, Option.isSome_none, e0] at h) <;> (try omega)) | refine ab_sd (by first | (with_reducible refine vp_in_nI ?_ ?_ <;> omega) | (simp (disch := omega) only [nI_clamp, li_2, li_3, li_4, li_5, li_6, li_7, li_8, li_9, li_10, li_40, li_120, pk_mul, nI_add, nI_1, ix_eq, ix_lt, ix_le, ix_l0, ix_l1, ix_n0, ix_p0, ix_1lt, ix_lt1, ix_1le, ix_le1, ix_le0, ix_0lt, ab_z0, ab_z1, i_10, i_01, eq_self, ab_ozn, ab_ozp, ab_o_some, not_true_eq_false, not_false_eq_true, Bool.not_eq_false, Bool.not_eq_true, Bool.not_eq_false', Bool.not_eq_true', Bool.false_eq_true, Bool.true_eq_false, reduceCtorEq, Option.isSome_some, Option.isSome_none, e0]; with_reducible refine vp_in_nI ?_ ?_ <;> omega)) ?_ | refine x_findOverridden hω (RepT_q T hF.sq) (RepX_q X hF.sq) hI hR o1' o2 o3 (P := P) (n := n) rfl hy rfl rfl (by omega) hn hO (fun μ2 hF2 hO2 => ?_) | refine ab_sd ?_ ?_ | refine ab_sz (Or.inl rfl) ?_ | refine ab_sz (Or.inr rfl) ?_ | refine ab_sz ?_ ?_)
        show j 25 _ _ _
        rw [nI_1]
        exact ih (P + 1) μ2 y (by omega) hy (hF.tr hF2) hO2
    repeat' (first | refine hjx _ _ _ _ (by decide) ?_ | (refine br_c (fun h => ?_) (fun h => ?_) <;> (try simp (disch := omega) only [nI_clamp, li_2, li_3, li_4, li_5, li_6, li_7, li_8, li_9, li_10, li_40, li_120, pk_mul, nI_add, nI_1, ix_eq, ix_lt, ix_le, ix_l0, ix_l1, ix_n0, ix_p0, ix_1lt, ix_lt1, ix_1le, ix_le1, ix_le0, ix_0lt, ab_z0, ab_z1, i_10, i_01, eq_self, ab_ozn, ab_ozp, ab_o_some, not_true_eq_false, not_false_eq_true, Bool.not_eq_false, Bool.not_eq_true, Bool.not_eq_false', Bool.not_eq_true', Bool.false_eq_true, Bool.true_eq_false, reduceCtorEq, Option.isSome_some, Option.isSome_none, e10', e4] at h) <;> (try omega)) | (refine br_n (fun h => ?_) (fun h => ?_) <;> (try simp (disch := omega) only [nI_clamp, li_2, li_3, li_4, li_5, li_6, li_7, li_8, li_9, li_10, li_40, li_120, pk_mul, nI_add, nI_1, ix_eq, ix_lt, ix_le, ix_l0, ix_l1, ix_n0, ix_p0, ix_1lt, ix_lt1, ix_1le, ix_le1, ix_le0, ix_0lt, ab_z0, ab_z1, i_10, i_01, eq_self, ab_ozn, ab_ozp, ab_o_some, not_true_eq_false, not_false_eq_true, Bool.not_eq_false, Bool.not_eq_true, Bool.not_eq_false', Bool.not_eq_true', Bool.false_eq_true, Bool.true_eq_false, reduceCtorEq, Option.isSome_some, Option.isSome_none, e10', e4] at h) <;> (try omega)) | refine ab_sd (by first | (with_reducible refine vp_in_nI ?_ ?_ <;> omega) | (simp (disch := omega) only [nI_clamp, li_2, li_3, li_4, li_5, li_6, li_7, li_8, li_9, li_10, li_40, li_120, pk_mul, nI_add, nI_1, ix_eq, ix_lt, ix_le, ix_l0, ix_l1, ix_n0, ix_p0, ix_1lt, ix_lt1, ix_1le, ix_le1, ix_le0, ix_0lt, ab_z0, ab_z1, i_10, i_01, eq_self, ab_ozn, ab_ozp, ab_o_some, not_true_eq_false, not_false_eq_true, Bool.not_eq_false, Bool.not_eq_true, Bool.not_eq_false', Bool.not_eq_true', Bool.false_eq_true, Bool.true_eq_false, reduceCtorEq, Option.isSome_some, Option.isSome_none, e10', e4]; with_reducible refine vp_in_nI ?_ ?_ <;> omega)) ?_ | refine x_clear hω (n := n) (by rw [e10, e40]) hn (fun μ2 hF2 hz2 => ?_) | refine x_overridable hω (RepX_q X hF2.sq) (g := 10 + n) rfl (by omega) (fun y hy => ?_) | refine ab_sd ?_ ?_ | refine ab_sz (Or.inl rfl) ?_ | refine ab_sz (Or.inr rfl) ?_ | refine ab_sz ?_ ?_)
    show j 25 _ _ _
    rw [e10, e40]
    refine key (s_nT S) 0 μ2 y (by omega) hy hF2 ⟨fun d a hd => ?_, fun d a ha => ?_⟩
    all_goals
      have dn : s_vg S (10 + n) d a = true → s_dn ps 0 0 d a = false := fun h => by
        obtain ⟨q1, q2, q3⟩ := s_vg_ab hW h
        have := o3 d a q1 q2 q3
        unfold s_dn
        simp
        omega
    · rw [(hz2 d hd).1, ab_bt_0]
      cases hv : s_vg S (10 + n) d a with
      | false => rfl
      | true => rw [dn hv]; rfl
    · rw [(hz2 a ha).2, ab_bt_0]
      cases hv : s_vg S (10 + n) d a with
      | false => rfl
      | true => rw [dn hv]; rfl
theorem x_knownRow {ρ : Nat → Nat} (hω : ω.2.2.2 = ab_SH) (C : RepC S μ) (hI : Iv S) (hR : Rk S ρ) {x : Int32} {n : Nat} (ex : x = nI (10 + n)) (hn : n < 10) (hQ : ∀ μ', RepC S μ' → SameQ μ μ' → bt (μ'.1 5 4) n = true → Q (nI (40 * n)) μ') : ab_CI l ω mX6_knownRow [.ref 5, .int x] μ Q := x_knownRowP hω C hI hR ex hn (fun μ' a b c => hQ μ' a b.q c)
theorem x_overriddenByP {Q : Int64 → ab_M → Prop} {ρ : Nat → Nat} (hω : ω.2.2.2 = ab_SH) (C : RepC S μ) (hI : Iv S) (hR : Rk S ρ) {x y : Int32} {t n : Nat} (ex : x = nI t) (ey : y = nI (10 + n)) (ht : t < s_nT S) (hn : n < 10) (hQ : ∀ μ' w, RepC S μ' → SameP μ μ' → (∀ i, ab_bt w i = s_vg S (10 + n) t i) → Q w μ') : ab_CL l ω mX6_overriddenBy [.ref 5, .int x, .int y] μ Q := by
  subst ex ey
  refine ab_intro (sh := ab_SH) (cd := kX6_overriddenBy) hω vX6_overriddenBy (by decide +kernel) rfl (Nat.le_of_ble_eq_true rfl) (fun j hj hw => ?_)
  have hT := hI.1.2.2.1.2
  repeat' (first | refine hj _ _ _ _ ?_ | (refine br_c (fun h => ?_) (fun h => ?_) <;> (try simp (disch := omega) only [nI_clamp, li_2, li_3, li_4, li_5, li_6, li_7, li_8, li_9, li_10, li_40, li_120, pk_mul, nI_add, nI_1, ix_eq, ix_lt, ix_le, ix_l0, ix_l1, ix_n0, ix_p0, ix_1lt, ix_lt1, ix_1le, ix_le1, ix_le0, ix_0lt, ab_z0, ab_z1, i_10, i_01, eq_self, ab_ozn, ab_ozp, ab_o_some, not_true_eq_false, not_false_eq_true, Bool.not_eq_false, Bool.not_eq_true, Bool.not_eq_false', Bool.not_eq_true', Bool.false_eq_true, Bool.true_eq_false, reduceCtorEq, Option.isSome_some, Option.isSome_none] at h) <;> (try omega)) | (refine br_n (fun h => ?_) (fun h => ?_) <;> (try simp (disch := omega) only [nI_clamp, li_2, li_3, li_4, li_5, li_6, li_7, li_8, li_9, li_10, li_40, li_120, pk_mul, nI_add, nI_1, ix_eq, ix_lt, ix_le, ix_l0, ix_l1, ix_n0, ix_p0, ix_1lt, ix_lt1, ix_1le, ix_le1, ix_le0, ix_0lt, ab_z0, ab_z1, i_10, i_01, eq_self, ab_ozn, ab_ozp, ab_o_some, not_true_eq_false, not_false_eq_true, Bool.not_eq_false, Bool.not_eq_true, Bool.not_eq_false', Bool.not_eq_true', Bool.false_eq_true, Bool.true_eq_false, reduceCtorEq, Option.isSome_some, Option.isSome_none] at h) <;> (try omega)) | refine ab_sd (by first | (with_reducible refine vp_in_nI ?_ ?_ <;> omega) | (simp (disch := omega) only [nI_clamp, li_2, li_3, li_4, li_5, li_6, li_7, li_8, li_9, li_10, li_40, li_120, pk_mul, nI_add, nI_1, ix_eq, ix_lt, ix_le, ix_l0, ix_l1, ix_n0, ix_p0, ix_1lt, ix_lt1, ix_1le, ix_le1, ix_le0, ix_0lt, ab_z0, ab_z1, i_10, i_01, eq_self, ab_ozn, ab_ozp, ab_o_some, not_true_eq_false, not_false_eq_true, Bool.not_eq_false, Bool.not_eq_true, Bool.not_eq_false', Bool.not_eq_true', Bool.false_eq_true, Bool.true_eq_false, reduceCtorEq, Option.isSome_some, Option.isSome_none]; with_reducible refine vp_in_nI ?_ ?_ <;> omega)) ?_ | refine x_knownRowP hω C hI hR (n := n) rfl hn (fun μ' C' sq hb => ?_) | refine ab_sd ?_ ?_ | refine ab_sz (Or.inl rfl) ?_ | refine ab_sz (Or.inr rfl) ?_ | refine ab_sz ?_ ?_)
  show Q _ _
  rw [nI_add, nI_clamp (by omega)]
  exact hQ μ' _ C' sq (fun i => (C'.2.2.2.2 n hn hb t ht i).1)
theorem x_overriddenBy {Q : Int64 → ab_M → Prop} {ρ : Nat → Nat} (hω : ω.2.2.2 = ab_SH) (C : RepC S μ) (hI : Iv S) (hR : Rk S ρ) {x y : Int32} {t n : Nat} (ex : x = nI t) (ey : y = nI (10 + n)) (ht : t < s_nT S) (hn : n < 10) (hQ : ∀ μ' w, RepC S μ' → SameQ μ μ' → (∀ i, ab_bt w i = s_vg S (10 + n) t i) → Q w μ') : ab_CL l ω mX6_overriddenBy [.ref 5, .int x, .int y] μ Q := x_overriddenByP hω C hI hR ex ey ht hn (fun μ' w a b c => hQ μ' w a b.q c)
theorem x_overridersOf {Q : Int64 → ab_M → Prop} {ρ : Nat → Nat} (hω : ω.2.2.2 = ab_SH) (C : RepC S μ) (hI : Iv S) (hR : Rk S ρ) {x y : Int32} {t n : Nat} (ex : x = nI t) (ey : y = nI (10 + n)) (ht : t < s_nT S) (hn : n < 10) (hQ : ∀ μ' w, RepC S μ' → SameQ μ μ' → (∀ i, ab_bt w i = s_vg S (10 + n) i t) → Q w μ') : ab_CL l ω mX6_overridersOf [.ref 5, .int x, .int y] μ Q := by
  subst ex ey
  refine ab_intro (sh := ab_SH) (cd := kX6_overridersOf) hω vX6_overridersOf (by decide +kernel) rfl (Nat.le_of_ble_eq_true rfl) (fun j hj hw => ?_)
  have hT := hI.1.2.2.1.2
  repeat' (first | refine hj _ _ _ _ ?_ | (refine br_c (fun h => ?_) (fun h => ?_) <;> (try simp (disch := omega) only [nI_clamp, li_2, li_3, li_4, li_5, li_6, li_7, li_8, li_9, li_10, li_40, li_120, pk_mul, nI_add, nI_1, ix_eq, ix_lt, ix_le, ix_l0, ix_l1, ix_n0, ix_p0, ix_1lt, ix_lt1, ix_1le, ix_le1, ix_le0, ix_0lt, ab_z0, ab_z1, i_10, i_01, eq_self, ab_ozn, ab_ozp, ab_o_some, not_true_eq_false, not_false_eq_true, Bool.not_eq_false, Bool.not_eq_true, Bool.not_eq_false', Bool.not_eq_true', Bool.false_eq_true, Bool.true_eq_false, reduceCtorEq, Option.isSome_some, Option.isSome_none] at h) <;> (try omega)) | (refine br_n (fun h => ?_) (fun h => ?_) <;> (try simp (disch := omega) only [nI_clamp, li_2, li_3, li_4, li_5, li_6, li_7, li_8, li_9, li_10, li_40, li_120, pk_mul, nI_add, nI_1, ix_eq, ix_lt, ix_le, ix_l0, ix_l1, ix_n0, ix_p0, ix_1lt, ix_lt1, ix_1le, ix_le1, ix_le0, ix_0lt, ab_z0, ab_z1, i_10, i_01, eq_self, ab_ozn, ab_ozp, ab_o_some, not_true_eq_false, not_false_eq_true, Bool.not_eq_false, Bool.not_eq_true, Bool.not_eq_false', Bool.not_eq_true', Bool.false_eq_true, Bool.true_eq_false, reduceCtorEq, Option.isSome_some, Option.isSome_none] at h) <;> (try omega)) | refine ab_sd (by first | (with_reducible refine vp_in_nI ?_ ?_ <;> omega) | (simp (disch := omega) only [nI_clamp, li_2, li_3, li_4, li_5, li_6, li_7, li_8, li_9, li_10, li_40, li_120, pk_mul, nI_add, nI_1, ix_eq, ix_lt, ix_le, ix_l0, ix_l1, ix_n0, ix_p0, ix_1lt, ix_lt1, ix_1le, ix_le1, ix_le0, ix_0lt, ab_z0, ab_z1, i_10, i_01, eq_self, ab_ozn, ab_ozp, ab_o_some, not_true_eq_false, not_false_eq_true, Bool.not_eq_false, Bool.not_eq_true, Bool.not_eq_false', Bool.not_eq_true', Bool.false_eq_true, Bool.true_eq_false, reduceCtorEq, Option.isSome_some, Option.isSome_none]; with_reducible refine vp_in_nI ?_ ?_ <;> omega)) ?_ | refine x_knownRow hω C hI hR (n := n) rfl hn (fun μ' C' sq hb => ?_) | refine ab_sd ?_ ?_ | refine ab_sz (Or.inl rfl) ?_ | refine ab_sz (Or.inr rfl) ?_ | refine ab_sz ?_ ?_)
  show Q _ _
  rw [nI_add, nI_clamp (by omega)]
  exact hQ μ' _ C' sq (fun i => (C'.2.2.2.2 n hn hb t ht i).2)
theorem x_holds {ρ : Nat → Nat} (hω : ω.2.2.2 = ab_SH) (C : RepC S μ) (hI : Iv S) (hR : Rk S ρ) {x y : Int32} {d a : Nat} (ex : x = nI d) (ey : y = nI a) (hd : d < s_nX S) (ha : a < s_nX S) (kd : S.1 58 d = 1) (ka : S.1 58 a = 1) (hQ : ∀ μ', RepC S μ' → SameQ μ μ' → Q (ab_z (s_ov S d a)) μ') : ab_CI l ω mX6_holds [.ref 5, .int x, .int y] μ Q := by
  subst ex ey
  refine ab_intro (sh := ab_SH) (cd := kX6_holds) hω vX6_holds (by decide +kernel) rfl (Nat.le_of_ble_eq_true rfl) (fun j hj hw => ?_)
  have hW := hI.1
  have hX := hW.2.2.2.1
  have hT := hW.2.2.1.2
  have X := C.2.2.1
  obtain ⟨d1, d2, d3, d4, d5⟩ := hW.2.2.2.2.2.2 d hd
  obtain ⟨a1, a2, a3, a4, a5⟩ := hW.2.2.2.2.2.2 a ha
  have gd : 10 * S.1 58 d + S.1 59 d = 10 + S.1 59 d := by omega
  have ga : 10 * S.1 58 a + S.1 59 a = 10 + S.1 59 a := by omega
  obtain ⟨xN, x26, x27, x28, x29, x30, x31, x32, x33, x34, x35⟩ := RepX_fs X
  have y26 : μ.1 26 (nI d).toNatClampNeg = nI (S.1 57 d) := by rw [nI_clamp (by omega), x26 d hd]
  have y27 : μ.1 27 (nI d).toNatClampNeg = nI (10 + S.1 59 d) := by rw [nI_clamp (by omega), x27 d hd, gd]
  have w27 : μ.1 27 d = nI (10 + S.1 59 d) := by rw [x27 d hd, gd]
  have z27 : μ.1 27 a = nI (10 + S.1 59 a) := by rw [x27 a ha, ga]
  by_cases hq : S.1 59 d = S.1 59 a
  · have hv : s_vg S (10 + S.1 59 d) (S.1 57 d) (S.1 57 a) = s_ov S d a := by
      have e1 := s_dg_m hI hd
      have e2 := s_dg_m hI ha
      rw [gd] at e1
      rw [ga, ← hq] at e2
      exact s_vg_some e1 e2
    repeat' (first | refine hj _ _ _ _ ?_ | (refine br_c (fun h => ?_) (fun h => ?_) <;> (try simp (disch := omega) only [nI_clamp, li_2, li_3, li_4, li_5, li_6, li_7, li_8, li_9, li_10, li_40, li_120, pk_mul, nI_add, nI_1, ix_eq, ix_lt, ix_le, ix_l0, ix_l1, ix_n0, ix_p0, ix_1lt, ix_lt1, ix_1le, ix_le1, ix_le0, ix_0lt, ab_z0, ab_z1, i_10, i_01, eq_self, ab_ozn, ab_ozp, ab_o_some, not_true_eq_false, not_false_eq_true, Bool.not_eq_false, Bool.not_eq_true, Bool.not_eq_false', Bool.not_eq_true', Bool.false_eq_true, Bool.true_eq_false, reduceCtorEq, Option.isSome_some, Option.isSome_none, w27, z27, hq] at h) <;> (try omega)) | (refine br_n (fun h => ?_) (fun h => ?_) <;> (try simp (disch := omega) only [nI_clamp, li_2, li_3, li_4, li_5, li_6, li_7, li_8, li_9, li_10, li_40, li_120, pk_mul, nI_add, nI_1, ix_eq, ix_lt, ix_le, ix_l0, ix_l1, ix_n0, ix_p0, ix_1lt, ix_lt1, ix_1le, ix_le1, ix_le0, ix_0lt, ab_z0, ab_z1, i_10, i_01, eq_self, ab_ozn, ab_ozp, ab_o_some, not_true_eq_false, not_false_eq_true, Bool.not_eq_false, Bool.not_eq_true, Bool.not_eq_false', Bool.not_eq_true', Bool.false_eq_true, Bool.true_eq_false, reduceCtorEq, Option.isSome_some, Option.isSome_none, w27, z27, hq] at h) <;> (try omega)) | refine ab_sd (by first | (with_reducible refine vp_in_nI ?_ ?_ <;> omega) | (simp (disch := omega) only [nI_clamp, li_2, li_3, li_4, li_5, li_6, li_7, li_8, li_9, li_10, li_40, li_120, pk_mul, nI_add, nI_1, ix_eq, ix_lt, ix_le, ix_l0, ix_l1, ix_n0, ix_p0, ix_1lt, ix_lt1, ix_1le, ix_le1, ix_le0, ix_0lt, ab_z0, ab_z1, i_10, i_01, eq_self, ab_ozn, ab_ozp, ab_o_some, not_true_eq_false, not_false_eq_true, Bool.not_eq_false, Bool.not_eq_true, Bool.not_eq_false', Bool.not_eq_true', Bool.false_eq_true, Bool.true_eq_false, reduceCtorEq, Option.isSome_some, Option.isSome_none, w27, z27, hq]; with_reducible refine vp_in_nI ?_ ?_ <;> omega)) ?_ | refine x_overriddenBy hω C hI hR (t := S.1 57 d) (n := S.1 59 d) y26 y27 d1 (by omega) (fun μ' w C' sq hw2 => ?_) | refine x_has hω (t := S.1 57 a) (by rw [nI_clamp (by omega), (RepX_fs C'.2.2.1).2.1 a ha]) (by omega) ?_ | refine ab_sd ?_ ?_ | refine ab_sz (Or.inl rfl) ?_ | refine ab_sz (Or.inr rfl) ?_ | refine ab_sz ?_ ?_)
    all_goals (rw [hw2, hv] at h; have hQ := hQ μ' C' sq; rw [h] at hQ; exact hQ)
  · have ho : s_ov S d a = false := by
      cases ho : s_ov S d a with
      | false => rfl
      | true =>
        have c := s_ov_can ho
        unfold s_can at c
        simp only [Bool.and_eq_true, beq_iff_eq] at c
        exact absurd c.1.1.1.2 hq
    rw [ho] at hQ
    repeat' (first | refine hj _ _ _ _ ?_ | (refine br_c (fun h => ?_) (fun h => ?_) <;> (try simp (disch := omega) only [nI_clamp, li_2, li_3, li_4, li_5, li_6, li_7, li_8, li_9, li_10, li_40, li_120, pk_mul, nI_add, nI_1, ix_eq, ix_lt, ix_le, ix_l0, ix_l1, ix_n0, ix_p0, ix_1lt, ix_lt1, ix_1le, ix_le1, ix_le0, ix_0lt, ab_z0, ab_z1, i_10, i_01, eq_self, ab_ozn, ab_ozp, ab_o_some, not_true_eq_false, not_false_eq_true, Bool.not_eq_false, Bool.not_eq_true, Bool.not_eq_false', Bool.not_eq_true', Bool.false_eq_true, Bool.true_eq_false, reduceCtorEq, Option.isSome_some, Option.isSome_none, w27, z27] at h) <;> (try omega)) | (refine br_n (fun h => ?_) (fun h => ?_) <;> (try simp (disch := omega) only [nI_clamp, li_2, li_3, li_4, li_5, li_6, li_7, li_8, li_9, li_10, li_40, li_120, pk_mul, nI_add, nI_1, ix_eq, ix_lt, ix_le, ix_l0, ix_l1, ix_n0, ix_p0, ix_1lt, ix_lt1, ix_1le, ix_le1, ix_le0, ix_0lt, ab_z0, ab_z1, i_10, i_01, eq_self, ab_ozn, ab_ozp, ab_o_some, not_true_eq_false, not_false_eq_true, Bool.not_eq_false, Bool.not_eq_true, Bool.not_eq_false', Bool.not_eq_true', Bool.false_eq_true, Bool.true_eq_false, reduceCtorEq, Option.isSome_some, Option.isSome_none, w27, z27] at h) <;> (try omega)) | refine ab_sd (by first | (with_reducible refine vp_in_nI ?_ ?_ <;> omega) | (simp (disch := omega) only [nI_clamp, li_2, li_3, li_4, li_5, li_6, li_7, li_8, li_9, li_10, li_40, li_120, pk_mul, nI_add, nI_1, ix_eq, ix_lt, ix_le, ix_l0, ix_l1, ix_n0, ix_p0, ix_1lt, ix_lt1, ix_1le, ix_le1, ix_le0, ix_0lt, ab_z0, ab_z1, i_10, i_01, eq_self, ab_ozn, ab_ozp, ab_o_some, not_true_eq_false, not_false_eq_true, Bool.not_eq_false, Bool.not_eq_true, Bool.not_eq_false', Bool.not_eq_true', Bool.false_eq_true, Bool.true_eq_false, reduceCtorEq, Option.isSome_some, Option.isSome_none, w27, z27]; with_reducible refine vp_in_nI ?_ ?_ <;> omega)) ?_ | refine ab_sd ?_ ?_ | refine ab_sz (Or.inl rfl) ?_ | refine ab_sz (Or.inr rfl) ?_ | refine ab_sz ?_ ?_)
    all_goals exact hQ μ C SameQ.rf
end K6
