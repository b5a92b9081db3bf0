/-! THE CLASS: MEMBERS OF a TYPE -/
/-- a cell of what was found out of MEMBERS and of OVERRIDING -/
def ca_p (k j : Nat) : Bool := (k == 4 && j == 3) || k == 36 || (k == 5 && j == 4) || k == 37 || k == 38
def SameP (μ μ' : ab_M) : Prop := (∀ k j, ca_p k j = false → μ'.1 k j = μ.1 k j) ∧ (∀ k j, ca_p k j = false → μ'.2 k j = μ.2 k j)
theorem SameP.rf {μ : ab_M} : SameP μ μ := ⟨fun _ _ _ => rfl, fun _ _ _ => rfl⟩
theorem SameP.tr {μ μ' μ'' : ab_M} (h : SameP μ μ') (h' : SameP μ' μ'') : SameP μ μ'' := ⟨fun k j e => (h'.1 k j e).trans (h.1 k j e), fun k j e => (h'.2 k j e).trans (h.2 k j e)⟩
theorem ca_pk {k j : Nat} (h : ca_k k j = false) : ca_p k j = false := by
  simp only [ca_k, Bool.or_eq_false_iff] at h
  simp only [ca_p, Bool.or_eq_false_iff]
  exact ⟨⟨⟨⟨h.1.1.1.1.1.1.1.1.1, h.1.1.1.1.1.1.1.1.2⟩, h.1.1.1.1.1.1.1.2⟩, h.1.1.1.1.1.1.2⟩, h.1.1.1.1.1.2⟩
theorem SameP.q {μ μ' : ab_M} (h : SameP μ μ') : SameQ μ μ' := ⟨fun k j e => h.1 k j (ca_pk e), fun k j e => h.2 k j (ca_pk e)⟩
theorem SameP.mi {μ μ' : ab_M} (h : SameP μ μ') {k j : Nat} {x : Int32} (hk : ca_p k j = true) : SameP μ (ab_mi μ' k j x) := ⟨fun a b e => by
  rw [← h.1 a b e]
  have : ¬ (a = k ∧ b = j) := fun q => by rw [q.1, q.2, hk] at e; cases e
  simp [ab_mi, this], h.2⟩
theorem s_pg_or {S : sT} {g i : Nat} {p q : Nat → Bool} : s_pg S g (fun m => p m || q m) i = (s_pg S g p i || s_pg S g q i) := by
  unfold s_pg
  cases s_dg S i g <;> rfl
theorem s_pg_some {S : sT} {g i m : Nat} {p : Nat → Bool} (e : s_dg S i g = some m) : s_pg S g p i = p m := by unfold s_pg; rw [e]
theorem s_pg_none {S : sT} {g i : Nat} {p : Nat → Bool} (e : s_dg S i g = none) : s_pg S g p i = false := by unfold s_pg; rw [e]
/-- over the MEMBERS of a group, or over the TYPES that DECLARE one -/
theorem s_ex_pg {S : sT} (hI : Iv S) {g : Nat} {p : Nat → Bool} (hg : g < 30) : ab_ex (fun x => S.1 58 x == g / 10 && S.1 59 x == g % 10 && p x) (s_nX S) = ab_ex (s_pg S g p) (s_nT S) := by
  rw [Bool.eq_iff_iff, ab_ex_iff, ab_ex_iff]
  constructor
  · rintro ⟨x, hx, h⟩
    simp only [Bool.and_eq_true, beq_iff_eq] at h
    refine ⟨S.1 57 x, (hI.1.2.2.2.2.2.2 x hx).1, ?_⟩
    have := s_pg_m hI hx (p := p)
    rw [h.1.1, h.1.2, show 10 * (g / 10) + g % 10 = g by omega] at this
    rw [this]; exact h.2
  · rintro ⟨i, hi, h⟩
    obtain ⟨m, e, hp⟩ := s_pg_t.mp h
    obtain ⟨h1, h2, h3, h4, h5⟩ := s_dg_some hI.1 e
    exact ⟨m, h1, by simp [h3, h4, hp]⟩
theorem ab_ex_isf {S : sT} (hW : Wf S) {t : Nat} (ht : t < s_nT S) {G : Nat → Bool} : ab_ex (fun u => s_isf S t u && G u) (s_nT S) = ab_ex (fun k => G (S.1 54 (4 * t + k))) (S.1 55 t) := by
  obtain ⟨t1, t2, t3, t4, t5, t6, t7, t8⟩ := hW.2.2.2.2.2.1 t ht
  rw [Bool.eq_iff_iff, ab_ex_iff, ab_ex_iff]
  constructor
  · rintro ⟨u, hu, h⟩
    simp only [Bool.and_eq_true] at h
    obtain ⟨k, hk, e⟩ := ab_ex_iff.mp h.1
    simp only [beq_iff_eq] at e
    exact ⟨k, hk, by rw [e]; exact h.2⟩
  · rintro ⟨k, hk, h⟩
    refine ⟨_, t6 k hk, ?_⟩
    simp only [Bool.and_eq_true]
    exact ⟨ab_ex_iff.mpr ⟨k, hk, by simp⟩, h⟩
theorem ab_low {x : Int64} (h : ¬ x = 0) : ∃ i, i < 64 ∧ ab_bt x i = true ∧ ∀ j, j < i → ab_bt x j = false := by
  obtain ⟨i, hi, h1⟩ := ab_bt_nz.mp h
  have key : ∀ n i, i < n → i < 64 → ab_bt x i = true → ∃ i, i < 64 ∧ ab_bt x i = true ∧ ∀ j, j < i → ab_bt x j = false := by
    intro n
    induction n with
    | zero => intro i h; omega
    | succ n ih =>
      intro i hin hi h1
      by_cases q : ∃ j, j < i ∧ ab_bt x j = true
      · obtain ⟨j, hj, hb⟩ := q
        exact ih j (by omega) (by omega) hb
      · refine ⟨i, hi, h1, fun j hj => ?_⟩
        cases hb : ab_bt x j with
        | false => rfl
        | true => exact absurd ⟨j, hj, hb⟩ q
  exact key (i + 1) i (by omega) hi h1
theorem ab_cnt_pos {f : Nat → Bool} {i : Nat} (h : f i = true) : ∀ {n : Nat}, i < n → 0 < ab_cnt f n
  | 0, hi => by omega
  | n + 1, hi => by
    simp only [ab_cnt]
    by_cases e : i = n
    · subst e; rw [h]; simp
    · have := ab_cnt_pos h (n := n) (by omega)
      omega
theorem ab_ex_or {f g : Nat → Bool} : ∀ {n : Nat}, ab_ex (fun i => f i || g i) n = (ab_ex f n || ab_ex g n)
  | 0 => rfl
  | n + 1 => by
    simp only [ab_ex, ab_ex_or (n := n)]
    cases ab_ex f n <;> cases ab_ex g n <;> cases f n <;> cases g n <;> rfl
theorem ab_ex_f {f : Nat → Bool} {n : Nat} (h : ∀ i, i < n → f i = false) : ab_ex f n = false := by
  cases hx : ab_ex f n with
  | false => rfl
  | true =>
    obtain ⟨i, hi, h2⟩ := ab_ex_iff.mp hx
    rw [h i hi] at h2; cases h2
/-- what find computes, by bits -/
def s_fpB (S : sT) (g t : Nat) (op : Nat → Bool) (i : Nat) : Bool := op i && !s_pg S g (fun m => S.1 60 m == 0) i && !(s_pg S g (fun m => S.1 60 m == 1) i && !(S.1 48 i == S.1 48 t))
def s_ffB (S : sT) (g : Nat) (fo op fp : Nat → Bool) (i : Nat) : Bool := if g / 10 == 1 then !ab_ex (fun u => fp u && S.1 50 u == 0 && !s_pg S g (fun m => s_has (S.1 61 m) 4) u) (s_nT S) && (fo i && s_pg S g (s_pl S) i) && !ab_ex (fun u => ((fo u || op u) && s_pg S g (s_pl S) u) && s_ab S u i) (s_nT S) else fo i
section K5
variable {l : Launch} {ω : ab_W} {S : sT} {μ : ab_M} {Q : Int64 → ab_M → Prop}
theorem x_fromParent (hω : ω.2.2.2 = ab_SH) (T : RepT S μ) (X : RepX S μ) (hW : Wf S) {x y : Int32} {o : Int64} {t g : Nat} (ex : x = nI t) (ey : y = nI g) (ht : t < s_nT S) (hg : g < 30) (ho : ∀ i, i < 64 → s_nT S ≤ i → ab_bt o i = false) (hQ : ∀ w, (∀ i, i < 64 → ab_bt w i = s_fpB S g t (ab_bt o) i) → Q w μ) : ab_CL l ω mX2_fromParent [.ref 4, .int x, .int y, .long o] μ Q := by
  subst ex ey
  refine ab_intro (sh := ab_SH) (cd := kX2_fromParent) hω vX2_fromParent (by decide +kernel) rfl (Nat.le_of_ble_eq_true rfl) (fun j hj hw => ?_)
  have hT := hW.2.2.1.2
  have hP := hW.2.1.2
  have t1 := (hW.2.2.2.2.2.1 t ht).1
  obtain ⟨kT, kc, ks, k13, k14, k15, k16, k17, k18, k22, k19, k20, k21, k25⟩ := RepT_fs T
  obtain ⟨xN, x26, x27, x28, x29, x30, x31, x32, x33, x34, x35⟩ := RepX_fs X
  repeat' (first | refine hj _ _ _ _ ?_ | (refine br_c (fun h => ?_) (fun h => ?_) <;> (try simp (disch := omega) only [nI_clamp, li_2, li_3, li_4, li_5, li_6, li_7, li_8, li_9, li_10, li_40, li_120, pk_mul, nI_add, nI_1, ix_eq, ix_lt, ix_le, ix_l0, ix_l1, ix_n0, ix_p0, ix_1lt, ix_lt1, ix_1le, ix_le1, ix_le0, ix_0lt, ab_z0, ab_z1, i_10, i_01, eq_self, ab_ozn, ab_ozp, ab_o_some, not_true_eq_false, not_false_eq_true, Bool.not_eq_false, Bool.not_eq_true, Bool.not_eq_false', Bool.not_eq_true', Bool.false_eq_true, Bool.true_eq_false, reduceCtorEq, Option.isSome_some, Option.isSome_none] at h) <;> (try omega)) | (refine br_n (fun h => ?_) (fun h => ?_) <;> (try simp (disch := omega) only [nI_clamp, li_2, li_3, li_4, li_5, li_6, li_7, li_8, li_9, li_10, li_40, li_120, pk_mul, nI_add, nI_1, ix_eq, ix_lt, ix_le, ix_l0, ix_l1, ix_n0, ix_p0, ix_1lt, ix_lt1, ix_1le, ix_le1, ix_le0, ix_0lt, ab_z0, ab_z1, i_10, i_01, eq_self, ab_ozn, ab_ozp, ab_o_some, not_true_eq_false, not_false_eq_true, Bool.not_eq_false, Bool.not_eq_true, Bool.not_eq_false', Bool.not_eq_true', Bool.false_eq_true, Bool.true_eq_false, reduceCtorEq, Option.isSome_some, Option.isSome_none] at h) <;> (try omega)) | refine ab_sd (by first | (with_reducible refine vp_in_nI ?_ ?_ <;> omega) | (simp (disch := omega) only [nI_clamp, li_2, li_3, li_4, li_5, li_6, li_7, li_8, li_9, li_10, li_40, li_120, pk_mul, nI_add, nI_1, ix_eq, ix_lt, ix_le, ix_l0, ix_l1, ix_n0, ix_p0, ix_1lt, ix_lt1, ix_1le, ix_le1, ix_le0, ix_0lt, ab_z0, ab_z1, i_10, i_01, eq_self, ab_ozn, ab_ozp, ab_o_some, not_true_eq_false, not_false_eq_true, Bool.not_eq_false, Bool.not_eq_true, Bool.not_eq_false', Bool.not_eq_true', Bool.false_eq_true, Bool.true_eq_false, reduceCtorEq, Option.isSome_some, Option.isSome_none]; with_reducible refine vp_in_nI ?_ ?_ <;> omega)) ?_ | refine x_neighbours hω T hW (t := t) rfl ht ?_ | refine ab_sd ?_ ?_ | refine ab_sz (Or.inl rfl) ?_ | refine ab_sz (Or.inr rfl) ?_ | refine ab_sz ?_ ?_)
  show Q _ _
  refine hQ _ (fun i hi => ?_)
  rw [nI_clamp (by omega), ab_bt_and, ab_bt_and, ab_bt_not hi, ab_bt_not hi, ab_bt_and, ab_bt_not hi, x32 g i hg, x33 g i hg]
  unfold s_fpB
  by_cases h : i < s_nT S
  · rw [k25 _ i (by omega) h]
  · rw [ho i hi (by omega)]; simp
theorem x_ofFaces (hω : ω.2.2.2 = ab_SH) (T : RepT S μ) (hI : Iv S) {x y : Int32} {t g : Nat} (ex : x = nI t) (ey : y = nI g) (ht : t < s_nT S) (hg : g < 20) (hQ : ∀ w, (∀ i, i < 64 → ab_bt w i = ab_ex (fun u => s_isf S t u && ab_bt (μ.2 36 (40 * g + u)) i) (s_nT S)) → Q w μ) : ab_CL l ω mX2_ofFaces [.ref 4, .int x, .int y] μ Q := by
  subst ex ey
  refine ab_intro (sh := ab_SH) (cd := kX2_ofFaces) hω vX2_ofFaces (by decide +kernel) rfl (Nat.le_of_ble_eq_true rfl) (fun j hj hw => ?_)
  have hjx : ∀ i ll st μ, i ∉ ([10] : List Nat) → _ → j i ll st μ := fun i ll st μ _ h => hj i ll st μ h
  have hW := hI.1
  have hT := hW.2.2.1.2
  obtain ⟨t1, t2, t3, t4, t5, t6, t7, t8⟩ := hW.2.2.2.2.2.1 t ht
  have hc := s_isf_cnt T hI ht
  obtain ⟨kT, kc, ks, k13, k14, k15, k16, k17, k18, k22, k19, k20, k21, k25⟩ := RepT_fs T
  have ixE : ∀ u, u < 40 → (nI g * 40 + nI u).toNatClampNeg = 40 * g + u := fun u hu => by rw [li_40, pk_mul, nI_add, nI_clamp (by omega), Nat.mul_comm]
  have hlt : ∀ u, s_isf S t u = true → u < s_nT S := fun u h => by
    obtain ⟨k, hk, e⟩ := ab_ex_iff.mp h
    simp only [beq_iff_eq] at e
    have := t6 k hk
    omega
  have fin : ∀ b w, (∀ u, s_isf S t u = true → u < b) → b ≤ s_nT S → (∀ i, i < 64 → ab_bt w i = ab_ex (fun u => s_isf S t u && ab_bt (μ.2 36 (40 * g + u)) i) b) → Q w μ := by
    intro b w h1 h2 h3
    refine hQ _ (fun i hi => ?_)
    rw [h3 i hi, Bool.eq_iff_iff, ab_ex_iff, ab_ex_iff]
    constructor
    · rintro ⟨u, hu, h⟩; exact ⟨u, by omega, h⟩
    · rintro ⟨u, hu, h⟩
      simp only [Bool.and_eq_true] at h
      exact ⟨u, h1 u h.1, by simp [h.1, h.2]⟩
  have key : ∀ d n b (r w : Int64), n + d = 4 → b ≤ s_nT S → (∀ i, i < 64 → ab_bt r i = (s_isf S t i && decide (b ≤ i))) → ab_pc r + n ≤ 4 → (∀ i, i < 64 → ab_bt w i = ab_ex (fun u => s_isf S t u && ab_bt (μ.2 36 (40 * g + u)) i) b) → ∀ v, j 10 [some (.ref 4), some (.int (nI t)), some (.int (nI g)), some (.long r), none, some (.long w), none, some (.int (nI n)), v] [] μ := by
    intro d
    have don : ∀ b (r w : Int64), r = 0 → b ≤ s_nT S → (∀ i, i < 64 → ab_bt r i = (s_isf S t i && decide (b ≤ i))) → (∀ i, i < 64 → ab_bt w i = ab_ex (fun u => s_isf S t u && ab_bt (μ.2 36 (40 * g + u)) i) b) → Q w μ := by
      intro b r w h0 hb hr hw'
      refine fin b w (fun u hu => ?_) hb hw'
      have h1 := hlt u hu
      have := hr u (by omega)
      rw [h0, ab_bt_0, hu] at this
      simp at this
      omega
    induction d with
    | zero =>
      intro n b r w hn hb hr hp hw' v
      have hr0 : r = 0 := by
        rw [ab_bt_zero]
        intro i hi
        cases hx : ab_bt r i with
        | false => rfl
        | true =>
          exfalso
          have : ab_pc r = 0 := by omega
          unfold ab_pc at this
          have h2 := ab_cnt_pos (f := ab_bt r) hx hi
          omega
      refine hj _ _ _ _ ?_
      repeat' (first | refine hjx _ _ _ _ (by decide) ?_ | (refine br_c (fun h => ?_) (fun h => ?_) <;> (try simp (disch := omega) only [nI_clamp, li_2, li_3, li_4, li_5, li_6, li_7, li_8, li_9, li_10, li_40, li_120, pk_mul, nI_add, nI_1, ix_eq, ix_lt, ix_le, ix_l0, ix_l1, ix_n0, ix_p0, ix_1lt, ix_lt1, ix_1le, ix_le1, ix_le0, ix_0lt, ab_z0, ab_z1, i_10, i_01, eq_self, ab_ozn, ab_ozp, ab_o_some, not_true_eq_false, not_false_eq_true, Bool.not_eq_false, Bool.not_eq_true, Bool.not_eq_false', Bool.not_eq_true', Bool.false_eq_true, Bool.true_eq_false, reduceCtorEq, Option.isSome_some, Option.isSome_none] at h) <;> (try omega)) | (refine br_n (fun h => ?_) (fun h => ?_) <;> (try simp (disch := omega) only [nI_clamp, li_2, li_3, li_4, li_5, li_6, li_7, li_8, li_9, li_10, li_40, li_120, pk_mul, nI_add, nI_1, ix_eq, ix_lt, ix_le, ix_l0, ix_l1, ix_n0, ix_p0, ix_1lt, ix_lt1, ix_1le, ix_le1, ix_le0, ix_0lt, ab_z0, ab_z1, i_10, i_01, eq_self, ab_ozn, ab_ozp, ab_o_some, not_true_eq_false, not_false_eq_true, Bool.not_eq_false, Bool.not_eq_true, Bool.not_eq_false', Bool.not_eq_true', Bool.false_eq_true, Bool.true_eq_false, reduceCtorEq, Option.isSome_some, Option.isSome_none] at h) <;> (try omega)) | refine ab_sd (by first | (with_reducible refine vp_in_nI ?_ ?_ <;> omega) | (simp (disch := omega) only [nI_clamp, li_2, li_3, li_4, li_5, li_6, li_7, li_8, li_9, li_10, li_40, li_120, pk_mul, nI_add, nI_1, ix_eq, ix_lt, ix_le, ix_l0, ix_l1, ix_n0, ix_p0, ix_1lt, ix_lt1, ix_1le, ix_le1, ix_le0, ix_0lt, ab_z0, ab_z1, i_10, i_01, eq_self, ab_ozn, ab_ozp, ab_o_some, not_true_eq_false, not_false_eq_true, Bool.not_eq_false, Bool.not_eq_true, Bool.not_eq_false', Bool.not_eq_true', Bool.false_eq_true, Bool.true_eq_false, reduceCtorEq, Option.isSome_some, Option.isSome_none]; with_reducible refine vp_in_nI ?_ ?_ <;> omega)) ?_ | refine ab_sd ?_ ?_ | refine ab_sz (Or.inl rfl) ?_ | refine ab_sz (Or.inr rfl) ?_ | refine ab_sz ?_ ?_)
      exact don b r w hr0 hb hr hw'
    | succ d ih =>
      intro n b r w hn hb hr hp hw' v
      refine hj _ _ _ _ ?_
      by_cases h0 : r = 0
      · repeat' (first | refine hjx _ _ _ _ (by decide) ?_ | (refine br_c (fun h => ?_) (fun h => ?_) <;> (try simp (disch := omega) only [nI_clamp, li_2, li_3, li_4, li_5, li_6, li_7, li_8, li_9, li_10, li_40, li_120, pk_mul, nI_add, nI_1, ix_eq, ix_lt, ix_le, ix_l0, ix_l1, ix_n0, ix_p0, ix_1lt, ix_lt1, ix_1le, ix_le1, ix_le0, ix_0lt, ab_z0, ab_z1, i_10, i_01, eq_self, ab_ozn, ab_ozp, ab_o_some, not_true_eq_false, not_false_eq_true, Bool.not_eq_false, Bool.not_eq_true, Bool.not_eq_false', Bool.not_eq_true', Bool.false_eq_true, Bool.true_eq_false, reduceCtorEq, Option.isSome_some, Option.isSome_none, lg_cmp_eq, h0] at h) <;> (try omega)) | (refine br_n (fun h => ?_) (fun h => ?_) <;> (try simp (disch := omega) only [nI_clamp, li_2, li_3, li_4, li_5, li_6, li_7, li_8, li_9, li_10, li_40, li_120, pk_mul, nI_add, nI_1, ix_eq, ix_lt, ix_le, ix_l0, ix_l1, ix_n0, ix_p0, ix_1lt, ix_lt1, ix_1le, ix_le1, ix_le0, ix_0lt, ab_z0, ab_z1, i_10, i_01, eq_self, ab_ozn, ab_ozp, ab_o_some, not_true_eq_false, not_false_eq_true, Bool.not_eq_false, Bool.not_eq_true, Bool.not_eq_false', Bool.not_eq_true', Bool.false_eq_true, Bool.true_eq_false, reduceCtorEq, Option.isSome_some, Option.isSome_none, lg_cmp_eq, h0] at h) <;> (try omega)) | refine ab_sd (by first | (with_reducible refine vp_in_nI ?_ ?_ <;> omega) | (simp (disch := omega) only [nI_clamp, li_2, li_3, li_4, li_5, li_6, li_7, li_8, li_9, li_10, li_40, li_120, pk_mul, nI_add, nI_1, ix_eq, ix_lt, ix_le, ix_l0, ix_l1, ix_n0, ix_p0, ix_1lt, ix_lt1, ix_1le, ix_le1, ix_le0, ix_0lt, ab_z0, ab_z1, i_10, i_01, eq_self, ab_ozn, ab_ozp, ab_o_some, not_true_eq_false, not_false_eq_true, Bool.not_eq_false, Bool.not_eq_true, Bool.not_eq_false', Bool.not_eq_true', Bool.false_eq_true, Bool.true_eq_false, reduceCtorEq, Option.isSome_some, Option.isSome_none, lg_cmp_eq, h0]; with_reducible refine vp_in_nI ?_ ?_ <;> omega)) ?_ | refine ab_sd ?_ ?_ | refine ab_sz (Or.inl rfl) ?_ | refine ab_sz (Or.inr rfl) ?_ | refine ab_sz ?_ ?_)
        all_goals exact don b r w h0 hb hr hw'
      · obtain ⟨i0, hi0, hb1, hb0⟩ := ab_low h0
        have e1 := hr i0 hi0
        rw [hb1] at e1
        have e1 := e1.symm
        simp only [Bool.and_eq_true, decide_eq_true_eq] at e1
        have hi1 := hlt i0 e1.1
        repeat' (first | refine hjx _ _ _ _ (by decide) ?_ | (refine br_c (fun h => ?_) (fun h => ?_) <;> (try simp (disch := omega) only [nI_clamp, li_2, li_3, li_4, li_5, li_6, li_7, li_8, li_9, li_10, li_40, li_120, pk_mul, nI_add, nI_1, ix_eq, ix_lt, ix_le, ix_l0, ix_l1, ix_n0, ix_p0, ix_1lt, ix_lt1, ix_1le, ix_le1, ix_le0, ix_0lt, ab_z0, ab_z1, i_10, i_01, eq_self, ab_ozn, ab_ozp, ab_o_some, not_true_eq_false, not_false_eq_true, Bool.not_eq_false, Bool.not_eq_true, Bool.not_eq_false', Bool.not_eq_true', Bool.false_eq_true, Bool.true_eq_false, reduceCtorEq, Option.isSome_some, Option.isSome_none, lg_cmp_eq, h0] at h) <;> (try omega)) | (refine br_n (fun h => ?_) (fun h => ?_) <;> (try simp (disch := omega) only [nI_clamp, li_2, li_3, li_4, li_5, li_6, li_7, li_8, li_9, li_10, li_40, li_120, pk_mul, nI_add, nI_1, ix_eq, ix_lt, ix_le, ix_l0, ix_l1, ix_n0, ix_p0, ix_1lt, ix_lt1, ix_1le, ix_le1, ix_le0, ix_0lt, ab_z0, ab_z1, i_10, i_01, eq_self, ab_ozn, ab_ozp, ab_o_some, not_true_eq_false, not_false_eq_true, Bool.not_eq_false, Bool.not_eq_true, Bool.not_eq_false', Bool.not_eq_true', Bool.false_eq_true, Bool.true_eq_false, reduceCtorEq, Option.isSome_some, Option.isSome_none, lg_cmp_eq, h0] at h) <;> (try omega)) | refine ab_sd (by first | (with_reducible refine vp_in_nI ?_ ?_ <;> omega) | (simp (disch := omega) only [nI_clamp, li_2, li_3, li_4, li_5, li_6, li_7, li_8, li_9, li_10, li_40, li_120, pk_mul, nI_add, nI_1, ix_eq, ix_lt, ix_le, ix_l0, ix_l1, ix_n0, ix_p0, ix_1lt, ix_lt1, ix_1le, ix_le1, ix_le0, ix_0lt, ab_z0, ab_z1, i_10, i_01, eq_self, ab_ozn, ab_ozp, ab_o_some, not_true_eq_false, not_false_eq_true, Bool.not_eq_false, Bool.not_eq_true, Bool.not_eq_false', Bool.not_eq_true', Bool.false_eq_true, Bool.true_eq_false, reduceCtorEq, Option.isSome_some, Option.isSome_none, lg_cmp_eq, h0]; with_reducible refine vp_in_nI ?_ ?_ <;> omega)) ?_ | refine x_least hω hi0 hb1 hb0 ?_ | refine x_one hω (t := i0) rfl ?_ | refine ab_sd ?_ ?_ | refine ab_sz (Or.inl rfl) ?_ | refine ab_sz (Or.inr rfl) ?_ | refine ab_sz ?_ ?_)
        show j 10 _ _ _
        rw [nI_1]
        refine ih (n + 1) (i0 + 1) _ _ (by omega) (by omega) (fun i hi => ?_) ?_ (fun i hi => ?_) _
        · rw [ab_bt_and, ab_bt_not hi, ab_bt_one hi0, hr i hi]
          by_cases q : i = i0
          · subst q; simp
          · by_cases q2 : i < i0
            · have := hb0 i q2
              rw [hr i hi] at this
              rw [this]
              simp [show ¬ i0 + 1 ≤ i by omega]
            · simp [q, show b ≤ i by omega, show i0 + 1 ≤ i by omega]
        · have : ab_pc r = ab_pc (r &&& (ab_one i0 ^^^ (-1))) + 1 := by
            unfold ab_pc
            refine ab_cnt_set (i := i0) ?_ (fun i => ?_) _ hi0
            · rw [ab_bt_and, ab_bt_not hi0, ab_bt_one hi0]; simp
            · by_cases hi : i < 64
              · rw [ab_bt_and, ab_bt_not hi, ab_bt_one hi0]
                by_cases q : i = i0
                · subst q; simp [hb1]
                · simp [q]
              · rw [ab_bt_big (by omega), ab_bt_big (by omega), if_neg (by omega)]
          omega
        · rw [ab_bt_or, hw' i hi, ixE i0 (by omega)]
          rw [Bool.eq_iff_iff, Bool.or_eq_true, ab_ex_iff, ab_ex_iff]
          constructor
          · rintro (⟨u, hu, h⟩ | h)
            · exact ⟨u, by omega, h⟩
            · exact ⟨i0, by omega, by simp only [Bool.and_eq_true]; exact ⟨e1.1, h⟩⟩
          · rintro ⟨u, hu, h⟩
            simp only [Bool.and_eq_true] at h
            by_cases q : u < b
            · exact Or.inl ⟨u, q, by simp [h.1, h.2]⟩
            · by_cases q2 : u = i0
              · subst q2; exact Or.inr h.2
              · exfalso
                have h1 := hlt u h.1
                have := hb0 u (by omega)
                rw [hr u (by omega), h.1] at this
                simp at this
                omega
  repeat' (first | refine hjx _ _ _ _ (by decide) ?_ | (refine br_c (fun h => ?_) (fun h => ?_) <;> (try simp (disch := omega) only [nI_clamp, li_2, li_3, li_4, li_5, li_6, li_7, li_8, li_9, li_10, li_40, li_120, pk_mul, nI_add, nI_1, ix_eq, ix_lt, ix_le, ix_l0, ix_l1, ix_n0, ix_p0, ix_1lt, ix_lt1, ix_1le, ix_le1, ix_le0, ix_0lt, ab_z0, ab_z1, i_10, i_01, eq_self, ab_ozn, ab_ozp, ab_o_some, not_true_eq_false, not_false_eq_true, Bool.not_eq_false, Bool.not_eq_true, Bool.not_eq_false', Bool.not_eq_true', Bool.false_eq_true, Bool.true_eq_false, reduceCtorEq, Option.isSome_some, Option.isSome_none] at h) <;> (try omega)) | (refine br_n (fun h => ?_) (fun h => ?_) <;> (try simp (disch := omega) only [nI_clamp, li_2, li_3, li_4, li_5, li_6, li_7, li_8, li_9, li_10, li_40, li_120, pk_mul, nI_add, nI_1, ix_eq, ix_lt, ix_le, ix_l0, ix_l1, ix_n0, ix_p0, ix_1lt, ix_lt1, ix_1le, ix_le1, ix_le0, ix_0lt, ab_z0, ab_z1, i_10, i_01, eq_self, ab_ozn, ab_ozp, ab_o_some, not_true_eq_false, not_false_eq_true, Bool.not_eq_false, Bool.not_eq_true, Bool.not_eq_false', Bool.not_eq_true', Bool.false_eq_true, Bool.true_eq_false, reduceCtorEq, Option.isSome_some, Option.isSome_none] at h) <;> (try omega)) | refine ab_sd (by first | (with_reducible refine vp_in_nI ?_ ?_ <;> omega) | (simp (disch := omega) only [nI_clamp, li_2, li_3, li_4, li_5, li_6, li_7, li_8, li_9, li_10, li_40, li_120, pk_mul, nI_add, nI_1, ix_eq, ix_lt, ix_le, ix_l0, ix_l1, ix_n0, ix_p0, ix_1lt, ix_lt1, ix_1le, ix_le1, ix_le0, ix_0lt, ab_z0, ab_z1, i_10, i_01, eq_self, ab_ozn, ab_ozp, ab_o_some, not_true_eq_false, not_false_eq_true, Bool.not_eq_false, Bool.not_eq_true, Bool.not_eq_false', Bool.not_eq_true', Bool.false_eq_true, Bool.true_eq_false, reduceCtorEq, Option.isSome_some, Option.isSome_none]; with_reducible refine vp_in_nI ?_ ?_ <;> omega)) ?_ | refine ab_sd ?_ ?_ | refine ab_sz (Or.inl rfl) ?_ | refine ab_sz (Or.inr rfl) ?_ | refine ab_sz ?_ ?_)
  rw [nI_clamp (by omega)]
  refine key 4 0 0 _ _ (by omega) (by omega) (fun i hi => ?_) (by omega) (fun i hi => by rw [ab_bt_0]; rfl) _
  rw [k19 t i ht (by omega)]; simp
theorem x_fromFaces (hω : ω.2.2.2 = ab_SH) (T : RepT S μ) (X : RepX S μ) (hW : Wf S) {y : Int32} {fo op fp : Int64} {g : Nat} (ey : y = nI g) (hg : g < 30) (hfo : ∀ i, i < 64 → s_nT S ≤ i → ab_bt fo i = false) (hfp : ∀ i, i < 64 → s_nT S ≤ i → ab_bt fp i = false) (hQ : ∀ w, (∀ i, i < 64 → ab_bt w i = s_ffB S g (ab_bt fo) (ab_bt op) (ab_bt fp) i) → Q w μ) : ab_CL l ω mX2_fromFaces [.ref 4, .int y, .long fo, .long op, .long fp] μ Q := by
  subst ey
  refine ab_intro (sh := ab_SH) (cd := kX2_fromFaces) hω vX2_fromFaces (by decide +kernel) rfl (Nat.le_of_ble_eq_true rfl) (fun j hj hw => ?_)
  have hT := hW.2.2.1.2
  obtain ⟨kT, kc, ks, k13, k14, k15, k16, k17, k18, k22, k19, k20, k21, k25⟩ := RepT_fs T
  obtain ⟨xN, x26, x27, x28, x29, x30, x31, x32, x33, x34, x35⟩ := RepX_fs X
  unfold s_ffB at hQ
  cases hk : (g / 10 == 1) with
  | false =>
    rw [hk] at hQ
    repeat' (first | refine hj _ _ _ _ ?_ | (refine br_c (fun h => ?_) (fun h => ?_) <;> (try simp (disch := omega) only [nI_clamp, li_2, li_3, li_4, li_5, li_6, li_7, li_8, li_9, li_10, li_40, li_120, pk_mul, nI_add, nI_1, ix_eq, ix_lt, ix_le, ix_l0, ix_l1, ix_n0, ix_p0, ix_1lt, ix_lt1, ix_1le, ix_le1, ix_le0, ix_0lt, ab_z0, ab_z1, i_10, i_01, eq_self, ab_ozn, ab_ozp, ab_o_some, not_true_eq_false, not_false_eq_true, Bool.not_eq_false, Bool.not_eq_true, Bool.not_eq_false', Bool.not_eq_true', Bool.false_eq_true, Bool.true_eq_false, reduceCtorEq, Option.isSome_some, Option.isSome_none, hk] at h) <;> (try omega)) | (refine br_n (fun h => ?_) (fun h => ?_) <;> (try simp (disch := omega) only [nI_clamp, li_2, li_3, li_4, li_5, li_6, li_7, li_8, li_9, li_10, li_40, li_120, pk_mul, nI_add, nI_1, ix_eq, ix_lt, ix_le, ix_l0, ix_l1, ix_n0, ix_p0, ix_1lt, ix_lt1, ix_1le, ix_le1, ix_le0, ix_0lt, ab_z0, ab_z1, i_10, i_01, eq_self, ab_ozn, ab_ozp, ab_o_some, not_true_eq_false, not_false_eq_true, Bool.not_eq_false, Bool.not_eq_true, Bool.not_eq_false', Bool.not_eq_true', Bool.false_eq_true, Bool.true_eq_false, reduceCtorEq, Option.isSome_some, Option.isSome_none, hk] at h) <;> (try omega)) | refine ab_sd (by first | (with_reducible refine vp_in_nI ?_ ?_ <;> omega) | (simp (disch := omega) only [nI_clamp, li_2, li_3, li_4, li_5, li_6, li_7, li_8, li_9, li_10, li_40, li_120, pk_mul, nI_add, nI_1, ix_eq, ix_lt, ix_le, ix_l0, ix_l1, ix_n0, ix_p0, ix_1lt, ix_lt1, ix_1le, ix_le1, ix_le0, ix_0lt, ab_z0, ab_z1, i_10, i_01, eq_self, ab_ozn, ab_ozp, ab_o_some, not_true_eq_false, not_false_eq_true, Bool.not_eq_false, Bool.not_eq_true, Bool.not_eq_false', Bool.not_eq_true', Bool.false_eq_true, Bool.true_eq_false, reduceCtorEq, Option.isSome_some, Option.isSome_none, hk]; with_reducible refine vp_in_nI ?_ ?_ <;> omega)) ?_ | refine x_isMethodGroup hω (g := g) rfl hg ?_ | refine ab_sd ?_ ?_ | refine ab_sz (Or.inl rfl) ?_ | refine ab_sz (Or.inr rfl) ?_ | refine ab_sz ?_ ?_)
    all_goals exact hQ _ (fun i hi => rfl)
  | true =>
    rw [hk] at hQ
    have z1 : (fp &&& μ.2 2 1 &&& (μ.2 35 g ^^^ (-1)) = 0) ↔ ab_ex (fun u => ab_bt fp u && S.1 50 u == 0 && !s_pg S g (fun m => s_has (S.1 61 m) 4) u) (s_nT S) = false := by
      rw [ab_bt_zero]
      constructor
      · intro h
        cases hx : ab_ex (fun u => ab_bt fp u && S.1 50 u == 0 && !s_pg S g (fun m => s_has (S.1 61 m) 4) u) (s_nT S) with
        | false => rfl
        | true =>
          obtain ⟨u, hu, h2⟩ := ab_ex_iff.mp hx
          have := h u (by omega)
          rw [ab_bt_and, ab_bt_and, ab_bt_not (by omega), kc u hu, x35 g u hg, h2] at this
          cases this
      · intro h i hi
        rw [ab_bt_and, ab_bt_and, ab_bt_not hi, x35 g i hg]
        by_cases q : i < s_nT S
        · rw [kc i q]
          cases hx : (ab_bt fp i && S.1 50 i == 0 && !s_pg S g (fun m => s_has (S.1 61 m) 4) i) with
          | false => rfl
          | true => rw [ab_ex_iff.mpr ⟨i, q, hx⟩] at h; cases h
        · rw [hfp i hi (by omega)]; simp
    cases hz : ab_ex (fun u => ab_bt fp u && S.1 50 u == 0 && !s_pg S g (fun m => s_has (S.1 61 m) 4) u) (s_nT S) with
    | true =>
      rw [hz] at hQ z1
      repeat' (first | refine hj _ _ _ _ ?_ | (refine br_c (fun h => ?_) (fun h => ?_) <;> (try simp (disch := omega) only [nI_clamp, li_2, li_3, li_4, li_5, li_6, li_7, li_8, li_9, li_10, li_40, li_120, pk_mul, nI_add, nI_1, ix_eq, ix_lt, ix_le, ix_l0, ix_l1, ix_n0, ix_p0, ix_1lt, ix_lt1, ix_1le, ix_le1, ix_le0, ix_0lt, ab_z0, ab_z1, i_10, i_01, eq_self, ab_ozn, ab_ozp, ab_o_some, not_true_eq_false, not_false_eq_true, Bool.not_eq_false, Bool.not_eq_true, Bool.not_eq_false', Bool.not_eq_true', Bool.false_eq_true, Bool.true_eq_false, reduceCtorEq, Option.isSome_some, Option.isSome_none, hk, lg_cmp_eq, z1] at h) <;> (try omega)) | (refine br_n (fun h => ?_) (fun h => ?_) <;> (try simp (disch := omega) only [nI_clamp, li_2, li_3, li_4, li_5, li_6, li_7, li_8, li_9, li_10, li_40, li_120, pk_mul, nI_add, nI_1, ix_eq, ix_lt, ix_le, ix_l0, ix_l1, ix_n0, ix_p0, ix_1lt, ix_lt1, ix_1le, ix_le1, ix_le0, ix_0lt, ab_z0, ab_z1, i_10, i_01, eq_self, ab_ozn, ab_ozp, ab_o_some, not_true_eq_false, not_false_eq_true, Bool.not_eq_false, Bool.not_eq_true, Bool.not_eq_false', Bool.not_eq_true', Bool.false_eq_true, Bool.true_eq_false, reduceCtorEq, Option.isSome_some, Option.isSome_none, hk, lg_cmp_eq, z1] at h) <;> (try omega)) | refine ab_sd (by first | (with_reducible refine vp_in_nI ?_ ?_ <;> omega) | (simp (disch := omega) only [nI_clamp, li_2, li_3, li_4, li_5, li_6, li_7, li_8, li_9, li_10, li_40, li_120, pk_mul, nI_add, nI_1, ix_eq, ix_lt, ix_le, ix_l0, ix_l1, ix_n0, ix_p0, ix_1lt, ix_lt1, ix_1le, ix_le1, ix_le0, ix_0lt, ab_z0, ab_z1, i_10, i_01, eq_self, ab_ozn, ab_ozp, ab_o_some, not_true_eq_false, not_false_eq_true, Bool.not_eq_false, Bool.not_eq_true, Bool.not_eq_false', Bool.not_eq_true', Bool.false_eq_true, Bool.true_eq_false, reduceCtorEq, Option.isSome_some, Option.isSome_none, hk, lg_cmp_eq, z1]; with_reducible refine vp_in_nI ?_ ?_ <;> omega)) ?_ | refine x_isMethodGroup hω (g := g) rfl hg ?_ | refine ab_sd ?_ ?_ | refine ab_sz (Or.inl rfl) ?_ | refine ab_sz (Or.inr rfl) ?_ | refine ab_sz ?_ ?_)
      all_goals exact hQ _ (fun i hi => by rw [ab_bt_0]; simp)
    | false =>
      rw [hz] at hQ z1
      repeat' (first | refine hj _ _ _ _ ?_ | (refine br_c (fun h => ?_) (fun h => ?_) <;> (try simp (disch := omega) only [nI_clamp, li_2, li_3, li_4, li_5, li_6, li_7, li_8, li_9, li_10, li_40, li_120, pk_mul, nI_add, nI_1, ix_eq, ix_lt, ix_le, ix_l0, ix_l1, ix_n0, ix_p0, ix_1lt, ix_lt1, ix_1le, ix_le1, ix_le0, ix_0lt, ab_z0, ab_z1, i_10, i_01, eq_self, ab_ozn, ab_ozp, ab_o_some, not_true_eq_false, not_false_eq_true, Bool.not_eq_false, Bool.not_eq_true, Bool.not_eq_false', Bool.not_eq_true', Bool.false_eq_true, Bool.true_eq_false, reduceCtorEq, Option.isSome_some, Option.isSome_none, hk, lg_cmp_eq, z1] at h) <;> (try omega)) | (refine br_n (fun h => ?_) (fun h => ?_) <;> (try simp (disch := omega) only [nI_clamp, li_2, li_3, li_4, li_5, li_6, li_7, li_8, li_9, li_10, li_40, li_120, pk_mul, nI_add, nI_1, ix_eq, ix_lt, ix_le, ix_l0, ix_l1, ix_n0, ix_p0, ix_1lt, ix_lt1, ix_1le, ix_le1, ix_le0, ix_0lt, ab_z0, ab_z1, i_10, i_01, eq_self, ab_ozn, ab_ozp, ab_o_some, not_true_eq_false, not_false_eq_true, Bool.not_eq_false, Bool.not_eq_true, Bool.not_eq_false', Bool.not_eq_true', Bool.false_eq_true, Bool.true_eq_false, reduceCtorEq, Option.isSome_some, Option.isSome_none, hk, lg_cmp_eq, z1] at h) <;> (try omega)) | refine ab_sd (by first | (with_reducible refine vp_in_nI ?_ ?_ <;> omega) | (simp (disch := omega) only [nI_clamp, li_2, li_3, li_4, li_5, li_6, li_7, li_8, li_9, li_10, li_40, li_120, pk_mul, nI_add, nI_1, ix_eq, ix_lt, ix_le, ix_l0, ix_l1, ix_n0, ix_p0, ix_1lt, ix_lt1, ix_1le, ix_le1, ix_le0, ix_0lt, ab_z0, ab_z1, i_10, i_01, eq_self, ab_ozn, ab_ozp, ab_o_some, not_true_eq_false, not_false_eq_true, Bool.not_eq_false, Bool.not_eq_true, Bool.not_eq_false', Bool.not_eq_true', Bool.false_eq_true, Bool.true_eq_false, reduceCtorEq, Option.isSome_some, Option.isSome_none, hk, lg_cmp_eq, z1]; with_reducible refine vp_in_nI ?_ ?_ <;> omega)) ?_ | refine x_isMethodGroup hω (g := g) rfl hg ?_ | refine x_overridable hω X (g := g) rfl hg (fun pl hpl => ?_) | refine x_withoutAnyBelow hω T hW (fun w hw2 => ?_) | refine ab_sd ?_ ?_ | refine ab_sz (Or.inl rfl) ?_ | refine ab_sz (Or.inr rfl) ?_ | refine ab_sz ?_ ?_)
      show Q _ _
      refine hQ _ (fun i hi => ?_)
      rw [hw2 i hi, ab_bt_and, hpl i hi]
      simp only [if_true, Bool.not_false, Bool.true_and]
      by_cases q : i < s_nT S
      · congr 2
        refine ab_ex_congr (fun u hu => ?_)
        rw [ab_bt_and, ab_bt_or, hpl u (by omega)]
        simp [q]
      · rw [hfo i hi (by omega)]; simp
/-- find's value is MEMBER OF -/
def s_opB (S : sT) (g t u : Nat) : Bool := match s_pa S t with
  | none => false
  | some p => s_pg S g (s_of S p) u
def s_foB (S : sT) (g t u : Nat) : Bool := ab_ex (fun k => s_pg S g (s_of S (S.1 54 (4 * t + k))) u) (S.1 55 t)
theorem s_opB_none {g t u : Nat} (e : s_dg S u g = none) : s_opB S g t u = false := by
  unfold s_opB
  cases s_pa S t with
  | none => rfl
  | some p => exact s_pg_none e
theorem s_foB_none {g t u : Nat} (e : s_dg S u g = none) : s_foB S g t u = false := ab_ex_f (fun k _ => s_pg_none e)
theorem s_fpB_none {g t u : Nat} (e : s_dg S u g = none) : s_fpB S g t (s_opB S g t) u = false := by
  unfold s_fpB
  rw [s_opB_none e]; rfl
theorem s_find {ρ : Nat → Nat} (hI : Iv S) (hR : Rk S ρ) {t g : Nat} (ht : t < s_nT S) (hg : g < 20) (i : Nat) : s_pg S g (s_of S t) i = if (s_dg S t g).isSome then decide (i = t) else (s_fpB S g t (s_opB S g t) i || s_ffB S g (s_foB S g t) (s_opB S g t) (s_fpB S g t (s_opB S g t)) i) := by
  have hW := hI.1
  have hX := hW.2.2.2.1
  cases e : s_dg S i g with
  | none =>
    rw [s_pg_none e]
    by_cases hit : i = t
    · subst hit
      rw [e]
      unfold s_ffB
      simp [s_fpB_none e, s_foB_none e]
    · unfold s_ffB
      simp [s_fpB_none e, s_foB_none e, hit]
  | some m =>
    rw [s_pg_some e]
    obtain ⟨h1, h2, h3, h4, h5⟩ := s_dg_some hW e
    have hO : ∀ p x, x < s_nX S → (fun j => s_of S (j / 120) (j % 120)) (120 * p + x) = s_of S p x := fun p x hx => by
      simp only [(s_dm p x (by omega)).1, (s_dm p x (by omega)).2]
    rw [← s_of_eq hW hR ht h1 (O := fun j => s_of S (j / 120) (j % 120)) (fun p _ x hx => hO p x hx) (fun k _ x hx => hO _ x hx)]
    generalize hOe : (fun j => s_of S (j / 120) (j % 120)) = O at hO
    have cfpE : ∀ u x, s_dg S u g = some x → s_cfp S O t x = s_fpB S g t (s_opB S g t) u := by
      intro u x ex
      obtain ⟨a1, a2, a3, a4, a5⟩ := s_dg_some hW ex
      unfold s_cfp s_fpB s_opB
      cases s_pa S t with
      | none => rfl
      | some p =>
        simp only [hO p x a1, s_pg_some ex, a2]
        cases s_of S p x <;> cases (S.1 60 x == 0) <;> cases (S.1 60 x == 1) <;> cases (S.1 48 u == S.1 48 t) <;> rfl
    have ofpE : ∀ u x, s_dg S u g = some x → s_ofp S O t x = s_opB S g t u := by
      intro u x ex
      obtain ⟨a1, a2, a3, a4, a5⟩ := s_dg_some hW ex
      unfold s_ofp s_opB
      cases s_pa S t with
      | none => rfl
      | some p => simp only [hO p x a1, s_pg_some ex]
    have iofE : ∀ u x, s_dg S u g = some x → s_iof S O t x = s_foB S g t u := by
      intro u x ex
      obtain ⟨a1, a2, a3, a4, a5⟩ := s_dg_some hW ex
      unfold s_iof s_foB
      refine ab_ex_congr (fun k hk => ?_)
      rw [hO _ x a1, s_pg_some ex]
    have hdt : s_dec S t (S.1 58 m) (S.1 59 m) = s_dg S t g := by unfold s_dg; rw [h3, h4]
    unfold s_ofS
    rw [hdt, h2, cfpE i m e, iofE i m e]
    cases ed : s_dg S t g with
    | some d => 
      by_cases q : i = t
      · simp [q]
      · simp [q]
    | none =>
      have q : ¬ i = t := fun q => by rw [q, ed] at e; cases e
      have q2 : ¬ S.1 58 m = 2 := by omega
      have hbh : g / 10 = 1 → s_bh S O t m = (ab_ex (fun u => s_fpB S g t (s_opB S g t) u && S.1 50 u == 0 && !s_pg S g (fun m => s_has (S.1 61 m) 4) u) (s_nT S) || ab_ex (fun u => ((s_foB S g t u || s_opB S g t u) && s_pg S g (s_pl S) u) && s_ab S u i) (s_nT S)) := by
        intro hk
        have e1 : s_bh S O t m = ab_ex (fun x => S.1 58 x == g / 10 && S.1 59 x == g % 10 && ((S.1 50 (S.1 57 x) == 0 && !s_has (S.1 61 x) 4 && s_cfp S O t x) || (s_pl S x && s_ab S (S.1 57 x) (S.1 57 m) && (s_ofp S O t x || s_iof S O t x)))) (s_nX S) := by
          unfold s_bh
          refine ab_ex_congr (fun x hx => ?_)
          unfold s_bh1
          rw [hk, h4]
        rw [e1, s_ex_pg hI (by omega), ← ab_ex_or]
        refine ab_ex_congr (fun u hu => ?_)
        cases ex : s_dg S u g with
        | none => rw [s_pg_none ex, s_fpB_none ex, s_foB_none ex, s_opB_none ex]; rfl
        | some x =>
          obtain ⟨a1, a2, a3, a4, a5⟩ := s_dg_some hW ex
          rw [s_pg_some ex, s_pg_some ex, s_pg_some ex, cfpE u x ex, ofpE u x ex, iofE u x ex, a2, h2]
          cases (S.1 50 u == 0) <;> cases s_has (S.1 61 x) 4 <;> cases s_fpB S g t (s_opB S g t) u <;> cases s_pl S x <;> cases s_ab S u i <;> cases s_opB S g t u <;> cases s_foB S g t u <;> rfl
      unfold s_ffB
      rw [s_pg_some e]
      have q' : (i == t) = false := by simpa using q
      have k2 : (S.1 58 m == 2) = false := by simpa using q2
      rw [q', k2]
      by_cases hk : g / 10 = 1
      · have k0 : (S.1 58 m == 0) = false := by rw [h3, hk]; rfl
        rw [hbh hk, hk, k0]
        generalize ab_ex (fun u => s_fpB S g t (s_opB S g t) u && S.1 50 u == 0 && !s_pg S g (fun m => s_has (S.1 61 m) 4) u) (s_nT S) = A1
        generalize ab_ex (fun u => ((s_foB S g t u || s_opB S g t u) && s_pg S g (s_pl S) u) && s_ab S u i) (s_nT S) = B1
        cases s_fpB S g t (s_opB S g t) i <;> cases s_foB S g t i <;> cases s_pl S m <;> cases A1 <;> cases B1 <;> rfl
      · have hk0 : g / 10 = 0 := by omega
        have k0 : (S.1 58 m == 0) = true := by rw [h3, hk0]; rfl
        rw [hk0, k0]
        cases s_fpB S g t (s_opB S g t) i <;> cases s_foB S g t i <;> rfl
theorem x_find {ρ : Nat → Nat} (hω : ω.2.2.2 = ab_SH) (T : RepT S μ) (X : RepX S μ) (hI : Iv S) (hR : Rk S ρ) {x y : Int32} {t g : Nat} (ex : x = nI t) (ey : y = nI g) (ht : t < s_nT S) (hg : g < 20) (hp : ∀ p, s_pa S t = some p → ∀ i, ab_bt (μ.2 36 (40 * g + p)) i = s_pg S g (s_of S p) i) (hf : ∀ k, k < S.1 55 t → ∀ i, ab_bt (μ.2 36 (40 * g + S.1 54 (4 * t + k))) i = s_pg S g (s_of S (S.1 54 (4 * t + k))) i) (hQ : ∀ w, (∀ i, ab_bt w i = s_pg S g (s_of S t) i) → Q w μ) : ab_CL l ω mX2_find [.ref 4, .int x, .int y] μ Q := by
  subst ex ey
  refine ab_intro (sh := ab_SH) (cd := kX2_find) hω vX2_find (by decide +kernel) rfl (Nat.le_of_ble_eq_true rfl) (fun j hj hw => ?_)
  have hjx : ∀ i ll st μ, i ∉ ([30] : List Nat) → _ → j i ll st μ := fun i ll st μ _ h => hj i ll st μ h
  have hW := hI.1
  have hT := hW.2.2.1.2
  obtain ⟨t1, t2, t3, t4, t5, t6, t7, t8⟩ := hW.2.2.2.2.2.1 t ht
  obtain ⟨kT, kc, ks, k13, k14, k15, k16, k17, k18, k22, k19, k20, k21, k25⟩ := RepT_fs T
  obtain ⟨xN, x26, x27, x28, x29, x30, x31, x32, x33, x34, x35⟩ := RepX_fs X
  have hQ : ∀ w, (∀ i, i < 64 → ab_bt w i = s_pg S g (s_of S t) i) → Q w μ := fun w h => hQ w (fun i => by
    by_cases hi : i < 64
    · exact h i hi
    · rw [ab_bt_big (by omega), s_pg_ge hW (by omega)])
  have fx := s_find hI hR ht hg
  cases hd : (s_dg S t g).isSome with
  | true =>
    rw [hd] at fx
    simp only [if_true] at fx
    repeat' (first | refine hj _ _ _ _ ?_ | (refine br_c (fun h => ?_) (fun h => ?_) <;> (try simp (disch := omega) only [nI_clamp, li_2, li_3, li_4, li_5, li_6, li_7, li_8, li_9, li_10, li_40, li_120, pk_mul, nI_add, nI_1, ix_eq, ix_lt, ix_le, ix_l0, ix_l1, ix_n0, ix_p0, ix_1lt, ix_lt1, ix_1le, ix_le1, ix_le0, ix_0lt, ab_z0, ab_z1, i_10, i_01, eq_self, ab_ozn, ab_ozp, ab_o_some, not_true_eq_false, not_false_eq_true, Bool.not_eq_false, Bool.not_eq_true, Bool.not_eq_false', Bool.not_eq_true', Bool.false_eq_true, Bool.true_eq_false, reduceCtorEq, Option.isSome_some, Option.isSome_none, kT, k13, k14, k15, k16, k17, k18, kc, ks, k19, k20, k21, k22, k25, ab_o1_some, ab_bt_or, ab_bt_and, ab_bt_one, ab_o1n, ab_o1p, decide_true, decide_false, Bool.true_and, Bool.and_true, beq_iff_eq, nI_ti, xN, x26, x27, x28, x29, x30, x31, hd] at h) <;> (try omega)) | (refine br_n (fun h => ?_) (fun h => ?_) <;> (try simp (disch := omega) only [nI_clamp, li_2, li_3, li_4, li_5, li_6, li_7, li_8, li_9, li_10, li_40, li_120, pk_mul, nI_add, nI_1, ix_eq, ix_lt, ix_le, ix_l0, ix_l1, ix_n0, ix_p0, ix_1lt, ix_lt1, ix_1le, ix_le1, ix_le0, ix_0lt, ab_z0, ab_z1, i_10, i_01, eq_self, ab_ozn, ab_ozp, ab_o_some, not_true_eq_false, not_false_eq_true, Bool.not_eq_false, Bool.not_eq_true, Bool.not_eq_false', Bool.not_eq_true', Bool.false_eq_true, Bool.true_eq_false, reduceCtorEq, Option.isSome_some, Option.isSome_none, kT, k13, k14, k15, k16, k17, k18, kc, ks, k19, k20, k21, k22, k25, ab_o1_some, ab_bt_or, ab_bt_and, ab_bt_one, ab_o1n, ab_o1p, decide_true, decide_false, Bool.true_and, Bool.and_true, beq_iff_eq, nI_ti, xN, x26, x27, x28, x29, x30, x31, hd] at h) <;> (try omega)) | refine ab_sd (by first | (with_reducible refine vp_in_nI ?_ ?_ <;> omega) | (simp (disch := omega) only [nI_clamp, li_2, li_3, li_4, li_5, li_6, li_7, li_8, li_9, li_10, li_40, li_120, pk_mul, nI_add, nI_1, ix_eq, ix_lt, ix_le, ix_l0, ix_l1, ix_n0, ix_p0, ix_1lt, ix_lt1, ix_1le, ix_le1, ix_le0, ix_0lt, ab_z0, ab_z1, i_10, i_01, eq_self, ab_ozn, ab_ozp, ab_o_some, not_true_eq_false, not_false_eq_true, Bool.not_eq_false, Bool.not_eq_true, Bool.not_eq_false', Bool.not_eq_true', Bool.false_eq_true, Bool.true_eq_false, reduceCtorEq, Option.isSome_some, Option.isSome_none, kT, k13, k14, k15, k16, k17, k18, kc, ks, k19, k20, k21, k22, k25, ab_o1_some, ab_bt_or, ab_bt_and, ab_bt_one, ab_o1n, ab_o1p, decide_true, decide_false, Bool.true_and, Bool.and_true, beq_iff_eq, nI_ti, xN, x26, x27, x28, x29, x30, x31, hd]; with_reducible refine vp_in_nI ?_ ?_ <;> omega)) ?_ | refine x_has hω (t := t) rfl (by omega) ?_ | refine x_one hω (t := t) rfl ?_ | refine ab_sd ?_ ?_ | refine ab_sz (Or.inl rfl) ?_ | refine ab_sz (Or.inr rfl) ?_ | refine ab_sz ?_ ?_)
    show Q _ _
    exact hQ _ (fun i hi => by rw [fx i, ab_bt_one (by omega)])
  | false =>
    rw [hd] at fx
    simp only [Bool.false_eq_true, if_false] at fx
    have main : ∀ (o : Int64) (v : Int32), (∀ i, ab_bt o i = s_opB S g t i) → j 30 [some (.ref 4), some (.int (nI t)), some (.int (nI g)), some (.int v), none, none, none, none] [.long o] μ := by
      intro o v ho
      have hoe : ab_bt o = s_opB S g t := funext ho
      have ge1 : ∀ i, s_nT S ≤ i → s_opB S g t i = false := fun i h => by
        unfold s_opB
        cases s_pa S t with
        | none => rfl
        | some p => exact s_pg_ge hW h
      have ge2 : ∀ i, s_nT S ≤ i → s_foB S g t i = false := fun i h => ab_ex_f (fun k _ => s_pg_ge hW h)
      have ge3 : ∀ i, s_nT S ≤ i → s_fpB S g t (s_opB S g t) i = false := fun i h => by unfold s_fpB; rw [ge1 i h]; rfl
      have ho2 : ∀ i, i < 64 → s_nT S ≤ i → ab_bt o i = false := fun i hi h => by rw [ho i]; exact ge1 i h
      have foE : ∀ fo : Int64, (∀ i, i < 64 → ab_bt fo i = ab_ex (fun u => s_isf S t u && ab_bt (μ.2 36 (40 * g + u)) i) (s_nT S)) → ab_bt fo = s_foB S g t := fun fo hfo => funext (fun i => by
        by_cases hi : i < 64
        · rw [hfo i hi, ab_ex_isf hW ht (G := fun u => ab_bt (μ.2 36 (40 * g + u)) i)]
          exact ab_ex_congr (fun k hk => hf k hk i)
        · rw [ab_bt_big (by omega), ge2 i (by omega)])
      have fpE : ∀ fp : Int64, (∀ i, i < 64 → ab_bt fp i = s_fpB S g t (ab_bt o) i) → ab_bt fp = s_fpB S g t (s_opB S g t) := fun fp hfp => funext (fun i => by
        by_cases hi : i < 64
        · rw [hfp i hi, hoe]
        · rw [ab_bt_big (by omega), ge3 i (by omega)])
      refine hj _ _ _ _ ?_
      repeat' (first | refine hjx _ _ _ _ (by decide) ?_ | (refine br_c (fun h => ?_) (fun h => ?_) <;> (try simp (disch := omega) only [nI_clamp, li_2, li_3, li_4, li_5, li_6, li_7, li_8, li_9, li_10, li_40, li_120, pk_mul, nI_add, nI_1, ix_eq, ix_lt, ix_le, ix_l0, ix_l1, ix_n0, ix_p0, ix_1lt, ix_lt1, ix_1le, ix_le1, ix_le0, ix_0lt, ab_z0, ab_z1, i_10, i_01, eq_self, ab_ozn, ab_ozp, ab_o_some, not_true_eq_false, not_false_eq_true, Bool.not_eq_false, Bool.not_eq_true, Bool.not_eq_false', Bool.not_eq_true', Bool.false_eq_true, Bool.true_eq_false, reduceCtorEq, Option.isSome_some, Option.isSome_none] at h) <;> (try omega)) | (refine br_n (fun h => ?_) (fun h => ?_) <;> (try simp (disch := omega) only [nI_clamp, li_2, li_3, li_4, li_5, li_6, li_7, li_8, li_9, li_10, li_40, li_120, pk_mul, nI_add, nI_1, ix_eq, ix_lt, ix_le, ix_l0, ix_l1, ix_n0, ix_p0, ix_1lt, ix_lt1, ix_1le, ix_le1, ix_le0, ix_0lt, ab_z0, ab_z1, i_10, i_01, eq_self, ab_ozn, ab_ozp, ab_o_some, not_true_eq_false, not_false_eq_true, Bool.not_eq_false, Bool.not_eq_true, Bool.not_eq_false', Bool.not_eq_true', Bool.false_eq_true, Bool.true_eq_false, reduceCtorEq, Option.isSome_some, Option.isSome_none] at h) <;> (try omega)) | refine ab_sd (by first | (with_reducible refine vp_in_nI ?_ ?_ <;> omega) | (simp (disch := omega) only [nI_clamp, li_2, li_3, li_4, li_5, li_6, li_7, li_8, li_9, li_10, li_40, li_120, pk_mul, nI_add, nI_1, ix_eq, ix_lt, ix_le, ix_l0, ix_l1, ix_n0, ix_p0, ix_1lt, ix_lt1, ix_1le, ix_le1, ix_le0, ix_0lt, ab_z0, ab_z1, i_10, i_01, eq_self, ab_ozn, ab_ozp, ab_o_some, not_true_eq_false, not_false_eq_true, Bool.not_eq_false, Bool.not_eq_true, Bool.not_eq_false', Bool.not_eq_true', Bool.false_eq_true, Bool.true_eq_false, reduceCtorEq, Option.isSome_some, Option.isSome_none]; with_reducible refine vp_in_nI ?_ ?_ <;> omega)) ?_ | refine x_fromParent hω T X hW (t := t) (g := g) rfl rfl ht (by omega) ho2 (fun fp hfp => ?_) | refine x_ofFaces hω T hI (t := t) (g := g) rfl rfl ht (by omega) (fun fo hfo => ?_) | refine x_fromFaces hω T X hW (g := g) rfl (by omega) ?_ ?_ (fun ff hff => ?_) | refine ab_sd ?_ ?_ | refine ab_sz (Or.inl rfl) ?_ | refine ab_sz (Or.inr rfl) ?_ | refine ab_sz ?_ ?_)
      · intro i hi h
        rw [foE _ hfo]; exact ge2 i h
      · intro i hi h
        rw [fpE _ hfp]; exact ge3 i h
      · show Q _ _
        refine hQ _ (fun i hi => ?_)
        rw [ab_bt_or, hff i hi, foE _ hfo, fpE _ hfp, hoe, fx i]
    have ixE : ∀ u, u < 40 → (nI g * 40 + nI u).toNatClampNeg = 40 * g + u := fun u hu => by rw [li_40, pk_mul, nI_add, nI_clamp (by omega), Nat.mul_comm]
    cases e : s_pa S t with
    | none =>
      repeat' (first | refine hjx _ _ _ _ (by decide) ?_ | (refine br_c (fun h => ?_) (fun h => ?_) <;> (try simp (disch := omega) only [nI_clamp, li_2, li_3, li_4, li_5, li_6, li_7, li_8, li_9, li_10, li_40, li_120, pk_mul, nI_add, nI_1, ix_eq, ix_lt, ix_le, ix_l0, ix_l1, ix_n0, ix_p0, ix_1lt, ix_lt1, ix_1le, ix_le1, ix_le0, ix_0lt, ab_z0, ab_z1, i_10, i_01, eq_self, ab_ozn, ab_ozp, ab_o_some, not_true_eq_false, not_false_eq_true, Bool.not_eq_false, Bool.not_eq_true, Bool.not_eq_false', Bool.not_eq_true', Bool.false_eq_true, Bool.true_eq_false, reduceCtorEq, Option.isSome_some, Option.isSome_none, kT, k13, k14, k15, k16, k17, k18, kc, ks, k19, k20, k21, k22, k25, ab_o1_some, ab_bt_or, ab_bt_and, ab_bt_one, ab_o1n, ab_o1p, decide_true, decide_false, Bool.true_and, Bool.and_true, beq_iff_eq, nI_ti, xN, x26, x27, x28, x29, x30, x31, hd, e] at h) <;> (try omega)) | (refine br_n (fun h => ?_) (fun h => ?_) <;> (try simp (disch := omega) only [nI_clamp, li_2, li_3, li_4, li_5, li_6, li_7, li_8, li_9, li_10, li_40, li_120, pk_mul, nI_add, nI_1, ix_eq, ix_lt, ix_le, ix_l0, ix_l1, ix_n0, ix_p0, ix_1lt, ix_lt1, ix_1le, ix_le1, ix_le0, ix_0lt, ab_z0, ab_z1, i_10, i_01, eq_self, ab_ozn, ab_ozp, ab_o_some, not_true_eq_false, not_false_eq_true, Bool.not_eq_false, Bool.not_eq_true, Bool.not_eq_false', Bool.not_eq_true', Bool.false_eq_true, Bool.true_eq_false, reduceCtorEq, Option.isSome_some, Option.isSome_none, kT, k13, k14, k15, k16, k17, k18, kc, ks, k19, k20, k21, k22, k25, ab_o1_some, ab_bt_or, ab_bt_and, ab_bt_one, ab_o1n, ab_o1p, decide_true, decide_false, Bool.true_and, Bool.and_true, beq_iff_eq, nI_ti, xN, x26, x27, x28, x29, x30, x31, hd, e] at h) <;> (try omega)) | refine ab_sd (by first | (with_reducible refine vp_in_nI ?_ ?_ <;> omega) | (simp (disch := omega) only [nI_clamp, li_2, li_3, li_4, li_5, li_6, li_7, li_8, li_9, li_10, li_40, li_120, pk_mul, nI_add, nI_1, ix_eq, ix_lt, ix_le, ix_l0, ix_l1, ix_n0, ix_p0, ix_1lt, ix_lt1, ix_1le, ix_le1, ix_le0, ix_0lt, ab_z0, ab_z1, i_10, i_01, eq_self, ab_ozn, ab_ozp, ab_o_some, not_true_eq_false, not_false_eq_true, Bool.not_eq_false, Bool.not_eq_true, Bool.not_eq_false', Bool.not_eq_true', Bool.false_eq_true, Bool.true_eq_false, reduceCtorEq, Option.isSome_some, Option.isSome_none, kT, k13, k14, k15, k16, k17, k18, kc, ks, k19, k20, k21, k22, k25, ab_o1_some, ab_bt_or, ab_bt_and, ab_bt_one, ab_o1n, ab_o1p, decide_true, decide_false, Bool.true_and, Bool.and_true, beq_iff_eq, nI_ti, xN, x26, x27, x28, x29, x30, x31, hd, e]; with_reducible refine vp_in_nI ?_ ?_ <;> omega)) ?_ | refine x_has hω (t := t) rfl (by omega) ?_ | refine ab_sd ?_ ?_ | refine ab_sz (Or.inl rfl) ?_ | refine ab_sz (Or.inr rfl) ?_ | refine ab_sz ?_ ?_)
      refine main _ _ (fun i => ?_)
      rw [ab_bt_0]
      unfold s_opB
      rw [e]
    | some p =>
      have hpl := t8 p e
      have c3 : (nI p = -1) ↔ False := ⟨fun q => by have := nI_pos (n := p) (by omega); rw [q] at this; exact this (by decide), False.elim⟩
      repeat' (first | refine hjx _ _ _ _ (by decide) ?_ | (refine br_c (fun h => ?_) (fun h => ?_) <;> (try simp (disch := omega) only [nI_clamp, li_2, li_3, li_4, li_5, li_6, li_7, li_8, li_9, li_10, li_40, li_120, pk_mul, nI_add, nI_1, ix_eq, ix_lt, ix_le, ix_l0, ix_l1, ix_n0, ix_p0, ix_1lt, ix_lt1, ix_1le, ix_le1, ix_le0, ix_0lt, ab_z0, ab_z1, i_10, i_01, eq_self, ab_ozn, ab_ozp, ab_o_some, not_true_eq_false, not_false_eq_true, Bool.not_eq_false, Bool.not_eq_true, Bool.not_eq_false', Bool.not_eq_true', Bool.false_eq_true, Bool.true_eq_false, reduceCtorEq, Option.isSome_some, Option.isSome_none, kT, k13, k14, k15, k16, k17, k18, kc, ks, k19, k20, k21, k22, k25, ab_o1_some, ab_bt_or, ab_bt_and, ab_bt_one, ab_o1n, ab_o1p, decide_true, decide_false, Bool.true_and, Bool.and_true, beq_iff_eq, nI_ti, xN, x26, x27, x28, x29, x30, x31, hd, e, c3] at h) <;> (try omega)) | (refine br_n (fun h => ?_) (fun h => ?_) <;> (try simp (disch := omega) only [nI_clamp, li_2, li_3, li_4, li_5, li_6, li_7, li_8, li_9, li_10, li_40, li_120, pk_mul, nI_add, nI_1, ix_eq, ix_lt, ix_le, ix_l0, ix_l1, ix_n0, ix_p0, ix_1lt, ix_lt1, ix_1le, ix_le1, ix_le0, ix_0lt, ab_z0, ab_z1, i_10, i_01, eq_self, ab_ozn, ab_ozp, ab_o_some, not_true_eq_false, not_false_eq_true, Bool.not_eq_false, Bool.not_eq_true, Bool.not_eq_false', Bool.not_eq_true', Bool.false_eq_true, Bool.true_eq_false, reduceCtorEq, Option.isSome_some, Option.isSome_none, kT, k13, k14, k15, k16, k17, k18, kc, ks, k19, k20, k21, k22, k25, ab_o1_some, ab_bt_or, ab_bt_and, ab_bt_one, ab_o1n, ab_o1p, decide_true, decide_false, Bool.true_and, Bool.and_true, beq_iff_eq, nI_ti, xN, x26, x27, x28, x29, x30, x31, hd, e, c3] at h) <;> (try omega)) | refine ab_sd (by first | (with_reducible refine vp_in_nI ?_ ?_ <;> omega) | (simp (disch := omega) only [nI_clamp, li_2, li_3, li_4, li_5, li_6, li_7, li_8, li_9, li_10, li_40, li_120, pk_mul, nI_add, nI_1, ix_eq, ix_lt, ix_le, ix_l0, ix_l1, ix_n0, ix_p0, ix_1lt, ix_lt1, ix_1le, ix_le1, ix_le0, ix_0lt, ab_z0, ab_z1, i_10, i_01, eq_self, ab_ozn, ab_ozp, ab_o_some, not_true_eq_false, not_false_eq_true, Bool.not_eq_false, Bool.not_eq_true, Bool.not_eq_false', Bool.not_eq_true', Bool.false_eq_true, Bool.true_eq_false, reduceCtorEq, Option.isSome_some, Option.isSome_none, kT, k13, k14, k15, k16, k17, k18, kc, ks, k19, k20, k21, k22, k25, ab_o1_some, ab_bt_or, ab_bt_and, ab_bt_one, ab_o1n, ab_o1p, decide_true, decide_false, Bool.true_and, Bool.and_true, beq_iff_eq, nI_ti, xN, x26, x27, x28, x29, x30, x31, hd, e, c3]; with_reducible refine vp_in_nI ?_ ?_ <;> omega)) ?_ | refine x_has hω (t := t) rfl (by omega) ?_ | refine ab_sd ?_ ?_ | refine ab_sz (Or.inl rfl) ?_ | refine ab_sz (Or.inr rfl) ?_ | refine ab_sz ?_ ?_)
      refine main _ _ (fun i => ?_)
      rw [nI_clamp (by omega), k17 t ht, e, ab_o1_some, ixE p (by omega), hp p e i]
      unfold s_opB
      rw [e]
theorem s_pg_mk (hI : Iv S) {t g : Nat} (hg : ¬ g < 20) (hg2 : g < 30) (i : Nat) : s_pg S g (s_of S t) i = ((s_dg S i g).isSome && decide (i = t)) := by
  cases e : s_dg S i g with
  | none => rw [s_pg_none e]; rfl
  | some m =>
    obtain ⟨h1, h2, h3, h4, h5⟩ := s_dg_some hI.1 e
    rw [s_pg_some e]
    show s_ofS S _ t m = _
    unfold s_ofS
    rw [h2, h3, show g / 10 = 2 by omega]
    by_cases q : i = t
    · simp [q]
    · simp [q]
theorem x_membersOfP {ρ : Nat → Nat} (hω : ω.2.2.2 = ab_SH) (C : RepC S μ) (hI : Iv S) (hR : Rk S ρ) {x y : Int32} {t g : Nat} (ex : x = nI t) (ey : y = nI g) (ht : t < s_nT S) (hg : g < 30) (hQ : ∀ μ' w, RepC S μ' → SameP μ μ' → (∀ i, ab_bt w i = s_pg S g (s_of S t) i) → Q w μ') : ab_CL l ω mX2_membersOf [.ref 4, .int x, .int y] μ Q := by
  subst ex ey
  refine ab_intro (sh := ab_SH) (cd := kX2_membersOf) hω vX2_membersOf (by decide +kernel) rfl (Nat.le_of_ble_eq_true rfl) (fun j hj hw => ?_)
  have hjx : ∀ i ll st μ, i ∉ ([31, 64] : List Nat) → _ → j i ll st μ := fun i ll st μ _ h => hj i ll st μ h
  have C0 := C
  obtain ⟨M, T, X, CI, CO⟩ := C
  have hW := hI.1
  have hT := hW.2.2.1.2
  obtain ⟨od, ps, o1, o2, o3⟩ := T.2.2.2.2.2.2
  obtain ⟨kT, kc, ks, k13, k14, k15, k16, k17, k18, k22, k19, k20, k21, k25⟩ := RepT_fs T
  obtain ⟨xN, x26, x27, x28, x29, x30, x31, x32, x33, x34, x35⟩ := RepX_fs X
  have ixE : ∀ u, u < 40 → (nI g * 40 + nI u).toNatClampNeg = 40 * g + u := fun u hu => by rw [li_40, pk_mul, nI_add, nI_clamp (by omega), Nat.mul_comm]
  have hQ64 : ∀ μ' (w : Int64), RepC S μ' → SameP μ μ' → (∀ i, i < 64 → ab_bt w i = s_pg S g (s_of S t) i) → Q w μ' := fun μ' w a b h => hQ μ' w a b (fun i => by
    by_cases hi : i < 64
    · exact h i hi
    · rw [ab_bt_big (by omega), s_pg_ge hW (by omega)])
  by_cases hg2 : g < 20
  · by_cases hz : μ.2 31 g = 0
    · repeat' (first | refine hjx _ _ _ _ (by decide) ?_ | (refine br_c (fun h => ?_) (fun h => ?_) <;> (try simp (disch := omega) only [nI_clamp, li_2, li_3, li_4, li_5, li_6, li_7, li_8, li_9, li_10, li_40, li_120, pk_mul, nI_add, nI_1, ix_eq, ix_lt, ix_le, ix_l0, ix_l1, ix_n0, ix_p0, ix_1lt, ix_lt1, ix_1le, ix_le1, ix_le0, ix_0lt, ab_z0, ab_z1, i_10, i_01, eq_self, ab_ozn, ab_ozp, ab_o_some, not_true_eq_false, not_false_eq_true, Bool.not_eq_false, Bool.not_eq_true, Bool.not_eq_false', Bool.not_eq_true', Bool.false_eq_true, Bool.true_eq_false, reduceCtorEq, Option.isSome_some, Option.isSome_none, lg_cmp_eq, hz, show (20 : Int32) = nI 20 from rfl] at h) <;> (try omega)) | (refine br_n (fun h => ?_) (fun h => ?_) <;> (try simp (disch := omega) only [nI_clamp, li_2, li_3, li_4, li_5, li_6, li_7, li_8, li_9, li_10, li_40, li_120, pk_mul, nI_add, nI_1, ix_eq, ix_lt, ix_le, ix_l0, ix_l1, ix_n0, ix_p0, ix_1lt, ix_lt1, ix_1le, ix_le1, ix_le0, ix_0lt, ab_z0, ab_z1, i_10, i_01, eq_self, ab_ozn, ab_ozp, ab_o_some, not_true_eq_false, not_false_eq_true, Bool.not_eq_false, Bool.not_eq_true, Bool.not_eq_false', Bool.not_eq_true', Bool.false_eq_true, Bool.true_eq_false, reduceCtorEq, Option.isSome_some, Option.isSome_none, lg_cmp_eq, hz, show (20 : Int32) = nI 20 from rfl] at h) <;> (try omega)) | refine ab_sd (by first | (with_reducible refine vp_in_nI ?_ ?_ <;> omega) | (simp (disch := omega) only [nI_clamp, li_2, li_3, li_4, li_5, li_6, li_7, li_8, li_9, li_10, li_40, li_120, pk_mul, nI_add, nI_1, ix_eq, ix_lt, ix_le, ix_l0, ix_l1, ix_n0, ix_p0, ix_1lt, ix_lt1, ix_1le, ix_le1, ix_le0, ix_0lt, ab_z0, ab_z1, i_10, i_01, eq_self, ab_ozn, ab_ozp, ab_o_some, not_true_eq_false, not_false_eq_true, Bool.not_eq_false, Bool.not_eq_true, Bool.not_eq_false', Bool.not_eq_true', Bool.false_eq_true, Bool.true_eq_false, reduceCtorEq, Option.isSome_some, Option.isSome_none, lg_cmp_eq, hz, show (20 : Int32) = nI 20 from rfl]; with_reducible refine vp_in_nI ?_ ?_ <;> omega)) ?_ | refine ab_sd ?_ ?_ | refine ab_sz (Or.inl rfl) ?_ | refine ab_sz (Or.inr rfl) ?_ | refine ab_sz ?_ ?_)
      show Q _ _
      refine hQ μ _ C0 SameP.rf (fun i => ?_)
      have := x31 g i hg
      rw [hz, ab_bt_0] at this
      cases e : s_dg S i g with
      | none => rw [ab_bt_0, s_pg_none e]
      | some m => rw [e] at this; cases this
    · have fin : ∀ μ' v3 v4, RepC S μ' → SameP μ μ' → (∀ i, ab_bt (μ'.2 36 (40 * g + t)) i = s_pg S g (s_of S t) i) → j 64 [some (.ref 4), some (.int (nI t)), some (.int (nI g)), v3, v4] [] μ' := by
        intro μ' v3 v4 h1 h2 h3
        refine hj _ _ _ _ ?_
        repeat' (first | refine hjx _ _ _ _ (by decide) ?_ | (refine br_c (fun h => ?_) (fun h => ?_) <;> (try simp (disch := omega) only [nI_clamp, li_2, li_3, li_4, li_5, li_6, li_7, li_8, li_9, li_10, li_40, li_120, pk_mul, nI_add, nI_1, ix_eq, ix_lt, ix_le, ix_l0, ix_l1, ix_n0, ix_p0, ix_1lt, ix_lt1, ix_1le, ix_le1, ix_le0, ix_0lt, ab_z0, ab_z1, i_10, i_01, eq_self, ab_ozn, ab_ozp, ab_o_some, not_true_eq_false, not_false_eq_true, Bool.not_eq_false, Bool.not_eq_true, Bool.not_eq_false', Bool.not_eq_true', Bool.false_eq_true, Bool.true_eq_false, reduceCtorEq, Option.isSome_some, Option.isSome_none] at h) <;> (try omega)) | (refine br_n (fun h => ?_) (fun h => ?_) <;> (try simp (disch := omega) only [nI_clamp, li_2, li_3, li_4, li_5, li_6, li_7, li_8, li_9, li_10, li_40, li_120, pk_mul, nI_add, nI_1, ix_eq, ix_lt, ix_le, ix_l0, ix_l1, ix_n0, ix_p0, ix_1lt, ix_lt1, ix_1le, ix_le1, ix_le0, ix_0lt, ab_z0, ab_z1, i_10, i_01, eq_self, ab_ozn, ab_ozp, ab_o_some, not_true_eq_false, not_false_eq_true, Bool.not_eq_false, Bool.not_eq_true, Bool.not_eq_false', Bool.not_eq_true', Bool.false_eq_true, Bool.true_eq_false, reduceCtorEq, Option.isSome_some, Option.isSome_none] at h) <;> (try omega)) | refine ab_sd (by first | (with_reducible refine vp_in_nI ?_ ?_ <;> omega) | (simp (disch := omega) only [nI_clamp, li_2, li_3, li_4, li_5, li_6, li_7, li_8, li_9, li_10, li_40, li_120, pk_mul, nI_add, nI_1, ix_eq, ix_lt, ix_le, ix_l0, ix_l1, ix_n0, ix_p0, ix_1lt, ix_lt1, ix_1le, ix_le1, ix_le0, ix_0lt, ab_z0, ab_z1, i_10, i_01, eq_self, ab_ozn, ab_ozp, ab_o_some, not_true_eq_false, not_false_eq_true, Bool.not_eq_false, Bool.not_eq_true, Bool.not_eq_false', Bool.not_eq_true', Bool.false_eq_true, Bool.true_eq_false, reduceCtorEq, Option.isSome_some, Option.isSome_none]; with_reducible refine vp_in_nI ?_ ?_ <;> omega)) ?_ | refine ab_sd ?_ ?_ | refine ab_sz (Or.inl rfl) ?_ | refine ab_sz (Or.inr rfl) ?_ | refine ab_sz ?_ ?_)
        show Q _ _
        rw [ixE t (by omega)]
        exact hQ μ' _ h1 h2 h3
      have e4 := ab_b_has (x := μ.1 4 3) (n := g) (by omega)
      cases hk : bt (μ.1 4 3) g with
      | true =>
        rw [hk] at e4
        repeat' (first | refine hjx _ _ _ _ (by decide) ?_ | (refine br_c (fun h => ?_) (fun h => ?_) <;> (try simp (disch := omega) only [nI_clamp, li_2, li_3, li_4, li_5, li_6, li_7, li_8, li_9, li_10, li_40, li_120, pk_mul, nI_add, nI_1, ix_eq, ix_lt, ix_le, ix_l0, ix_l1, ix_n0, ix_p0, ix_1lt, ix_lt1, ix_1le, ix_le1, ix_le0, ix_0lt, ab_z0, ab_z1, i_10, i_01, eq_self, ab_ozn, ab_ozp, ab_o_some, not_true_eq_false, not_false_eq_true, Bool.not_eq_false, Bool.not_eq_true, Bool.not_eq_false', Bool.not_eq_true', Bool.false_eq_true, Bool.true_eq_false, reduceCtorEq, Option.isSome_some, Option.isSome_none, lg_cmp_eq, hz, e4, show (20 : Int32) = nI 20 from rfl] at h) <;> (try omega)) | (refine br_n (fun h => ?_) (fun h => ?_) <;> (try simp (disch := omega) only [nI_clamp, li_2, li_3, li_4, li_5, li_6, li_7, li_8, li_9, li_10, li_40, li_120, pk_mul, nI_add, nI_1, ix_eq, ix_lt, ix_le, ix_l0, ix_l1, ix_n0, ix_p0, ix_1lt, ix_lt1, ix_1le, ix_le1, ix_le0, ix_0lt, ab_z0, ab_z1, i_10, i_01, eq_self, ab_ozn, ab_ozp, ab_o_some, not_true_eq_false, not_false_eq_true, Bool.not_eq_false, Bool.not_eq_true, Bool.not_eq_false', Bool.not_eq_true', Bool.false_eq_true, Bool.true_eq_false, reduceCtorEq, Option.isSome_some, Option.isSome_none, lg_cmp_eq, hz, e4, show (20 : Int32) = nI 20 from rfl] at h) <;> (try omega)) | refine ab_sd (by first | (with_reducible refine vp_in_nI ?_ ?_ <;> omega) | (simp (disch := omega) only [nI_clamp, li_2, li_3, li_4, li_5, li_6, li_7, li_8, li_9, li_10, li_40, li_120, pk_mul, nI_add, nI_1, ix_eq, ix_lt, ix_le, ix_l0, ix_l1, ix_n0, ix_p0, ix_1lt, ix_lt1, ix_1le, ix_le1, ix_le0, ix_0lt, ab_z0, ab_z1, i_10, i_01, eq_self, ab_ozn, ab_ozp, ab_o_some, not_true_eq_false, not_false_eq_true, Bool.not_eq_false, Bool.not_eq_true, Bool.not_eq_false', Bool.not_eq_true', Bool.false_eq_true, Bool.true_eq_false, reduceCtorEq, Option.isSome_some, Option.isSome_none, lg_cmp_eq, hz, e4, show (20 : Int32) = nI 20 from rfl]; with_reducible refine vp_in_nI ?_ ?_ <;> omega)) ?_ | refine ab_sd ?_ ?_ | refine ab_sz (Or.inl rfl) ?_ | refine ab_sz (Or.inr rfl) ?_ | refine ab_sz ?_ ?_)
        exact fin μ _ _ C0 SameP.rf (CI g hg2 hk t ht)
      | false =>
        rw [hk] at e4
        have key : ∀ d n μ' v, n + d = s_nT S → μ'.1 = μ.1 → (∀ k j, (k ≠ 36 ∨ j < 40 * g ∨ 40 * g + 40 ≤ j) → μ'.2 k j = μ.2 k j) → (∀ k, k < n → ∀ i, ab_bt (μ'.2 36 (40 * g + od k)) i = s_pg S g (s_of S (od k)) i) → j 31 [some (.ref 4), some (.int (nI t)), some (.int (nI g)), some (.int (nI n)), v] [] μ' := by
          intro d
          induction d with
          | zero =>
            intro n μ' v hn h1 h2 h3
            refine hj _ _ _ _ ?_
            have e0 : μ'.1 2 0 = nI (s_nT S) := by rw [h1]; exact kT
            repeat' (first | refine hjx _ _ _ _ (by decide) ?_ | (refine br_c (fun h => ?_) (fun h => ?_) <;> (try simp (disch := omega) only [nI_clamp, li_2, li_3, li_4, li_5, li_6, li_7, li_8, li_9, li_10, li_40, li_120, pk_mul, nI_add, nI_1, ix_eq, ix_lt, ix_le, ix_l0, ix_l1, ix_n0, ix_p0, ix_1lt, ix_lt1, ix_1le, ix_le1, ix_le0, ix_0lt, ab_z0, ab_z1, i_10, i_01, eq_self, ab_ozn, ab_ozp, ab_o_some, not_true_eq_false, not_false_eq_true, Bool.not_eq_false, Bool.not_eq_true, Bool.not_eq_false', Bool.not_eq_true', Bool.false_eq_true, Bool.true_eq_false, reduceCtorEq, Option.isSome_some, Option.isSome_none, e0] at h) <;> (try omega)) | (refine br_n (fun h => ?_) (fun h => ?_) <;> (try simp (disch := omega) only [nI_clamp, li_2, li_3, li_4, li_5, li_6, li_7, li_8, li_9, li_10, li_40, li_120, pk_mul, nI_add, nI_1, ix_eq, ix_lt, ix_le, ix_l0, ix_l1, ix_n0, ix_p0, ix_1lt, ix_lt1, ix_1le, ix_le1, ix_le0, ix_0lt, ab_z0, ab_z1, i_10, i_01, eq_self, ab_ozn, ab_ozp, ab_o_some, not_true_eq_false, not_false_eq_true, Bool.not_eq_false, Bool.not_eq_true, Bool.not_eq_false', Bool.not_eq_true', Bool.false_eq_true, Bool.true_eq_false, reduceCtorEq, Option.isSome_some, Option.isSome_none, e0] at h) <;> (try omega)) | refine ab_sd (by first | (with_reducible refine vp_in_nI ?_ ?_ <;> omega) | (simp (disch := omega) only [nI_clamp, li_2, li_3, li_4, li_5, li_6, li_7, li_8, li_9, li_10, li_40, li_120, pk_mul, nI_add, nI_1, ix_eq, ix_lt, ix_le, ix_l0, ix_l1, ix_n0, ix_p0, ix_1lt, ix_lt1, ix_1le, ix_le1, ix_le0, ix_0lt, ab_z0, ab_z1, i_10, i_01, eq_self, ab_ozn, ab_ozp, ab_o_some, not_true_eq_false, not_false_eq_true, Bool.not_eq_false, Bool.not_eq_true, Bool.not_eq_false', Bool.not_eq_true', Bool.false_eq_true, Bool.true_eq_false, reduceCtorEq, Option.isSome_some, Option.isSome_none, e0]; with_reducible refine vp_in_nI ?_ ?_ <;> omega)) ?_ | refine ab_sd ?_ ?_ | refine ab_sz (Or.inl rfl) ?_ | refine ab_sz (Or.inr rfl) ?_ | refine ab_sz ?_ ?_)
            show j 64 _ _ _
            have sq : SameP μ μ' := ⟨fun k j _ => by rw [h1], fun k j e => h2 k j (Or.inl (fun q => by rw [q] at e; simp [ca_p] at e))⟩
            have sq2 : SameP μ (ab_mi μ' 4 3 (μ'.1 4 3 ||| ((1 : Int32) <<< (nI g &&& 31)))) := sq.mi rfl
            have row : ∀ u, u < s_nT S → ∀ i, ab_bt (μ'.2 36 (40 * g + u)) i = s_pg S g (s_of S u) i := fun u hu i => by
              have a := o2 u hu
              have b := h3 (ps u) (by omega) i
              rw [a.2] at b
              exact b
            refine fin _ _ _ ⟨RepM_q M sq2.q, RepT_q T sq2.q, RepX_q X sq2.q, ?_, ?_⟩ sq2 (row t ht)
            · intro g' hg' hb u hu i
              have hb : (bt (μ'.1 4 3) g' || bt ((1 : Int32) <<< (nI g &&& 31)) g') = true := by
                rw [← b_or]
                simpa [ab_mi] using hb
              rw [ab_b_one g (by omega) g' (by omega), h1] at hb
              show ab_bt (μ'.2 36 (40 * g' + u)) i = _
              by_cases q : g' = g
              · subst q; exact row u hu i
              · simp only [q, decide_false, Bool.or_false] at hb
                rw [h2 36 _ (Or.inr (by omega))]
                exact CI g' hg' hb u hu i
            · intro n' hn' hb u hu i
              have hb : bt (μ.1 5 4) n' = true := by
                rw [← h1]
                simpa [ab_mi] using hb
              show ab_bt (μ'.2 37 (40 * n' + u)) i = _ ∧ ab_bt (μ'.2 38 (40 * n' + u)) i = _
              rw [h2 37 _ (Or.inl (by omega)), h2 38 _ (Or.inl (by omega))]
              exact CO n' hn' hb u hu i
          | succ d ih =>
            intro n μ' v hn h1 h2 h3
            refine hj _ _ _ _ ?_
            have e0 : μ'.1 2 0 = nI (s_nT S) := by rw [h1]; exact kT
            obtain ⟨w1, w2, w3⟩ := o1 n (by omega)
            have e1 : μ'.1 23 n = nI (od n) := by rw [h1]; exact w3
            obtain ⟨t1, t2, t3, t4, t5, t6, t7, t8⟩ := hW.2.2.2.2.2.1 (od n) w1
            have sq : SameP μ μ' := ⟨fun k j _ => by rw [h1], fun k j e => h2 k j (Or.inl (fun q => by rw [q] at e; simp [ca_p] at e))⟩
            have bef : ∀ u, u < s_nT S → s_ab S (od n) u = true → ∀ i, ab_bt (μ'.2 36 (40 * g + u)) i = s_pg S g (s_of S u) i := fun u hu ha i => by
              have a := o2 u hu
              have c := o3 (od n) u w1 hu ha
              have b := h3 (ps u) (by omega) i
              rw [a.2] at b
              exact b
            have eod : (μ'.1 23 (nI n).toNatClampNeg) = nI (od n) := by rw [nI_clamp (by omega), e1]
            repeat' (first | refine hjx _ _ _ _ (by decide) ?_ | (refine br_c (fun h => ?_) (fun h => ?_) <;> (try simp (disch := omega) only [nI_clamp, li_2, li_3, li_4, li_5, li_6, li_7, li_8, li_9, li_10, li_40, li_120, pk_mul, nI_add, nI_1, ix_eq, ix_lt, ix_le, ix_l0, ix_l1, ix_n0, ix_p0, ix_1lt, ix_lt1, ix_1le, ix_le1, ix_le0, ix_0lt, ab_z0, ab_z1, i_10, i_01, eq_self, ab_ozn, ab_ozp, ab_o_some, not_true_eq_false, not_false_eq_true, Bool.not_eq_false, Bool.not_eq_true, Bool.not_eq_false', Bool.not_eq_true', Bool.false_eq_true, Bool.true_eq_false, reduceCtorEq, Option.isSome_some, Option.isSome_none, e0, e1] at h) <;> (try omega)) | (refine br_n (fun h => ?_) (fun h => ?_) <;> (try simp (disch := omega) only [nI_clamp, li_2, li_3, li_4, li_5, li_6, li_7, li_8, li_9, li_10, li_40, li_120, pk_mul, nI_add, nI_1, ix_eq, ix_lt, ix_le, ix_l0, ix_l1, ix_n0, ix_p0, ix_1lt, ix_lt1, ix_1le, ix_le1, ix_le0, ix_0lt, ab_z0, ab_z1, i_10, i_01, eq_self, ab_ozn, ab_ozp, ab_o_some, not_true_eq_false, not_false_eq_true, Bool.not_eq_false, Bool.not_eq_true, Bool.not_eq_false', Bool.not_eq_true', Bool.false_eq_true, Bool.true_eq_false, reduceCtorEq, Option.isSome_some, Option.isSome_none, e0, e1] at h) <;> (try omega)) | refine ab_sd (by first | (with_reducible refine vp_in_nI ?_ ?_ <;> omega) | (simp (disch := omega) only [nI_clamp, li_2, li_3, li_4, li_5, li_6, li_7, li_8, li_9, li_10, li_40, li_120, pk_mul, nI_add, nI_1, ix_eq, ix_lt, ix_le, ix_l0, ix_l1, ix_n0, ix_p0, ix_1lt, ix_lt1, ix_1le, ix_le1, ix_le0, ix_0lt, ab_z0, ab_z1, i_10, i_01, eq_self, ab_ozn, ab_ozp, ab_o_some, not_true_eq_false, not_false_eq_true, Bool.not_eq_false, Bool.not_eq_true, Bool.not_eq_false', Bool.not_eq_true', Bool.false_eq_true, Bool.true_eq_false, reduceCtorEq, Option.isSome_some, Option.isSome_none, e0, e1]; with_reducible refine vp_in_nI ?_ ?_ <;> omega)) ?_ | refine x_find hω (RepT_q T sq.q) (RepX_q X sq.q) hI hR (t := od n) (g := g) eod rfl w1 hg2 (fun p e => bef p (t8 p e) (hI.2.2.2.1 _ p w1 e)) (fun k hk => bef _ (t6 k hk) (hI.2.2.2.2.1 _ k w1 hk)) (fun w hw2 => ?_) | refine ab_sd ?_ ?_ | refine ab_sz (Or.inl rfl) ?_ | refine ab_sz (Or.inr rfl) ?_ | refine ab_sz ?_ ?_)
            show j 31 _ _ _
            rw [nI_1, eod, ixE (od n) (by omega)]
            refine ih (n + 1) _ _ (by omega) h1 (fun k jj hkj => ?_) (fun k hk i => ?_)
            · have : ¬ (k = 36 ∧ jj = 40 * g + od n) := by omega
              simp only [ab_mj, if_neg this]
              exact h2 k jj hkj
            · by_cases q : k = n
              · subst q
                simp only [ab_mj, and_self, if_true]
                exact hw2 i
              · obtain ⟨v1, v2, v3⟩ := o1 k (by omega)
                have : ¬ od k = od n := fun q2 => q (by rw [← v2, ← w2, q2])
                have : ¬ 40 * g + od k = 40 * g + od n := by omega
                simp only [ab_mj, this, and_false, if_false]
                exact h3 k (by omega) i
        repeat' (first | refine hjx _ _ _ _ (by decide) ?_ | (refine br_c (fun h => ?_) (fun h => ?_) <;> (try simp (disch := omega) only [nI_clamp, li_2, li_3, li_4, li_5, li_6, li_7, li_8, li_9, li_10, li_40, li_120, pk_mul, nI_add, nI_1, ix_eq, ix_lt, ix_le, ix_l0, ix_l1, ix_n0, ix_p0, ix_1lt, ix_lt1, ix_1le, ix_le1, ix_le0, ix_0lt, ab_z0, ab_z1, i_10, i_01, eq_self, ab_ozn, ab_ozp, ab_o_some, not_true_eq_false, not_false_eq_true, Bool.not_eq_false, Bool.not_eq_true, Bool.not_eq_false', Bool.not_eq_true', Bool.false_eq_true, Bool.true_eq_false, reduceCtorEq, Option.isSome_some, Option.isSome_none, lg_cmp_eq, hz, e4, show (20 : Int32) = nI 20 from rfl] at h) <;> (try omega)) | (refine br_n (fun h => ?_) (fun h => ?_) <;> (try simp (disch := omega) only [nI_clamp, li_2, li_3, li_4, li_5, li_6, li_7, li_8, li_9, li_10, li_40, li_120, pk_mul, nI_add, nI_1, ix_eq, ix_lt, ix_le, ix_l0, ix_l1, ix_n0, ix_p0, ix_1lt, ix_lt1, ix_1le, ix_le1, ix_le0, ix_0lt, ab_z0, ab_z1, i_10, i_01, eq_self, ab_ozn, ab_ozp, ab_o_some, not_true_eq_false, not_false_eq_true, Bool.not_eq_false, Bool.not_eq_true, Bool.not_eq_false', Bool.not_eq_true', Bool.false_eq_true, Bool.true_eq_false, reduceCtorEq, Option.isSome_some, Option.isSome_none, lg_cmp_eq, hz, e4, show (20 : Int32) = nI 20 from rfl] at h) <;> (try omega)) | refine ab_sd (by first | (with_reducible refine vp_in_nI ?_ ?_ <;> omega) | (simp (disch := omega) only [nI_clamp, li_2, li_3, li_4, li_5, li_6, li_7, li_8, li_9, li_10, li_40, li_120, pk_mul, nI_add, nI_1, ix_eq, ix_lt, ix_le, ix_l0, ix_l1, ix_n0, ix_p0, ix_1lt, ix_lt1, ix_1le, ix_le1, ix_le0, ix_0lt, ab_z0, ab_z1, i_10, i_01, eq_self, ab_ozn, ab_ozp, ab_o_some, not_true_eq_false, not_false_eq_true, Bool.not_eq_false, Bool.not_eq_true, Bool.not_eq_false', Bool.not_eq_true', Bool.false_eq_true, Bool.true_eq_false, reduceCtorEq, Option.isSome_some, Option.isSome_none, lg_cmp_eq, hz, e4, show (20 : Int32) = nI 20 from rfl]; with_reducible refine vp_in_nI ?_ ?_ <;> omega)) ?_ | refine ab_sd ?_ ?_ | refine ab_sz (Or.inl rfl) ?_ | refine ab_sz (Or.inr rfl) ?_ | refine ab_sz ?_ ?_)
        exact key (s_nT S) 0 μ _ (by omega) rfl (fun _ _ _ => rfl) (fun k hk => by omega)
  · repeat' (first | refine hjx _ _ _ _ (by decide) ?_ | (refine br_c (fun h => ?_) (fun h => ?_) <;> (try simp (disch := omega) only [nI_clamp, li_2, li_3, li_4, li_5, li_6, li_7, li_8, li_9, li_10, li_40, li_120, pk_mul, nI_add, nI_1, ix_eq, ix_lt, ix_le, ix_l0, ix_l1, ix_n0, ix_p0, ix_1lt, ix_lt1, ix_1le, ix_le1, ix_le0, ix_0lt, ab_z0, ab_z1, i_10, i_01, eq_self, ab_ozn, ab_ozp, ab_o_some, not_true_eq_false, not_false_eq_true, Bool.not_eq_false, Bool.not_eq_true, Bool.not_eq_false', Bool.not_eq_true', Bool.false_eq_true, Bool.true_eq_false, reduceCtorEq, Option.isSome_some, Option.isSome_none, show (20 : Int32) = nI 20 from rfl] at h) <;> (try omega)) | (refine br_n (fun h => ?_) (fun h => ?_) <;> (try simp (disch := omega) only [nI_clamp, li_2, li_3, li_4, li_5, li_6, li_7, li_8, li_9, li_10, li_40, li_120, pk_mul, nI_add, nI_1, ix_eq, ix_lt, ix_le, ix_l0, ix_l1, ix_n0, ix_p0, ix_1lt, ix_lt1, ix_1le, ix_le1, ix_le0, ix_0lt, ab_z0, ab_z1, i_10, i_01, eq_self, ab_ozn, ab_ozp, ab_o_some, not_true_eq_false, not_false_eq_true, Bool.not_eq_false, Bool.not_eq_true, Bool.not_eq_false', Bool.not_eq_true', Bool.false_eq_true, Bool.true_eq_false, reduceCtorEq, Option.isSome_some, Option.isSome_none, show (20 : Int32) = nI 20 from rfl] at h) <;> (try omega)) | refine ab_sd (by first | (with_reducible refine vp_in_nI ?_ ?_ <;> omega) | (simp (disch := omega) only [nI_clamp, li_2, li_3, li_4, li_5, li_6, li_7, li_8, li_9, li_10, li_40, li_120, pk_mul, nI_add, nI_1, ix_eq, ix_lt, ix_le, ix_l0, ix_l1, ix_n0, ix_p0, ix_1lt, ix_lt1, ix_1le, ix_le1, ix_le0, ix_0lt, ab_z0, ab_z1, i_10, i_01, eq_self, ab_ozn, ab_ozp, ab_o_some, not_true_eq_false, not_false_eq_true, Bool.not_eq_false, Bool.not_eq_true, Bool.not_eq_false', Bool.not_eq_true', Bool.false_eq_true, Bool.true_eq_false, reduceCtorEq, Option.isSome_some, Option.isSome_none, show (20 : Int32) = nI 20 from rfl]; with_reducible refine vp_in_nI ?_ ?_ <;> omega)) ?_ | refine x_one hω (t := t) rfl ?_ | refine ab_sd ?_ ?_ | refine ab_sz (Or.inl rfl) ?_ | refine ab_sz (Or.inr rfl) ?_ | refine ab_sz ?_ ?_)
    show Q _ _
    refine hQ64 μ _ C0 SameP.rf (fun i hi => ?_)
    rw [nI_clamp (by omega), ab_bt_and, ab_bt_one (by omega), x31 g i hg, s_pg_mk hI hg2 hg]
theorem x_membersOf {ρ : Nat → Nat} (hω : ω.2.2.2 = ab_SH) (C : RepC S μ) (hI : Iv S) (hR : Rk S ρ) {x y : Int32} {t g : Nat} (ex : x = nI t) (ey : y = nI g) (ht : t < s_nT S) (hg : g < 30) (hQ : ∀ μ' w, RepC S μ' → SameQ μ μ' → (∀ i, ab_bt w i = s_pg S g (s_of S t) i) → Q w μ') : ab_CL l ω mX2_membersOf [.ref 4, .int x, .int y] μ Q := x_membersOfP hω C hI hR ex ey ht hg (fun μ' w a b c => hQ μ' w a b.q c)
def ab_sm (f : Nat → Nat) : Nat → Nat
  | 0 => 0
  | n + 1 => ab_sm f n + f n
theorem ab_sm_add {f g : Nat → Nat} : ∀ n, ab_sm (fun i => f i + g i) n = ab_sm f n + ab_sm g n
  | 0 => rfl
  | n + 1 => by simp only [ab_sm, ab_sm_add n]; omega
theorem ab_sm_congr {f g : Nat → Nat} : ∀ {n : Nat}, (∀ i, i < n → f i = g i) → ab_sm f n = ab_sm g n
  | 0, _ => rfl
  | n + 1, h => by simp only [ab_sm]; rw [ab_sm_congr (fun i hi => h i (by omega)), h n (by omega)]
theorem ab_sm_one {a v : Nat} : ∀ n, ab_sm (fun i => if i = a then v else 0) n = if a < n then v else 0
  | 0 => by simp [ab_sm]
  | n + 1 => by
    simp only [ab_sm, ab_sm_one n]
    by_cases h : n = a
    · subst h; simp
    · by_cases h2 : a < n
      · simp [h, h2, show a < n + 1 by omega]
      · simp [h, h2, show ¬ a < n + 1 by omega]
theorem s_sm (hI : Iv S) (p : Nat → Bool) : ∀ N, N ≤ s_nX S → ab_sm (fun g => ab_cnt (s_pg S g (fun m => decide (m < N) && p m)) 64) 30 = ab_cnt p N
  | 0, _ => by
    have : ∀ g, g < 30 → ab_cnt (s_pg S g (fun m => decide (m < 0) && p m)) 64 = (fun i => if i = 30 then 0 else 0) g := fun g _ => by
      rw [ab_cnt_zero (fun i _ => ?_)]
      · simp
      · cases e : s_dg S i g with
        | none => exact s_pg_none e
        | some m => rw [s_pg_some e]; simp
    rw [ab_sm_congr this, ab_sm_one]
    rfl
  | N + 1, hN => by
    have hW := hI.1
    have hT := hW.2.2.1.2
    obtain ⟨m1, m2, m3, m4, m5⟩ := hW.2.2.2.2.2.2 N (by omega)
    have e1 : ∀ g, g < 30 → ab_cnt (s_pg S g (fun m => decide (m < N + 1) && p m)) 64 = ab_cnt (s_pg S g (fun m => decide (m < N) && p m)) 64 + (if g = 10 * S.1 58 N + S.1 59 N then (if p N then 1 else 0) else 0) := by
      intro g hg
      have e2 : ∀ i, i < 64 → s_pg S g (fun m => decide (m < N + 1) && p m) i = (s_pg S g (fun m => decide (m < N) && p m) i || s_pg S g (fun m => decide (m = N) && p m) i) := by
        intro i hi
        rw [← s_pg_or]
        cases e : s_dg S i g with
        | none => rw [s_pg_none e, s_pg_none e]
        | some m =>
          rw [s_pg_some e, s_pg_some e]
          by_cases a : m < N
          · simp [a, show m < N + 1 by omega]
          · by_cases b : m = N
            · simp [b]
            · simp [a, b, show ¬ m < N + 1 by omega]
      rw [ab_cnt_congr e2, ab_cnt_dis (f := s_pg S g (fun m => decide (m < N) && p m)) (g := s_pg S g (fun m => decide (m = N) && p m))]
      · congr 1
        by_cases q : g = 10 * S.1 58 N + S.1 59 N
        · rw [if_pos q]
          have e3 : ∀ i, i < 64 → s_pg S g (fun m => decide (m = N) && p m) i = (S.1 57 N == i && p N) := by
            intro i hi
            cases e : s_dg S i g with
            | none =>
              rw [s_pg_none e]
              by_cases a : S.1 57 N = i
              · have := s_dg_m hI (show N < s_nX S by omega)
                rw [← q, a, e] at this; cases this
              · simp [a]
            | some m =>
              rw [s_pg_some e]
              obtain ⟨h1, h2, h3, h4, h5⟩ := s_dg_some hW e
              by_cases a : m = N
              · subst a; simp [h2]
              · by_cases b : S.1 57 N = i
                · have := s_dg_m hI (show N < s_nX S by omega)
                  rw [← q, b, e] at this
                  cases this
                  exact absurd rfl a
                · simp [a, b]
          rw [ab_cnt_congr e3]
          cases p N with
          | true => simp only [Bool.and_true, ab_cnt_eq]; rw [if_pos (by omega)]; rfl
          | false => rw [ab_cnt_zero (fun i _ => by simp)]; rfl
        · rw [if_neg q]
          refine ab_cnt_zero (fun i _ => ?_)
          cases e : s_dg S i g with
          | none => exact s_pg_none e
          | some m =>
            rw [s_pg_some e]
            obtain ⟨h1, h2, h3, h4, h5⟩ := s_dg_some hW e
            have : ¬ m = N := fun a => by subst a; omega
            simp [this]
      · rintro i hi ⟨a, b⟩
        obtain ⟨m, x1, x2⟩ := s_pg_t.mp a
        obtain ⟨m', y1, y2⟩ := s_pg_t.mp b
        rw [x1] at y1
        cases y1
        simp at x2 y2
        omega
    rw [ab_sm_congr e1, ab_sm_add, s_sm hI p N (by omega), ab_sm_one, if_pos (by omega)]
    simp only [ab_cnt]
theorem x_howMany {Q : Int32 → ab_M → Prop} {ρ : Nat → Nat} (hω : ω.2.2.2 = ab_SH) (C : RepC S μ) (hI : Iv S) (hR : Rk S ρ) {x : Int32} {t : Nat} (ex : x = nI t) (ht : t < s_nT S) (hQ : ∀ μ', RepC S μ' → SameQ μ μ' → Q (nI (ab_cnt (s_of S t) (s_nX S))) μ') : ab_CI l ω mX2_howMany [.ref 4, .int x] μ Q := by
  subst ex
  refine ab_intro (sh := ab_SH) (cd := kX2_howMany) hω vX2_howMany (by decide +kernel) rfl (Nat.le_of_ble_eq_true rfl) (fun j hj hw => ?_)
  have hjx : ∀ i ll st μ, i ∉ ([4] : List Nat) → _ → j i ll st μ := fun i ll st μ _ h => hj i ll st μ h
  have hW := hI.1
  have hT := hW.2.2.1.2
  have eT : ab_sm (fun g => ab_cnt (s_pg S g (s_of S t)) 64) 30 = ab_cnt (s_of S t) (s_nX S) := by
    rw [← s_sm hI (s_of S t) (s_nX S) (Nat.le_refl _)]
    refine ab_sm_congr (fun g _ => ab_cnt_congr (fun i _ => ?_))
    cases e : s_dg S i g with
    | none => rw [s_pg_none e, s_pg_none e]
    | some m => rw [s_pg_some e, s_pg_some e]; simp [(s_dg_some hW e).1]
  have key : ∀ d n μ', n + d = 30 → RepC S μ' → SameQ μ μ' → j 4 [some (.ref 4), some (.int (nI t)), some (.int (nI (ab_sm (fun g => ab_cnt (s_pg S g (s_of S t)) 64) n))), some (.int (nI n))] [] μ' := by
    intro d
    induction d with
    | zero =>
      intro n μ' hn C sq
      refine hj _ _ _ _ ?_
      repeat' (first | refine hjx _ _ _ _ (by decide) ?_ | (refine br_c (fun h => ?_) (fun h => ?_) <;> (try simp (disch := omega) only [nI_clamp, li_2, li_3, li_4, li_5, li_6, li_7, li_8, li_9, li_10, li_40, li_120, pk_mul, nI_add, nI_1, ix_eq, ix_lt, ix_le, ix_l0, ix_l1, ix_n0, ix_p0, ix_1lt, ix_lt1, ix_1le, ix_le1, ix_le0, ix_0lt, ab_z0, ab_z1, i_10, i_01, eq_self, ab_ozn, ab_ozp, ab_o_some, not_true_eq_false, not_false_eq_true, Bool.not_eq_false, Bool.not_eq_true, Bool.not_eq_false', Bool.not_eq_true', Bool.false_eq_true, Bool.true_eq_false, reduceCtorEq, Option.isSome_some, Option.isSome_none, show (30 : Int32) = nI 30 from rfl] at h) <;> (try omega)) | (refine br_n (fun h => ?_) (fun h => ?_) <;> (try simp (disch := omega) only [nI_clamp, li_2, li_3, li_4, li_5, li_6, li_7, li_8, li_9, li_10, li_40, li_120, pk_mul, nI_add, nI_1, ix_eq, ix_lt, ix_le, ix_l0, ix_l1, ix_n0, ix_p0, ix_1lt, ix_lt1, ix_1le, ix_le1, ix_le0, ix_0lt, ab_z0, ab_z1, i_10, i_01, eq_self, ab_ozn, ab_ozp, ab_o_some, not_true_eq_false, not_false_eq_true, Bool.not_eq_false, Bool.not_eq_true, Bool.not_eq_false', Bool.not_eq_true', Bool.false_eq_true, Bool.true_eq_false, reduceCtorEq, Option.isSome_some, Option.isSome_none, show (30 : Int32) = nI 30 from rfl] at h) <;> (try omega)) | refine ab_sd (by first | (with_reducible refine vp_in_nI ?_ ?_ <;> omega) | (simp (disch := omega) only [nI_clamp, li_2, li_3, li_4, li_5, li_6, li_7, li_8, li_9, li_10, li_40, li_120, pk_mul, nI_add, nI_1, ix_eq, ix_lt, ix_le, ix_l0, ix_l1, ix_n0, ix_p0, ix_1lt, ix_lt1, ix_1le, ix_le1, ix_le0, ix_0lt, ab_z0, ab_z1, i_10, i_01, eq_self, ab_ozn, ab_ozp, ab_o_some, not_true_eq_false, not_false_eq_true, Bool.not_eq_false, Bool.not_eq_true, Bool.not_eq_false', Bool.not_eq_true', Bool.false_eq_true, Bool.true_eq_false, reduceCtorEq, Option.isSome_some, Option.isSome_none, show (30 : Int32) = nI 30 from rfl]; with_reducible refine vp_in_nI ?_ ?_ <;> omega)) ?_ | refine ab_sd ?_ ?_ | refine ab_sz (Or.inl rfl) ?_ | refine ab_sz (Or.inr rfl) ?_ | refine ab_sz ?_ ?_)
      show Q _ _
      rw [show n = 30 by omega, eT]
      exact hQ μ' C sq
    | succ d ih =>
      intro n μ' hn C sq
      refine hj _ _ _ _ ?_
      repeat' (first | refine hjx _ _ _ _ (by decide) ?_ | (refine br_c (fun h => ?_) (fun h => ?_) <;> (try simp (disch := omega) only [nI_clamp, li_2, li_3, li_4, li_5, li_6, li_7, li_8, li_9, li_10, li_40, li_120, pk_mul, nI_add, nI_1, ix_eq, ix_lt, ix_le, ix_l0, ix_l1, ix_n0, ix_p0, ix_1lt, ix_lt1, ix_1le, ix_le1, ix_le0, ix_0lt, ab_z0, ab_z1, i_10, i_01, eq_self, ab_ozn, ab_ozp, ab_o_some, not_true_eq_false, not_false_eq_true, Bool.not_eq_false, Bool.not_eq_true, Bool.not_eq_false', Bool.not_eq_true', Bool.false_eq_true, Bool.true_eq_false, reduceCtorEq, Option.isSome_some, Option.isSome_none, show (30 : Int32) = nI 30 from rfl] at h) <;> (try omega)) | (refine br_n (fun h => ?_) (fun h => ?_) <;> (try simp (disch := omega) only [nI_clamp, li_2, li_3, li_4, li_5, li_6, li_7, li_8, li_9, li_10, li_40, li_120, pk_mul, nI_add, nI_1, ix_eq, ix_lt, ix_le, ix_l0, ix_l1, ix_n0, ix_p0, ix_1lt, ix_lt1, ix_1le, ix_le1, ix_le0, ix_0lt, ab_z0, ab_z1, i_10, i_01, eq_self, ab_ozn, ab_ozp, ab_o_some, not_true_eq_false, not_false_eq_true, Bool.not_eq_false, Bool.not_eq_true, Bool.not_eq_false', Bool.not_eq_true', Bool.false_eq_true, Bool.true_eq_false, reduceCtorEq, Option.isSome_some, Option.isSome_none, show (30 : Int32) = nI 30 from rfl] at h) <;> (try omega)) | refine ab_sd (by first | (with_reducible refine vp_in_nI ?_ ?_ <;> omega) | (simp (disch := omega) only [nI_clamp, li_2, li_3, li_4, li_5, li_6, li_7, li_8, li_9, li_10, li_40, li_120, pk_mul, nI_add, nI_1, ix_eq, ix_lt, ix_le, ix_l0, ix_l1, ix_n0, ix_p0, ix_1lt, ix_lt1, ix_1le, ix_le1, ix_le0, ix_0lt, ab_z0, ab_z1, i_10, i_01, eq_self, ab_ozn, ab_ozp, ab_o_some, not_true_eq_false, not_false_eq_true, Bool.not_eq_false, Bool.not_eq_true, Bool.not_eq_false', Bool.not_eq_true', Bool.false_eq_true, Bool.true_eq_false, reduceCtorEq, Option.isSome_some, Option.isSome_none, show (30 : Int32) = nI 30 from rfl]; with_reducible refine vp_in_nI ?_ ?_ <;> omega)) ?_ | refine x_membersOf hω C hI hR (t := t) (g := n) rfl rfl ht (by omega) (fun μ2 w C2 sq2 hw2 => ?_) | refine x_bitCount hω ?_ | refine ab_sd ?_ ?_ | refine ab_sz (Or.inl rfl) ?_ | refine ab_sz (Or.inr rfl) ?_ | refine ab_sz ?_ ?_)
      show j 4 _ _ _
      rw [nI_1, nI_add]
      have : ab_pc w = ab_cnt (s_pg S n (s_of S t)) 64 := by unfold ab_pc; exact ab_cnt_congr (fun i _ => hw2 i)
      rw [this]
      exact ih (n + 1) μ2 (by omega) C2 (sq.tr sq2)
  repeat' (first | refine hjx _ _ _ _ (by decide) ?_ | (refine br_c (fun h => ?_) (fun h => ?_) <;> (try simp (disch := omega) only [nI_clamp, li_2, li_3, li_4, li_5, li_6, li_7, li_8, li_9, li_10, li_40, li_120, pk_mul, nI_add, nI_1, ix_eq, ix_lt, ix_le, ix_l0, ix_l1, ix_n0, ix_p0, ix_1lt, ix_lt1, ix_1le, ix_le1, ix_le0, ix_0lt, ab_z0, ab_z1, i_10, i_01, eq_self, ab_ozn, ab_ozp, ab_o_some, not_true_eq_false, not_false_eq_true, Bool.not_eq_false, Bool.not_eq_true, Bool.not_eq_false', Bool.not_eq_true', Bool.false_eq_true, Bool.true_eq_false, reduceCtorEq, Option.isSome_some, Option.isSome_none] at h) <;> (try omega)) | (refine br_n (fun h => ?_) (fun h => ?_) <;> (try simp (disch := omega) only [nI_clamp, li_2, li_3, li_4, li_5, li_6, li_7, li_8, li_9, li_10, li_40, li_120, pk_mul, nI_add, nI_1, ix_eq, ix_lt, ix_le, ix_l0, ix_l1, ix_n0, ix_p0, ix_1lt, ix_lt1, ix_1le, ix_le1, ix_le0, ix_0lt, ab_z0, ab_z1, i_10, i_01, eq_self, ab_ozn, ab_ozp, ab_o_some, not_true_eq_false, not_false_eq_true, Bool.not_eq_false, Bool.not_eq_true, Bool.not_eq_false', Bool.not_eq_true', Bool.false_eq_true, Bool.true_eq_false, reduceCtorEq, Option.isSome_some, Option.isSome_none] at h) <;> (try omega)) | refine ab_sd (by first | (with_reducible refine vp_in_nI ?_ ?_ <;> omega) | (simp (disch := omega) only [nI_clamp, li_2, li_3, li_4, li_5, li_6, li_7, li_8, li_9, li_10, li_40, li_120, pk_mul, nI_add, nI_1, ix_eq, ix_lt, ix_le, ix_l0, ix_l1, ix_n0, ix_p0, ix_1lt, ix_lt1, ix_1le, ix_le1, ix_le0, ix_0lt, ab_z0, ab_z1, i_10, i_01, eq_self, ab_ozn, ab_ozp, ab_o_some, not_true_eq_false, not_false_eq_true, Bool.not_eq_false, Bool.not_eq_true, Bool.not_eq_false', Bool.not_eq_true', Bool.false_eq_true, Bool.true_eq_false, reduceCtorEq, Option.isSome_some, Option.isSome_none]; with_reducible refine vp_in_nI ?_ ?_ <;> omega)) ?_ | refine ab_sd ?_ ?_ | refine ab_sz (Or.inl rfl) ?_ | refine ab_sz (Or.inr rfl) ?_ | refine ab_sz ?_ ?_)
  exact key 30 0 μ (by omega) C SameQ.rf
end K5
