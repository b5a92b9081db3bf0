/-! THE CLASS: of, about, overrides; uses -/
theorem s_cnt_pg {S : sT} (hI : Iv S) {g : Nat} {p : Nat → Bool} (hg : g < 30) : ab_cnt (fun m => S.1 58 m == g / 10 && S.1 59 m == g % 10 && p m) (s_nX S) = ab_cnt (s_pg S g p) 64 := by
  have hW := hI.1
  have h0 := s_sm hI (fun m => S.1 58 m == g / 10 && S.1 59 m == g % 10 && p m) (s_nX S) (Nat.le_refl _)
  rw [← h0]
  have e1 : ∀ g', g' < 30 → ab_cnt (s_pg S g' (fun m => decide (m < s_nX S) && (S.1 58 m == g / 10 && S.1 59 m == g % 10 && p m))) 64 = (fun i => if i = g then ab_cnt (s_pg S g p) 64 else 0) g' := by
    intro g' hg'
    by_cases q : g' = g
    · subst q
      simp only [if_true]
      refine ab_cnt_congr (fun i _ => ?_)
      cases e : s_dg S i g' with
      | none => rw [s_pg_none e, s_pg_none e]
      | some m =>
        obtain ⟨h1, h2, h3, h4, h5⟩ := s_dg_some hW e
        rw [s_pg_some e, s_pg_some e]
        simp [h1, h3, h4]
    · simp only [if_neg q]
      refine ab_cnt_zero (fun i _ => ?_)
      cases e : s_dg S i g' with
      | none => exact s_pg_none e
      | some m =>
        obtain ⟨h1, h2, h3, h4, h5⟩ := s_dg_some hW e
        rw [s_pg_some e, h3, h4]
        have : ¬ (g' / 10 = g / 10 ∧ g' % 10 = g % 10) := by omega
        have : (g' / 10 == g / 10 && g' % 10 == g % 10) = false := by simpa using this
        rw [this]; simp
  rw [ab_sm_congr e1, ab_sm_one, if_pos hg]
theorem s_hasOne_pg {S : sT} (hI : Iv S) {g t : Nat} (hg : g < 30) {w : Int64} (hw : ∀ i, ab_bt w i = s_pg S g (s_of S t) i) : (w = 0) ↔ s_hasOne S t (g / 10) (g % 10) = false := by
  unfold s_hasOne
  have hT := hI.1.2.2.1.2
  rw [s_ex_pg hI hg, ab_bt_zero]
  constructor
  · intro h
    exact ab_ex_f (fun i hi => by rw [← hw i]; exact h i (by omega))
  · intro h i hi
    rw [hw i]
    by_cases q : i < s_nT S
    · cases hx : s_pg S g (s_of S t) i with
      | false => rfl
      | true => rw [ab_ex_iff.mpr ⟨i, q, hx⟩] at h; cases h
    · exact s_pg_ge hI.1 (by omega)
theorem s_ch_pw {S : sT} (hW : Wf S) : ∀ (n t : Nat), t < n → t < s_nT S → (s_ch S t).Pairwise (fun a b => b < a)
  | 0, t, h, _ => by omega
  | n + 1, t, h, ht => by
    cases e : s_ou S t with
    | none => rw [s_ch_none e]; simp
    | some o =>
      have ho := (hW.2.2.2.2.2.1 t ht).2.2.2.2.2.2.1 o e
      rw [s_ch_some hW ht e, List.pairwise_cons]
      refine ⟨fun x hx => ?_, s_ch_pw hW n o (by omega) (by omega)⟩
      have := s_ch_le hW (o + 1) o (by omega) (by omega) x hx
      omega
theorem find_pw {p : Nat → Bool} {n : Nat} : ∀ {L : List Nat}, L.Pairwise (fun a b => b < a) → n ∈ L → p n = true → (∀ x, x ∈ L → n < x → p x = false) → L.find? p = some n
  | [], _, h, _, _ => by simp at h
  | a :: L, hp, h, hn, hx => by
    rw [List.pairwise_cons] at hp
    rw [List.find?_cons]
    by_cases e : n = a
    · subst e; rw [hn]
    · have hl : n ∈ L := by
        rcases List.mem_cons.mp h with h | h
        · exact absurd h e
        · exact h
      rw [hx a (by simp) (hp.1 n hl)]
      exact find_pw hp.2 hl hn (fun x hxm hlt => hx x (by simp [hxm]) hlt)
theorem tw_pw {p : Nat → Bool} {n : Nat} : ∀ {L : List Nat}, L.Pairwise (fun a b => b < a) → n ∈ L → (L.takeWhile (fun x => !(x == n))).any p = L.any (fun x => decide (n < x) && p x)
  | [], _, h => by simp at h
  | a :: L, hp, h => by
    rw [List.pairwise_cons] at hp
    by_cases e : n = a
    · subst e
      rw [List.takeWhile_cons]
      simp
      intro x hx hlt
      have := hp.1 x hx
      omega
    · have hl : n ∈ L := by
        rcases List.mem_cons.mp h with h | h
        · exact absurd h e
        · exact h
      have hlt := hp.1 n hl
      rw [List.takeWhile_cons]
      have e2 : (a == n) = false := by simpa using (fun q => e q.symm)
      simp only [e2, Bool.not_false, if_true, List.any_cons]
      rw [tw_pw hp.2 hl]
      simp [hlt]
section K7
variable {l : Launch} {ω : ab_W} {S : sT} {μ : ab_M} {ρ : Nat → Nat} {Q : Int32 → ab_M → Prop}
theorem x_of (hω : ω.2.2.2 = ab_SH) (C : RepC S μ) (hI : Iv S) (hR : Rk S ρ) {x y : Int32} (hQ : ∀ μ', RepC S μ' → SameQ μ μ' → Q (a_of S x y) μ') : ab_CI l ω mX10_of [.ref 0, .int x, .int y] μ Q := by
  refine ab_intro (sh := ab_SH) (cd := kX10_of) hω vX10_of (by decide +kernel) rfl (Nat.le_of_ble_eq_true rfl) (fun j hj hw => ?_)
  have hW := hI.1
  have hT := hW.2.2.1.2
  have hX := hW.2.2.2.1
  have T := C.2.1
  have X := C.2.2.1
  unfold a_of at hQ
  cases hx : ab_ok (s_nT S) x with
  | false =>
    rw [hx] at hQ
    repeat' (first | refine hj _ _ _ _ ?_ | (refine br_c (fun h => ?_) (fun h => ?_) <;> (try simp (disch := omega) only [nI_clamp, li_2, li_3, li_4, li_5, li_6, li_7, li_8, li_9, li_10, li_40, li_120, pk_mul, nI_add, nI_1, ix_eq, ix_lt, ix_le, ix_l0, ix_l1, ix_n0, ix_p0, ix_1lt, ix_lt1, ix_1le, ix_le1, ix_le0, ix_0lt, ab_z0, ab_z1, i_10, i_01, eq_self, ab_ozn, ab_ozp, ab_o_some, not_true_eq_false, not_false_eq_true, Bool.not_eq_false, Bool.not_eq_true, Bool.not_eq_false', Bool.not_eq_true', Bool.false_eq_true, Bool.true_eq_false, reduceCtorEq, Option.isSome_some, Option.isSome_none, hx] at h) <;> (try omega)) | (refine br_n (fun h => ?_) (fun h => ?_) <;> (try simp (disch := omega) only [nI_clamp, li_2, li_3, li_4, li_5, li_6, li_7, li_8, li_9, li_10, li_40, li_120, pk_mul, nI_add, nI_1, ix_eq, ix_lt, ix_le, ix_l0, ix_l1, ix_n0, ix_p0, ix_1lt, ix_lt1, ix_1le, ix_le1, ix_le0, ix_0lt, ab_z0, ab_z1, i_10, i_01, eq_self, ab_ozn, ab_ozp, ab_o_some, not_true_eq_false, not_false_eq_true, Bool.not_eq_false, Bool.not_eq_true, Bool.not_eq_false', Bool.not_eq_true', Bool.false_eq_true, Bool.true_eq_false, reduceCtorEq, Option.isSome_some, Option.isSome_none, hx] at h) <;> (try omega)) | refine ab_sd (by first | (with_reducible refine vp_in_nI ?_ ?_ <;> omega) | (simp (disch := omega) only [nI_clamp, li_2, li_3, li_4, li_5, li_6, li_7, li_8, li_9, li_10, li_40, li_120, pk_mul, nI_add, nI_1, ix_eq, ix_lt, ix_le, ix_l0, ix_l1, ix_n0, ix_p0, ix_1lt, ix_lt1, ix_1le, ix_le1, ix_le0, ix_0lt, ab_z0, ab_z1, i_10, i_01, eq_self, ab_ozn, ab_ozp, ab_o_some, not_true_eq_false, not_false_eq_true, Bool.not_eq_false, Bool.not_eq_true, Bool.not_eq_false', Bool.not_eq_true', Bool.false_eq_true, Bool.true_eq_false, reduceCtorEq, Option.isSome_some, Option.isSome_none, hx]; with_reducible refine vp_in_nI ?_ ?_ <;> omega)) ?_ | refine x_exists hω T ?_ | refine ab_sd ?_ ?_ | refine ab_sz (Or.inl rfl) ?_ | refine ab_sz (Or.inr rfl) ?_ | refine ab_sz ?_ ?_)
    all_goals exact hQ μ C SameQ.rf
  | true =>
    have hx1 := hx
    obtain ⟨t, ht, rfl⟩ := ab_ok_t (by omega) hx
    cases hy : ab_ok (s_nX S) y with
    | false =>
      rw [hx1, hy] at hQ
      repeat' (first | refine hj _ _ _ _ ?_ | (refine br_c (fun h => ?_) (fun h => ?_) <;> (try simp (disch := omega) only [nI_clamp, li_2, li_3, li_4, li_5, li_6, li_7, li_8, li_9, li_10, li_40, li_120, pk_mul, nI_add, nI_1, ix_eq, ix_lt, ix_le, ix_l0, ix_l1, ix_n0, ix_p0, ix_1lt, ix_lt1, ix_1le, ix_le1, ix_le0, ix_0lt, ab_z0, ab_z1, i_10, i_01, eq_self, ab_ozn, ab_ozp, ab_o_some, not_true_eq_false, not_false_eq_true, Bool.not_eq_false, Bool.not_eq_true, Bool.not_eq_false', Bool.not_eq_true', Bool.false_eq_true, Bool.true_eq_false, reduceCtorEq, Option.isSome_some, Option.isSome_none, hx1, hy] at h) <;> (try omega)) | (refine br_n (fun h => ?_) (fun h => ?_) <;> (try simp (disch := omega) only [nI_clamp, li_2, li_3, li_4, li_5, li_6, li_7, li_8, li_9, li_10, li_40, li_120, pk_mul, nI_add, nI_1, ix_eq, ix_lt, ix_le, ix_l0, ix_l1, ix_n0, ix_p0, ix_1lt, ix_lt1, ix_1le, ix_le1, ix_le0, ix_0lt, ab_z0, ab_z1, i_10, i_01, eq_self, ab_ozn, ab_ozp, ab_o_some, not_true_eq_false, not_false_eq_true, Bool.not_eq_false, Bool.not_eq_true, Bool.not_eq_false', Bool.not_eq_true', Bool.false_eq_true, Bool.true_eq_false, reduceCtorEq, Option.isSome_some, Option.isSome_none, hx1, hy] at h) <;> (try omega)) | refine ab_sd (by first | (with_reducible refine vp_in_nI ?_ ?_ <;> omega) | (simp (disch := omega) only [nI_clamp, li_2, li_3, li_4, li_5, li_6, li_7, li_8, li_9, li_10, li_40, li_120, pk_mul, nI_add, nI_1, ix_eq, ix_lt, ix_le, ix_l0, ix_l1, ix_n0, ix_p0, ix_1lt, ix_lt1, ix_1le, ix_le1, ix_le0, ix_0lt, ab_z0, ab_z1, i_10, i_01, eq_self, ab_ozn, ab_ozp, ab_o_some, not_true_eq_false, not_false_eq_true, Bool.not_eq_false, Bool.not_eq_true, Bool.not_eq_false', Bool.not_eq_true', Bool.false_eq_true, Bool.true_eq_false, reduceCtorEq, Option.isSome_some, Option.isSome_none, hx1, hy]; with_reducible refine vp_in_nI ?_ ?_ <;> omega)) ?_ | refine x_exists hω T ?_ | refine x_mexists hω X ?_ | refine ab_sd ?_ ?_ | refine ab_sz (Or.inl rfl) ?_ | refine ab_sz (Or.inr rfl) ?_ | refine ab_sz ?_ ?_)
      all_goals exact hQ μ C SameQ.rf
    | true =>
      have hy1 := hy
      obtain ⟨m, hm, rfl⟩ := ab_ok_t (by omega) hy
      obtain ⟨m1, m2, m3, m4, m5⟩ := hW.2.2.2.2.2.2 m hm
      rw [hx1, hy1, nI_clamp (by omega), nI_clamp (by omega)] at hQ
      simp only [Bool.and_self, if_true] at hQ
      have eg : μ.1 27 (nI m).toNatClampNeg = nI (10 * S.1 58 m + S.1 59 m) := by rw [nI_clamp (by omega), (RepX_fs X).2.2.1 m hm]
      repeat' (first | refine hj _ _ _ _ ?_ | (refine br_c (fun h => ?_) (fun h => ?_) <;> (try simp (disch := omega) only [nI_clamp, li_2, li_3, li_4, li_5, li_6, li_7, li_8, li_9, li_10, li_40, li_120, pk_mul, nI_add, nI_1, ix_eq, ix_lt, ix_le, ix_l0, ix_l1, ix_n0, ix_p0, ix_1lt, ix_lt1, ix_1le, ix_le1, ix_le0, ix_0lt, ab_z0, ab_z1, i_10, i_01, eq_self, ab_ozn, ab_ozp, ab_o_some, not_true_eq_false, not_false_eq_true, Bool.not_eq_false, Bool.not_eq_true, Bool.not_eq_false', Bool.not_eq_true', Bool.false_eq_true, Bool.true_eq_false, reduceCtorEq, Option.isSome_some, Option.isSome_none, hx1, hy1] at h) <;> (try omega)) | (refine br_n (fun h => ?_) (fun h => ?_) <;> (try simp (disch := omega) only [nI_clamp, li_2, li_3, li_4, li_5, li_6, li_7, li_8, li_9, li_10, li_40, li_120, pk_mul, nI_add, nI_1, ix_eq, ix_lt, ix_le, ix_l0, ix_l1, ix_n0, ix_p0, ix_1lt, ix_lt1, ix_1le, ix_le1, ix_le0, ix_0lt, ab_z0, ab_z1, i_10, i_01, eq_self, ab_ozn, ab_ozp, ab_o_some, not_true_eq_false, not_false_eq_true, Bool.not_eq_false, Bool.not_eq_true, Bool.not_eq_false', Bool.not_eq_true', Bool.false_eq_true, Bool.true_eq_false, reduceCtorEq, Option.isSome_some, Option.isSome_none, hx1, hy1] at h) <;> (try omega)) | refine ab_sd (by first | (with_reducible refine vp_in_nI ?_ ?_ <;> omega) | (simp (disch := omega) only [nI_clamp, li_2, li_3, li_4, li_5, li_6, li_7, li_8, li_9, li_10, li_40, li_120, pk_mul, nI_add, nI_1, ix_eq, ix_lt, ix_le, ix_l0, ix_l1, ix_n0, ix_p0, ix_1lt, ix_lt1, ix_1le, ix_le1, ix_le0, ix_0lt, ab_z0, ab_z1, i_10, i_01, eq_self, ab_ozn, ab_ozp, ab_o_some, not_true_eq_false, not_false_eq_true, Bool.not_eq_false, Bool.not_eq_true, Bool.not_eq_false', Bool.not_eq_true', Bool.false_eq_true, Bool.true_eq_false, reduceCtorEq, Option.isSome_some, Option.isSome_none, hx1, hy1]; with_reducible refine vp_in_nI ?_ ?_ <;> omega)) ?_ | refine x_exists hω T ?_ | refine x_mexists hω X ?_ | refine x_membersOf hω C hI hR (t := t) (g := 10 * S.1 58 m + S.1 59 m) rfl eg ht (by omega) (fun μ' w C' sq hw2 => ?_) | refine x_has hω (t := S.1 57 m) (by rw [nI_clamp (by omega), (RepX_fs C'.2.2.1).2.1 m hm]) (by omega) ?_ | refine x_yes hω (b := s_of S t m) (by rw [hw2, s_pg_m hI hm]) ?_ | refine ab_sd ?_ ?_ | refine ab_sz (Or.inl rfl) ?_ | refine ab_sz (Or.inr rfl) ?_ | refine ab_sz ?_ ?_)
      all_goals first | exact ab_z01 _ | exact hQ μ' C' sq
theorem x_overrides (hω : ω.2.2.2 = ab_SH) (C : RepC S μ) (hI : Iv S) (hR : Rk S ρ) {x y : Int32} (hQ : ∀ μ', RepC S μ' → SameQ μ μ' → Q (a_over S x y) μ') : ab_CI l ω mX10_overrides [.ref 0, .int x, .int y] μ Q := by
  refine ab_intro (sh := ab_SH) (cd := kX10_overrides) hω vX10_overrides (by decide +kernel) rfl (Nat.le_of_ble_eq_true rfl) (fun j hj hw => ?_)
  have hW := hI.1
  have hX := hW.2.2.2.1
  have X := C.2.2.1
  unfold a_over at hQ
  cases hx : v_meth S x with
  | false =>
    rw [hx] at hQ
    repeat' (first | refine hj _ _ _ _ ?_ | (refine br_c (fun h => ?_) (fun h => ?_) <;> (try simp (disch := omega) only [nI_clamp, li_2, li_3, li_4, li_5, li_6, li_7, li_8, li_9, li_10, li_40, li_120, pk_mul, nI_add, nI_1, ix_eq, ix_lt, ix_le, ix_l0, ix_l1, ix_n0, ix_p0, ix_1lt, ix_lt1, ix_1le, ix_le1, ix_le0, ix_0lt, ab_z0, ab_z1, i_10, i_01, eq_self, ab_ozn, ab_ozp, ab_o_some, not_true_eq_false, not_false_eq_true, Bool.not_eq_false, Bool.not_eq_true, Bool.not_eq_false', Bool.not_eq_true', Bool.false_eq_true, Bool.true_eq_false, reduceCtorEq, Option.isSome_some, Option.isSome_none, hx] at h) <;> (try omega)) | (refine br_n (fun h => ?_) (fun h => ?_) <;> (try simp (disch := omega) only [nI_clamp, li_2, li_3, li_4, li_5, li_6, li_7, li_8, li_9, li_10, li_40, li_120, pk_mul, nI_add, nI_1, ix_eq, ix_lt, ix_le, ix_l0, ix_l1, ix_n0, ix_p0, ix_1lt, ix_lt1, ix_1le, ix_le1, ix_le0, ix_0lt, ab_z0, ab_z1, i_10, i_01, eq_self, ab_ozn, ab_ozp, ab_o_some, not_true_eq_false, not_false_eq_true, Bool.not_eq_false, Bool.not_eq_true, Bool.not_eq_false', Bool.not_eq_true', Bool.false_eq_true, Bool.true_eq_false, reduceCtorEq, Option.isSome_some, Option.isSome_none, hx] at h) <;> (try omega)) | refine ab_sd (by first | (with_reducible refine vp_in_nI ?_ ?_ <;> omega) | (simp (disch := omega) only [nI_clamp, li_2, li_3, li_4, li_5, li_6, li_7, li_8, li_9, li_10, li_40, li_120, pk_mul, nI_add, nI_1, ix_eq, ix_lt, ix_le, ix_l0, ix_l1, ix_n0, ix_p0, ix_1lt, ix_lt1, ix_1le, ix_le1, ix_le0, ix_0lt, ab_z0, ab_z1, i_10, i_01, eq_self, ab_ozn, ab_ozp, ab_o_some, not_true_eq_false, not_false_eq_true, Bool.not_eq_false, Bool.not_eq_true, Bool.not_eq_false', Bool.not_eq_true', Bool.false_eq_true, Bool.true_eq_false, reduceCtorEq, Option.isSome_some, Option.isSome_none, hx]; with_reducible refine vp_in_nI ?_ ?_ <;> omega)) ?_ | refine x_isMethod hω X hW ?_ | refine ab_sd ?_ ?_ | refine ab_sz (Or.inl rfl) ?_ | refine ab_sz (Or.inr rfl) ?_ | refine ab_sz ?_ ?_)
    all_goals exact hQ μ C SameQ.rf
  | true =>
    cases hy : v_meth S y with
    | false =>
      rw [hx, hy] at hQ
      repeat' (first | refine hj _ _ _ _ ?_ | (refine br_c (fun h => ?_) (fun h => ?_) <;> (try simp (disch := omega) only [nI_clamp, li_2, li_3, li_4, li_5, li_6, li_7, li_8, li_9, li_10, li_40, li_120, pk_mul, nI_add, nI_1, ix_eq, ix_lt, ix_le, ix_l0, ix_l1, ix_n0, ix_p0, ix_1lt, ix_lt1, ix_1le, ix_le1, ix_le0, ix_0lt, ab_z0, ab_z1, i_10, i_01, eq_self, ab_ozn, ab_ozp, ab_o_some, not_true_eq_false, not_false_eq_true, Bool.not_eq_false, Bool.not_eq_true, Bool.not_eq_false', Bool.not_eq_true', Bool.false_eq_true, Bool.true_eq_false, reduceCtorEq, Option.isSome_some, Option.isSome_none, hx, hy] at h) <;> (try omega)) | (refine br_n (fun h => ?_) (fun h => ?_) <;> (try simp (disch := omega) only [nI_clamp, li_2, li_3, li_4, li_5, li_6, li_7, li_8, li_9, li_10, li_40, li_120, pk_mul, nI_add, nI_1, ix_eq, ix_lt, ix_le, ix_l0, ix_l1, ix_n0, ix_p0, ix_1lt, ix_lt1, ix_1le, ix_le1, ix_le0, ix_0lt, ab_z0, ab_z1, i_10, i_01, eq_self, ab_ozn, ab_ozp, ab_o_some, not_true_eq_false, not_false_eq_true, Bool.not_eq_false, Bool.not_eq_true, Bool.not_eq_false', Bool.not_eq_true', Bool.false_eq_true, Bool.true_eq_false, reduceCtorEq, Option.isSome_some, Option.isSome_none, hx, hy] at h) <;> (try omega)) | refine ab_sd (by first | (with_reducible refine vp_in_nI ?_ ?_ <;> omega) | (simp (disch := omega) only [nI_clamp, li_2, li_3, li_4, li_5, li_6, li_7, li_8, li_9, li_10, li_40, li_120, pk_mul, nI_add, nI_1, ix_eq, ix_lt, ix_le, ix_l0, ix_l1, ix_n0, ix_p0, ix_1lt, ix_lt1, ix_1le, ix_le1, ix_le0, ix_0lt, ab_z0, ab_z1, i_10, i_01, eq_self, ab_ozn, ab_ozp, ab_o_some, not_true_eq_false, not_false_eq_true, Bool.not_eq_false, Bool.not_eq_true, Bool.not_eq_false', Bool.not_eq_true', Bool.false_eq_true, Bool.true_eq_false, reduceCtorEq, Option.isSome_some, Option.isSome_none, hx, hy]; with_reducible refine vp_in_nI ?_ ?_ <;> omega)) ?_ | refine x_isMethod hω X hW ?_ | refine ab_sd ?_ ?_ | refine ab_sz (Or.inl rfl) ?_ | refine ab_sz (Or.inr rfl) ?_ | refine ab_sz ?_ ?_)
      all_goals exact hQ μ C SameQ.rf
    | true =>
      have hx2 := hx
      have hy2 := hy
      unfold v_meth at hx2 hy2
      simp only [Bool.and_eq_true, beq_iff_eq] at hx2 hy2
      obtain ⟨d, hd, rfl⟩ := ab_ok_t (by omega) hx2.1
      obtain ⟨a, ha, rfl⟩ := ab_ok_t (by omega) hy2.1
      rw [nI_clamp (by omega)] at hx2 hy2
      rw [hx, hy, nI_clamp (by omega), nI_clamp (by omega)] at hQ
      simp only [Bool.and_self, if_true] at hQ
      repeat' (first | refine hj _ _ _ _ ?_ | (refine br_c (fun h => ?_) (fun h => ?_) <;> (try simp (disch := omega) only [nI_clamp, li_2, li_3, li_4, li_5, li_6, li_7, li_8, li_9, li_10, li_40, li_120, pk_mul, nI_add, nI_1, ix_eq, ix_lt, ix_le, ix_l0, ix_l1, ix_n0, ix_p0, ix_1lt, ix_lt1, ix_1le, ix_le1, ix_le0, ix_0lt, ab_z0, ab_z1, i_10, i_01, eq_self, ab_ozn, ab_ozp, ab_o_some, not_true_eq_false, not_false_eq_true, Bool.not_eq_false, Bool.not_eq_true, Bool.not_eq_false', Bool.not_eq_true', Bool.false_eq_true, Bool.true_eq_false, reduceCtorEq, Option.isSome_some, Option.isSome_none, hx, hy] at h) <;> (try omega)) | (refine br_n (fun h => ?_) (fun h => ?_) <;> (try simp (disch := omega) only [nI_clamp, li_2, li_3, li_4, li_5, li_6, li_7, li_8, li_9, li_10, li_40, li_120, pk_mul, nI_add, nI_1, ix_eq, ix_lt, ix_le, ix_l0, ix_l1, ix_n0, ix_p0, ix_1lt, ix_lt1, ix_1le, ix_le1, ix_le0, ix_0lt, ab_z0, ab_z1, i_10, i_01, eq_self, ab_ozn, ab_ozp, ab_o_some, not_true_eq_false, not_false_eq_true, Bool.not_eq_false, Bool.not_eq_true, Bool.not_eq_false', Bool.not_eq_true', Bool.false_eq_true, Bool.true_eq_false, reduceCtorEq, Option.isSome_some, Option.isSome_none, hx, hy] at h) <;> (try omega)) | refine ab_sd (by first | (with_reducible refine vp_in_nI ?_ ?_ <;> omega) | (simp (disch := omega) only [nI_clamp, li_2, li_3, li_4, li_5, li_6, li_7, li_8, li_9, li_10, li_40, li_120, pk_mul, nI_add, nI_1, ix_eq, ix_lt, ix_le, ix_l0, ix_l1, ix_n0, ix_p0, ix_1lt, ix_lt1, ix_1le, ix_le1, ix_le0, ix_0lt, ab_z0, ab_z1, i_10, i_01, eq_self, ab_ozn, ab_ozp, ab_o_some, not_true_eq_false, not_false_eq_true, Bool.not_eq_false, Bool.not_eq_true, Bool.not_eq_false', Bool.not_eq_true', Bool.false_eq_true, Bool.true_eq_false, reduceCtorEq, Option.isSome_some, Option.isSome_none, hx, hy]; with_reducible refine vp_in_nI ?_ ?_ <;> omega)) ?_ | refine x_isMethod hω X hW ?_ | refine x_holds hω C hI hR (d := d) (a := a) rfl rfl hd ha hx2.2 hy2.2 (fun μ' C' sq => ?_) | refine x_yes hω (b := s_ov S d a) rfl ?_ | refine ab_sd ?_ ?_ | refine ab_sz (Or.inl rfl) ?_ | refine ab_sz (Or.inr rfl) ?_ | refine ab_sz ?_ ?_)
      all_goals first | exact ab_z01 _ | exact hQ μ' C' sq
theorem x_about (hω : ω.2.2.2 = ab_SH) (C : RepC S μ) (hI : Iv S) (hR : Rk S ρ) {x y : Int32} (hQ : ∀ μ', RepC S μ' → SameQ μ μ' → Q (a_about S x y) μ') : ab_CI l ω mX10_about [.ref 0, .int x, .int y] μ Q := by
  refine ab_intro (sh := ab_SH) (cd := kX10_about) hω vX10_about (by decide +kernel) rfl (Nat.le_of_ble_eq_true rfl) (fun j hj hw => ?_)
  have hW := hI.1
  have hT := hW.2.2.1.2
  have T := C.2.1
  unfold a_about at hQ
  cases hx : ab_ok (s_nT S) x with
  | false =>
    rw [hx] at hQ
    repeat' (first | refine hj _ _ _ _ ?_ | (refine br_c (fun h => ?_) (fun h => ?_) <;> (try simp (disch := omega) only [nI_clamp, li_2, li_3, li_4, li_5, li_6, li_7, li_8, li_9, li_10, li_40, li_120, pk_mul, nI_add, nI_1, ix_eq, ix_lt, ix_le, ix_l0, ix_l1, ix_n0, ix_p0, ix_1lt, ix_lt1, ix_1le, ix_le1, ix_le0, ix_0lt, ab_z0, ab_z1, i_10, i_01, eq_self, ab_ozn, ab_ozp, ab_o_some, not_true_eq_false, not_false_eq_true, Bool.not_eq_false, Bool.not_eq_true, Bool.not_eq_false', Bool.not_eq_true', Bool.false_eq_true, Bool.true_eq_false, reduceCtorEq, Option.isSome_some, Option.isSome_none, hx] at h) <;> (try omega)) | (refine br_n (fun h => ?_) (fun h => ?_) <;> (try simp (disch := omega) only [nI_clamp, li_2, li_3, li_4, li_5, li_6, li_7, li_8, li_9, li_10, li_40, li_120, pk_mul, nI_add, nI_1, ix_eq, ix_lt, ix_le, ix_l0, ix_l1, ix_n0, ix_p0, ix_1lt, ix_lt1, ix_1le, ix_le1, ix_le0, ix_0lt, ab_z0, ab_z1, i_10, i_01, eq_self, ab_ozn, ab_ozp, ab_o_some, not_true_eq_false, not_false_eq_true, Bool.not_eq_false, Bool.not_eq_true, Bool.not_eq_false', Bool.not_eq_true', Bool.false_eq_true, Bool.true_eq_false, reduceCtorEq, Option.isSome_some, Option.isSome_none, hx] at h) <;> (try omega)) | refine ab_sd (by first | (with_reducible refine vp_in_nI ?_ ?_ <;> omega) | (simp (disch := omega) only [nI_clamp, li_2, li_3, li_4, li_5, li_6, li_7, li_8, li_9, li_10, li_40, li_120, pk_mul, nI_add, nI_1, ix_eq, ix_lt, ix_le, ix_l0, ix_l1, ix_n0, ix_p0, ix_1lt, ix_lt1, ix_1le, ix_le1, ix_le0, ix_0lt, ab_z0, ab_z1, i_10, i_01, eq_self, ab_ozn, ab_ozp, ab_o_some, not_true_eq_false, not_false_eq_true, Bool.not_eq_false, Bool.not_eq_true, Bool.not_eq_false', Bool.not_eq_true', Bool.false_eq_true, Bool.true_eq_false, reduceCtorEq, Option.isSome_some, Option.isSome_none, hx]; with_reducible refine vp_in_nI ?_ ?_ <;> omega)) ?_ | refine x_exists hω T ?_ | refine ab_sd ?_ ?_ | refine ab_sz (Or.inl rfl) ?_ | refine ab_sz (Or.inr rfl) ?_ | refine ab_sz ?_ ?_)
    all_goals exact hQ μ C SameQ.rf
  | true =>
    have hx1 := hx
    obtain ⟨t, ht, rfl⟩ := ab_ok_t (by omega) hx
    obtain ⟨t1, t2, t3, t4, t5, t6, t7, t8⟩ := hW.2.2.2.2.2.1 t ht
    have h5 := T.2.2.2.2.1
    obtain ⟨kT, kc, ks, k13, k14, k15, k16, k17, k18, k22, k19, k20, k21, k25⟩ := RepT_fs T
    cases hy : ab_ok 7 y with
    | false =>
      rw [hx1, hy] at hQ
      have hne : ∀ k, k < 7 → ¬ y = nI k := fun k hk q => by rw [q, ab_ok_nI (by omega) hk] at hy; cases hy
      repeat' (first | refine hj _ _ _ _ ?_ | (refine br_c (fun h => ?_) (fun h => ?_) <;> (try simp (disch := omega) only [nI_clamp, li_2, li_3, li_4, li_5, li_6, li_7, li_8, li_9, li_10, li_40, li_120, pk_mul, nI_add, nI_1, ix_eq, ix_lt, ix_le, ix_l0, ix_l1, ix_n0, ix_p0, ix_1lt, ix_lt1, ix_1le, ix_le1, ix_le0, ix_0lt, ab_z0, ab_z1, i_10, i_01, eq_self, ab_ozn, ab_ozp, ab_o_some, not_true_eq_false, not_false_eq_true, Bool.not_eq_false, Bool.not_eq_true, Bool.not_eq_false', Bool.not_eq_true', Bool.false_eq_true, Bool.true_eq_false, reduceCtorEq, Option.isSome_some, Option.isSome_none, hx1] at h) <;> (try omega)) | (refine br_n (fun h => ?_) (fun h => ?_) <;> (try simp (disch := omega) only [nI_clamp, li_2, li_3, li_4, li_5, li_6, li_7, li_8, li_9, li_10, li_40, li_120, pk_mul, nI_add, nI_1, ix_eq, ix_lt, ix_le, ix_l0, ix_l1, ix_n0, ix_p0, ix_1lt, ix_lt1, ix_1le, ix_le1, ix_le0, ix_0lt, ab_z0, ab_z1, i_10, i_01, eq_self, ab_ozn, ab_ozp, ab_o_some, not_true_eq_false, not_false_eq_true, Bool.not_eq_false, Bool.not_eq_true, Bool.not_eq_false', Bool.not_eq_true', Bool.false_eq_true, Bool.true_eq_false, reduceCtorEq, Option.isSome_some, Option.isSome_none, hx1] at h) <;> (try omega)) | refine ab_sd (by first | (with_reducible refine vp_in_nI ?_ ?_ <;> omega) | (simp (disch := omega) only [nI_clamp, li_2, li_3, li_4, li_5, li_6, li_7, li_8, li_9, li_10, li_40, li_120, pk_mul, nI_add, nI_1, ix_eq, ix_lt, ix_le, ix_l0, ix_l1, ix_n0, ix_p0, ix_1lt, ix_lt1, ix_1le, ix_le1, ix_le0, ix_0lt, ab_z0, ab_z1, i_10, i_01, eq_self, ab_ozn, ab_ozp, ab_o_some, not_true_eq_false, not_false_eq_true, Bool.not_eq_false, Bool.not_eq_true, Bool.not_eq_false', Bool.not_eq_true', Bool.false_eq_true, Bool.true_eq_false, reduceCtorEq, Option.isSome_some, Option.isSome_none, hx1]; with_reducible refine vp_in_nI ?_ ?_ <;> omega)) ?_ | refine x_exists hω T ?_ | refine ab_sd ?_ ?_ | refine ab_sz (Or.inl rfl) ?_ | refine ab_sz (Or.inr rfl) ?_ | refine ab_sz ?_ ?_)
      all_goals first | exact hQ μ C SameQ.rf | (exfalso; first | exact hne 0 (by omega) (Int32.toInt_inj.mp h) | exact hne 1 (by omega) (Int32.toInt_inj.mp h) | exact hne 2 (by omega) (Int32.toInt_inj.mp h) | exact hne 3 (by omega) (Int32.toInt_inj.mp h) | exact hne 4 (by omega) (Int32.toInt_inj.mp h) | exact hne 5 (by omega) (Int32.toInt_inj.mp h) | exact hne 6 (by omega) (Int32.toInt_inj.mp h))
    | true =>
      have hy1 := hy
      obtain ⟨k, hk, rfl⟩ := ab_ok_t (by omega) hy
      rw [hx1, hy1, nI_clamp (by omega), nI_clamp (by omega)] at hQ
      simp only [Bool.and_self, if_true] at hQ
      have hb : ab_pc (μ.2 21 t) = ab_cnt (fun x => s_ab S x t) (s_nT S) := by
        unfold ab_pc
        rw [show (64 : Nat) = s_nT S + (64 - s_nT S) by omega, ab_cnt_add, ab_cnt_congr (fun i hi => k21 t i ht (by omega) hi), ab_cnt_zero (n := 64 - s_nT S), Nat.add_zero]
        intro i hi
        rw [(h5 t (by omega) _).2.2]
        simp
        intro _ q
        omega
      have e14 : μ.1 14 (nI t).toNatClampNeg = ab_o1 (s_ou S t) := by rw [nI_clamp (by omega), k14 t ht]
      have e17 : μ.1 17 (nI t).toNatClampNeg = ab_o1 (s_pa S t) := by rw [nI_clamp (by omega), k17 t ht]
      have b14 : ∀ n, s_ou S t = some n → n < 2 ^ 31 := fun n e => by have := t7 n e; omega
      have b17 : ∀ n, s_pa S t = some n → n < 2 ^ 31 := fun n e => by have := t8 n e; omega
      match k, hk with
      | 0, _ | 1, _ | 2, _ | 3, _ | 4, _ | 5, _ | 6, _ =>
        unfold s_about at hQ
        (repeat' (first | refine hj _ _ _ _ ?_ | (refine br_c (fun h => ?_) (fun h => ?_) <;> (try simp (disch := omega) only [nI_clamp, li_2, li_3, li_4, li_5, li_6, li_7, li_8, li_9, li_10, li_40, li_120, pk_mul, nI_add, nI_1, ix_eq, ix_lt, ix_le, ix_l0, ix_l1, ix_n0, ix_p0, ix_1lt, ix_lt1, ix_1le, ix_le1, ix_le0, ix_0lt, ab_z0, ab_z1, i_10, i_01, eq_self, ab_ozn, ab_ozp, ab_o_some, not_true_eq_false, not_false_eq_true, Bool.not_eq_false, Bool.not_eq_true, Bool.not_eq_false', Bool.not_eq_true', Bool.false_eq_true, Bool.true_eq_false, reduceCtorEq, Option.isSome_some, Option.isSome_none, hx1] at h) <;> (try omega)) | (refine br_n (fun h => ?_) (fun h => ?_) <;> (try simp (disch := omega) only [nI_clamp, li_2, li_3, li_4, li_5, li_6, li_7, li_8, li_9, li_10, li_40, li_120, pk_mul, nI_add, nI_1, ix_eq, ix_lt, ix_le, ix_l0, ix_l1, ix_n0, ix_p0, ix_1lt, ix_lt1, ix_1le, ix_le1, ix_le0, ix_0lt, ab_z0, ab_z1, i_10, i_01, eq_self, ab_ozn, ab_ozp, ab_o_some, not_true_eq_false, not_false_eq_true, Bool.not_eq_false, Bool.not_eq_true, Bool.not_eq_false', Bool.not_eq_true', Bool.false_eq_true, Bool.true_eq_false, reduceCtorEq, Option.isSome_some, Option.isSome_none, hx1] at h) <;> (try omega)) | refine ab_sd (by first | (with_reducible refine vp_in_nI ?_ ?_ <;> omega) | (simp (disch := omega) only [nI_clamp, li_2, li_3, li_4, li_5, li_6, li_7, li_8, li_9, li_10, li_40, li_120, pk_mul, nI_add, nI_1, ix_eq, ix_lt, ix_le, ix_l0, ix_l1, ix_n0, ix_p0, ix_1lt, ix_lt1, ix_1le, ix_le1, ix_le0, ix_0lt, ab_z0, ab_z1, i_10, i_01, eq_self, ab_ozn, ab_ozp, ab_o_some, not_true_eq_false, not_false_eq_true, Bool.not_eq_false, Bool.not_eq_true, Bool.not_eq_false', Bool.not_eq_true', Bool.false_eq_true, Bool.true_eq_false, reduceCtorEq, Option.isSome_some, Option.isSome_none, hx1]; with_reducible refine vp_in_nI ?_ ?_ <;> omega)) ?_ | refine x_exists hω T ?_ | refine x_orNone hω (o := s_ou S t) e14 b14 ?_ | refine x_orNone hω (o := s_pa S t) e17 b17 ?_ | refine x_faceCount hω T hI (t := t) rfl ht ?_ | refine x_howMany hω C hI hR (t := t) rfl ht (fun μ' C' sq => ?_) | refine x_bitCount hω ?_ | refine ab_sd ?_ ?_ | refine ab_sz (Or.inl rfl) ?_ | refine ab_sz (Or.inr rfl) ?_ | refine ab_sz ?_ ?_))
        all_goals first | exact hQ μ' C' sq | exact hQ μ C SameQ.rf | (show Q _ _; rw [nI_clamp (by omega), k13 t ht]; exact hQ μ C SameQ.rf) | (show Q _ _; rw [nI_clamp (by omega), k15 t ht]; exact hQ μ C SameQ.rf) | (show Q _ _; rw [nI_clamp (by omega), hb]; exact hQ μ C SameQ.rf) | (exfalso; revert h; decide) | (exfalso; rename_i a b c d e f; first | exact a (by decide) | exact b (by decide) | exact c (by decide) | exact d (by decide) | exact e (by decide) | exact f (by decide) | exact h (by decide))
theorem x_usedType (hω : ω.2.2.2 = ab_SH) (C : RepC S μ) (hI : Iv S) (hR : Rk S ρ) {x y z v : Int32} {f h g : Nat} (ex : x = nI f) (ey : y = nI h) (ev : v = nI g) (hf : f < s_nT S) (hh : h < 4) (hg : g < 30) (hQ : ∀ μ', RepC S μ' → SameQ μ μ' → Q (if h < 2 then z else if h = 3 then ab_o1 (s_pa S f) else nI (((s_ch S f).find? (fun x => s_hasOne S x (g / 10) (g % 10))).getD f)) μ') : ab_CI l ω mX9_usedType [.ref 7, .int x, .int y, .int z, .int v] μ Q := by
  subst ex ey ev
  refine ab_intro (sh := ab_SH) (cd := kX9_usedType) hω vX9_usedType (by decide +kernel) rfl (Nat.le_of_ble_eq_true rfl) (fun j hj hw => ?_)
  have hjx : ∀ i ll st μ, i ∉ ([16] : List Nat) → _ → j i ll st μ := fun i ll st μ _ h => hj i ll st μ h
  have hW := hI.1
  have hT := hW.2.2.1.2
  have T := C.2.1
  obtain ⟨kT, kc, ks, k13, k14, k15, k16, k17, k18, k22, k19, k20, k21, k25⟩ := RepT_fs T
  by_cases h3 : h = 3
  · subst h3
    repeat' (first | refine hjx _ _ _ _ (by decide) ?_ | (refine br_c (fun h => ?_) (fun h => ?_) <;> (try simp (disch := omega) only [nI_clamp, li_2, li_3, li_4, li_5, li_6, li_7, li_8, li_9, li_10, li_40, li_120, pk_mul, nI_add, nI_1, ix_eq, ix_lt, ix_le, ix_l0, ix_l1, ix_n0, ix_p0, ix_1lt, ix_lt1, ix_1le, ix_le1, ix_le0, ix_0lt, ab_z0, ab_z1, i_10, i_01, eq_self, ab_ozn, ab_ozp, ab_o_some, not_true_eq_false, not_false_eq_true, Bool.not_eq_false, Bool.not_eq_true, Bool.not_eq_false', Bool.not_eq_true', Bool.false_eq_true, Bool.true_eq_false, reduceCtorEq, Option.isSome_some, Option.isSome_none] at h) <;> (try omega)) | (refine br_n (fun h => ?_) (fun h => ?_) <;> (try simp (disch := omega) only [nI_clamp, li_2, li_3, li_4, li_5, li_6, li_7, li_8, li_9, li_10, li_40, li_120, pk_mul, nI_add, nI_1, ix_eq, ix_lt, ix_le, ix_l0, ix_l1, ix_n0, ix_p0, ix_1lt, ix_lt1, ix_1le, ix_le1, ix_le0, ix_0lt, ab_z0, ab_z1, i_10, i_01, eq_self, ab_ozn, ab_ozp, ab_o_some, not_true_eq_false, not_false_eq_true, Bool.not_eq_false, Bool.not_eq_true, Bool.not_eq_false', Bool.not_eq_true', Bool.false_eq_true, Bool.true_eq_false, reduceCtorEq, Option.isSome_some, Option.isSome_none] at h) <;> (try omega)) | refine ab_sd (by first | (with_reducible refine vp_in_nI ?_ ?_ <;> omega) | (simp (disch := omega) only [nI_clamp, li_2, li_3, li_4, li_5, li_6, li_7, li_8, li_9, li_10, li_40, li_120, pk_mul, nI_add, nI_1, ix_eq, ix_lt, ix_le, ix_l0, ix_l1, ix_n0, ix_p0, ix_1lt, ix_lt1, ix_1le, ix_le1, ix_le0, ix_0lt, ab_z0, ab_z1, i_10, i_01, eq_self, ab_ozn, ab_ozp, ab_o_some, not_true_eq_false, not_false_eq_true, Bool.not_eq_false, Bool.not_eq_true, Bool.not_eq_false', Bool.not_eq_true', Bool.false_eq_true, Bool.true_eq_false, reduceCtorEq, Option.isSome_some, Option.isSome_none]; with_reducible refine vp_in_nI ?_ ?_ <;> omega)) ?_ | refine ab_sd ?_ ?_ | refine ab_sz (Or.inl rfl) ?_ | refine ab_sz (Or.inr rfl) ?_ | refine ab_sz ?_ ?_)
    show Q _ _
    rw [nI_clamp (by omega), k17 f hf]
    exact hQ μ C SameQ.rf
  · by_cases h2 : h = 2
    · subst h2
      simp only [Nat.lt_irrefl, if_false, show ¬ 2 = 3 by omega] at hQ
      have key : ∀ k μ', k ≤ f + 1 → RepC S μ' → SameQ μ μ' → (∀ x, x ∈ s_ch S f → k ≤ x → s_hasOne S x (g / 10) (g % 10) = false) → j 16 [some (.ref 7), some (.int (nI f)), some (.int (nI 2)), some (.int z), some (.int (nI g)), some (.int (ab_ik k))] [] μ' := by
        intro k
        induction k with
        | zero =>
          intro μ' hk C' sq hx
          refine hj _ _ _ _ ?_
          have c : ((ab_ik 0) < 0) ↔ True := ⟨fun _ => trivial, fun _ => by decide⟩
          repeat' (first | refine hjx _ _ _ _ (by decide) ?_ | (refine br_c (fun h => ?_) (fun h => ?_) <;> (try simp (disch := omega) only [nI_clamp, li_2, li_3, li_4, li_5, li_6, li_7, li_8, li_9, li_10, li_40, li_120, pk_mul, nI_add, nI_1, ix_eq, ix_lt, ix_le, ix_l0, ix_l1, ix_n0, ix_p0, ix_1lt, ix_lt1, ix_1le, ix_le1, ix_le0, ix_0lt, ab_z0, ab_z1, i_10, i_01, eq_self, ab_ozn, ab_ozp, ab_o_some, not_true_eq_false, not_false_eq_true, Bool.not_eq_false, Bool.not_eq_true, Bool.not_eq_false', Bool.not_eq_true', Bool.false_eq_true, Bool.true_eq_false, reduceCtorEq, Option.isSome_some, Option.isSome_none, c] at h) <;> (try omega)) | (refine br_n (fun h => ?_) (fun h => ?_) <;> (try simp (disch := omega) only [nI_clamp, li_2, li_3, li_4, li_5, li_6, li_7, li_8, li_9, li_10, li_40, li_120, pk_mul, nI_add, nI_1, ix_eq, ix_lt, ix_le, ix_l0, ix_l1, ix_n0, ix_p0, ix_1lt, ix_lt1, ix_1le, ix_le1, ix_le0, ix_0lt, ab_z0, ab_z1, i_10, i_01, eq_self, ab_ozn, ab_ozp, ab_o_some, not_true_eq_false, not_false_eq_true, Bool.not_eq_false, Bool.not_eq_true, Bool.not_eq_false', Bool.not_eq_true', Bool.false_eq_true, Bool.true_eq_false, reduceCtorEq, Option.isSome_some, Option.isSome_none, c] at h) <;> (try omega)) | refine ab_sd (by first | (with_reducible refine vp_in_nI ?_ ?_ <;> omega) | (simp (disch := omega) only [nI_clamp, li_2, li_3, li_4, li_5, li_6, li_7, li_8, li_9, li_10, li_40, li_120, pk_mul, nI_add, nI_1, ix_eq, ix_lt, ix_le, ix_l0, ix_l1, ix_n0, ix_p0, ix_1lt, ix_lt1, ix_1le, ix_le1, ix_le0, ix_0lt, ab_z0, ab_z1, i_10, i_01, eq_self, ab_ozn, ab_ozp, ab_o_some, not_true_eq_false, not_false_eq_true, Bool.not_eq_false, Bool.not_eq_true, Bool.not_eq_false', Bool.not_eq_true', Bool.false_eq_true, Bool.true_eq_false, reduceCtorEq, Option.isSome_some, Option.isSome_none, c]; with_reducible refine vp_in_nI ?_ ?_ <;> omega)) ?_ | refine ab_sd ?_ ?_ | refine ab_sz (Or.inl rfl) ?_ | refine ab_sz (Or.inr rfl) ?_ | refine ab_sz ?_ ?_)
          show Q _ _
          have hn : (s_ch S f).find? (fun x => s_hasOne S x (g / 10) (g % 10)) = none := by
            rw [List.find?_eq_none]
            intro x hxm
            rw [hx x hxm (Nat.zero_le _)]
            simp
          rw [hn] at hQ
          exact hQ μ' C' sq
        | succ k ih =>
          intro μ' hk C' sq hx
          refine hj _ _ _ _ ?_
          have c : ((ab_ik (k + 1)) < 0) ↔ False := ⟨fun q => nI_pos (n := k) (by omega) q, False.elim⟩
          have k22' := (RepT_fs C'.2.1).2.2.2.2.2.2.2.2.2.1 f k hf
          cases hc : (s_ch S f).contains k with
          | false =>
            repeat' (first | refine hjx _ _ _ _ (by decide) ?_ | (refine br_c (fun h => ?_) (fun h => ?_) <;> (try simp (disch := omega) only [nI_clamp, li_2, li_3, li_4, li_5, li_6, li_7, li_8, li_9, li_10, li_40, li_120, pk_mul, nI_add, nI_1, ix_eq, ix_lt, ix_le, ix_l0, ix_l1, ix_n0, ix_p0, ix_1lt, ix_lt1, ix_1le, ix_le1, ix_le0, ix_0lt, ab_z0, ab_z1, i_10, i_01, eq_self, ab_ozn, ab_ozp, ab_o_some, not_true_eq_false, not_false_eq_true, Bool.not_eq_false, Bool.not_eq_true, Bool.not_eq_false', Bool.not_eq_true', Bool.false_eq_true, Bool.true_eq_false, reduceCtorEq, Option.isSome_some, Option.isSome_none, c, k22', hc] at h) <;> (try omega)) | (refine br_n (fun h => ?_) (fun h => ?_) <;> (try simp (disch := omega) only [nI_clamp, li_2, li_3, li_4, li_5, li_6, li_7, li_8, li_9, li_10, li_40, li_120, pk_mul, nI_add, nI_1, ix_eq, ix_lt, ix_le, ix_l0, ix_l1, ix_n0, ix_p0, ix_1lt, ix_lt1, ix_1le, ix_le1, ix_le0, ix_0lt, ab_z0, ab_z1, i_10, i_01, eq_self, ab_ozn, ab_ozp, ab_o_some, not_true_eq_false, not_false_eq_true, Bool.not_eq_false, Bool.not_eq_true, Bool.not_eq_false', Bool.not_eq_true', Bool.false_eq_true, Bool.true_eq_false, reduceCtorEq, Option.isSome_some, Option.isSome_none, c, k22', hc] at h) <;> (try omega)) | refine ab_sd (by first | (with_reducible refine vp_in_nI ?_ ?_ <;> omega) | (simp (disch := omega) only [nI_clamp, li_2, li_3, li_4, li_5, li_6, li_7, li_8, li_9, li_10, li_40, li_120, pk_mul, nI_add, nI_1, ix_eq, ix_lt, ix_le, ix_l0, ix_l1, ix_n0, ix_p0, ix_1lt, ix_lt1, ix_1le, ix_le1, ix_le0, ix_0lt, ab_z0, ab_z1, i_10, i_01, eq_self, ab_ozn, ab_ozp, ab_o_some, not_true_eq_false, not_false_eq_true, Bool.not_eq_false, Bool.not_eq_true, Bool.not_eq_false', Bool.not_eq_true', Bool.false_eq_true, Bool.true_eq_false, reduceCtorEq, Option.isSome_some, Option.isSome_none, c, k22', hc]; with_reducible refine vp_in_nI ?_ ?_ <;> omega)) ?_ | refine x_has hω (t := k) rfl (by omega) ?_ | refine ab_sd ?_ ?_ | refine ab_sz (Or.inl rfl) ?_ | refine ab_sz (Or.inr rfl) ?_ | refine ab_sz ?_ ?_)
            show j 16 _ _ _
            rw [ab_ik_s]
            refine ih μ' (by omega) C' sq (fun x hxm hl => ?_)
            by_cases e : x = k
            · subst e; rw [List.contains_iff_mem.mpr hxm] at hc; cases hc
            · exact hx x hxm (by omega)
          | true =>
            cases ho : s_hasOne S k (g / 10) (g % 10) with
            | false =>
              repeat' (first | refine hjx _ _ _ _ (by decide) ?_ | (refine br_c (fun h => ?_) (fun h => ?_) <;> (try simp (disch := omega) only [nI_clamp, li_2, li_3, li_4, li_5, li_6, li_7, li_8, li_9, li_10, li_40, li_120, pk_mul, nI_add, nI_1, ix_eq, ix_lt, ix_le, ix_l0, ix_l1, ix_n0, ix_p0, ix_1lt, ix_lt1, ix_1le, ix_le1, ix_le0, ix_0lt, ab_z0, ab_z1, i_10, i_01, eq_self, ab_ozn, ab_ozp, ab_o_some, not_true_eq_false, not_false_eq_true, Bool.not_eq_false, Bool.not_eq_true, Bool.not_eq_false', Bool.not_eq_true', Bool.false_eq_true, Bool.true_eq_false, reduceCtorEq, Option.isSome_some, Option.isSome_none, c, k22', hc, lg_cmp_eq] at h) <;> (try omega)) | (refine br_n (fun h => ?_) (fun h => ?_) <;> (try simp (disch := omega) only [nI_clamp, li_2, li_3, li_4, li_5, li_6, li_7, li_8, li_9, li_10, li_40, li_120, pk_mul, nI_add, nI_1, ix_eq, ix_lt, ix_le, ix_l0, ix_l1, ix_n0, ix_p0, ix_1lt, ix_lt1, ix_1le, ix_le1, ix_le0, ix_0lt, ab_z0, ab_z1, i_10, i_01, eq_self, ab_ozn, ab_ozp, ab_o_some, not_true_eq_false, not_false_eq_true, Bool.not_eq_false, Bool.not_eq_true, Bool.not_eq_false', Bool.not_eq_true', Bool.false_eq_true, Bool.true_eq_false, reduceCtorEq, Option.isSome_some, Option.isSome_none, c, k22', hc, lg_cmp_eq] at h) <;> (try omega)) | refine ab_sd (by first | (with_reducible refine vp_in_nI ?_ ?_ <;> omega) | (simp (disch := omega) only [nI_clamp, li_2, li_3, li_4, li_5, li_6, li_7, li_8, li_9, li_10, li_40, li_120, pk_mul, nI_add, nI_1, ix_eq, ix_lt, ix_le, ix_l0, ix_l1, ix_n0, ix_p0, ix_1lt, ix_lt1, ix_1le, ix_le1, ix_le0, ix_0lt, ab_z0, ab_z1, i_10, i_01, eq_self, ab_ozn, ab_ozp, ab_o_some, not_true_eq_false, not_false_eq_true, Bool.not_eq_false, Bool.not_eq_true, Bool.not_eq_false', Bool.not_eq_true', Bool.false_eq_true, Bool.true_eq_false, reduceCtorEq, Option.isSome_some, Option.isSome_none, c, k22', hc, lg_cmp_eq]; with_reducible refine vp_in_nI ?_ ?_ <;> omega)) ?_ | refine x_has hω (t := k) rfl (by omega) ?_ | refine x_membersOf hω C' hI hR (t := k) (g := g) rfl rfl (by omega) hg (fun μ2 w C2 sq2 hw2 => ?_) | refine ab_sd ?_ ?_ | refine ab_sz (Or.inl rfl) ?_ | refine ab_sz (Or.inr rfl) ?_ | refine ab_sz ?_ ?_)
              · show j 16 _ _ _
                rw [ab_ik_s]
                refine ih μ2 (by omega) C2 (sq.tr sq2) (fun x hxm hl => ?_)
                by_cases e : x = k
                · subst e; exact ho
                · exact hx x hxm (by omega)
              · exfalso
                exact h ((s_hasOne_pg hI hg hw2).mpr ho)
            | true =>
              repeat' (first | refine hjx _ _ _ _ (by decide) ?_ | (refine br_c (fun h => ?_) (fun h => ?_) <;> (try simp (disch := omega) only [nI_clamp, li_2, li_3, li_4, li_5, li_6, li_7, li_8, li_9, li_10, li_40, li_120, pk_mul, nI_add, nI_1, ix_eq, ix_lt, ix_le, ix_l0, ix_l1, ix_n0, ix_p0, ix_1lt, ix_lt1, ix_1le, ix_le1, ix_le0, ix_0lt, ab_z0, ab_z1, i_10, i_01, eq_self, ab_ozn, ab_ozp, ab_o_some, not_true_eq_false, not_false_eq_true, Bool.not_eq_false, Bool.not_eq_true, Bool.not_eq_false', Bool.not_eq_true', Bool.false_eq_true, Bool.true_eq_false, reduceCtorEq, Option.isSome_some, Option.isSome_none, c, k22', hc, lg_cmp_eq] at h) <;> (try omega)) | (refine br_n (fun h => ?_) (fun h => ?_) <;> (try simp (disch := omega) only [nI_clamp, li_2, li_3, li_4, li_5, li_6, li_7, li_8, li_9, li_10, li_40, li_120, pk_mul, nI_add, nI_1, ix_eq, ix_lt, ix_le, ix_l0, ix_l1, ix_n0, ix_p0, ix_1lt, ix_lt1, ix_1le, ix_le1, ix_le0, ix_0lt, ab_z0, ab_z1, i_10, i_01, eq_self, ab_ozn, ab_ozp, ab_o_some, not_true_eq_false, not_false_eq_true, Bool.not_eq_false, Bool.not_eq_true, Bool.not_eq_false', Bool.not_eq_true', Bool.false_eq_true, Bool.true_eq_false, reduceCtorEq, Option.isSome_some, Option.isSome_none, c, k22', hc, lg_cmp_eq] at h) <;> (try omega)) | refine ab_sd (by first | (with_reducible refine vp_in_nI ?_ ?_ <;> omega) | (simp (disch := omega) only [nI_clamp, li_2, li_3, li_4, li_5, li_6, li_7, li_8, li_9, li_10, li_40, li_120, pk_mul, nI_add, nI_1, ix_eq, ix_lt, ix_le, ix_l0, ix_l1, ix_n0, ix_p0, ix_1lt, ix_lt1, ix_1le, ix_le1, ix_le0, ix_0lt, ab_z0, ab_z1, i_10, i_01, eq_self, ab_ozn, ab_ozp, ab_o_some, not_true_eq_false, not_false_eq_true, Bool.not_eq_false, Bool.not_eq_true, Bool.not_eq_false', Bool.not_eq_true', Bool.false_eq_true, Bool.true_eq_false, reduceCtorEq, Option.isSome_some, Option.isSome_none, c, k22', hc, lg_cmp_eq]; with_reducible refine vp_in_nI ?_ ?_ <;> omega)) ?_ | refine x_has hω (t := k) rfl (by omega) ?_ | refine x_membersOf hω C' hI hR (t := k) (g := g) rfl rfl (by omega) hg (fun μ2 w C2 sq2 hw2 => ?_) | refine ab_sd ?_ ?_ | refine ab_sz (Or.inl rfl) ?_ | refine ab_sz (Or.inr rfl) ?_ | refine ab_sz ?_ ?_)
              · exfalso
                rw [(s_hasOne_pg hI hg hw2).mp h] at ho
                cases ho
              · show Q _ _
                rw [find_pw (s_ch_pw hW (f + 1) f (by omega) hf) (List.contains_iff_mem.mp hc) ho (fun x hxm hl => hx x hxm (by omega))] at hQ
                exact hQ μ2 C2 (sq.tr sq2)
      repeat' (first | refine hjx _ _ _ _ (by decide) ?_ | (refine br_c (fun h => ?_) (fun h => ?_) <;> (try simp (disch := omega) only [nI_clamp, li_2, li_3, li_4, li_5, li_6, li_7, li_8, li_9, li_10, li_40, li_120, pk_mul, nI_add, nI_1, ix_eq, ix_lt, ix_le, ix_l0, ix_l1, ix_n0, ix_p0, ix_1lt, ix_lt1, ix_1le, ix_le1, ix_le0, ix_0lt, ab_z0, ab_z1, i_10, i_01, eq_self, ab_ozn, ab_ozp, ab_o_some, not_true_eq_false, not_false_eq_true, Bool.not_eq_false, Bool.not_eq_true, Bool.not_eq_false', Bool.not_eq_true', Bool.false_eq_true, Bool.true_eq_false, reduceCtorEq, Option.isSome_some, Option.isSome_none] at h) <;> (try omega)) | (refine br_n (fun h => ?_) (fun h => ?_) <;> (try simp (disch := omega) only [nI_clamp, li_2, li_3, li_4, li_5, li_6, li_7, li_8, li_9, li_10, li_40, li_120, pk_mul, nI_add, nI_1, ix_eq, ix_lt, ix_le, ix_l0, ix_l1, ix_n0, ix_p0, ix_1lt, ix_lt1, ix_1le, ix_le1, ix_le0, ix_0lt, ab_z0, ab_z1, i_10, i_01, eq_self, ab_ozn, ab_ozp, ab_o_some, not_true_eq_false, not_false_eq_true, Bool.not_eq_false, Bool.not_eq_true, Bool.not_eq_false', Bool.not_eq_true', Bool.false_eq_true, Bool.true_eq_false, reduceCtorEq, Option.isSome_some, Option.isSome_none] at h) <;> (try omega)) | refine ab_sd (by first | (with_reducible refine vp_in_nI ?_ ?_ <;> omega) | (simp (disch := omega) only [nI_clamp, li_2, li_3, li_4, li_5, li_6, li_7, li_8, li_9, li_10, li_40, li_120, pk_mul, nI_add, nI_1, ix_eq, ix_lt, ix_le, ix_l0, ix_l1, ix_n0, ix_p0, ix_1lt, ix_lt1, ix_1le, ix_le1, ix_le0, ix_0lt, ab_z0, ab_z1, i_10, i_01, eq_self, ab_ozn, ab_ozp, ab_o_some, not_true_eq_false, not_false_eq_true, Bool.not_eq_false, Bool.not_eq_true, Bool.not_eq_false', Bool.not_eq_true', Bool.false_eq_true, Bool.true_eq_false, reduceCtorEq, Option.isSome_some, Option.isSome_none]; with_reducible refine vp_in_nI ?_ ?_ <;> omega)) ?_ | refine ab_sd ?_ ?_ | refine ab_sz (Or.inl rfl) ?_ | refine ab_sz (Or.inr rfl) ?_ | refine ab_sz ?_ ?_)
      exact key (f + 1) μ (Nat.le_refl _) C SameQ.rf (fun x hx h => by have := s_ch_le hW (f + 1) f (by omega) hf x hx; omega)
    · repeat' (first | refine hjx _ _ _ _ (by decide) ?_ | (refine br_c (fun h => ?_) (fun h => ?_) <;> (try simp (disch := omega) only [nI_clamp, li_2, li_3, li_4, li_5, li_6, li_7, li_8, li_9, li_10, li_40, li_120, pk_mul, nI_add, nI_1, ix_eq, ix_lt, ix_le, ix_l0, ix_l1, ix_n0, ix_p0, ix_1lt, ix_lt1, ix_1le, ix_le1, ix_le0, ix_0lt, ab_z0, ab_z1, i_10, i_01, eq_self, ab_ozn, ab_ozp, ab_o_some, not_true_eq_false, not_false_eq_true, Bool.not_eq_false, Bool.not_eq_true, Bool.not_eq_false', Bool.not_eq_true', Bool.false_eq_true, Bool.true_eq_false, reduceCtorEq, Option.isSome_some, Option.isSome_none] at h) <;> (try omega)) | (refine br_n (fun h => ?_) (fun h => ?_) <;> (try simp (disch := omega) only [nI_clamp, li_2, li_3, li_4, li_5, li_6, li_7, li_8, li_9, li_10, li_40, li_120, pk_mul, nI_add, nI_1, ix_eq, ix_lt, ix_le, ix_l0, ix_l1, ix_n0, ix_p0, ix_1lt, ix_lt1, ix_1le, ix_le1, ix_le0, ix_0lt, ab_z0, ab_z1, i_10, i_01, eq_self, ab_ozn, ab_ozp, ab_o_some, not_true_eq_false, not_false_eq_true, Bool.not_eq_false, Bool.not_eq_true, Bool.not_eq_false', Bool.not_eq_true', Bool.false_eq_true, Bool.true_eq_false, reduceCtorEq, Option.isSome_some, Option.isSome_none] at h) <;> (try omega)) | refine ab_sd (by first | (with_reducible refine vp_in_nI ?_ ?_ <;> omega) | (simp (disch := omega) only [nI_clamp, li_2, li_3, li_4, li_5, li_6, li_7, li_8, li_9, li_10, li_40, li_120, pk_mul, nI_add, nI_1, ix_eq, ix_lt, ix_le, ix_l0, ix_l1, ix_n0, ix_p0, ix_1lt, ix_lt1, ix_1le, ix_le1, ix_le0, ix_0lt, ab_z0, ab_z1, i_10, i_01, eq_self, ab_ozn, ab_ozp, ab_o_some, not_true_eq_false, not_false_eq_true, Bool.not_eq_false, Bool.not_eq_true, Bool.not_eq_false', Bool.not_eq_true', Bool.false_eq_true, Bool.true_eq_false, reduceCtorEq, Option.isSome_some, Option.isSome_none]; with_reducible refine vp_in_nI ?_ ?_ <;> omega)) ?_ | refine ab_sd ?_ ?_ | refine ab_sz (Or.inl rfl) ?_ | refine ab_sz (Or.inr rfl) ?_ | refine ab_sz ?_ ?_)
      show Q _ _
      rw [if_pos (by omega)] at hQ
      exact hQ μ C SameQ.rf
def s_bst (S : sT) (w : Int64) (i : Nat) : Bool := ab_bt w i && (S.1 50 i == 0 || !ab_ex (fun u => ab_bt w u && S.1 50 u == 0) (s_nT S))
theorem x_preferred (hω : ω.2.2.2 = ab_SH) (T : RepT S μ) (X : RepX S μ) (hI : Iv S) {y : Int32} {w : Int64} {g : Nat} (ey : y = nI g) (hg : g < 30) (hw1 : ∀ i, ab_bt w i = true → (s_dg S i g).isSome = true) (hQ : ∀ o, (o = none → ∀ i, i < s_nT S → s_bst S w i = false) → (∀ x, o = some x → (∃ i, i < s_nT S ∧ s_bst S w i = true ∧ s_dg S i g = some x) ∧ ∀ i m, i < s_nT S → s_bst S w i = true → s_dg S i g = some m → x ≤ m) → Q (ab_o1 o) μ) : ab_CI l ω mX9_preferred [.ref 7, .long w, .int y] μ Q := by
  subst ey
  refine ab_intro (sh := ab_SH) (cd := kX9_preferred) hω vX9_preferred (by decide +kernel) rfl (Nat.le_of_ble_eq_true rfl) (fun j hj hw => ?_)
  have hjx : ∀ i ll st μ, i ∉ ([13, 18, 42] : List Nat) → _ → j i ll st μ := fun i ll st μ _ h => hj i ll st μ h
  have hW := hI.1
  have hT := hW.2.2.1.2
  have hX := hW.2.2.2.1
  obtain ⟨kT, kc, ks, k13, k14, k15, k16, k17, k18, k22, k19, k20, k21, k25⟩ := RepT_fs T
  have z1 : (w &&& μ.2 2 1 = 0) ↔ ab_ex (fun u => ab_bt w u && S.1 50 u == 0) (s_nT S) = false := by
    rw [ab_bt_zero]
    constructor
    · intro h
      refine ab_ex_f (fun i hi => ?_)
      have := h i (by omega)
      rw [ab_bt_and, kc i hi] at this
      exact this
    · intro h i hi
      rw [ab_bt_and]
      by_cases q : i < s_nT S
      · rw [kc i q]
        cases hx : (ab_bt w i && S.1 50 i == 0) with
        | false => rfl
        | true => rw [ab_ex_iff.mpr ⟨i, q, hx⟩] at h; cases h
      · cases hb : ab_bt w i with
        | false => rfl
        | true =>
          have := hw1 i hb
          cases e : s_dg S i g with
          | none => rw [e] at this; cases this
          | some m => exact absurd (s_dg_some hW e).2.2.2.2 q
  have key : ∀ d n (b : Int64) v4 v5 v10 o, n + d = s_nT S → (∀ i, i < s_nT S → ab_bt b i = s_bst S w i) → (o = none → ∀ i, i < n → s_bst S w i = false) → (∀ x, o = some x → (∃ i, i < s_nT S ∧ s_bst S w i = true ∧ s_dg S i g = some x) ∧ ∀ i m, i < n → s_bst S w i = true → s_dg S i g = some m → x ≤ m) → j 18 [some (.ref 7), some (.long w), none, some (.int (nI g)), v4, v5, some (.long b), none, some (.int (ab_o1 o)), some (.int (nI n)), v10] [] μ := by
    intro d
    induction d with
    | zero =>
      intro n b v4 v5 v10 o hn hb h0 h1
      refine hj _ _ _ _ ?_
      repeat' (first | refine hjx _ _ _ _ (by decide) ?_ | (refine br_c (fun h => ?_) (fun h => ?_) <;> (try simp (disch := omega) only [nI_clamp, li_2, li_3, li_4, li_5, li_6, li_7, li_8, li_9, li_10, li_40, li_120, pk_mul, nI_add, nI_1, ix_eq, ix_lt, ix_le, ix_l0, ix_l1, ix_n0, ix_p0, ix_1lt, ix_lt1, ix_1le, ix_le1, ix_le0, ix_0lt, ab_z0, ab_z1, i_10, i_01, eq_self, ab_ozn, ab_ozp, ab_o_some, not_true_eq_false, not_false_eq_true, Bool.not_eq_false, Bool.not_eq_true, Bool.not_eq_false', Bool.not_eq_true', Bool.false_eq_true, Bool.true_eq_false, reduceCtorEq, Option.isSome_some, Option.isSome_none, kT] at h) <;> (try omega)) | (refine br_n (fun h => ?_) (fun h => ?_) <;> (try simp (disch := omega) only [nI_clamp, li_2, li_3, li_4, li_5, li_6, li_7, li_8, li_9, li_10, li_40, li_120, pk_mul, nI_add, nI_1, ix_eq, ix_lt, ix_le, ix_l0, ix_l1, ix_n0, ix_p0, ix_1lt, ix_lt1, ix_1le, ix_le1, ix_le0, ix_0lt, ab_z0, ab_z1, i_10, i_01, eq_self, ab_ozn, ab_ozp, ab_o_some, not_true_eq_false, not_false_eq_true, Bool.not_eq_false, Bool.not_eq_true, Bool.not_eq_false', Bool.not_eq_true', Bool.false_eq_true, Bool.true_eq_false, reduceCtorEq, Option.isSome_some, Option.isSome_none, kT] at h) <;> (try omega)) | refine ab_sd (by first | (with_reducible refine vp_in_nI ?_ ?_ <;> omega) | (simp (disch := omega) only [nI_clamp, li_2, li_3, li_4, li_5, li_6, li_7, li_8, li_9, li_10, li_40, li_120, pk_mul, nI_add, nI_1, ix_eq, ix_lt, ix_le, ix_l0, ix_l1, ix_n0, ix_p0, ix_1lt, ix_lt1, ix_1le, ix_le1, ix_le0, ix_0lt, ab_z0, ab_z1, i_10, i_01, eq_self, ab_ozn, ab_ozp, ab_o_some, not_true_eq_false, not_false_eq_true, Bool.not_eq_false, Bool.not_eq_true, Bool.not_eq_false', Bool.not_eq_true', Bool.false_eq_true, Bool.true_eq_false, reduceCtorEq, Option.isSome_some, Option.isSome_none, kT]; with_reducible refine vp_in_nI ?_ ?_ <;> omega)) ?_ | refine ab_sd ?_ ?_ | refine ab_sz (Or.inl rfl) ?_ | refine ab_sz (Or.inr rfl) ?_ | refine ab_sz ?_ ?_)
      show Q _ _
      have : n = s_nT S := by omega
      subst this
      exact hQ o h0 h1
    | succ d ih =>
      intro n b v4 v5 v10 o hn hb h0 h1
      refine hj _ _ _ _ ?_
      have hbn := hb n (by omega)
      cases hs : s_bst S w n with
      | false =>
        rw [hs] at hbn
        repeat' (first | refine hjx _ _ _ _ (by decide) ?_ | (refine br_c (fun h => ?_) (fun h => ?_) <;> (try simp (disch := omega) only [nI_clamp, li_2, li_3, li_4, li_5, li_6, li_7, li_8, li_9, li_10, li_40, li_120, pk_mul, nI_add, nI_1, ix_eq, ix_lt, ix_le, ix_l0, ix_l1, ix_n0, ix_p0, ix_1lt, ix_lt1, ix_1le, ix_le1, ix_le0, ix_0lt, ab_z0, ab_z1, i_10, i_01, eq_self, ab_ozn, ab_ozp, ab_o_some, not_true_eq_false, not_false_eq_true, Bool.not_eq_false, Bool.not_eq_true, Bool.not_eq_false', Bool.not_eq_true', Bool.false_eq_true, Bool.true_eq_false, reduceCtorEq, Option.isSome_some, Option.isSome_none, kT, hbn] at h) <;> (try omega)) | (refine br_n (fun h => ?_) (fun h => ?_) <;> (try simp (disch := omega) only [nI_clamp, li_2, li_3, li_4, li_5, li_6, li_7, li_8, li_9, li_10, li_40, li_120, pk_mul, nI_add, nI_1, ix_eq, ix_lt, ix_le, ix_l0, ix_l1, ix_n0, ix_p0, ix_1lt, ix_lt1, ix_1le, ix_le1, ix_le0, ix_0lt, ab_z0, ab_z1, i_10, i_01, eq_self, ab_ozn, ab_ozp, ab_o_some, not_true_eq_false, not_false_eq_true, Bool.not_eq_false, Bool.not_eq_true, Bool.not_eq_false', Bool.not_eq_true', Bool.false_eq_true, Bool.true_eq_false, reduceCtorEq, Option.isSome_some, Option.isSome_none, kT, hbn] at h) <;> (try omega)) | refine ab_sd (by first | (with_reducible refine vp_in_nI ?_ ?_ <;> omega) | (simp (disch := omega) only [nI_clamp, li_2, li_3, li_4, li_5, li_6, li_7, li_8, li_9, li_10, li_40, li_120, pk_mul, nI_add, nI_1, ix_eq, ix_lt, ix_le, ix_l0, ix_l1, ix_n0, ix_p0, ix_1lt, ix_lt1, ix_1le, ix_le1, ix_le0, ix_0lt, ab_z0, ab_z1, i_10, i_01, eq_self, ab_ozn, ab_ozp, ab_o_some, not_true_eq_false, not_false_eq_true, Bool.not_eq_false, Bool.not_eq_true, Bool.not_eq_false', Bool.not_eq_true', Bool.false_eq_true, Bool.true_eq_false, reduceCtorEq, Option.isSome_some, Option.isSome_none, kT, hbn]; with_reducible refine vp_in_nI ?_ ?_ <;> omega)) ?_ | refine x_has hω (t := n) rfl (by omega) ?_ | refine ab_sd ?_ ?_ | refine ab_sz (Or.inl rfl) ?_ | refine ab_sz (Or.inr rfl) ?_ | refine ab_sz ?_ ?_)
        show j 18 _ _ _
        rw [nI_1]
        refine ih (n + 1) b _ _ _ o (by omega) hb (fun e i hi => ?_) (fun x e => ⟨(h1 x e).1, fun i m hi hbi hd => ?_⟩)
        · by_cases q : i = n
          · subst q; exact hs
          · exact h0 e i (by omega)
        · by_cases q : i = n
          · subst q; rw [hs] at hbi; cases hbi
          · exact (h1 x e).2 i m (by omega) hbi hd
      | true =>
        rw [hs] at hbn
        have hwn : ab_bt w n = true := by unfold s_bst at hs; simp only [Bool.and_eq_true] at hs; exact hs.1
        have hsm := hw1 n hwn
        cases e : s_dg S n g with
        | none => rw [e] at hsm; cases hsm
        | some m =>
          have hm := (s_dg_some hW e).1
          have k42 : ∀ o', (∃ x, o' = some x ∧ (∃ i, i < s_nT S ∧ s_bst S w i = true ∧ s_dg S i g = some x) ∧ x ≤ m ∧ ∀ i m, i < n → s_bst S w i = true → s_dg S i g = some m → x ≤ m) → ∀ v8 v10, j 42 [some (.ref 7), some (.long w), none, some (.int (nI g)), v4, v5, some (.long b), none, v8, some (.int (nI n)), v10] [.int (ab_o1 o')] μ := by
            rintro o' ⟨x, rfl, q1, q2, q3⟩ v8 v10
            refine hj _ _ _ _ ?_
            repeat' (first | refine hjx _ _ _ _ (by decide) ?_ | (refine br_c (fun h => ?_) (fun h => ?_) <;> (try simp (disch := omega) only [nI_clamp, li_2, li_3, li_4, li_5, li_6, li_7, li_8, li_9, li_10, li_40, li_120, pk_mul, nI_add, nI_1, ix_eq, ix_lt, ix_le, ix_l0, ix_l1, ix_n0, ix_p0, ix_1lt, ix_lt1, ix_1le, ix_le1, ix_le0, ix_0lt, ab_z0, ab_z1, i_10, i_01, eq_self, ab_ozn, ab_ozp, ab_o_some, not_true_eq_false, not_false_eq_true, Bool.not_eq_false, Bool.not_eq_true, Bool.not_eq_false', Bool.not_eq_true', Bool.false_eq_true, Bool.true_eq_false, reduceCtorEq, Option.isSome_some, Option.isSome_none] at h) <;> (try omega)) | (refine br_n (fun h => ?_) (fun h => ?_) <;> (try simp (disch := omega) only [nI_clamp, li_2, li_3, li_4, li_5, li_6, li_7, li_8, li_9, li_10, li_40, li_120, pk_mul, nI_add, nI_1, ix_eq, ix_lt, ix_le, ix_l0, ix_l1, ix_n0, ix_p0, ix_1lt, ix_lt1, ix_1le, ix_le1, ix_le0, ix_0lt, ab_z0, ab_z1, i_10, i_01, eq_self, ab_ozn, ab_ozp, ab_o_some, not_true_eq_false, not_false_eq_true, Bool.not_eq_false, Bool.not_eq_true, Bool.not_eq_false', Bool.not_eq_true', Bool.false_eq_true, Bool.true_eq_false, reduceCtorEq, Option.isSome_some, Option.isSome_none] at h) <;> (try omega)) | refine ab_sd (by first | (with_reducible refine vp_in_nI ?_ ?_ <;> omega) | (simp (disch := omega) only [nI_clamp, li_2, li_3, li_4, li_5, li_6, li_7, li_8, li_9, li_10, li_40, li_120, pk_mul, nI_add, nI_1, ix_eq, ix_lt, ix_le, ix_l0, ix_l1, ix_n0, ix_p0, ix_1lt, ix_lt1, ix_1le, ix_le1, ix_le0, ix_0lt, ab_z0, ab_z1, i_10, i_01, eq_self, ab_ozn, ab_ozp, ab_o_some, not_true_eq_false, not_false_eq_true, Bool.not_eq_false, Bool.not_eq_true, Bool.not_eq_false', Bool.not_eq_true', Bool.false_eq_true, Bool.true_eq_false, reduceCtorEq, Option.isSome_some, Option.isSome_none]; with_reducible refine vp_in_nI ?_ ?_ <;> omega)) ?_ | refine ab_sd ?_ ?_ | refine ab_sz (Or.inl rfl) ?_ | refine ab_sz (Or.inr rfl) ?_ | refine ab_sz ?_ ?_)
            show j 18 _ _ _
            rw [nI_1]
            refine ih (n + 1) b _ _ _ (some x) (by omega) hb (fun q => by cases q) (fun x' e' => ?_)
            cases e'
            refine ⟨q1, fun i m' hi hbi hd => ?_⟩
            by_cases q : i = n
            · subst q; rw [e] at hd; cases hd; exact q2
            · exact q3 i m' (by omega) hbi hd
          cases o with
          | none =>
            repeat' (first | refine hjx _ _ _ _ (by decide) ?_ | (refine br_c (fun h => ?_) (fun h => ?_) <;> (try simp (disch := omega) only [nI_clamp, li_2, li_3, li_4, li_5, li_6, li_7, li_8, li_9, li_10, li_40, li_120, pk_mul, nI_add, nI_1, ix_eq, ix_lt, ix_le, ix_l0, ix_l1, ix_n0, ix_p0, ix_1lt, ix_lt1, ix_1le, ix_le1, ix_le0, ix_0lt, ab_z0, ab_z1, i_10, i_01, eq_self, ab_ozn, ab_ozp, ab_o_some, not_true_eq_false, not_false_eq_true, Bool.not_eq_false, Bool.not_eq_true, Bool.not_eq_false', Bool.not_eq_true', Bool.false_eq_true, Bool.true_eq_false, reduceCtorEq, Option.isSome_some, Option.isSome_none, kT, hbn, ab_o1p] at h) <;> (try omega)) | (refine br_n (fun h => ?_) (fun h => ?_) <;> (try simp (disch := omega) only [nI_clamp, li_2, li_3, li_4, li_5, li_6, li_7, li_8, li_9, li_10, li_40, li_120, pk_mul, nI_add, nI_1, ix_eq, ix_lt, ix_le, ix_l0, ix_l1, ix_n0, ix_p0, ix_1lt, ix_lt1, ix_1le, ix_le1, ix_le0, ix_0lt, ab_z0, ab_z1, i_10, i_01, eq_self, ab_ozn, ab_ozp, ab_o_some, not_true_eq_false, not_false_eq_true, Bool.not_eq_false, Bool.not_eq_true, Bool.not_eq_false', Bool.not_eq_true', Bool.false_eq_true, Bool.true_eq_false, reduceCtorEq, Option.isSome_some, Option.isSome_none, kT, hbn, ab_o1p] at h) <;> (try omega)) | refine ab_sd (by first | (with_reducible refine vp_in_nI ?_ ?_ <;> omega) | (simp (disch := omega) only [nI_clamp, li_2, li_3, li_4, li_5, li_6, li_7, li_8, li_9, li_10, li_40, li_120, pk_mul, nI_add, nI_1, ix_eq, ix_lt, ix_le, ix_l0, ix_l1, ix_n0, ix_p0, ix_1lt, ix_lt1, ix_1le, ix_le1, ix_le0, ix_0lt, ab_z0, ab_z1, i_10, i_01, eq_self, ab_ozn, ab_ozp, ab_o_some, not_true_eq_false, not_false_eq_true, Bool.not_eq_false, Bool.not_eq_true, Bool.not_eq_false', Bool.not_eq_true', Bool.false_eq_true, Bool.true_eq_false, reduceCtorEq, Option.isSome_some, Option.isSome_none, kT, hbn, ab_o1p]; with_reducible refine vp_in_nI ?_ ?_ <;> omega)) ?_ | refine x_has hω (t := n) rfl (by omega) ?_ | refine x_declared hω X (t := n) (g := g) rfl rfl (by omega) hg ?_ | refine ab_sd ?_ ?_ | refine ab_sz (Or.inl rfl) ?_ | refine ab_sz (Or.inr rfl) ?_ | refine ab_sz ?_ ?_)
            rw [e]
            refine k42 (some m) ⟨m, rfl, ⟨n, by omega, hs, e⟩, Nat.le_refl _, fun i m' hi hbi hd => ?_⟩ _ _
            rw [h0 rfl i hi] at hbi; cases hbi
          | some x0 =>
            obtain ⟨⟨i0, p1, p2, p3⟩, p4⟩ := h1 x0 rfl
            have hx0 := (s_dg_some hW p3).1
            have c3 : (nI x0 = -1) ↔ False := ⟨fun q => by have := nI_pos (n := x0) (by omega); rw [q] at this; exact this (by decide), False.elim⟩
            repeat' (first | refine hjx _ _ _ _ (by decide) ?_ | (refine br_c (fun h => ?_) (fun h => ?_) <;> (try simp (disch := omega) only [nI_clamp, li_2, li_3, li_4, li_5, li_6, li_7, li_8, li_9, li_10, li_40, li_120, pk_mul, nI_add, nI_1, ix_eq, ix_lt, ix_le, ix_l0, ix_l1, ix_n0, ix_p0, ix_1lt, ix_lt1, ix_1le, ix_le1, ix_le0, ix_0lt, ab_z0, ab_z1, i_10, i_01, eq_self, ab_ozn, ab_ozp, ab_o_some, not_true_eq_false, not_false_eq_true, Bool.not_eq_false, Bool.not_eq_true, Bool.not_eq_false', Bool.not_eq_true', Bool.false_eq_true, Bool.true_eq_false, reduceCtorEq, Option.isSome_some, Option.isSome_none, kT, hbn, e, ab_o1_some, c3] at h) <;> (try omega)) | (refine br_n (fun h => ?_) (fun h => ?_) <;> (try simp (disch := omega) only [nI_clamp, li_2, li_3, li_4, li_5, li_6, li_7, li_8, li_9, li_10, li_40, li_120, pk_mul, nI_add, nI_1, ix_eq, ix_lt, ix_le, ix_l0, ix_l1, ix_n0, ix_p0, ix_1lt, ix_lt1, ix_1le, ix_le1, ix_le0, ix_0lt, ab_z0, ab_z1, i_10, i_01, eq_self, ab_ozn, ab_ozp, ab_o_some, not_true_eq_false, not_false_eq_true, Bool.not_eq_false, Bool.not_eq_true, Bool.not_eq_false', Bool.not_eq_true', Bool.false_eq_true, Bool.true_eq_false, reduceCtorEq, Option.isSome_some, Option.isSome_none, kT, hbn, e, ab_o1_some, c3] at h) <;> (try omega)) | refine ab_sd (by first | (with_reducible refine vp_in_nI ?_ ?_ <;> omega) | (simp (disch := omega) only [nI_clamp, li_2, li_3, li_4, li_5, li_6, li_7, li_8, li_9, li_10, li_40, li_120, pk_mul, nI_add, nI_1, ix_eq, ix_lt, ix_le, ix_l0, ix_l1, ix_n0, ix_p0, ix_1lt, ix_lt1, ix_1le, ix_le1, ix_le0, ix_0lt, ab_z0, ab_z1, i_10, i_01, eq_self, ab_ozn, ab_ozp, ab_o_some, not_true_eq_false, not_false_eq_true, Bool.not_eq_false, Bool.not_eq_true, Bool.not_eq_false', Bool.not_eq_true', Bool.false_eq_true, Bool.true_eq_false, reduceCtorEq, Option.isSome_some, Option.isSome_none, kT, hbn, e, ab_o1_some, c3]; with_reducible refine vp_in_nI ?_ ?_ <;> omega)) ?_ | refine x_has hω (t := n) rfl (by omega) ?_ | refine x_declared hω X (t := n) (g := g) rfl rfl (by omega) hg ?_ | refine ab_sd ?_ ?_ | refine ab_sz (Or.inl rfl) ?_ | refine ab_sz (Or.inr rfl) ?_ | refine ab_sz ?_ ?_)
            · refine k42 (some x0) ⟨x0, rfl, ⟨i0, p1, p2, p3⟩, by omega, p4⟩ _ _
            · rw [e]
              refine k42 (some m) ⟨m, rfl, ⟨n, by omega, hs, e⟩, Nat.le_refl _, fun i m' hi hbi hd => ?_⟩ _ _
              have := p4 i m' hi hbi hd
              omega
  have main : ∀ (b : Int64) (v4 : Int64), (∀ i, i < s_nT S → ab_bt b i = s_bst S w i) → j 13 [some (.ref 7), some (.long w), none, some (.int (nI g)), some (.long v4), none, none, none, none, none, none] [.long b] μ := by
    intro b v4 hb
    refine hj _ _ _ _ ?_
    repeat' (first | refine hjx _ _ _ _ (by decide) ?_ | (refine br_c (fun h => ?_) (fun h => ?_) <;> (try simp (disch := omega) only [nI_clamp, li_2, li_3, li_4, li_5, li_6, li_7, li_8, li_9, li_10, li_40, li_120, pk_mul, nI_add, nI_1, ix_eq, ix_lt, ix_le, ix_l0, ix_l1, ix_n0, ix_p0, ix_1lt, ix_lt1, ix_1le, ix_le1, ix_le0, ix_0lt, ab_z0, ab_z1, i_10, i_01, eq_self, ab_ozn, ab_ozp, ab_o_some, not_true_eq_false, not_false_eq_true, Bool.not_eq_false, Bool.not_eq_true, Bool.not_eq_false', Bool.not_eq_true', Bool.false_eq_true, Bool.true_eq_false, reduceCtorEq, Option.isSome_some, Option.isSome_none] at h) <;> (try omega)) | (refine br_n (fun h => ?_) (fun h => ?_) <;> (try simp (disch := omega) only [nI_clamp, li_2, li_3, li_4, li_5, li_6, li_7, li_8, li_9, li_10, li_40, li_120, pk_mul, nI_add, nI_1, ix_eq, ix_lt, ix_le, ix_l0, ix_l1, ix_n0, ix_p0, ix_1lt, ix_lt1, ix_1le, ix_le1, ix_le0, ix_0lt, ab_z0, ab_z1, i_10, i_01, eq_self, ab_ozn, ab_ozp, ab_o_some, not_true_eq_false, not_false_eq_true, Bool.not_eq_false, Bool.not_eq_true, Bool.not_eq_false', Bool.not_eq_true', Bool.false_eq_true, Bool.true_eq_false, reduceCtorEq, Option.isSome_some, Option.isSome_none] at h) <;> (try omega)) | refine ab_sd (by first | (with_reducible refine vp_in_nI ?_ ?_ <;> omega) | (simp (disch := omega) only [nI_clamp, li_2, li_3, li_4, li_5, li_6, li_7, li_8, li_9, li_10, li_40, li_120, pk_mul, nI_add, nI_1, ix_eq, ix_lt, ix_le, ix_l0, ix_l1, ix_n0, ix_p0, ix_1lt, ix_lt1, ix_1le, ix_le1, ix_le0, ix_0lt, ab_z0, ab_z1, i_10, i_01, eq_self, ab_ozn, ab_ozp, ab_o_some, not_true_eq_false, not_false_eq_true, Bool.not_eq_false, Bool.not_eq_true, Bool.not_eq_false', Bool.not_eq_true', Bool.false_eq_true, Bool.true_eq_false, reduceCtorEq, Option.isSome_some, Option.isSome_none]; with_reducible refine vp_in_nI ?_ ?_ <;> omega)) ?_ | refine ab_sd ?_ ?_ | refine ab_sz (Or.inl rfl) ?_ | refine ab_sz (Or.inr rfl) ?_ | refine ab_sz ?_ ?_)
    exact key (s_nT S) 0 b _ _ _ none (by omega) hb (fun _ i hi => by omega) (fun x q => by cases q)
  cases hz : ab_ex (fun u => ab_bt w u && S.1 50 u == 0) (s_nT S) with
  | false =>
    rw [hz] at z1
    repeat' (first | refine hjx _ _ _ _ (by decide) ?_ | (refine br_c (fun h => ?_) (fun h => ?_) <;> (try simp (disch := omega) only [nI_clamp, li_2, li_3, li_4, li_5, li_6, li_7, li_8, li_9, li_10, li_40, li_120, pk_mul, nI_add, nI_1, ix_eq, ix_lt, ix_le, ix_l0, ix_l1, ix_n0, ix_p0, ix_1lt, ix_lt1, ix_1le, ix_le1, ix_le0, ix_0lt, ab_z0, ab_z1, i_10, i_01, eq_self, ab_ozn, ab_ozp, ab_o_some, not_true_eq_false, not_false_eq_true, Bool.not_eq_false, Bool.not_eq_true, Bool.not_eq_false', Bool.not_eq_true', Bool.false_eq_true, Bool.true_eq_false, reduceCtorEq, Option.isSome_some, Option.isSome_none, lg_cmp_eq, z1] at h) <;> (try omega)) | (refine br_n (fun h => ?_) (fun h => ?_) <;> (try simp (disch := omega) only [nI_clamp, li_2, li_3, li_4, li_5, li_6, li_7, li_8, li_9, li_10, li_40, li_120, pk_mul, nI_add, nI_1, ix_eq, ix_lt, ix_le, ix_l0, ix_l1, ix_n0, ix_p0, ix_1lt, ix_lt1, ix_1le, ix_le1, ix_le0, ix_0lt, ab_z0, ab_z1, i_10, i_01, eq_self, ab_ozn, ab_ozp, ab_o_some, not_true_eq_false, not_false_eq_true, Bool.not_eq_false, Bool.not_eq_true, Bool.not_eq_false', Bool.not_eq_true', Bool.false_eq_true, Bool.true_eq_false, reduceCtorEq, Option.isSome_some, Option.isSome_none, lg_cmp_eq, z1] at h) <;> (try omega)) | refine ab_sd (by first | (with_reducible refine vp_in_nI ?_ ?_ <;> omega) | (simp (disch := omega) only [nI_clamp, li_2, li_3, li_4, li_5, li_6, li_7, li_8, li_9, li_10, li_40, li_120, pk_mul, nI_add, nI_1, ix_eq, ix_lt, ix_le, ix_l0, ix_l1, ix_n0, ix_p0, ix_1lt, ix_lt1, ix_1le, ix_le1, ix_le0, ix_0lt, ab_z0, ab_z1, i_10, i_01, eq_self, ab_ozn, ab_ozp, ab_o_some, not_true_eq_false, not_false_eq_true, Bool.not_eq_false, Bool.not_eq_true, Bool.not_eq_false', Bool.not_eq_true', Bool.false_eq_true, Bool.true_eq_false, reduceCtorEq, Option.isSome_some, Option.isSome_none, lg_cmp_eq, z1]; with_reducible refine vp_in_nI ?_ ?_ <;> omega)) ?_ | refine ab_sd ?_ ?_ | refine ab_sz (Or.inl rfl) ?_ | refine ab_sz (Or.inr rfl) ?_ | refine ab_sz ?_ ?_)
    refine main _ _ (fun i hi => ?_)
    unfold s_bst
    rw [hz]
    simp
  | true =>
    rw [hz] at z1
    repeat' (first | refine hjx _ _ _ _ (by decide) ?_ | (refine br_c (fun h => ?_) (fun h => ?_) <;> (try simp (disch := omega) only [nI_clamp, li_2, li_3, li_4, li_5, li_6, li_7, li_8, li_9, li_10, li_40, li_120, pk_mul, nI_add, nI_1, ix_eq, ix_lt, ix_le, ix_l0, ix_l1, ix_n0, ix_p0, ix_1lt, ix_lt1, ix_1le, ix_le1, ix_le0, ix_0lt, ab_z0, ab_z1, i_10, i_01, eq_self, ab_ozn, ab_ozp, ab_o_some, not_true_eq_false, not_false_eq_true, Bool.not_eq_false, Bool.not_eq_true, Bool.not_eq_false', Bool.not_eq_true', Bool.false_eq_true, Bool.true_eq_false, reduceCtorEq, Option.isSome_some, Option.isSome_none, lg_cmp_eq, z1] at h) <;> (try omega)) | (refine br_n (fun h => ?_) (fun h => ?_) <;> (try simp (disch := omega) only [nI_clamp, li_2, li_3, li_4, li_5, li_6, li_7, li_8, li_9, li_10, li_40, li_120, pk_mul, nI_add, nI_1, ix_eq, ix_lt, ix_le, ix_l0, ix_l1, ix_n0, ix_p0, ix_1lt, ix_lt1, ix_1le, ix_le1, ix_le0, ix_0lt, ab_z0, ab_z1, i_10, i_01, eq_self, ab_ozn, ab_ozp, ab_o_some, not_true_eq_false, not_false_eq_true, Bool.not_eq_false, Bool.not_eq_true, Bool.not_eq_false', Bool.not_eq_true', Bool.false_eq_true, Bool.true_eq_false, reduceCtorEq, Option.isSome_some, Option.isSome_none, lg_cmp_eq, z1] at h) <;> (try omega)) | refine ab_sd (by first | (with_reducible refine vp_in_nI ?_ ?_ <;> omega) | (simp (disch := omega) only [nI_clamp, li_2, li_3, li_4, li_5, li_6, li_7, li_8, li_9, li_10, li_40, li_120, pk_mul, nI_add, nI_1, ix_eq, ix_lt, ix_le, ix_l0, ix_l1, ix_n0, ix_p0, ix_1lt, ix_lt1, ix_1le, ix_le1, ix_le0, ix_0lt, ab_z0, ab_z1, i_10, i_01, eq_self, ab_ozn, ab_ozp, ab_o_some, not_true_eq_false, not_false_eq_true, Bool.not_eq_false, Bool.not_eq_true, Bool.not_eq_false', Bool.not_eq_true', Bool.false_eq_true, Bool.true_eq_false, reduceCtorEq, Option.isSome_some, Option.isSome_none, lg_cmp_eq, z1]; with_reducible refine vp_in_nI ?_ ?_ <;> omega)) ?_ | refine ab_sd ?_ ?_ | refine ab_sz (Or.inl rfl) ?_ | refine ab_sz (Or.inr rfl) ?_ | refine ab_sz ?_ ?_)
    refine main _ _ (fun i hi => ?_)
    rw [ab_bt_and, kc i hi]
    unfold s_bst
    rw [hz]
    simp
/-- which one is meant: only one can be -/
theorem s_mn_is {S : sT} (hW : Wf S) {f h t k n x : Nat} (hx : x < s_nX S) (hs : s_sel S f h t k n x = true) (hm : ∀ y, y < s_nX S → s_sel S f h t k n y = true → (S.1 50 (S.1 57 x) = 0 ∧ (S.1 50 (S.1 57 y) = 0 → x ≤ y)) ∨ (¬ S.1 50 (S.1 57 x) = 0 ∧ ¬ S.1 50 (S.1 57 y) = 0 ∧ x ≤ y)) : s_mn S f h t k n (s_nX S) = some x := by
  have sp : ∀ N, N ≤ s_nX S → ∀ z, s_mn S f h t k n N = some z → ∀ y, y < N → s_sel S f h t k n y = true → (S.1 50 (S.1 57 z) = 0 ∧ (S.1 50 (S.1 57 y) = 0 → z ≤ y)) ∨ (¬ S.1 50 (S.1 57 z) = 0 ∧ ¬ S.1 50 (S.1 57 y) = 0 ∧ z ≤ y) := by
    intro N
    induction N with
    | zero => intro _ z e; cases e
    | succ N ih =>
      intro hN z e y hy hsy
      have hs2 := (s_mn_sp (S := S) (f := f) (h := h) (t := t) (k := k) (n := n) N)
      have so : ∀ m, m < s_nX S → S.1 50 (S.1 57 m) < 2 := fun m hm => (hW.2.2.2.2.2.1 _ (hW.2.2.2.2.2.2 m hm).1).2.1
      have soN := so N (by omega)
      have soy := so y (by omega)
      simp only [s_mn] at e
      cases hsn : s_sel S f h t k n N with
      | false =>
        rw [hsn] at e
        simp only [Bool.false_eq_true, if_false] at e
        by_cases q : y = N
        · subst q; rw [hsn] at hsy; cases hsy
        · exact ih (by omega) z e y (by omega) hsy
      | true =>
        rw [hsn] at e
        simp only [if_true] at e
        cases e2 : s_mn S f h t k n N with
        | none =>
          rw [e2] at e
          cases e
          by_cases q : y = N
          · subst q; omega
          · exfalso
            have h0 := hs2.2.mp e2
            have := ab_cnt_pos (f := s_sel S f h t k n) hsy (n := N) (by omega)
            omega
        | some x2 =>
          rw [e2] at e
          have hx2 := (hs2.1 x2 e2).1
          have so2 := so x2 (by omega)
          have ih2 := ih (by omega) x2 e2
          by_cases c : S.1 50 (S.1 57 x2) = 1 ∧ S.1 50 (S.1 57 N) = 0
          · simp only [if_pos c] at e
            cases e
            by_cases q : y = N
            · subst q; omega
            · have := ih2 y (by omega) hsy
              omega
          · simp only [if_neg c] at e
            cases e
            by_cases q : y = N
            · subst q; omega
            · exact ih2 y (by omega) hsy
  have hs2 := (s_mn_sp (S := S) (f := f) (h := h) (t := t) (k := k) (n := n) (s_nX S))
  cases e : s_mn S f h t k n (s_nX S) with
  | none =>
    exfalso
    have h0 := hs2.2.mp e
    have := ab_cnt_pos (f := s_sel S f h t k n) hs hx
    omega
  | some z =>
    have hz := hs2.1 z e
    have a1 := sp _ (Nat.le_refl _) z e x hx hs
    have a2 := hm z hz.1 hz.2
    have : z = x := by omega
    rw [this]
end K7
