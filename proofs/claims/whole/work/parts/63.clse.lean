/-! THE CLASS: a PARENT, a FACE -/
theorem un_ne {S : sT} {k j v a b : Nat} (h : ¬ (a = k ∧ b = j)) : (s_un S k j v).1 a b = S.1 a b := by simp only [s_un, if_neg h]
theorem ub_ne {S : sT} {k j a b : Nat} {v : Bool} (h : ¬ (a = k ∧ b = j)) : (s_ub S k j v).2.1 a b = S.2.1 a b := by simp only [s_ub, if_neg h]
theorem un_eq {S : sT} {k j v : Nat} : (s_un S k j v).1 k j = v := by simp [s_un]
def KT (μ μ' : ab_M) : Prop := ∀ k j, ¬ (k = 2 ∨ (13 ≤ k ∧ k ≤ 25)) → μ'.1 k j = μ.1 k j ∧ μ'.2 k j = μ.2 k j
theorem KT.rf {μ : ab_M} : KT μ μ := fun _ _ _ => ⟨rfl, rfl⟩
theorem KT.tr {μ μ' μ'' : ab_M} (h : KT μ μ') (h' : KT μ' μ'') : KT μ μ'' := fun k j e => ⟨((h' k j e).1).trans (h k j e).1, ((h' k j e).2).trans (h k j e).2⟩
theorem KT.mi {μ μ' : ab_M} (h : KT μ μ') {k j : Nat} {x : Int32} (hk : k = 2 ∨ (13 ≤ k ∧ k ≤ 25)) : KT μ (ab_mi μ' k j x) := fun a b e => by
  have : ¬ (a = k ∧ b = j) := fun q => e (by rw [q.1]; exact hk)
  simp only [ab_mi, if_neg this]
  exact h a b e
theorem KT.mj {μ μ' : ab_M} (h : KT μ μ') {k j : Nat} {x : Int64} (hk : k = 2 ∨ (13 ≤ k ∧ k ≤ 25)) : KT μ (ab_mj μ' k j x) := fun a b e => by
  have : ¬ (a = k ∧ b = j) := fun q => e (by rw [q.1]; exact hk)
  simp only [ab_mj, if_neg this]
  exact h a b e
theorem RepT_A {S : sT} {μ : ab_M} (T : RepT S μ) (hT : s_nT S ≤ 40) : RepA (s_nT S) (s_ab S) μ := by
  obtain ⟨-, -, -, -, h5, -, h7⟩ := T
  refine ⟨fun x hx i => ?_, h7⟩
  have := h5 x (by omega) i
  rw [this.2.1, this.2.2]
  simp [hx]
theorem s_chF_e {S S' : sT} (h : ∀ t, s_ou S' t = s_ou S t) : ∀ n t, s_chF S' n t = s_chF S n t
  | 0, t => rfl
  | n + 1, t => by
    simp only [s_chF, h t]
    cases s_ou S t with
    | none => rfl
    | some o => simp only [s_chF_e h n o]
theorem s_ch_e {S S' : sT} (h : ∀ t, s_ou S' t = s_ou S t) (t : Nat) : s_ch S' t = s_ch S t := s_chF_e h t t
theorem s_top_e {S S' : sT} (h : ∀ t, s_ou S' t = s_ou S t) (t : Nat) : s_top S' t = s_top S t := by unfold s_top; rw [s_ch_e h]
/-- RepT of a state with another PARENT or FACE -/
theorem RepT_mk {S S' : sT} {μ μ' : ab_M} (T : RepT S μ) (hn : s_nT S' = s_nT S) (e48 : ∀ j, S'.1 48 j = S.1 48 j) (e50 : ∀ j, S'.1 50 j = S.1 50 j) (e51 : ∀ j, S'.1 51 j = S.1 51 j) (e52 : ∀ j, S'.1 52 j = S.1 52 j) (eou : ∀ j, s_ou S' j = s_ou S j)
    (f20 : μ'.1 2 0 = μ.1 2 0) (f21 : μ'.2 2 1 = μ.2 2 1) (f22 : μ'.2 2 2 = μ.2 2 2) (fi : ∀ k j, k = 13 ∨ k = 14 ∨ k = 15 ∨ k = 16 ∨ k = 18 → μ'.1 k j = μ.1 k j) (fj : ∀ k j, k = 22 ∨ k = 25 → μ'.2 k j = μ.2 k j)
    (f17 : ∀ t, t < s_nT S → μ'.1 17 t = ab_o1 (s_pa S' t)) (f19 : ∀ t, t < 40 → ∀ i, ab_bt (μ'.2 19 t) i = (decide (t < s_nT S) && s_isf S' t i)) (fA : RepA (s_nT S) (s_ab S') μ') (fz : ∀ t, s_nT S ≤ t → t < 40 → μ'.2 20 t = μ.2 20 t ∧ μ'.2 21 t = μ.2 21 t) : RepT S' μ' := by
  obtain ⟨h1, h2, h3, h4, h5, h6, -⟩ := T
  refine ⟨by rw [f20, h1, hn], fun i => by rw [f21, h2, hn, e50], fun i => by rw [f22, h3, hn, e52], fun t ht => ?_, fun t ht i => ?_, fun p hp i => by rw [fj 25 p (by omega), h6 p hp, hn, e48], ?_⟩
  · rw [hn] at ht
    have := h4 t ht
    rw [fi 13 t (by omega), fi 14 t (by omega), fi 15 t (by omega), fi 16 t (by omega), fi 18 t (by omega), fj 22 t (by omega), e48, e51, e52, eou, s_top_e eou, s_ch_e eou]
    exact ⟨this.1, this.2.1, this.2.2.1, this.2.2.2.1, f17 t ht, this.2.2.2.2.2.1, this.2.2.2.2.2.2⟩
  · rw [hn]
    refine ⟨f19 t ht i, ?_⟩
    by_cases q : t < s_nT S
    · have := fA.1 t q i
      rw [this.1, this.2]
      simp [q]
    · have := h5 t ht i
      have z := fz t (by omega) ht
      rw [z.1, z.2, this.2.1, this.2.2]
      simp [q]
  · rw [hn]
    exact fA.2
theorem s_ab_raise {S : sT} {t a x i : Nat} (hx : x < s_nT S) (hi : i < s_nT S) (hT : s_nT S ≤ 40) : s_ab (s_raise S t a) x i = ab_A2 (s_ab S) t a x i := by
  show s_rsB S t a (40 * x + i) = _
  unfold s_rsB ab_A2 ab_at s_at
  rw [show (40 * x + i) / 40 = x by omega, show (40 * x + i) % 40 = i by omega]
  simp [hx, hi]
theorem RepA_c {N : Nat} {A B : Nat → Nat → Bool} {μ : ab_M} (h : RepA N A μ) (e : ∀ x i, x < N → i < N → A x i = B x i) : RepA N B μ := by
  obtain ⟨h1, od, ps, o1, o2, o3⟩ := h
  refine ⟨fun x hx i => ?_, od, ps, o1, o2, fun t u ht hu hb => o3 t u ht hu (by rw [e t u ht hu]; exact hb)⟩
  rw [(h1 x hx i).1, (h1 x hx i).2]
  by_cases q : i < N
  · rw [e x i hx q, e i x q hx]; exact ⟨rfl, rfl⟩
  · simp [q]
section KE
variable {l : Launch} {ω : ab_W} {S : sT} {μ : ab_M} {Q : ab_M → Prop}
theorem x_setParent (hω : ω.2.2.2 = ab_SH) (T : RepT S μ) (hT : s_nT S ≤ 40) (htr : ∀ a b c, a < s_nT S → b < s_nT S → c < s_nT S → s_ab S a b = true → s_ab S b c = true → s_ab S a c = true) {x y : Int32} {t p : Nat} (ex : x = nI t) (ey : y = nI p) (ht : t < s_nT S) (hp : p < s_nT S) (hpt : s_at S p t = false) (hQ : ∀ μ', RepT (s_raise (s_uo S 53 t (some p)) t p) μ' → KT μ μ' → Q μ') : ab_CV l ω mX8_setParent [.ref 2, .int x, .int y] μ Q := by
  subst ex ey
  refine ab_intro (sh := ab_SH) (cd := kX8_setParent) hω vX8_setParent (by decide +kernel) rfl (Nat.le_of_ble_eq_true rfl) (fun j hj hw => ?_)
  have hA := RepT_A T hT
  have h19 := fun t ht i => (T.2.2.2.2.1 t ht i).1
  obtain ⟨kT, kc, ks, k13, k14, k15, k16, k17, k18, k22, k19, k20, k21, k25⟩ := RepT_fs T
  have hA1 : RepA (s_nT S) (s_ab S) (ab_mi μ 17 (nI t).toNatClampNeg (nI p)) := by
    obtain ⟨h1, od, ps, o1, o2, o3⟩ := hA
    refine ⟨h1, od, ps, fun i hi => ?_, o2, o3⟩
    rw [mi_ne (by omega)]
    exact o1 i hi
  repeat' (first | refine hj _ _ _ _ ?_ | (refine br_c (fun h => ?_) (fun h => ?_) <;> (try simp (disch := omega) only [nI_clamp, li_2, li_3, li_4, li_5, li_6, li_7, li_8, li_9, li_10, li_40, li_120, pk_mul, nI_add, nI_1, ix_eq, ix_lt, ix_le, ix_l0, ix_l1, ix_n0, ix_p0, ix_1lt, ix_lt1, ix_1le, ix_le1, ix_le0, ix_0lt, ab_z0, ab_z1, i_10, i_01, eq_self, ab_ozn, ab_ozp, ab_o_some, not_true_eq_false, not_false_eq_true, Bool.not_eq_false, Bool.not_eq_true, Bool.not_eq_false', Bool.not_eq_true', Bool.false_eq_true, Bool.true_eq_false, reduceCtorEq, Option.isSome_some, Option.isSome_none] at h) <;> (try omega)) | (refine br_n (fun h => ?_) (fun h => ?_) <;> (try simp (disch := omega) only [nI_clamp, li_2, li_3, li_4, li_5, li_6, li_7, li_8, li_9, li_10, li_40, li_120, pk_mul, nI_add, nI_1, ix_eq, ix_lt, ix_le, ix_l0, ix_l1, ix_n0, ix_p0, ix_1lt, ix_lt1, ix_1le, ix_le1, ix_le0, ix_0lt, ab_z0, ab_z1, i_10, i_01, eq_self, ab_ozn, ab_ozp, ab_o_some, not_true_eq_false, not_false_eq_true, Bool.not_eq_false, Bool.not_eq_true, Bool.not_eq_false', Bool.not_eq_true', Bool.false_eq_true, Bool.true_eq_false, reduceCtorEq, Option.isSome_some, Option.isSome_none] at h) <;> (try omega)) | refine ab_sd (by first | (with_reducible refine vp_in_nI ?_ ?_ <;> omega) | (simp (disch := omega) only [nI_clamp, li_2, li_3, li_4, li_5, li_6, li_7, li_8, li_9, li_10, li_40, li_120, pk_mul, nI_add, nI_1, ix_eq, ix_lt, ix_le, ix_l0, ix_l1, ix_n0, ix_p0, ix_1lt, ix_lt1, ix_1le, ix_le1, ix_le0, ix_0lt, ab_z0, ab_z1, i_10, i_01, eq_self, ab_ozn, ab_ozp, ab_o_some, not_true_eq_false, not_false_eq_true, Bool.not_eq_false, Bool.not_eq_true, Bool.not_eq_false', Bool.not_eq_true', Bool.false_eq_true, Bool.true_eq_false, reduceCtorEq, Option.isSome_some, Option.isSome_none]; with_reducible refine vp_in_nI ?_ ?_ <;> omega)) ?_ | refine x_putBelow hω (N := s_nT S) (A := s_ab S) (t := t) (u := p) hT (by rw [mi_ne (by omega)]; exact kT) hA1 htr rfl rfl ht hp hpt (fun μ' g1 g2 g3 => ?_) | refine ab_sd ?_ ?_ | refine ab_sz (Or.inl rfl) ?_ | refine ab_sz (Or.inr rfl) ?_ | refine ab_sz ?_ ?_)
  show Q _
  rw [nI_clamp (by omega)] at g1
  refine hQ μ' (RepT_mk T rfl (fun _ => rfl) (fun _ => rfl) (fun _ => rfl) (fun _ => rfl) (fun j => ?_) ?_ ?_ ?_ ?_ ?_ ?_ ?_ ?_ ?_) ?_
  · show (if 49 = 53 ∧ j = t then some p else S.2.2 49 j) = S.2.2 49 j
    simp
  · rw [g1 2 0 (by omega) (by omega), mi_ne (by omega)]
  · exact g2 2 1 (Or.inl (by omega))
  · exact g2 2 2 (Or.inl (by omega))
  · intro k j hk
    rw [g1 k j (by omega) (by omega), mi_ne (by omega)]
  · intro k j hk
    exact g2 k j (Or.inl (by omega))
  · intro t' ht'
    rw [g1 17 t' (by omega) (by omega)]
    show _ = ab_o1 (if 53 = 53 ∧ t' = t then some p else S.2.2 53 t')
    by_cases q : t' = t
    · subst q; simp [ab_mi, ab_o1]
    · simp only [q, and_false, if_false]
      rw [mi_nj q]
      exact k17 t' ht'
  · intro t' ht' i
    rw [g2 19 t' (Or.inl (by omega))]
    exact h19 t' ht' i
  · exact RepA_c g3 (fun a b ha hb => (s_ab_raise (S := s_uo S 53 t (some p)) ha hb hT).symm)
  · intro t' ht' h40
    exact ⟨g2 20 t' (Or.inr ht'), g2 21 t' (Or.inr ht')⟩
  · intro k j hk
    constructor
    · rw [g1 k j (by omega) (by omega), mi_ne (by omega)]
    · exact g2 k j (Or.inl (by omega))
theorem x_addFace (hω : ω.2.2.2 = ab_SH) (T : RepT S μ) (hW : Wf S) (htr : ∀ a b c, a < s_nT S → b < s_nT S → c < s_nT S → s_ab S a b = true → s_ab S b c = true → s_ab S a c = true) {x y : Int32} {t p : Nat} (ex : x = nI t) (ey : y = nI p) (ht : t < s_nT S) (hp : p < s_nT S) (hpt : s_at S p t = false) (h4 : S.1 55 t < 4) (hQ : ∀ μ', RepT (s_raise (s_un (s_un S 54 (4 * t + S.1 55 t) p) 55 t (S.1 55 t + 1)) t p) μ' → KT μ μ' → Q μ') : ab_CV l ω mX8_addFace [.ref 2, .int x, .int y] μ Q := by
  subst ex ey
  refine ab_intro (sh := ab_SH) (cd := kX8_addFace) hω vX8_addFace (by decide +kernel) rfl (Nat.le_of_ble_eq_true rfl) (fun j hj hw => ?_)
  have hT := hW.2.2.1.2
  have hA := RepT_A T hT
  have h19 := fun t ht i => (T.2.2.2.2.1 t ht i).1
  have T0 := T
  obtain ⟨kT, kc, ks, k13, k14, k15, k16, k17, k18, k22, k19, k20, k21, k25⟩ := RepT_fs T
  have isfE : ∀ t' i, t' < s_nT S → s_isf (s_raise (s_un (s_un S 54 (4 * t + S.1 55 t) p) 55 t (S.1 55 t + 1)) t p) t' i = (s_isf S t' i || (decide (t' = t) && decide (i = p))) := by
    intro t' i ht'
    have t5 := (hW.2.2.2.2.2.1 t' ht').2.2.2.2.1
    show ab_ex (fun k => (if 54 = 55 ∧ 4 * t' + k = t then S.1 55 t + 1 else if 54 = 54 ∧ 4 * t' + k = 4 * t + S.1 55 t then p else S.1 54 (4 * t' + k)) == i) (if 55 = 55 ∧ t' = t then S.1 55 t + 1 else if 55 = 54 ∧ t' = 4 * t + S.1 55 t then p else S.1 55 t') = _
    simp only [show ¬ (54 : Nat) = 55 by omega, show ¬ (55 : Nat) = 54 by omega, false_and, if_false, true_and]
    unfold s_isf
    by_cases q : t' = t
    · subst q
      simp only [if_true, ab_ex_s, decide_true, Bool.true_and]
      rw [ab_deq]
      congr 1
      refine ab_ex_congr (fun k hk => ?_)
      rw [if_neg (by omega)]
    · simp only [q, if_false, decide_false, Bool.false_and, Bool.or_false]
      refine ab_ex_congr (fun k hk => ?_)
      rw [if_neg (by omega)]
  have hA1 : ∀ v, RepA (s_nT S) (s_ab S) (ab_mj μ 19 (nI t).toNatClampNeg v) := by
    intro v
    obtain ⟨h1, od, ps, o1, o2, o3⟩ := hA
    refine ⟨fun x hx i => ?_, od, ps, o1, o2, o3⟩
    simp only [ab_mj, show ¬ (20 : Nat) = 19 by omega, show ¬ (21 : Nat) = 19 by omega, false_and, if_false]
    exact h1 x hx i
  repeat' (first | refine hj _ _ _ _ ?_ | (refine br_c (fun h => ?_) (fun h => ?_) <;> (try simp (disch := omega) only [nI_clamp, li_2, li_3, li_4, li_5, li_6, li_7, li_8, li_9, li_10, li_40, li_120, pk_mul, nI_add, nI_1, ix_eq, ix_lt, ix_le, ix_l0, ix_l1, ix_n0, ix_p0, ix_1lt, ix_lt1, ix_1le, ix_le1, ix_le0, ix_0lt, ab_z0, ab_z1, i_10, i_01, eq_self, ab_ozn, ab_ozp, ab_o_some, not_true_eq_false, not_false_eq_true, Bool.not_eq_false, Bool.not_eq_true, Bool.not_eq_false', Bool.not_eq_true', Bool.false_eq_true, Bool.true_eq_false, reduceCtorEq, Option.isSome_some, Option.isSome_none] at h) <;> (try omega)) | (refine br_n (fun h => ?_) (fun h => ?_) <;> (try simp (disch := omega) only [nI_clamp, li_2, li_3, li_4, li_5, li_6, li_7, li_8, li_9, li_10, li_40, li_120, pk_mul, nI_add, nI_1, ix_eq, ix_lt, ix_le, ix_l0, ix_l1, ix_n0, ix_p0, ix_1lt, ix_lt1, ix_1le, ix_le1, ix_le0, ix_0lt, ab_z0, ab_z1, i_10, i_01, eq_self, ab_ozn, ab_ozp, ab_o_some, not_true_eq_false, not_false_eq_true, Bool.not_eq_false, Bool.not_eq_true, Bool.not_eq_false', Bool.not_eq_true', Bool.false_eq_true, Bool.true_eq_false, reduceCtorEq, Option.isSome_some, Option.isSome_none] at h) <;> (try omega)) | refine ab_sd (by first | (with_reducible refine vp_in_nI ?_ ?_ <;> omega) | (simp (disch := omega) only [nI_clamp, li_2, li_3, li_4, li_5, li_6, li_7, li_8, li_9, li_10, li_40, li_120, pk_mul, nI_add, nI_1, ix_eq, ix_lt, ix_le, ix_l0, ix_l1, ix_n0, ix_p0, ix_1lt, ix_lt1, ix_1le, ix_le1, ix_le0, ix_0lt, ab_z0, ab_z1, i_10, i_01, eq_self, ab_ozn, ab_ozp, ab_o_some, not_true_eq_false, not_false_eq_true, Bool.not_eq_false, Bool.not_eq_true, Bool.not_eq_false', Bool.not_eq_true', Bool.false_eq_true, Bool.true_eq_false, reduceCtorEq, Option.isSome_some, Option.isSome_none]; with_reducible refine vp_in_nI ?_ ?_ <;> omega)) ?_ | refine x_one hω (t := p) rfl ?_ | refine x_putBelow hω (N := s_nT S) (A := s_ab S) (t := t) (u := p) hT kT (hA1 _) htr rfl rfl ht hp hpt (fun μ' g1 g2 g3 => ?_) | refine ab_sd ?_ ?_ | refine ab_sz (Or.inl rfl) ?_ | refine ab_sz (Or.inr rfl) ?_ | refine ab_sz ?_ ?_)
  show Q _
  rw [nI_clamp (by omega)] at g1 g2
  refine hQ μ' (RepT_mk T0 rfl (fun j => ?_) (fun j => ?_) (fun j => ?_) (fun j => ?_) (fun j => rfl) ?_ ?_ ?_ ?_ ?_ ?_ ?_ ?_ ?_) ?_
  · show (s_un (s_un S 54 (4 * t + S.1 55 t) p) 55 t (S.1 55 t + 1)).1 48 j = S.1 48 j
    rw [un_ne (by omega), un_ne (by omega)]
  · show (s_un (s_un S 54 (4 * t + S.1 55 t) p) 55 t (S.1 55 t + 1)).1 50 j = S.1 50 j
    rw [un_ne (by omega), un_ne (by omega)]
  · show (s_un (s_un S 54 (4 * t + S.1 55 t) p) 55 t (S.1 55 t + 1)).1 51 j = S.1 51 j
    rw [un_ne (by omega), un_ne (by omega)]
  · show (s_un (s_un S 54 (4 * t + S.1 55 t) p) 55 t (S.1 55 t + 1)).1 52 j = S.1 52 j
    rw [un_ne (by omega), un_ne (by omega)]
  · exact g1 2 0 (by omega) (by omega)
  · rw [g2 2 1 (Or.inl (by omega))]; simp [ab_mj]
  · rw [g2 2 2 (Or.inl (by omega))]; simp [ab_mj]
  · intro k j hk
    exact g1 k j (by omega) (by omega)
  · intro k j hk
    rw [g2 k j (Or.inl (by omega))]
    simp only [ab_mj, show ¬ (k = 19 ∧ j = t) by omega, if_false]
  · intro t' ht'
    rw [g1 17 t' (by omega) (by omega)]
    exact k17 t' ht'
  · intro t' ht' i
    rw [g2 19 t' (Or.inl (by omega))]
    by_cases q2 : t' < s_nT S
    · rw [isfE t' i q2]
      by_cases q : t' = t
      · subst q
        simp only [ab_mj, and_self, if_true, ab_bt_or, ab_bt_one (show p < 64 by omega)]
        rw [h19 t' ht' i]
        simp [q2]
      · simp only [ab_mj, q, and_false, if_false]
        rw [h19 t' ht' i]
        simp
    · have q : ¬ t' = t := by omega
      simp only [ab_mj, q, and_false, if_false]
      rw [h19 t' ht' i]
      simp [q2]
  · exact RepA_c g3 (fun a b ha hb => (s_ab_raise (S := s_un (s_un S 54 (4 * t + S.1 55 t) p) 55 t (S.1 55 t + 1)) ha hb hT).symm)
  · intro t' ht' h40
    rw [g2 20 t' (Or.inr ht'), g2 21 t' (Or.inr ht')]
    simp [ab_mj]
  · intro k j hk
    constructor
    · exact g1 k j (by omega) (by omega)
    · rw [g2 k j (Or.inl (by omega))]
      simp only [ab_mj, show ¬ (k = 19 ∧ j = t) by omega, if_false]
theorem x_putWithin (hω : ω.2.2.2 = ab_SH) {x y : Int32} {t : Nat} {ou : Option Nat} (ex : x = nI t) (ey : y = ab_o1 ou) (ht : t < 40) (ho : ∀ o, ou = some o → o < t) (hQ : ∀ μ', (∀ k j, ¬ ((k = 14 ∨ k = 15) ∧ j = t) → μ'.1 k j = μ.1 k j) → (∀ k j, ¬ (k = 22 ∧ j = t) → μ'.2 k j = μ.2 k j) → μ'.1 14 t = ab_o1 ou → (ou = none → μ'.1 15 t = nI t ∧ ∀ i, ab_bt (μ'.2 22 t) i = decide (i = t)) → (∀ o, ou = some o → μ'.1 15 t = μ.1 15 o ∧ ∀ i, ab_bt (μ'.2 22 t) i = (decide (i = t) || ab_bt (μ.2 22 o) i)) → Q μ') : ab_CV l ω mX8_putWithin [.ref 2, .int x, .int y] μ Q := by
  subst ex ey
  refine ab_intro (sh := ab_SH) (cd := kX8_putWithin) hω vX8_putWithin (by decide +kernel) rfl (Nat.le_of_ble_eq_true rfl) (fun j hj hw => ?_)
  have ct : (nI t).toNatClampNeg = t := nI_clamp (by omega)
  cases ou with
  | none =>
    repeat' (first | refine hj _ _ _ _ ?_ | (refine br_c (fun h => ?_) (fun h => ?_) <;> (try simp (disch := omega) only [nI_clamp, li_2, li_3, li_4, li_5, li_6, li_7, li_8, li_9, li_10, li_40, li_120, pk_mul, nI_add, nI_1, ix_eq, ix_lt, ix_le, ix_l0, ix_l1, ix_n0, ix_p0, ix_1lt, ix_lt1, ix_1le, ix_le1, ix_le0, ix_0lt, ab_z0, ab_z1, i_10, i_01, eq_self, ab_ozn, ab_ozp, ab_o_some, not_true_eq_false, not_false_eq_true, Bool.not_eq_false, Bool.not_eq_true, Bool.not_eq_false', Bool.not_eq_true', Bool.false_eq_true, Bool.true_eq_false, reduceCtorEq, Option.isSome_some, Option.isSome_none, ab_o1p] at h) <;> (try omega)) | (refine br_n (fun h => ?_) (fun h => ?_) <;> (try simp (disch := omega) only [nI_clamp, li_2, li_3, li_4, li_5, li_6, li_7, li_8, li_9, li_10, li_40, li_120, pk_mul, nI_add, nI_1, ix_eq, ix_lt, ix_le, ix_l0, ix_l1, ix_n0, ix_p0, ix_1lt, ix_lt1, ix_1le, ix_le1, ix_le0, ix_0lt, ab_z0, ab_z1, i_10, i_01, eq_self, ab_ozn, ab_ozp, ab_o_some, not_true_eq_false, not_false_eq_true, Bool.not_eq_false, Bool.not_eq_true, Bool.not_eq_false', Bool.not_eq_true', Bool.false_eq_true, Bool.true_eq_false, reduceCtorEq, Option.isSome_some, Option.isSome_none, ab_o1p] at h) <;> (try omega)) | refine ab_sd (by first | (with_reducible refine vp_in_nI ?_ ?_ <;> omega) | (simp (disch := omega) only [nI_clamp, li_2, li_3, li_4, li_5, li_6, li_7, li_8, li_9, li_10, li_40, li_120, pk_mul, nI_add, nI_1, ix_eq, ix_lt, ix_le, ix_l0, ix_l1, ix_n0, ix_p0, ix_1lt, ix_lt1, ix_1le, ix_le1, ix_le0, ix_0lt, ab_z0, ab_z1, i_10, i_01, eq_self, ab_ozn, ab_ozp, ab_o_some, not_true_eq_false, not_false_eq_true, Bool.not_eq_false, Bool.not_eq_true, Bool.not_eq_false', Bool.not_eq_true', Bool.false_eq_true, Bool.true_eq_false, reduceCtorEq, Option.isSome_some, Option.isSome_none, ab_o1p]; with_reducible refine vp_in_nI ?_ ?_ <;> omega)) ?_ | refine x_one hω (t := t) rfl ?_ | refine ab_sd ?_ ?_ | refine ab_sz (Or.inl rfl) ?_ | refine ab_sz (Or.inr rfl) ?_ | refine ab_sz ?_ ?_)
    all_goals first | (exfalso; exact h rfl) | skip
    show Q _
    rw [ct]
    refine hQ _ (fun k j hk => ?_) (fun k j hk => ?_) ?_ (fun _ => ⟨?_, fun i => ?_⟩) (fun o q => by cases q)
    · simp only [ab_mi, ab_mj, show ¬ (k = 14 ∧ j = t) by omega, show ¬ (k = 15 ∧ j = t) by omega, if_false]
    · simp only [ab_mi, ab_mj, hk, if_false]
    · simp [ab_mi, ab_mj]
    · simp [ab_mi, ab_mj]
    · simp [ab_mi, ab_mj, ab_bt_one (show t < 64 by omega)]
  | some o =>
    have ho := ho o rfl
    have co : (nI o).toNatClampNeg = o := nI_clamp (by omega)
    have c3 : (nI o = -1) ↔ False := ⟨fun q => by have := nI_pos (n := o) (by omega); rw [q] at this; exact this (by decide), False.elim⟩
    repeat' (first | refine hj _ _ _ _ ?_ | (refine br_c (fun h => ?_) (fun h => ?_) <;> (try simp (disch := omega) only [nI_clamp, li_2, li_3, li_4, li_5, li_6, li_7, li_8, li_9, li_10, li_40, li_120, pk_mul, nI_add, nI_1, ix_eq, ix_lt, ix_le, ix_l0, ix_l1, ix_n0, ix_p0, ix_1lt, ix_lt1, ix_1le, ix_le1, ix_le0, ix_0lt, ab_z0, ab_z1, i_10, i_01, eq_self, ab_ozn, ab_ozp, ab_o_some, not_true_eq_false, not_false_eq_true, Bool.not_eq_false, Bool.not_eq_true, Bool.not_eq_false', Bool.not_eq_true', Bool.false_eq_true, Bool.true_eq_false, reduceCtorEq, Option.isSome_some, Option.isSome_none, ab_o1_some, c3] at h) <;> (try omega)) | (refine br_n (fun h => ?_) (fun h => ?_) <;> (try simp (disch := omega) only [nI_clamp, li_2, li_3, li_4, li_5, li_6, li_7, li_8, li_9, li_10, li_40, li_120, pk_mul, nI_add, nI_1, ix_eq, ix_lt, ix_le, ix_l0, ix_l1, ix_n0, ix_p0, ix_1lt, ix_lt1, ix_1le, ix_le1, ix_le0, ix_0lt, ab_z0, ab_z1, i_10, i_01, eq_self, ab_ozn, ab_ozp, ab_o_some, not_true_eq_false, not_false_eq_true, Bool.not_eq_false, Bool.not_eq_true, Bool.not_eq_false', Bool.not_eq_true', Bool.false_eq_true, Bool.true_eq_false, reduceCtorEq, Option.isSome_some, Option.isSome_none, ab_o1_some, c3] at h) <;> (try omega)) | refine ab_sd (by first | (with_reducible refine vp_in_nI ?_ ?_ <;> omega) | (simp (disch := omega) only [nI_clamp, li_2, li_3, li_4, li_5, li_6, li_7, li_8, li_9, li_10, li_40, li_120, pk_mul, nI_add, nI_1, ix_eq, ix_lt, ix_le, ix_l0, ix_l1, ix_n0, ix_p0, ix_1lt, ix_lt1, ix_1le, ix_le1, ix_le0, ix_0lt, ab_z0, ab_z1, i_10, i_01, eq_self, ab_ozn, ab_ozp, ab_o_some, not_true_eq_false, not_false_eq_true, Bool.not_eq_false, Bool.not_eq_true, Bool.not_eq_false', Bool.not_eq_true', Bool.false_eq_true, Bool.true_eq_false, reduceCtorEq, Option.isSome_some, Option.isSome_none, ab_o1_some, c3]; with_reducible refine vp_in_nI ?_ ?_ <;> omega)) ?_ | refine x_one hω (t := t) rfl ?_ | refine ab_sd ?_ ?_ | refine ab_sz (Or.inl rfl) ?_ | refine ab_sz (Or.inr rfl) ?_ | refine ab_sz ?_ ?_)
    show Q _
    simp only [ab_o1_some, ct, co]
    refine hQ _ (fun k j hk => ?_) (fun k j hk => ?_) ?_ (fun q => by cases q) (fun o' q => ?_)
    · simp only [ab_mi, ab_mj, show ¬ (k = 14 ∧ j = t) by omega, show ¬ (k = 15 ∧ j = t) by omega, if_false]
    · simp only [ab_mi, ab_mj, hk, if_false]
    · simp [ab_mi, ab_mj, ab_o1]
    · cases q
      refine ⟨?_, fun i => ?_⟩
      · simp [ab_mi, ab_mj, show ¬ o = t by omega]
      · simp [ab_mi, ab_mj, show ¬ o = t by omega, ab_bt_or, ab_bt_one (show t < 64 by omega)]
end KE
