/-! THE CLASS: FAULTS -/
def FC (μ : ab_M) (L : List (Nat × Nat)) : Prop := μ.1 9 5 = nI L.length ∧ ∀ i p, L[i]? = some p → μ.1 39 i = nI p.1 ∧ μ.1 40 i = nI p.2
def KF (μ μ' : ab_M) : Prop := μ'.2 = μ.2 ∧ ∀ k j, k ≠ 39 → k ≠ 40 → ¬ (k = 9 ∧ j = 5) → μ'.1 k j = μ.1 k j
theorem KF.rf {μ : ab_M} : KF μ μ := ⟨rfl, fun _ _ _ _ _ => rfl⟩
theorem KF.tr {μ μ' μ'' : ab_M} (h : KF μ μ') (h' : KF μ' μ'') : KF μ μ'' := ⟨h'.1.trans h.1, fun k j a b c => (h'.2 k j a b c).trans (h.2 k j a b c)⟩
theorem KF.sq {μ μ' : ab_M} (h : KF μ μ') : SameQ μ μ' := ⟨fun k j e => h.2 k j (fun q => by rw [q] at e; simp [ca_k] at e) (fun q => by rw [q] at e; simp [ca_k] at e) (fun q => by rw [q.1, q.2] at e; simp [ca_k] at e), fun k j _ => by rw [h.1]⟩
theorem KF.rc {S : sT} {μ μ' : ab_M} (h : KF μ μ') (C : RepC S μ) : RepC S μ' := by
  obtain ⟨M, T, X, CI, CO⟩ := C
  refine ⟨RepM_q M h.sq, RepT_q T h.sq, RepX_q X h.sq, ?_, ?_⟩
  · intro g hg hb t ht i
    rw [h.2 4 3 (by omega) (by omega) (by omega)] at hb
    rw [h.1]
    exact CI g hg hb t ht i
  · intro n hn hb t ht i
    rw [h.2 5 4 (by omega) (by omega) (by omega)] at hb
    rw [h.1]
    exact CO n hn hb t ht i
theorem s_fl_mono {f : Nat → List (Nat × Nat)} : ∀ {n m : Nat}, n ≤ m → (s_fl f n).length ≤ (s_fl f m).length
  | n, 0, h => by have : n = 0 := by omega
                  subst this; exact Nat.le_refl _
  | n, m + 1, h => by
    by_cases e : n = m + 1
    · subst e; exact Nat.le_refl _
    · have := s_fl_mono (f := f) (n := n) (m := m) (by omega)
      rw [s_fl_s, List.length_append]
      omega
theorem s_fl_congr {f g : Nat → List (Nat × Nat)} : ∀ {n : Nat}, (∀ i, i < n → f i = g i) → s_fl f n = s_fl g n
  | 0, _ => rfl
  | n + 1, h => by rw [s_fl_s, s_fl_s, s_fl_congr (fun i hi => h i (by omega)), h n (by omega)]
theorem s_fl_nil {f : Nat → List (Nat × Nat)} : ∀ {n : Nat}, (∀ i, i < n → f i = []) → s_fl f n = []
  | 0, _ => rfl
  | n + 1, h => by rw [s_fl_s, s_fl_nil (fun i hi => h i (by omega)), h n (by omega)]; rfl
def s_f2f (S : sT) (t i : Nat) : List (Nat × Nat) := if (s_isf S t i && !s_open S t i) = true then [(2, i)] else []
/-- the FACES that are not OPEN, by their numbers -/
theorem s_f2_b {S : sT} (hI : Iv S) {t : Nat} (ht : t < s_nT S) (n : Nat) : s_f2 S t n = s_fl (s_f2f S t) n := by
  unfold s_f2
  refine s_fl_congr (fun i _ => ?_)
  have key : ∀ K, K ≤ S.1 55 t → s_f2i S t i K = if (ab_ex (fun k => S.1 54 (4 * t + k) == i) K && !s_open S t i) = true then [(2, i)] else [] := by
    intro K
    induction K with
    | zero => intro _; rfl
    | succ K ih =>
      intro hK
      have ih := ih (by omega)
      unfold s_f2i at ih ⊢
      rw [s_fl_s, ih, ab_ex_s]
      by_cases e : S.1 54 (4 * t + K) = i
      · have : ab_ex (fun k => S.1 54 (4 * t + k) == i) K = false := by
          refine ab_ex_f (fun k hk => ?_)
          have : ¬ S.1 54 (4 * t + k) = i := fun q => by
            have := hI.2.2.2.2.2.2.1 t k K ht (by omega) (by omega) (by omega)
            omega
          simpa using this
        rw [this, e]
        cases s_open S t i <;> simp
      · simp [e]
  unfold s_f2f
  exact key _ (Nat.le_refl _)
def s_mt (S : sT) (t n i : Nat) : Bool := match s_dg S t (10 + n) with
  | none => false
  | some d => s_pg S (10 + n) (fun a => s_met S d a t) i
def FT (S : sT) (t : Nat) (μ : ab_M) : Prop := ∀ n, n < 10 → ∀ i, ab_bt (μ.2 41 n) i = s_pg S (10 + n) (s_of S t) i ∧ ab_bt (μ.2 42 n) i = s_mt S t n i
section KA
variable {l : Launch} {ω : ab_W} {S : sT} {μ : ab_M} {ρ : Nat → Nat} {Q : ab_M → Prop}
theorem x_metBy {Q : Int64 → ab_M → Prop} (hω : ω.2.2.2 = ab_SH) (T : RepT S μ) (X : RepX S μ) (hI : Iv S) {x y : Int32} {o : Int64} {t n d : Nat} (ex : x = nI t) (ey : y = nI (10 + n)) (ht : t < s_nT S) (hn : n < 10) (hd : s_dg S t (10 + n) = some d) (ho : ∀ i, ab_bt o i = s_vg S (10 + n) t i) (hQ : ∀ w, (∀ i, ab_bt w i = s_pg S (10 + n) (fun a => s_met S d a t) i) → Q w μ) : ab_CL l ω mX1_metBy [.ref 9, .int x, .int y, .long o] μ Q := by
  subst ex ey
  refine ab_intro (sh := ab_SH) (cd := kX1_metBy) hω vX1_metBy (by decide +kernel) rfl (Nat.le_of_ble_eq_true rfl) (fun j hj hw => ?_)
  have hW := hI.1
  have hT := hW.2.2.1.2
  have hP := hW.2.1.2
  have t1 := (hW.2.2.2.2.2.1 t ht).1
  obtain ⟨kT, kc, ks, k13, k14, k15, k16, k17, k18, k22, k19, k20, k21, k25⟩ := RepT_fs T
  obtain ⟨xN, x26, x27, x28, x29, x30, x31, x32, x33, x34, x35⟩ := RepX_fs X
  repeat' (first | refine hj _ _ _ _ ?_ | (refine br_c (fun h => ?_) (fun h => ?_) <;> (try simp (disch := omega) only [nI_clamp, li_2, li_3, li_4, li_5, li_6, li_7, li_8, li_9, li_10, li_40, li_120, pk_mul, nI_add, nI_1, ix_eq, ix_lt, ix_le, ix_l0, ix_l1, ix_n0, ix_p0, ix_1lt, ix_lt1, ix_1le, ix_le1, ix_le0, ix_0lt, ab_z0, ab_z1, i_10, i_01, eq_self, ab_ozn, ab_ozp, ab_o_some, not_true_eq_false, not_false_eq_true, Bool.not_eq_false, Bool.not_eq_true, Bool.not_eq_false', Bool.not_eq_true', Bool.false_eq_true, Bool.true_eq_false, reduceCtorEq, Option.isSome_some, Option.isSome_none] at h) <;> (try omega)) | (refine br_n (fun h => ?_) (fun h => ?_) <;> (try simp (disch := omega) only [nI_clamp, li_2, li_3, li_4, li_5, li_6, li_7, li_8, li_9, li_10, li_40, li_120, pk_mul, nI_add, nI_1, ix_eq, ix_lt, ix_le, ix_l0, ix_l1, ix_n0, ix_p0, ix_1lt, ix_lt1, ix_1le, ix_le1, ix_le0, ix_0lt, ab_z0, ab_z1, i_10, i_01, eq_self, ab_ozn, ab_ozp, ab_o_some, not_true_eq_false, not_false_eq_true, Bool.not_eq_false, Bool.not_eq_true, Bool.not_eq_false', Bool.not_eq_true', Bool.false_eq_true, Bool.true_eq_false, reduceCtorEq, Option.isSome_some, Option.isSome_none] at h) <;> (try omega)) | refine ab_sd (by first | (with_reducible refine vp_in_nI ?_ ?_ <;> omega) | (simp (disch := omega) only [nI_clamp, li_2, li_3, li_4, li_5, li_6, li_7, li_8, li_9, li_10, li_40, li_120, pk_mul, nI_add, nI_1, ix_eq, ix_lt, ix_le, ix_l0, ix_l1, ix_n0, ix_p0, ix_1lt, ix_lt1, ix_1le, ix_le1, ix_le0, ix_0lt, ab_z0, ab_z1, i_10, i_01, eq_self, ab_ozn, ab_ozp, ab_o_some, not_true_eq_false, not_false_eq_true, Bool.not_eq_false, Bool.not_eq_true, Bool.not_eq_false', Bool.not_eq_true', Bool.false_eq_true, Bool.true_eq_false, reduceCtorEq, Option.isSome_some, Option.isSome_none]; with_reducible refine vp_in_nI ?_ ?_ <;> omega)) ?_ | refine x_neighbours hω T hW (t := t) rfl ht ?_ | refine ab_sd ?_ ?_ | refine ab_sz (Or.inl rfl) ?_ | refine ab_sz (Or.inr rfl) ?_ | refine ab_sz ?_ ?_)
  show Q _ _
  refine hQ _ (fun i => ?_)
  by_cases hi : i < 64
  · rw [nI_clamp (by omega), nI_clamp (by omega), ab_bt_and, ab_bt_and, ab_bt_and, ab_bt_and, ab_bt_not hi, ab_bt_not hi, ab_bt_not hi, ab_bt_and, ab_bt_and, ab_bt_and, ab_bt_not hi, ab_bt_not hi, ab_bt_not hi, x31 _ i (by omega), x32 _ i (by omega), x33 _ i (by omega), x34 _ i (by omega), ho i]
    cases e : s_dg S i (10 + n) with
    | none => simp [s_pg_none e]
    | some a =>
      obtain ⟨a1, a2, a3, a4, a5⟩ := s_dg_some hW e
      obtain ⟨d1, d2, d3, d4, d5⟩ := s_dg_some hW hd
      have so := (hW.2.2.2.2.2.1 i a5).2.1
      have e50 : (S.1 50 i == 1) = !(S.1 50 i == 0) := by
        by_cases q : S.1 50 i = 0
        · simp [q]
        · simp [show S.1 50 i = 1 by omega]
      rw [s_pg_some e, s_pg_some e, s_pg_some e, s_pg_some e, s_vg_some hd e, k20 t i ht (by omega) a5, kc i a5, k25 _ i (by omega) a5]
      unfold s_met
      rw [a2, a3, a4, d4, show (10 + n) / 10 = 1 by omega, e50]
      cases s_ab S t i <;> cases (S.1 60 a == 0) <;> cases (S.1 60 a == 1) <;> cases (S.1 48 i == S.1 48 t) <;> cases s_ov S d a <;> cases s_has (S.1 61 a) 1 <;> cases (S.1 50 i == 0) <;> simp
  · rw [ab_bt_big (by omega), s_pg_ge hW (by omega)]
theorem x_addIf (hω : ω.2.2.2 = ab_SH) {L : List (Nat × Nat)} (hL : FC μ L) {x y z : Int32} {b : Bool} {c n : Nat} (hl : b = true → L.length < 156) (ex : x = ab_z b) (ey : y = nI c) (ez : b = true → z = nI n) (hQ : ∀ μ', KF μ μ' → FC μ' (if b = true then L ++ [(c, n)] else L) → Q μ') : ab_CV l ω mX1_addIf [.ref 9, .int x, .int y, .int z] μ Q := by
  subst ex ey
  refine ab_intro (sh := ab_SH) (cd := kX1_addIf) hω vX1_addIf (by decide +kernel) rfl (Nat.le_of_ble_eq_true rfl) (fun j hj hw => ?_)
  cases b with
  | false =>
    repeat' (first | refine hj _ _ _ _ ?_ | (refine br_c (fun h => ?_) (fun h => ?_) <;> (try simp (disch := omega) only [nI_clamp, li_2, li_3, li_4, li_5, li_6, li_7, li_8, li_9, li_10, li_40, li_120, pk_mul, nI_add, nI_1, ix_eq, ix_lt, ix_le, ix_l0, ix_l1, ix_n0, ix_p0, ix_1lt, ix_lt1, ix_1le, ix_le1, ix_le0, ix_0lt, ab_z0, ab_z1, i_10, i_01, eq_self, ab_ozn, ab_ozp, ab_o_some, not_true_eq_false, not_false_eq_true, Bool.not_eq_false, Bool.not_eq_true, Bool.not_eq_false', Bool.not_eq_true', Bool.false_eq_true, Bool.true_eq_false, reduceCtorEq, Option.isSome_some, Option.isSome_none] at h) <;> (try omega)) | (refine br_n (fun h => ?_) (fun h => ?_) <;> (try simp (disch := omega) only [nI_clamp, li_2, li_3, li_4, li_5, li_6, li_7, li_8, li_9, li_10, li_40, li_120, pk_mul, nI_add, nI_1, ix_eq, ix_lt, ix_le, ix_l0, ix_l1, ix_n0, ix_p0, ix_1lt, ix_lt1, ix_1le, ix_le1, ix_le0, ix_0lt, ab_z0, ab_z1, i_10, i_01, eq_self, ab_ozn, ab_ozp, ab_o_some, not_true_eq_false, not_false_eq_true, Bool.not_eq_false, Bool.not_eq_true, Bool.not_eq_false', Bool.not_eq_true', Bool.false_eq_true, Bool.true_eq_false, reduceCtorEq, Option.isSome_some, Option.isSome_none] at h) <;> (try omega)) | refine ab_sd (by first | (with_reducible refine vp_in_nI ?_ ?_ <;> omega) | (simp (disch := omega) only [nI_clamp, li_2, li_3, li_4, li_5, li_6, li_7, li_8, li_9, li_10, li_40, li_120, pk_mul, nI_add, nI_1, ix_eq, ix_lt, ix_le, ix_l0, ix_l1, ix_n0, ix_p0, ix_1lt, ix_lt1, ix_1le, ix_le1, ix_le0, ix_0lt, ab_z0, ab_z1, i_10, i_01, eq_self, ab_ozn, ab_ozp, ab_o_some, not_true_eq_false, not_false_eq_true, Bool.not_eq_false, Bool.not_eq_true, Bool.not_eq_false', Bool.not_eq_true', Bool.false_eq_true, Bool.true_eq_false, reduceCtorEq, Option.isSome_some, Option.isSome_none]; with_reducible refine vp_in_nI ?_ ?_ <;> omega)) ?_ | refine ab_sd ?_ ?_ | refine ab_sz (Or.inl rfl) ?_ | refine ab_sz (Or.inr rfl) ?_ | refine ab_sz ?_ ?_)
    all_goals first | exact hQ μ KF.rf hL | (exfalso; exact h rfl)
  | true =>
    have hl := hl rfl
    have ez := ez rfl
    subst ez
    have e5 := hL.1
    simp only [if_true] at hQ
    have e5' : ∀ j x, (ab_mi μ 39 j x).1 9 5 = nI L.length := fun j x => by rw [mi_ne (by omega), e5]
    have e5'' : ∀ j x j' x', (ab_mi (ab_mi μ 39 j x) 40 j' x').1 9 5 = nI L.length := fun j x j' x' => by rw [mi_ne (by omega), mi_ne (by omega), e5]
    repeat' (first | refine hj _ _ _ _ ?_ | (refine br_c (fun h => ?_) (fun h => ?_) <;> (try simp (disch := omega) only [nI_clamp, li_2, li_3, li_4, li_5, li_6, li_7, li_8, li_9, li_10, li_40, li_120, pk_mul, nI_add, nI_1, ix_eq, ix_lt, ix_le, ix_l0, ix_l1, ix_n0, ix_p0, ix_1lt, ix_lt1, ix_1le, ix_le1, ix_le0, ix_0lt, ab_z0, ab_z1, i_10, i_01, eq_self, ab_ozn, ab_ozp, ab_o_some, not_true_eq_false, not_false_eq_true, Bool.not_eq_false, Bool.not_eq_true, Bool.not_eq_false', Bool.not_eq_true', Bool.false_eq_true, Bool.true_eq_false, reduceCtorEq, Option.isSome_some, Option.isSome_none, e5, e5', show (156 : Int32) = nI 156 from rfl] at h) <;> (try omega)) | (refine br_n (fun h => ?_) (fun h => ?_) <;> (try simp (disch := omega) only [nI_clamp, li_2, li_3, li_4, li_5, li_6, li_7, li_8, li_9, li_10, li_40, li_120, pk_mul, nI_add, nI_1, ix_eq, ix_lt, ix_le, ix_l0, ix_l1, ix_n0, ix_p0, ix_1lt, ix_lt1, ix_1le, ix_le1, ix_le0, ix_0lt, ab_z0, ab_z1, i_10, i_01, eq_self, ab_ozn, ab_ozp, ab_o_some, not_true_eq_false, not_false_eq_true, Bool.not_eq_false, Bool.not_eq_true, Bool.not_eq_false', Bool.not_eq_true', Bool.false_eq_true, Bool.true_eq_false, reduceCtorEq, Option.isSome_some, Option.isSome_none, e5, e5', show (156 : Int32) = nI 156 from rfl] at h) <;> (try omega)) | refine ab_sd (by first | (with_reducible refine vp_in_nI ?_ ?_ <;> omega) | (simp (disch := omega) only [nI_clamp, li_2, li_3, li_4, li_5, li_6, li_7, li_8, li_9, li_10, li_40, li_120, pk_mul, nI_add, nI_1, ix_eq, ix_lt, ix_le, ix_l0, ix_l1, ix_n0, ix_p0, ix_1lt, ix_lt1, ix_1le, ix_le1, ix_le0, ix_0lt, ab_z0, ab_z1, i_10, i_01, eq_self, ab_ozn, ab_ozp, ab_o_some, not_true_eq_false, not_false_eq_true, Bool.not_eq_false, Bool.not_eq_true, Bool.not_eq_false', Bool.not_eq_true', Bool.false_eq_true, Bool.true_eq_false, reduceCtorEq, Option.isSome_some, Option.isSome_none, e5, e5', show (156 : Int32) = nI 156 from rfl]; with_reducible refine vp_in_nI ?_ ?_ <;> omega)) ?_ | refine ab_sd ?_ ?_ | refine ab_sz (Or.inl rfl) ?_ | refine ab_sz (Or.inr rfl) ?_ | refine ab_sz ?_ ?_)
    all_goals first | (exfalso; revert h; decide) | skip
    show Q _
    simp only [e5'', e5', e5, nI_1, nI_clamp (show L.length < 2 ^ 31 by omega)]
    refine hQ _ ⟨rfl, fun k j a b c => ?_⟩ ⟨?_, fun i p e => ?_⟩
    · simp [ab_mi, a, b, c]
    · simp [ab_mi]
    · by_cases q : i < L.length
      · rw [List.getElem?_append_left q] at e
        have := hL.2 i p e
        simp [ab_mi, show ¬ i = L.length by omega, this]
      · rw [List.getElem?_append_right (by omega)] at e
        have : i = L.length := by
          by_cases q2 : i = L.length
          · exact q2
          · rw [List.getElem?_eq_none (by simp; omega)] at e; cases e
        subst this
        simp at e
        subst e
        simp [ab_mi]
end KA
