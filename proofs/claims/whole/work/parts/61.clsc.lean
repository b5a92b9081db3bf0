/-! THE CLASS: check, fault -/
theorem ab_cnt_imp {f g : Nat → Bool} : ∀ {n : Nat}, (∀ i, i < n → f i = true → g i = true) → ab_cnt f n ≤ ab_cnt g n
  | 0, _ => Nat.le_refl _
  | n + 1, h => by
    have ih := ab_cnt_imp (n := n) (fun i hi => h i (by omega))
    have h2 := h n (by omega)
    simp only [ab_cnt]
    cases hf : f n with
    | false => simp; omega
    | true => rw [h2 hf]; simp; omega
theorem ab_sm_le {f g : Nat → Nat} : ∀ {n : Nat}, (∀ i, i < n → f i ≤ g i) → ab_sm f n ≤ ab_sm g n
  | 0, _ => Nat.le_refl _
  | n + 1, h => by
    have ih := ab_sm_le (n := n) (fun i hi => h i (by omega))
    have h2 := h n (by omega)
    simp only [ab_sm]
    omega
theorem s_f4_len {S : sT} (hI : Iv S) (t c : Nat) : (s_f4 S t c (s_nX S)).length ≤ 10 := by
  have hW := hI.1
  unfold s_f4
  rw [s_fl_len, ← s_sm hI (s_bad S t c) (s_nX S) (Nat.le_refl _)]
  have e1 : ∀ g, g < 30 → ab_cnt (s_pg S g (fun m => decide (m < s_nX S) && s_bad S t c m)) 64 ≤ (fun g => if g < 10 then 0 else if g < 20 then 1 else 0) g := by
    intro g hg
    by_cases q : 10 ≤ g ∧ g < 20
    · simp only [show ¬ g < 10 by omega, if_false, show g < 20 by omega, if_true]
      have : ab_cnt (s_pg S g (fun m => decide (m < s_nX S) && s_bad S t c m)) 64 ≤ ab_cnt (fun i => t == i) 64 := by
        refine ab_cnt_imp (fun i _ h => ?_)
        obtain ⟨m, e, hp⟩ := s_pg_t.mp h
        have a2 := (s_dg_some hW e).2.1
        unfold s_bad at hp
        simp only [Bool.and_eq_true, beq_iff_eq] at hp
        simp
        omega
      have h2 := ab_cnt_eq t 64
      split at h2 <;> omega
    · have : ab_cnt (s_pg S g (fun m => decide (m < s_nX S) && s_bad S t c m)) 64 = 0 := by
        refine ab_cnt_zero (fun i _ => ?_)
        cases e : s_dg S i g with
        | none => exact s_pg_none e
        | some m =>
          have a3 := (s_dg_some hW e).2.2.1
          rw [s_pg_some e]
          unfold s_bad
          have : (S.1 58 m == 1) = false := by rw [beq_eq_false_iff_ne]; omega
          rw [this]; simp
      rw [this]; exact Nat.zero_le _
  have := ab_sm_le e1
  exact Nat.le_trans this (by decide)
theorem s_flt_le {S : sT} (hI : Iv S) {t : Nat} (ht : t < s_nT S) : (s_flt S t).length ≤ 156 := by
  have hW := hI.1
  have hX := hW.2.2.2.1
  have t5 := (hW.2.2.2.2.2.1 t ht).2.2.2.2.1
  have h1 := s_f1_len S t
  have h2 := s_f2_len S t (s_nT S)
  have h2' := ab_cnt_le (fun k => decide (S.1 54 (4 * t + k) < s_nT S) && !s_open S t (S.1 54 (4 * t + k))) (S.1 55 t)
  have h3 := s_f3_len S t
  have h7 := s_f78_len S t (s_nX S) (Nat.le_refl _)
  have h4 : (s_f46 S t 3).length ≤ 30 := by
    unfold s_f46
    rw [s_fl_s, s_fl_s, s_fl_s]
    simp only [s_fl, List.length_append, List.length_nil]
    have a := s_f4_len hI t (4 + 0)
    have b := s_f4_len hI t (4 + 1)
    have c := s_f4_len hI t (4 + 2)
    omega
  unfold s_flt
  simp only [List.length_append]
  omega
theorem FT.kf {S : sT} {t : Nat} {μ μ' : ab_M} (h : FT S t μ) (k : KF μ μ') : FT S t μ' := by
  intro n hn i
  rw [k.1]
  exact h n hn i
theorem ab_cnt_oth {f : Nat → Bool} {n m : Nat} (hm : m < n) (fm : f m = true) : 1 < ab_cnt f n ↔ ∃ x, x < n ∧ ¬ x = m ∧ f x = true := by
  constructor
  · intro h
    apply Classical.byContradiction
    intro q
    have : ∀ i, i < n → f i = (m == i) := by
      intro i hi
      by_cases e : i = m
      · subst e; simp [fm]
      · have : ¬ m = i := fun x => e x.symm
        cases hf : f i with
        | false => simp [this]
        | true => exact absurd ⟨i, hi, e, hf⟩ q
    rw [ab_cnt_congr this, ab_cnt_eq] at h
    split at h <;> omega
  · rintro ⟨x, hx, hne, fx⟩
    apply Classical.byContradiction
    intro q
    exact hne (ab_cnt_uq (by omega) x m hx hm fx fm)
section KC
variable {l : Launch} {ω : ab_W} {S : sT} {μ : ab_M} {ρ : Nat → Nat} {Q : ab_M → Prop}
theorem x_findInDeclared (hω : ω.2.2.2 = ab_SH) (C : RepC S μ) (hI : Iv S) {x : Int32} {t : Nat} {L : List (Nat × Nat)} (hF : FT S t μ) (hL : FC μ L) (hl : (L ++ s_f46 S t 3).length ≤ 156) (ex : x = nI t) (ht : t < s_nT S) (hQ : ∀ μ', KF μ μ' → FC μ' (L ++ s_f46 S t 3) → Q μ') : ab_CV l ω mX1_findInDeclared [.ref 9, .int x] μ Q := by
  subst ex
  refine ab_intro (sh := ab_SH) (cd := kX1_findInDeclared) hω vX1_findInDeclared (by decide +kernel) rfl (Nat.le_of_ble_eq_true rfl) (fun j hj hw => ?_)
  have hjx : ∀ i ll st μ, i ∉ ([2, 7] : List Nat) → _ → j i ll st μ := fun i ll st μ _ h => hj i ll st μ h
  have hW := hI.1
  have hT := hW.2.2.1.2
  have hX := hW.2.2.2.1
  simp only [List.length_append] at hl
  have key : ∀ r i μ' v3, i + r = 3 → KF μ μ' → FC μ' (L ++ s_f46 S t i) → j 2 [some (.ref 9), some (.int (nI t)), some (.int (nI (4 + i))), v3] [] μ' := by
    intro r
    induction r with
    | zero =>
      intro i μ' v3 hi hK hFC
      refine hj _ _ _ _ ?_
      repeat' (first | refine hjx _ _ _ _ (by decide) ?_ | (refine br_c (fun h => ?_) (fun h => ?_) <;> (try simp (disch := omega) only [nI_clamp, li_2, li_3, li_4, li_5, li_6, li_7, li_8, li_9, li_10, li_40, li_120, pk_mul, nI_add, nI_1, ix_eq, ix_lt, ix_le, ix_l0, ix_l1, ix_n0, ix_p0, ix_1lt, ix_lt1, ix_1le, ix_le1, ix_le0, ix_0lt, ab_z0, ab_z1, i_10, i_01, eq_self, ab_ozn, ab_ozp, ab_o_some, not_true_eq_false, not_false_eq_true, Bool.not_eq_false, Bool.not_eq_true, Bool.not_eq_false', Bool.not_eq_true', Bool.false_eq_true, Bool.true_eq_false, reduceCtorEq, Option.isSome_some, Option.isSome_none] at h) <;> (try omega)) | (refine br_n (fun h => ?_) (fun h => ?_) <;> (try simp (disch := omega) only [nI_clamp, li_2, li_3, li_4, li_5, li_6, li_7, li_8, li_9, li_10, li_40, li_120, pk_mul, nI_add, nI_1, ix_eq, ix_lt, ix_le, ix_l0, ix_l1, ix_n0, ix_p0, ix_1lt, ix_lt1, ix_1le, ix_le1, ix_le0, ix_0lt, ab_z0, ab_z1, i_10, i_01, eq_self, ab_ozn, ab_ozp, ab_o_some, not_true_eq_false, not_false_eq_true, Bool.not_eq_false, Bool.not_eq_true, Bool.not_eq_false', Bool.not_eq_true', Bool.false_eq_true, Bool.true_eq_false, reduceCtorEq, Option.isSome_some, Option.isSome_none] at h) <;> (try omega)) | refine ab_sd (by first | (with_reducible refine vp_in_nI ?_ ?_ <;> omega) | (simp (disch := omega) only [nI_clamp, li_2, li_3, li_4, li_5, li_6, li_7, li_8, li_9, li_10, li_40, li_120, pk_mul, nI_add, nI_1, ix_eq, ix_lt, ix_le, ix_l0, ix_l1, ix_n0, ix_p0, ix_1lt, ix_lt1, ix_1le, ix_le1, ix_le0, ix_0lt, ab_z0, ab_z1, i_10, i_01, eq_self, ab_ozn, ab_ozp, ab_o_some, not_true_eq_false, not_false_eq_true, Bool.not_eq_false, Bool.not_eq_true, Bool.not_eq_false', Bool.not_eq_true', Bool.false_eq_true, Bool.true_eq_false, reduceCtorEq, Option.isSome_some, Option.isSome_none]; with_reducible refine vp_in_nI ?_ ?_ <;> omega)) ?_ | refine ab_sd ?_ ?_ | refine ab_sz (Or.inl rfl) ?_ | refine ab_sz (Or.inr rfl) ?_ | refine ab_sz ?_ ?_)
      show Q _
      rw [show i = 3 by omega] at hFC
      exact hQ μ' hK hFC
    | succ r ih =>
      intro i μ' v3 hi hK hFC
      have hc : 4 + i = 4 ∨ 4 + i = 5 ∨ 4 + i = 6 := by omega
      have inner : ∀ d n μ', n + d = s_nX S → KF μ μ' → FC μ' (L ++ s_f46 S t i ++ s_f4 S t (4 + i) n) → j 7 [some (.ref 9), some (.int (nI t)), some (.int (nI (4 + i))), some (.int (nI n))] [] μ' := by
        intro d
        induction d with
        | zero =>
          intro n μ' hn hK hFC
          refine hj _ _ _ _ ?_
          have e1 : μ'.1 3 1 = nI (s_nX S) := (RepX_q C.2.2.1 hK.sq).1
          repeat' (first | refine hjx _ _ _ _ (by decide) ?_ | (refine br_c (fun h => ?_) (fun h => ?_) <;> (try simp (disch := omega) only [nI_clamp, li_2, li_3, li_4, li_5, li_6, li_7, li_8, li_9, li_10, li_40, li_120, pk_mul, nI_add, nI_1, ix_eq, ix_lt, ix_le, ix_l0, ix_l1, ix_n0, ix_p0, ix_1lt, ix_lt1, ix_1le, ix_le1, ix_le0, ix_0lt, ab_z0, ab_z1, i_10, i_01, eq_self, ab_ozn, ab_ozp, ab_o_some, not_true_eq_false, not_false_eq_true, Bool.not_eq_false, Bool.not_eq_true, Bool.not_eq_false', Bool.not_eq_true', Bool.false_eq_true, Bool.true_eq_false, reduceCtorEq, Option.isSome_some, Option.isSome_none, e1] at h) <;> (try omega)) | (refine br_n (fun h => ?_) (fun h => ?_) <;> (try simp (disch := omega) only [nI_clamp, li_2, li_3, li_4, li_5, li_6, li_7, li_8, li_9, li_10, li_40, li_120, pk_mul, nI_add, nI_1, ix_eq, ix_lt, ix_le, ix_l0, ix_l1, ix_n0, ix_p0, ix_1lt, ix_lt1, ix_1le, ix_le1, ix_le0, ix_0lt, ab_z0, ab_z1, i_10, i_01, eq_self, ab_ozn, ab_ozp, ab_o_some, not_true_eq_false, not_false_eq_true, Bool.not_eq_false, Bool.not_eq_true, Bool.not_eq_false', Bool.not_eq_true', Bool.false_eq_true, Bool.true_eq_false, reduceCtorEq, Option.isSome_some, Option.isSome_none, e1] at h) <;> (try omega)) | refine ab_sd (by first | (with_reducible refine vp_in_nI ?_ ?_ <;> omega) | (simp (disch := omega) only [nI_clamp, li_2, li_3, li_4, li_5, li_6, li_7, li_8, li_9, li_10, li_40, li_120, pk_mul, nI_add, nI_1, ix_eq, ix_lt, ix_le, ix_l0, ix_l1, ix_n0, ix_p0, ix_1lt, ix_lt1, ix_1le, ix_le1, ix_le0, ix_0lt, ab_z0, ab_z1, i_10, i_01, eq_self, ab_ozn, ab_ozp, ab_o_some, not_true_eq_false, not_false_eq_true, Bool.not_eq_false, Bool.not_eq_true, Bool.not_eq_false', Bool.not_eq_true', Bool.false_eq_true, Bool.true_eq_false, reduceCtorEq, Option.isSome_some, Option.isSome_none, e1]; with_reducible refine vp_in_nI ?_ ?_ <;> omega)) ?_ | refine ab_sd ?_ ?_ | refine ab_sz (Or.inl rfl) ?_ | refine ab_sz (Or.inr rfl) ?_ | refine ab_sz ?_ ?_)
          show j 2 _ _ _
          rw [nI_1, Nat.add_assoc]
          refine ih (i + 1) μ' _ (by omega) hK ?_
          rw [show n = s_nX S by omega] at hFC
          unfold s_f46
          rw [s_fl_s, ← List.append_assoc]
          exact hFC
        | succ d ih2 =>
          intro n μ' hn hK hFC
          refine hj _ _ _ _ ?_
          have T' := RepT_q C.2.1 hK.sq
          have X' := RepX_q C.2.2.1 hK.sq
          have hF' := hF.kf hK
          have e1 : μ'.1 3 1 = nI (s_nX S) := X'.1
          obtain ⟨n1, n2, n3, n4, n5⟩ := hW.2.2.2.2.2.2 n (by omega)
          have y26 := (RepX_fs X').2.1 n (by omega)
          have vm : v_meth S (nI n) = (S.1 58 n == 1) := by
            unfold v_meth
            rw [ab_ok_nI (by omega) (by omega), nI_clamp (by omega)]; rfl
          have nx : ∀ μ2, KF μ' μ2 → FC μ2 (if s_bad S t (4 + i) n = true then L ++ s_f46 S t i ++ s_f4 S t (4 + i) n ++ [(4 + i, n)] else L ++ s_f46 S t i ++ s_f4 S t (4 + i) n) → j 7 [some (.ref 9), some (.int (nI t)), some (.int (nI (4 + i))), some (.int (nI (n + 1)))] [] μ2 := by
            intro μ2 hK2 hF2
            refine ih2 (n + 1) μ2 (by omega) (hK.tr hK2) ?_
            unfold s_f4 at hF2 ⊢
            rw [s_fl_s]
            cases hb : s_bad S t (4 + i) n with
            | true => rw [hb] at hF2; simpa [List.append_assoc] using hF2
            | false => rw [hb] at hF2; simpa using hF2
          have hlb : s_bad S t (4 + i) n = true → (L ++ s_f46 S t i ++ s_f4 S t (4 + i) n).length < 156 := fun e => by
            have a1 : (s_f46 S t (i + 1)).length ≤ (s_f46 S t 3).length := s_fl_mono (by omega)
            have a2 : (s_f46 S t (i + 1)).length = (s_f46 S t i).length + (s_f4 S t (4 + i) (s_nX S)).length := by
              unfold s_f46
              rw [s_fl_s, List.length_append]
            have a3 : (s_f4 S t (4 + i) (n + 1)).length ≤ (s_f4 S t (4 + i) (s_nX S)).length := s_fl_mono (by omega)
            have a4 : (s_f4 S t (4 + i) (n + 1)).length = (s_f4 S t (4 + i) n).length + 1 := by
              unfold s_f4
              rw [s_fl_s, List.length_append, if_pos e]; rfl
            simp only [List.length_append]
            omega
          by_cases h1 : S.1 57 n = t
          · by_cases h2 : S.1 58 n = 1
            · have hbe : s_bad S t (4 + i) n = ab_ex (fun a => s_met S n a t && s_wrg S (4 + i) n a) (s_nX S) := by
                unfold s_bad
                simp [h1, h2]
              rw [hbe] at nx hlb
              have vmt : v_meth S (nI n) = true := by rw [vm, h2]; rfl
              repeat' (first | refine hjx _ _ _ _ (by decide) ?_ | (refine br_c (fun h => ?_) (fun h => ?_) <;> (try simp (disch := omega) only [nI_clamp, li_2, li_3, li_4, li_5, li_6, li_7, li_8, li_9, li_10, li_40, li_120, pk_mul, nI_add, nI_1, ix_eq, ix_lt, ix_le, ix_l0, ix_l1, ix_n0, ix_p0, ix_1lt, ix_lt1, ix_1le, ix_le1, ix_le0, ix_0lt, ab_z0, ab_z1, i_10, i_01, eq_self, ab_ozn, ab_ozp, ab_o_some, not_true_eq_false, not_false_eq_true, Bool.not_eq_false, Bool.not_eq_true, Bool.not_eq_false', Bool.not_eq_true', Bool.false_eq_true, Bool.true_eq_false, reduceCtorEq, Option.isSome_some, Option.isSome_none, e1, y26, h1, vmt] at h) <;> (try omega)) | (refine br_n (fun h => ?_) (fun h => ?_) <;> (try simp (disch := omega) only [nI_clamp, li_2, li_3, li_4, li_5, li_6, li_7, li_8, li_9, li_10, li_40, li_120, pk_mul, nI_add, nI_1, ix_eq, ix_lt, ix_le, ix_l0, ix_l1, ix_n0, ix_p0, ix_1lt, ix_lt1, ix_1le, ix_le1, ix_le0, ix_0lt, ab_z0, ab_z1, i_10, i_01, eq_self, ab_ozn, ab_ozp, ab_o_some, not_true_eq_false, not_false_eq_true, Bool.not_eq_false, Bool.not_eq_true, Bool.not_eq_false', Bool.not_eq_true', Bool.false_eq_true, Bool.true_eq_false, reduceCtorEq, Option.isSome_some, Option.isSome_none, e1, y26, h1, vmt] at h) <;> (try omega)) | refine ab_sd (by first | (with_reducible refine vp_in_nI ?_ ?_ <;> omega) | (simp (disch := omega) only [nI_clamp, li_2, li_3, li_4, li_5, li_6, li_7, li_8, li_9, li_10, li_40, li_120, pk_mul, nI_add, nI_1, ix_eq, ix_lt, ix_le, ix_l0, ix_l1, ix_n0, ix_p0, ix_1lt, ix_lt1, ix_1le, ix_le1, ix_le0, ix_0lt, ab_z0, ab_z1, i_10, i_01, eq_self, ab_ozn, ab_ozp, ab_o_some, not_true_eq_false, not_false_eq_true, Bool.not_eq_false, Bool.not_eq_true, Bool.not_eq_false', Bool.not_eq_true', Bool.false_eq_true, Bool.true_eq_false, reduceCtorEq, Option.isSome_some, Option.isSome_none, e1, y26, h1, vmt]; with_reducible refine vp_in_nI ?_ ?_ <;> omega)) ?_ | refine x_isMethod hω X' hW ?_ | refine x_clashes hω T' X' hI hF' (c := 4 + i) (d := n) rfl rfl hc (by omega) h1 h2 ?_ | refine x_addIf hω hFC (c := 4 + i) (n := n) hlb rfl rfl (fun _ => rfl) (fun μ2 hK2 hF2 => ?_) | refine ab_sd ?_ ?_ | refine ab_sz (Or.inl rfl) ?_ | refine ab_sz (Or.inr rfl) ?_ | refine ab_sz ?_ ?_)
              all_goals first | exact ab_z01 _ | (show j 7 _ _ _; rw [nI_1]; exact nx _ hK2 hF2)
            · have hbe : s_bad S t (4 + i) n = false := by
                unfold s_bad
                simp [h2]
              rw [hbe] at nx
              have vm2 : v_meth S (nI n) = false := by rw [vm]; simpa using h2
              repeat' (first | refine hjx _ _ _ _ (by decide) ?_ | (refine br_c (fun h => ?_) (fun h => ?_) <;> (try simp (disch := omega) only [nI_clamp, li_2, li_3, li_4, li_5, li_6, li_7, li_8, li_9, li_10, li_40, li_120, pk_mul, nI_add, nI_1, ix_eq, ix_lt, ix_le, ix_l0, ix_l1, ix_n0, ix_p0, ix_1lt, ix_lt1, ix_1le, ix_le1, ix_le0, ix_0lt, ab_z0, ab_z1, i_10, i_01, eq_self, ab_ozn, ab_ozp, ab_o_some, not_true_eq_false, not_false_eq_true, Bool.not_eq_false, Bool.not_eq_true, Bool.not_eq_false', Bool.not_eq_true', Bool.false_eq_true, Bool.true_eq_false, reduceCtorEq, Option.isSome_some, Option.isSome_none, e1, y26, h1, vm2] at h) <;> (try omega)) | (refine br_n (fun h => ?_) (fun h => ?_) <;> (try simp (disch := omega) only [nI_clamp, li_2, li_3, li_4, li_5, li_6, li_7, li_8, li_9, li_10, li_40, li_120, pk_mul, nI_add, nI_1, ix_eq, ix_lt, ix_le, ix_l0, ix_l1, ix_n0, ix_p0, ix_1lt, ix_lt1, ix_1le, ix_le1, ix_le0, ix_0lt, ab_z0, ab_z1, i_10, i_01, eq_self, ab_ozn, ab_ozp, ab_o_some, not_true_eq_false, not_false_eq_true, Bool.not_eq_false, Bool.not_eq_true, Bool.not_eq_false', Bool.not_eq_true', Bool.false_eq_true, Bool.true_eq_false, reduceCtorEq, Option.isSome_some, Option.isSome_none, e1, y26, h1, vm2] at h) <;> (try omega)) | refine ab_sd (by first | (with_reducible refine vp_in_nI ?_ ?_ <;> omega) | (simp (disch := omega) only [nI_clamp, li_2, li_3, li_4, li_5, li_6, li_7, li_8, li_9, li_10, li_40, li_120, pk_mul, nI_add, nI_1, ix_eq, ix_lt, ix_le, ix_l0, ix_l1, ix_n0, ix_p0, ix_1lt, ix_lt1, ix_1le, ix_le1, ix_le0, ix_0lt, ab_z0, ab_z1, i_10, i_01, eq_self, ab_ozn, ab_ozp, ab_o_some, not_true_eq_false, not_false_eq_true, Bool.not_eq_false, Bool.not_eq_true, Bool.not_eq_false', Bool.not_eq_true', Bool.false_eq_true, Bool.true_eq_false, reduceCtorEq, Option.isSome_some, Option.isSome_none, e1, y26, h1, vm2]; with_reducible refine vp_in_nI ?_ ?_ <;> omega)) ?_ | refine x_isMethod hω X' hW ?_ | refine ab_sd ?_ ?_ | refine ab_sz (Or.inl rfl) ?_ | refine ab_sz (Or.inr rfl) ?_ | refine ab_sz ?_ ?_)
              show j 7 _ _ _
              rw [nI_1]
              exact nx _ KF.rf (by simpa using hFC)
          · have hbe : s_bad S t (4 + i) n = false := by
              unfold s_bad
              simp [h1]
            rw [hbe] at nx
            repeat' (first | refine hjx _ _ _ _ (by decide) ?_ | (refine br_c (fun h => ?_) (fun h => ?_) <;> (try simp (disch := omega) only [nI_clamp, li_2, li_3, li_4, li_5, li_6, li_7, li_8, li_9, li_10, li_40, li_120, pk_mul, nI_add, nI_1, ix_eq, ix_lt, ix_le, ix_l0, ix_l1, ix_n0, ix_p0, ix_1lt, ix_lt1, ix_1le, ix_le1, ix_le0, ix_0lt, ab_z0, ab_z1, i_10, i_01, eq_self, ab_ozn, ab_ozp, ab_o_some, not_true_eq_false, not_false_eq_true, Bool.not_eq_false, Bool.not_eq_true, Bool.not_eq_false', Bool.not_eq_true', Bool.false_eq_true, Bool.true_eq_false, reduceCtorEq, Option.isSome_some, Option.isSome_none, e1, y26, h1] at h) <;> (try omega)) | (refine br_n (fun h => ?_) (fun h => ?_) <;> (try simp (disch := omega) only [nI_clamp, li_2, li_3, li_4, li_5, li_6, li_7, li_8, li_9, li_10, li_40, li_120, pk_mul, nI_add, nI_1, ix_eq, ix_lt, ix_le, ix_l0, ix_l1, ix_n0, ix_p0, ix_1lt, ix_lt1, ix_1le, ix_le1, ix_le0, ix_0lt, ab_z0, ab_z1, i_10, i_01, eq_self, ab_ozn, ab_ozp, ab_o_some, not_true_eq_false, not_false_eq_true, Bool.not_eq_false, Bool.not_eq_true, Bool.not_eq_false', Bool.not_eq_true', Bool.false_eq_true, Bool.true_eq_false, reduceCtorEq, Option.isSome_some, Option.isSome_none, e1, y26, h1] at h) <;> (try omega)) | refine ab_sd (by first | (with_reducible refine vp_in_nI ?_ ?_ <;> omega) | (simp (disch := omega) only [nI_clamp, li_2, li_3, li_4, li_5, li_6, li_7, li_8, li_9, li_10, li_40, li_120, pk_mul, nI_add, nI_1, ix_eq, ix_lt, ix_le, ix_l0, ix_l1, ix_n0, ix_p0, ix_1lt, ix_lt1, ix_1le, ix_le1, ix_le0, ix_0lt, ab_z0, ab_z1, i_10, i_01, eq_self, ab_ozn, ab_ozp, ab_o_some, not_true_eq_false, not_false_eq_true, Bool.not_eq_false, Bool.not_eq_true, Bool.not_eq_false', Bool.not_eq_true', Bool.false_eq_true, Bool.true_eq_false, reduceCtorEq, Option.isSome_some, Option.isSome_none, e1, y26, h1]; with_reducible refine vp_in_nI ?_ ?_ <;> omega)) ?_ | refine ab_sd ?_ ?_ | refine ab_sz (Or.inl rfl) ?_ | refine ab_sz (Or.inr rfl) ?_ | refine ab_sz ?_ ?_)
            show j 7 _ _ _
            rw [nI_1]
            exact nx _ KF.rf (by simpa using hFC)
      refine hj _ _ _ _ ?_
      repeat' (first | refine hjx _ _ _ _ (by decide) ?_ | (refine br_c (fun h => ?_) (fun h => ?_) <;> (try simp (disch := omega) only [nI_clamp, li_2, li_3, li_4, li_5, li_6, li_7, li_8, li_9, li_10, li_40, li_120, pk_mul, nI_add, nI_1, ix_eq, ix_lt, ix_le, ix_l0, ix_l1, ix_n0, ix_p0, ix_1lt, ix_lt1, ix_1le, ix_le1, ix_le0, ix_0lt, ab_z0, ab_z1, i_10, i_01, eq_self, ab_ozn, ab_ozp, ab_o_some, not_true_eq_false, not_false_eq_true, Bool.not_eq_false, Bool.not_eq_true, Bool.not_eq_false', Bool.not_eq_true', Bool.false_eq_true, Bool.true_eq_false, reduceCtorEq, Option.isSome_some, Option.isSome_none] at h) <;> (try omega)) | (refine br_n (fun h => ?_) (fun h => ?_) <;> (try simp (disch := omega) only [nI_clamp, li_2, li_3, li_4, li_5, li_6, li_7, li_8, li_9, li_10, li_40, li_120, pk_mul, nI_add, nI_1, ix_eq, ix_lt, ix_le, ix_l0, ix_l1, ix_n0, ix_p0, ix_1lt, ix_lt1, ix_1le, ix_le1, ix_le0, ix_0lt, ab_z0, ab_z1, i_10, i_01, eq_self, ab_ozn, ab_ozp, ab_o_some, not_true_eq_false, not_false_eq_true, Bool.not_eq_false, Bool.not_eq_true, Bool.not_eq_false', Bool.not_eq_true', Bool.false_eq_true, Bool.true_eq_false, reduceCtorEq, Option.isSome_some, Option.isSome_none] at h) <;> (try omega)) | refine ab_sd (by first | (with_reducible refine vp_in_nI ?_ ?_ <;> omega) | (simp (disch := omega) only [nI_clamp, li_2, li_3, li_4, li_5, li_6, li_7, li_8, li_9, li_10, li_40, li_120, pk_mul, nI_add, nI_1, ix_eq, ix_lt, ix_le, ix_l0, ix_l1, ix_n0, ix_p0, ix_1lt, ix_lt1, ix_1le, ix_le1, ix_le0, ix_0lt, ab_z0, ab_z1, i_10, i_01, eq_self, ab_ozn, ab_ozp, ab_o_some, not_true_eq_false, not_false_eq_true, Bool.not_eq_false, Bool.not_eq_true, Bool.not_eq_false', Bool.not_eq_true', Bool.false_eq_true, Bool.true_eq_false, reduceCtorEq, Option.isSome_some, Option.isSome_none]; with_reducible refine vp_in_nI ?_ ?_ <;> omega)) ?_ | refine ab_sd ?_ ?_ | refine ab_sz (Or.inl rfl) ?_ | refine ab_sz (Or.inr rfl) ?_ | refine ab_sz ?_ ?_)
      exact inner (s_nX S) 0 μ' (by omega) hK (by simpa [s_f4, s_fl] using hFC)
  repeat' (first | refine hjx _ _ _ _ (by decide) ?_ | (refine br_c (fun h => ?_) (fun h => ?_) <;> (try simp (disch := omega) only [nI_clamp, li_2, li_3, li_4, li_5, li_6, li_7, li_8, li_9, li_10, li_40, li_120, pk_mul, nI_add, nI_1, ix_eq, ix_lt, ix_le, ix_l0, ix_l1, ix_n0, ix_p0, ix_1lt, ix_lt1, ix_1le, ix_le1, ix_le0, ix_0lt, ab_z0, ab_z1, i_10, i_01, eq_self, ab_ozn, ab_ozp, ab_o_some, not_true_eq_false, not_false_eq_true, Bool.not_eq_false, Bool.not_eq_true, Bool.not_eq_false', Bool.not_eq_true', Bool.false_eq_true, Bool.true_eq_false, reduceCtorEq, Option.isSome_some, Option.isSome_none] at h) <;> (try omega)) | (refine br_n (fun h => ?_) (fun h => ?_) <;> (try simp (disch := omega) only [nI_clamp, li_2, li_3, li_4, li_5, li_6, li_7, li_8, li_9, li_10, li_40, li_120, pk_mul, nI_add, nI_1, ix_eq, ix_lt, ix_le, ix_l0, ix_l1, ix_n0, ix_p0, ix_1lt, ix_lt1, ix_1le, ix_le1, ix_le0, ix_0lt, ab_z0, ab_z1, i_10, i_01, eq_self, ab_ozn, ab_ozp, ab_o_some, not_true_eq_false, not_false_eq_true, Bool.not_eq_false, Bool.not_eq_true, Bool.not_eq_false', Bool.not_eq_true', Bool.false_eq_true, Bool.true_eq_false, reduceCtorEq, Option.isSome_some, Option.isSome_none] at h) <;> (try omega)) | refine ab_sd (by first | (with_reducible refine vp_in_nI ?_ ?_ <;> omega) | (simp (disch := omega) only [nI_clamp, li_2, li_3, li_4, li_5, li_6, li_7, li_8, li_9, li_10, li_40, li_120, pk_mul, nI_add, nI_1, ix_eq, ix_lt, ix_le, ix_l0, ix_l1, ix_n0, ix_p0, ix_1lt, ix_lt1, ix_1le, ix_le1, ix_le0, ix_0lt, ab_z0, ab_z1, i_10, i_01, eq_self, ab_ozn, ab_ozp, ab_o_some, not_true_eq_false, not_false_eq_true, Bool.not_eq_false, Bool.not_eq_true, Bool.not_eq_false', Bool.not_eq_true', Bool.false_eq_true, Bool.true_eq_false, reduceCtorEq, Option.isSome_some, Option.isSome_none]; with_reducible refine vp_in_nI ?_ ?_ <;> omega)) ?_ | refine ab_sd ?_ ?_ | refine ab_sz (Or.inl rfl) ?_ | refine ab_sz (Or.inr rfl) ?_ | refine ab_sz ?_ ?_)
  exact key 3 0 μ _ (by omega) KF.rf (by simpa [s_f46, s_fl] using hL)
theorem x_isFound {Q : Int32 → ab_M → Prop} (hω : ω.2.2.2 = ab_SH) (X : RepX S μ) (hI : Iv S) {x : Int32} {t m : Nat} (hF : FT S t μ) (ex : x = nI m) (hm : m < s_nX S) (hQ : Q (ab_z (S.1 58 m == 1 && s_of S t m)) μ) : ab_CI l ω mX1_isFound [.ref 9, .int x] μ Q := by
  subst ex
  refine ab_intro (sh := ab_SH) (cd := kX1_isFound) hω vX1_isFound (by decide +kernel) rfl (Nat.le_of_ble_eq_true rfl) (fun j hj hw => ?_)
  have hW := hI.1
  have hT := hW.2.2.1.2
  have hX := hW.2.2.2.1
  obtain ⟨m1, m2, m3, m4, m5⟩ := hW.2.2.2.2.2.2 m hm
  have vm : v_meth S (nI m) = (S.1 58 m == 1) := by
    unfold v_meth
    rw [ab_ok_nI (by omega) (by omega), nI_clamp (by omega)]; rfl
  obtain ⟨xN, x26, x27, x28, x29, x30, x31, x32, x33, x34, x35⟩ := RepX_fs X
  by_cases km : S.1 58 m = 1
  · have gm : 10 * S.1 58 m + S.1 59 m = 10 + S.1 59 m := by omega
    have hdg := s_dg_m hI hm
    rw [gm] at hdg
    have y26 : μ.1 26 (nI m).toNatClampNeg = nI (S.1 57 m) := by rw [nI_clamp (by omega), x26 m hm]
    have y27 : μ.1 27 (nI m).toNatClampNeg - 10 = nI (S.1 59 m) := by rw [nI_clamp (by omega), x27 m hm, gm, Nat.add_comm]; exact nI_ms _ 10
    have hb : ab_bt (μ.2 41 (S.1 59 m)) (S.1 57 m) = s_of S t m := by rw [(hF _ m3 _).1]; exact s_pg_some hdg
    rw [km] at vm hQ
    have vin : vp_in (μ.1 27 (nI m).toNatClampNeg - 10) 10 := by rw [y27]; exact vp_in_nI (by omega) (by omega)
    have vmt : v_meth S (nI m) = true := by rw [vm]; rfl
    have w27 : μ.1 27 m = nI (10 + S.1 59 m) := by rw [x27 m hm, gm]
    have e10n : nI (10 + S.1 59 m) - nI 10 = nI (S.1 59 m) := by rw [Nat.add_comm]; exact nI_ms _ 10
    simp only [beq_self_eq_true, Bool.true_and] at hQ
    repeat' (first | refine hj _ _ _ _ ?_ | (refine br_c (fun h => ?_) (fun h => ?_) <;> (try simp (disch := omega) only [nI_clamp, li_2, li_3, li_4, li_5, li_6, li_7, li_8, li_9, li_10, li_40, li_120, pk_mul, nI_add, nI_1, ix_eq, ix_lt, ix_le, ix_l0, ix_l1, ix_n0, ix_p0, ix_1lt, ix_lt1, ix_1le, ix_le1, ix_le0, ix_0lt, ab_z0, ab_z1, i_10, i_01, eq_self, ab_ozn, ab_ozp, ab_o_some, not_true_eq_false, not_false_eq_true, Bool.not_eq_false, Bool.not_eq_true, Bool.not_eq_false', Bool.not_eq_true', Bool.false_eq_true, Bool.true_eq_false, reduceCtorEq, Option.isSome_some, Option.isSome_none, vmt, w27, e10n, hb] at h) <;> (try omega)) | (refine br_n (fun h => ?_) (fun h => ?_) <;> (try simp (disch := omega) only [nI_clamp, li_2, li_3, li_4, li_5, li_6, li_7, li_8, li_9, li_10, li_40, li_120, pk_mul, nI_add, nI_1, ix_eq, ix_lt, ix_le, ix_l0, ix_l1, ix_n0, ix_p0, ix_1lt, ix_lt1, ix_1le, ix_le1, ix_le0, ix_0lt, ab_z0, ab_z1, i_10, i_01, eq_self, ab_ozn, ab_ozp, ab_o_some, not_true_eq_false, not_false_eq_true, Bool.not_eq_false, Bool.not_eq_true, Bool.not_eq_false', Bool.not_eq_true', Bool.false_eq_true, Bool.true_eq_false, reduceCtorEq, Option.isSome_some, Option.isSome_none, vmt, w27, e10n, hb] at h) <;> (try omega)) | refine ab_sd (by first | (with_reducible refine vp_in_nI ?_ ?_ <;> omega) | (simp (disch := omega) only [nI_clamp, li_2, li_3, li_4, li_5, li_6, li_7, li_8, li_9, li_10, li_40, li_120, pk_mul, nI_add, nI_1, ix_eq, ix_lt, ix_le, ix_l0, ix_l1, ix_n0, ix_p0, ix_1lt, ix_lt1, ix_1le, ix_le1, ix_le0, ix_0lt, ab_z0, ab_z1, i_10, i_01, eq_self, ab_ozn, ab_ozp, ab_o_some, not_true_eq_false, not_false_eq_true, Bool.not_eq_false, Bool.not_eq_true, Bool.not_eq_false', Bool.not_eq_true', Bool.false_eq_true, Bool.true_eq_false, reduceCtorEq, Option.isSome_some, Option.isSome_none, vmt, w27, e10n, hb]; with_reducible refine vp_in_nI ?_ ?_ <;> omega)) ?_ | refine ab_sd vin ?_ | refine x_isMethod hω X hW ?_ | refine x_has hω (t := S.1 57 m) y26 (by omega) ?_ | refine ab_sd ?_ ?_ | refine ab_sz (Or.inl rfl) ?_ | refine ab_sz (Or.inr rfl) ?_ | refine ab_sz ?_ ?_)
    all_goals (rw [h] at hQ; exact hQ)
  · have vm2 : v_meth S (nI m) = false := by rw [vm]; simpa using km
    have : (S.1 58 m == 1) = false := by simpa using km
    rw [this] at hQ
    repeat' (first | refine hj _ _ _ _ ?_ | (refine br_c (fun h => ?_) (fun h => ?_) <;> (try simp (disch := omega) only [nI_clamp, li_2, li_3, li_4, li_5, li_6, li_7, li_8, li_9, li_10, li_40, li_120, pk_mul, nI_add, nI_1, ix_eq, ix_lt, ix_le, ix_l0, ix_l1, ix_n0, ix_p0, ix_1lt, ix_lt1, ix_1le, ix_le1, ix_le0, ix_0lt, ab_z0, ab_z1, i_10, i_01, eq_self, ab_ozn, ab_ozp, ab_o_some, not_true_eq_false, not_false_eq_true, Bool.not_eq_false, Bool.not_eq_true, Bool.not_eq_false', Bool.not_eq_true', Bool.false_eq_true, Bool.true_eq_false, reduceCtorEq, Option.isSome_some, Option.isSome_none, vm2] at h) <;> (try omega)) | (refine br_n (fun h => ?_) (fun h => ?_) <;> (try simp (disch := omega) only [nI_clamp, li_2, li_3, li_4, li_5, li_6, li_7, li_8, li_9, li_10, li_40, li_120, pk_mul, nI_add, nI_1, ix_eq, ix_lt, ix_le, ix_l0, ix_l1, ix_n0, ix_p0, ix_1lt, ix_lt1, ix_1le, ix_le1, ix_le0, ix_0lt, ab_z0, ab_z1, i_10, i_01, eq_self, ab_ozn, ab_ozp, ab_o_some, not_true_eq_false, not_false_eq_true, Bool.not_eq_false, Bool.not_eq_true, Bool.not_eq_false', Bool.not_eq_true', Bool.false_eq_true, Bool.true_eq_false, reduceCtorEq, Option.isSome_some, Option.isSome_none, vm2] at h) <;> (try omega)) | refine ab_sd (by first | (with_reducible refine vp_in_nI ?_ ?_ <;> omega) | (simp (disch := omega) only [nI_clamp, li_2, li_3, li_4, li_5, li_6, li_7, li_8, li_9, li_10, li_40, li_120, pk_mul, nI_add, nI_1, ix_eq, ix_lt, ix_le, ix_l0, ix_l1, ix_n0, ix_p0, ix_1lt, ix_lt1, ix_1le, ix_le1, ix_le0, ix_0lt, ab_z0, ab_z1, i_10, i_01, eq_self, ab_ozn, ab_ozp, ab_o_some, not_true_eq_false, not_false_eq_true, Bool.not_eq_false, Bool.not_eq_true, Bool.not_eq_false', Bool.not_eq_true', Bool.false_eq_true, Bool.true_eq_false, reduceCtorEq, Option.isSome_some, Option.isSome_none, vm2]; with_reducible refine vp_in_nI ?_ ?_ <;> omega)) ?_ | refine x_isMethod hω X hW ?_ | refine ab_sd ?_ ?_ | refine ab_sz (Or.inl rfl) ?_ | refine ab_sz (Or.inr rfl) ?_ | refine ab_sz ?_ ?_)
    all_goals exact hQ
theorem x_isRivalled {Q : Int32 → ab_M → Prop} (hω : ω.2.2.2 = ab_SH) (T : RepT S μ) (X : RepX S μ) (hI : Iv S) {x : Int32} {t m : Nat} (hF : FT S t μ) (ex : x = nI m) (hm : m < s_nX S) (km : S.1 58 m = 1) (hof : s_of S t m = true) (hQ : Q (ab_z (s_p8 S t m)) μ) : ab_CI l ω mX1_isRivalled [.ref 9, .int x] μ Q := by
  subst ex
  refine ab_intro (sh := ab_SH) (cd := kX1_isRivalled) hω vX1_isRivalled (by decide +kernel) rfl (Nat.le_of_ble_eq_true rfl) (fun j hj hw => ?_)
  have hjx : ∀ i ll st μ, i ∉ ([24] : List Nat) → _ → j i ll st μ := fun i ll st μ _ h => hj i ll st μ h
  have hW := hI.1
  have hT := hW.2.2.1.2
  have hX := hW.2.2.2.1
  obtain ⟨m1, m2, m3, m4, m5⟩ := hW.2.2.2.2.2.2 m hm
  have so := (hW.2.2.2.2.2.1 _ m1).2.1
  obtain ⟨xN, x26, x27, x28, x29, x30, x31, x32, x33, x34, x35⟩ := RepX_fs X
  have gm : 10 * S.1 58 m + S.1 59 m = 10 + S.1 59 m := by omega
  have hdg := s_dg_m hI hm
  rw [gm] at hdg
  have y26 : μ.1 26 (nI m).toNatClampNeg = nI (S.1 57 m) := by rw [nI_clamp (by omega), x26 m hm]
  have y27 : μ.1 27 (nI m).toNatClampNeg = nI (10 + S.1 59 m) := by rw [nI_clamp (by omega), x27 m hm, gm]
  have z27 : μ.1 27 (nI m).toNatClampNeg - 10 = nI (S.1 59 m) := by rw [y27, Nat.add_comm]; exact nI_ms _ 10
  have vin : vp_in (μ.1 27 (nI m).toNatClampNeg - 10) 10 := by rw [z27]; exact vp_in_nI (by omega) (by omega)
  have ixE : (μ.1 27 (nI m).toNatClampNeg - 10).toNatClampNeg = S.1 59 m := by rw [z27, nI_clamp (by omega)]
  have pE : ∀ pl : Int64, (∀ i, i < 64 → ab_bt pl i = s_pg S (10 + S.1 59 m) (s_pl S) i) → ∀ i, i < 64 → ab_bt (μ.2 41 (S.1 59 m) &&& pl) i = s_pg S (10 + S.1 59 m) (fun x => s_of S t x && s_pl S x) i := by
    intro pl hpl i hi
    rw [ab_bt_and, (hF _ m3 i).1, hpl i hi]
    cases e : s_dg S i (10 + S.1 59 m) with
    | none => simp [s_pg_none e]
    | some a => rw [s_pg_some e, s_pg_some e, s_pg_some e]
  have oE : s_pl S m = true → ((1 < ab_cnt (fun x => S.1 58 x == 1 && S.1 59 x == S.1 59 m && (s_of S t x && s_pl S x)) (s_nX S)) ↔ s_oth S t m = true) := by
    intro hp
    rw [ab_cnt_oth hm (by simp [km, hof, hp])]
    unfold s_oth
    rw [ab_ex_iff]
    constructor
    · rintro ⟨x, hx, hne, h⟩
      simp only [Bool.and_eq_true, beq_iff_eq] at h
      exact ⟨x, hx, by simp [hne, h.1.1, h.1.2, h.2.1, h.2.2]⟩
    · rintro ⟨x, hx, h⟩
      simp at h
      exact ⟨x, hx, h.1.1.1.1, by simp [h.1.1.1.2, h.1.1.2, h.1.2, h.2]⟩
  have e50 : (S.1 50 (S.1 57 m) == 1) = !(S.1 50 (S.1 57 m) == 0) := by
    by_cases q : S.1 50 (S.1 57 m) = 0
    · simp [q]
    · simp [show S.1 50 (S.1 57 m) = 1 by omega]
  unfold s_p8 at hQ
  rw [km, hof, e50] at hQ
  have h24 : ∀ v : Int64, (∀ i, i < 64 → ab_bt v i = s_pg S (10 + S.1 59 m) (fun x => s_of S t x && s_pl S x) i) → j 24 [some (.ref 9), some (.int (nI m)), some (.int (nI (10 + S.1 59 m))), some (.int (nI (S.1 57 m))), some (.long v), none] [] μ := by
    intro v hv
    refine hj _ _ _ _ ?_
    have hle : ab_pc v ≤ 64 := ab_cnt_le _ 64
    have hbv : ab_bt v (S.1 57 m) = s_pl S m := by rw [hv _ (by omega), s_pg_some hdg, hof]; rfl
    have hc : ab_pc v = ab_cnt (fun x => S.1 58 x == 1 && S.1 59 x == S.1 59 m && (s_of S t x && s_pl S x)) (s_nX S) := by
      have := s_cnt_pg hI (g := 10 + S.1 59 m) (p := fun x => s_of S t x && s_pl S x) (by omega)
      rw [show (10 + S.1 59 m) / 10 = 1 by omega, show (10 + S.1 59 m) % 10 = S.1 59 m by omega] at this
      rw [this]
      unfold ab_pc
      exact ab_cnt_congr hv
    cases hk : (S.1 50 (S.1 57 m) == 0) with
    | true =>
      rw [hk] at hQ
      repeat' (first | refine hjx _ _ _ _ (by decide) ?_ | (refine br_c (fun h => ?_) (fun h => ?_) <;> (try simp (disch := omega) only [nI_clamp, li_2, li_3, li_4, li_5, li_6, li_7, li_8, li_9, li_10, li_40, li_120, pk_mul, nI_add, nI_1, ix_eq, ix_lt, ix_le, ix_l0, ix_l1, ix_n0, ix_p0, ix_1lt, ix_lt1, ix_1le, ix_le1, ix_le0, ix_0lt, ab_z0, ab_z1, i_10, i_01, eq_self, ab_ozn, ab_ozp, ab_o_some, not_true_eq_false, not_false_eq_true, Bool.not_eq_false, Bool.not_eq_true, Bool.not_eq_false', Bool.not_eq_true', Bool.false_eq_true, Bool.true_eq_false, reduceCtorEq, Option.isSome_some, Option.isSome_none, hk] at h) <;> (try omega)) | (refine br_n (fun h => ?_) (fun h => ?_) <;> (try simp (disch := omega) only [nI_clamp, li_2, li_3, li_4, li_5, li_6, li_7, li_8, li_9, li_10, li_40, li_120, pk_mul, nI_add, nI_1, ix_eq, ix_lt, ix_le, ix_l0, ix_l1, ix_n0, ix_p0, ix_1lt, ix_lt1, ix_1le, ix_le1, ix_le0, ix_0lt, ab_z0, ab_z1, i_10, i_01, eq_self, ab_ozn, ab_ozp, ab_o_some, not_true_eq_false, not_false_eq_true, Bool.not_eq_false, Bool.not_eq_true, Bool.not_eq_false', Bool.not_eq_true', Bool.false_eq_true, Bool.true_eq_false, reduceCtorEq, Option.isSome_some, Option.isSome_none, hk] at h) <;> (try omega)) | refine ab_sd (by first | (with_reducible refine vp_in_nI ?_ ?_ <;> omega) | (simp (disch := omega) only [nI_clamp, li_2, li_3, li_4, li_5, li_6, li_7, li_8, li_9, li_10, li_40, li_120, pk_mul, nI_add, nI_1, ix_eq, ix_lt, ix_le, ix_l0, ix_l1, ix_n0, ix_p0, ix_1lt, ix_lt1, ix_1le, ix_le1, ix_le0, ix_0lt, ab_z0, ab_z1, i_10, i_01, eq_self, ab_ozn, ab_ozp, ab_o_some, not_true_eq_false, not_false_eq_true, Bool.not_eq_false, Bool.not_eq_true, Bool.not_eq_false', Bool.not_eq_true', Bool.false_eq_true, Bool.true_eq_false, reduceCtorEq, Option.isSome_some, Option.isSome_none, hk]; with_reducible refine vp_in_nI ?_ ?_ <;> omega)) ?_ | refine x_isClass hω T hT (t := S.1 57 m) rfl m1 ?_ | refine ab_sd ?_ ?_ | refine ab_sz (Or.inl rfl) ?_ | refine ab_sz (Or.inr rfl) ?_ | refine ab_sz ?_ ?_)
      all_goals exact hQ
    | false =>
      cases ha : s_has (S.1 61 m) 4 with
      | true =>
        rw [hk, ha] at hQ
        repeat' (first | refine hjx _ _ _ _ (by decide) ?_ | (refine br_c (fun h => ?_) (fun h => ?_) <;> (try simp (disch := omega) only [nI_clamp, li_2, li_3, li_4, li_5, li_6, li_7, li_8, li_9, li_10, li_40, li_120, pk_mul, nI_add, nI_1, ix_eq, ix_lt, ix_le, ix_l0, ix_l1, ix_n0, ix_p0, ix_1lt, ix_lt1, ix_1le, ix_le1, ix_le0, ix_0lt, ab_z0, ab_z1, i_10, i_01, eq_self, ab_ozn, ab_ozp, ab_o_some, not_true_eq_false, not_false_eq_true, Bool.not_eq_false, Bool.not_eq_true, Bool.not_eq_false', Bool.not_eq_true', Bool.false_eq_true, Bool.true_eq_false, reduceCtorEq, Option.isSome_some, Option.isSome_none, hk, ha] at h) <;> (try omega)) | (refine br_n (fun h => ?_) (fun h => ?_) <;> (try simp (disch := omega) only [nI_clamp, li_2, li_3, li_4, li_5, li_6, li_7, li_8, li_9, li_10, li_40, li_120, pk_mul, nI_add, nI_1, ix_eq, ix_lt, ix_le, ix_l0, ix_l1, ix_n0, ix_p0, ix_1lt, ix_lt1, ix_1le, ix_le1, ix_le0, ix_0lt, ab_z0, ab_z1, i_10, i_01, eq_self, ab_ozn, ab_ozp, ab_o_some, not_true_eq_false, not_false_eq_true, Bool.not_eq_false, Bool.not_eq_true, Bool.not_eq_false', Bool.not_eq_true', Bool.false_eq_true, Bool.true_eq_false, reduceCtorEq, Option.isSome_some, Option.isSome_none, hk, ha] at h) <;> (try omega)) | refine ab_sd (by first | (with_reducible refine vp_in_nI ?_ ?_ <;> omega) | (simp (disch := omega) only [nI_clamp, li_2, li_3, li_4, li_5, li_6, li_7, li_8, li_9, li_10, li_40, li_120, pk_mul, nI_add, nI_1, ix_eq, ix_lt, ix_le, ix_l0, ix_l1, ix_n0, ix_p0, ix_1lt, ix_lt1, ix_1le, ix_le1, ix_le0, ix_0lt, ab_z0, ab_z1, i_10, i_01, eq_self, ab_ozn, ab_ozp, ab_o_some, not_true_eq_false, not_false_eq_true, Bool.not_eq_false, Bool.not_eq_true, Bool.not_eq_false', Bool.not_eq_true', Bool.false_eq_true, Bool.true_eq_false, reduceCtorEq, Option.isSome_some, Option.isSome_none, hk, ha]; with_reducible refine vp_in_nI ?_ ?_ <;> omega)) ?_ | refine x_isClass hω T hT (t := S.1 57 m) rfl m1 ?_ | refine x_mhasFlag hω X hW (m := m) (f := 4) rfl rfl hm ?_ | refine ab_sd ?_ ?_ | refine ab_sz (Or.inl rfl) ?_ | refine ab_sz (Or.inr rfl) ?_ | refine ab_sz ?_ ?_)
        all_goals (refine q_of hQ ?_; cases s_pl S m <;> rfl)
      | false =>
        rw [hk, ha] at hQ
        cases hp : s_pl S m with
        | false =>
          rw [hp] at hQ hbv
          repeat' (first | refine hjx _ _ _ _ (by decide) ?_ | (refine br_c (fun h => ?_) (fun h => ?_) <;> (try simp (disch := omega) only [nI_clamp, li_2, li_3, li_4, li_5, li_6, li_7, li_8, li_9, li_10, li_40, li_120, pk_mul, nI_add, nI_1, ix_eq, ix_lt, ix_le, ix_l0, ix_l1, ix_n0, ix_p0, ix_1lt, ix_lt1, ix_1le, ix_le1, ix_le0, ix_0lt, ab_z0, ab_z1, i_10, i_01, eq_self, ab_ozn, ab_ozp, ab_o_some, not_true_eq_false, not_false_eq_true, Bool.not_eq_false, Bool.not_eq_true, Bool.not_eq_false', Bool.not_eq_true', Bool.false_eq_true, Bool.true_eq_false, reduceCtorEq, Option.isSome_some, Option.isSome_none, hk, ha, hbv] at h) <;> (try omega)) | (refine br_n (fun h => ?_) (fun h => ?_) <;> (try simp (disch := omega) only [nI_clamp, li_2, li_3, li_4, li_5, li_6, li_7, li_8, li_9, li_10, li_40, li_120, pk_mul, nI_add, nI_1, ix_eq, ix_lt, ix_le, ix_l0, ix_l1, ix_n0, ix_p0, ix_1lt, ix_lt1, ix_1le, ix_le1, ix_le0, ix_0lt, ab_z0, ab_z1, i_10, i_01, eq_self, ab_ozn, ab_ozp, ab_o_some, not_true_eq_false, not_false_eq_true, Bool.not_eq_false, Bool.not_eq_true, Bool.not_eq_false', Bool.not_eq_true', Bool.false_eq_true, Bool.true_eq_false, reduceCtorEq, Option.isSome_some, Option.isSome_none, hk, ha, hbv] at h) <;> (try omega)) | refine ab_sd (by first | (with_reducible refine vp_in_nI ?_ ?_ <;> omega) | (simp (disch := omega) only [nI_clamp, li_2, li_3, li_4, li_5, li_6, li_7, li_8, li_9, li_10, li_40, li_120, pk_mul, nI_add, nI_1, ix_eq, ix_lt, ix_le, ix_l0, ix_l1, ix_n0, ix_p0, ix_1lt, ix_lt1, ix_1le, ix_le1, ix_le0, ix_0lt, ab_z0, ab_z1, i_10, i_01, eq_self, ab_ozn, ab_ozp, ab_o_some, not_true_eq_false, not_false_eq_true, Bool.not_eq_false, Bool.not_eq_true, Bool.not_eq_false', Bool.not_eq_true', Bool.false_eq_true, Bool.true_eq_false, reduceCtorEq, Option.isSome_some, Option.isSome_none, hk, ha, hbv]; with_reducible refine vp_in_nI ?_ ?_ <;> omega)) ?_ | refine x_isClass hω T hT (t := S.1 57 m) rfl m1 ?_ | refine x_mhasFlag hω X hW (m := m) (f := 4) rfl rfl hm ?_ | refine x_has hω (t := S.1 57 m) rfl (by omega) ?_ | refine ab_sd ?_ ?_ | refine ab_sz (Or.inl rfl) ?_ | refine ab_sz (Or.inr rfl) ?_ | refine ab_sz ?_ ?_)
          all_goals exact hQ
        | true =>
          rw [hp] at hQ hbv
          have oE := oE hp
          rw [← hc] at oE
          cases hot : s_oth S t m with
          | true =>
            rw [hot] at hQ oE
            have oE := oE.mpr rfl
            repeat' (first | refine hjx _ _ _ _ (by decide) ?_ | (refine br_c (fun h => ?_) (fun h => ?_) <;> (try simp (disch := omega) only [nI_clamp, li_2, li_3, li_4, li_5, li_6, li_7, li_8, li_9, li_10, li_40, li_120, pk_mul, nI_add, nI_1, ix_eq, ix_lt, ix_le, ix_l0, ix_l1, ix_n0, ix_p0, ix_1lt, ix_lt1, ix_1le, ix_le1, ix_le0, ix_0lt, ab_z0, ab_z1, i_10, i_01, eq_self, ab_ozn, ab_ozp, ab_o_some, not_true_eq_false, not_false_eq_true, Bool.not_eq_false, Bool.not_eq_true, Bool.not_eq_false', Bool.not_eq_true', Bool.false_eq_true, Bool.true_eq_false, reduceCtorEq, Option.isSome_some, Option.isSome_none, hk, ha, hbv] at h) <;> (try omega)) | (refine br_n (fun h => ?_) (fun h => ?_) <;> (try simp (disch := omega) only [nI_clamp, li_2, li_3, li_4, li_5, li_6, li_7, li_8, li_9, li_10, li_40, li_120, pk_mul, nI_add, nI_1, ix_eq, ix_lt, ix_le, ix_l0, ix_l1, ix_n0, ix_p0, ix_1lt, ix_lt1, ix_1le, ix_le1, ix_le0, ix_0lt, ab_z0, ab_z1, i_10, i_01, eq_self, ab_ozn, ab_ozp, ab_o_some, not_true_eq_false, not_false_eq_true, Bool.not_eq_false, Bool.not_eq_true, Bool.not_eq_false', Bool.not_eq_true', Bool.false_eq_true, Bool.true_eq_false, reduceCtorEq, Option.isSome_some, Option.isSome_none, hk, ha, hbv] at h) <;> (try omega)) | refine ab_sd (by first | (with_reducible refine vp_in_nI ?_ ?_ <;> omega) | (simp (disch := omega) only [nI_clamp, li_2, li_3, li_4, li_5, li_6, li_7, li_8, li_9, li_10, li_40, li_120, pk_mul, nI_add, nI_1, ix_eq, ix_lt, ix_le, ix_l0, ix_l1, ix_n0, ix_p0, ix_1lt, ix_lt1, ix_1le, ix_le1, ix_le0, ix_0lt, ab_z0, ab_z1, i_10, i_01, eq_self, ab_ozn, ab_ozp, ab_o_some, not_true_eq_false, not_false_eq_true, Bool.not_eq_false, Bool.not_eq_true, Bool.not_eq_false', Bool.not_eq_true', Bool.false_eq_true, Bool.true_eq_false, reduceCtorEq, Option.isSome_some, Option.isSome_none, hk, ha, hbv]; with_reducible refine vp_in_nI ?_ ?_ <;> omega)) ?_ | refine x_isClass hω T hT (t := S.1 57 m) rfl m1 ?_ | refine x_mhasFlag hω X hW (m := m) (f := 4) rfl rfl hm ?_ | refine x_has hω (t := S.1 57 m) rfl (by omega) ?_ | refine x_bitCount hω ?_ | refine ab_sd ?_ ?_ | refine ab_sz (Or.inl rfl) ?_ | refine ab_sz (Or.inr rfl) ?_ | refine ab_sz ?_ ?_)
            all_goals exact hQ
          | false =>
            rw [hot] at hQ oE
            have oE : ¬ 1 < ab_pc v := fun e => by cases oE.mp e
            repeat' (first | refine hjx _ _ _ _ (by decide) ?_ | (refine br_c (fun h => ?_) (fun h => ?_) <;> (try simp (disch := omega) only [nI_clamp, li_2, li_3, li_4, li_5, li_6, li_7, li_8, li_9, li_10, li_40, li_120, pk_mul, nI_add, nI_1, ix_eq, ix_lt, ix_le, ix_l0, ix_l1, ix_n0, ix_p0, ix_1lt, ix_lt1, ix_1le, ix_le1, ix_le0, ix_0lt, ab_z0, ab_z1, i_10, i_01, eq_self, ab_ozn, ab_ozp, ab_o_some, not_true_eq_false, not_false_eq_true, Bool.not_eq_false, Bool.not_eq_true, Bool.not_eq_false', Bool.not_eq_true', Bool.false_eq_true, Bool.true_eq_false, reduceCtorEq, Option.isSome_some, Option.isSome_none, hk, ha, hbv] at h) <;> (try omega)) | (refine br_n (fun h => ?_) (fun h => ?_) <;> (try simp (disch := omega) only [nI_clamp, li_2, li_3, li_4, li_5, li_6, li_7, li_8, li_9, li_10, li_40, li_120, pk_mul, nI_add, nI_1, ix_eq, ix_lt, ix_le, ix_l0, ix_l1, ix_n0, ix_p0, ix_1lt, ix_lt1, ix_1le, ix_le1, ix_le0, ix_0lt, ab_z0, ab_z1, i_10, i_01, eq_self, ab_ozn, ab_ozp, ab_o_some, not_true_eq_false, not_false_eq_true, Bool.not_eq_false, Bool.not_eq_true, Bool.not_eq_false', Bool.not_eq_true', Bool.false_eq_true, Bool.true_eq_false, reduceCtorEq, Option.isSome_some, Option.isSome_none, hk, ha, hbv] at h) <;> (try omega)) | refine ab_sd (by first | (with_reducible refine vp_in_nI ?_ ?_ <;> omega) | (simp (disch := omega) only [nI_clamp, li_2, li_3, li_4, li_5, li_6, li_7, li_8, li_9, li_10, li_40, li_120, pk_mul, nI_add, nI_1, ix_eq, ix_lt, ix_le, ix_l0, ix_l1, ix_n0, ix_p0, ix_1lt, ix_lt1, ix_1le, ix_le1, ix_le0, ix_0lt, ab_z0, ab_z1, i_10, i_01, eq_self, ab_ozn, ab_ozp, ab_o_some, not_true_eq_false, not_false_eq_true, Bool.not_eq_false, Bool.not_eq_true, Bool.not_eq_false', Bool.not_eq_true', Bool.false_eq_true, Bool.true_eq_false, reduceCtorEq, Option.isSome_some, Option.isSome_none, hk, ha, hbv]; with_reducible refine vp_in_nI ?_ ?_ <;> omega)) ?_ | refine x_isClass hω T hT (t := S.1 57 m) rfl m1 ?_ | refine x_mhasFlag hω X hW (m := m) (f := 4) rfl rfl hm ?_ | refine x_has hω (t := S.1 57 m) rfl (by omega) ?_ | refine x_bitCount hω ?_ | refine ab_sd ?_ ?_ | refine ab_sz (Or.inl rfl) ?_ | refine ab_sz (Or.inr rfl) ?_ | refine ab_sz ?_ ?_)
            all_goals exact hQ
  repeat' (first | refine hjx _ _ _ _ (by decide) ?_ | (refine br_c (fun h => ?_) (fun h => ?_) <;> (try simp (disch := omega) only [nI_clamp, li_2, li_3, li_4, li_5, li_6, li_7, li_8, li_9, li_10, li_40, li_120, pk_mul, nI_add, nI_1, ix_eq, ix_lt, ix_le, ix_l0, ix_l1, ix_n0, ix_p0, ix_1lt, ix_lt1, ix_1le, ix_le1, ix_le0, ix_0lt, ab_z0, ab_z1, i_10, i_01, eq_self, ab_ozn, ab_ozp, ab_o_some, not_true_eq_false, not_false_eq_true, Bool.not_eq_false, Bool.not_eq_true, Bool.not_eq_false', Bool.not_eq_true', Bool.false_eq_true, Bool.true_eq_false, reduceCtorEq, Option.isSome_some, Option.isSome_none] at h) <;> (try omega)) | (refine br_n (fun h => ?_) (fun h => ?_) <;> (try simp (disch := omega) only [nI_clamp, li_2, li_3, li_4, li_5, li_6, li_7, li_8, li_9, li_10, li_40, li_120, pk_mul, nI_add, nI_1, ix_eq, ix_lt, ix_le, ix_l0, ix_l1, ix_n0, ix_p0, ix_1lt, ix_lt1, ix_1le, ix_le1, ix_le0, ix_0lt, ab_z0, ab_z1, i_10, i_01, eq_self, ab_ozn, ab_ozp, ab_o_some, not_true_eq_false, not_false_eq_true, Bool.not_eq_false, Bool.not_eq_true, Bool.not_eq_false', Bool.not_eq_true', Bool.false_eq_true, Bool.true_eq_false, reduceCtorEq, Option.isSome_some, Option.isSome_none] at h) <;> (try omega)) | refine ab_sd (by first | (with_reducible refine vp_in_nI ?_ ?_ <;> omega) | (simp (disch := omega) only [nI_clamp, li_2, li_3, li_4, li_5, li_6, li_7, li_8, li_9, li_10, li_40, li_120, pk_mul, nI_add, nI_1, ix_eq, ix_lt, ix_le, ix_l0, ix_l1, ix_n0, ix_p0, ix_1lt, ix_lt1, ix_1le, ix_le1, ix_le0, ix_0lt, ab_z0, ab_z1, i_10, i_01, eq_self, ab_ozn, ab_ozp, ab_o_some, not_true_eq_false, not_false_eq_true, Bool.not_eq_false, Bool.not_eq_true, Bool.not_eq_false', Bool.not_eq_true', Bool.false_eq_true, Bool.true_eq_false, reduceCtorEq, Option.isSome_some, Option.isSome_none]; with_reducible refine vp_in_nI ?_ ?_ <;> omega)) ?_ | refine ab_sd vin ?_ | refine x_overridable hω X (g := 10 + S.1 59 m) y27 (by omega) (fun pl hpl => ?_) | refine ab_sd ?_ ?_ | refine ab_sz (Or.inl rfl) ?_ | refine ab_sz (Or.inr rfl) ?_ | refine ab_sz ?_ ?_)
  rw [ixE, y26, y27]
  exact h24 _ (pE pl hpl)
theorem x_findInMembers (hω : ω.2.2.2 = ab_SH) (C : RepC S μ) (hI : Iv S) {x : Int32} {t : Nat} {L : List (Nat × Nat)} (hF : FT S t μ) (hL : FC μ L) (hl : (L ++ s_f7 S t (s_nX S) ++ s_f8 S t (s_nX S)).length ≤ 156) (ex : x = nI t) (ht : t < s_nT S) (hQ : ∀ μ', KF μ μ' → FC μ' (L ++ s_f7 S t (s_nX S) ++ s_f8 S t (s_nX S)) → Q μ') : ab_CV l ω mX1_findInMembers [.ref 9, .int x] μ Q := by
  subst ex
  refine ab_intro (sh := ab_SH) (cd := kX1_findInMembers) hω vX1_findInMembers (by decide +kernel) rfl (Nat.le_of_ble_eq_true rfl) (fun j hj hw => ?_)
  have hjx : ∀ i ll st μ, i ∉ ([14, 17, 43, 45] : List Nat) → _ → j i ll st μ := fun i ll st μ _ h => hj i ll st μ h
  have hW := hI.1
  have hT := hW.2.2.1.2
  have hX := hW.2.2.2.1
  simp only [List.length_append] at hl
  have h45 : ∀ d n μ' (v : Int32), n + d = s_nX S → KF μ μ' → FC μ' (L ++ s_f7 S t (s_nX S) ++ s_f8 S t n) → j 45 [some (.ref 9), some (.int (nI t)), some (.int v), some (.int (nI n))] [] μ' := by
    intro d
    induction d with
    | zero =>
      intro n μ' v hn hK hFC
      refine hj _ _ _ _ ?_
      have e1 : μ'.1 3 1 = nI (s_nX S) := (RepX_q C.2.2.1 hK.sq).1
      repeat' (first | refine hjx _ _ _ _ (by decide) ?_ | (refine br_c (fun h => ?_) (fun h => ?_) <;> (try simp (disch := omega) only [nI_clamp, li_2, li_3, li_4, li_5, li_6, li_7, li_8, li_9, li_10, li_40, li_120, pk_mul, nI_add, nI_1, ix_eq, ix_lt, ix_le, ix_l0, ix_l1, ix_n0, ix_p0, ix_1lt, ix_lt1, ix_1le, ix_le1, ix_le0, ix_0lt, ab_z0, ab_z1, i_10, i_01, eq_self, ab_ozn, ab_ozp, ab_o_some, not_true_eq_false, not_false_eq_true, Bool.not_eq_false, Bool.not_eq_true, Bool.not_eq_false', Bool.not_eq_true', Bool.false_eq_true, Bool.true_eq_false, reduceCtorEq, Option.isSome_some, Option.isSome_none, e1] at h) <;> (try omega)) | (refine br_n (fun h => ?_) (fun h => ?_) <;> (try simp (disch := omega) only [nI_clamp, li_2, li_3, li_4, li_5, li_6, li_7, li_8, li_9, li_10, li_40, li_120, pk_mul, nI_add, nI_1, ix_eq, ix_lt, ix_le, ix_l0, ix_l1, ix_n0, ix_p0, ix_1lt, ix_lt1, ix_1le, ix_le1, ix_le0, ix_0lt, ab_z0, ab_z1, i_10, i_01, eq_self, ab_ozn, ab_ozp, ab_o_some, not_true_eq_false, not_false_eq_true, Bool.not_eq_false, Bool.not_eq_true, Bool.not_eq_false', Bool.not_eq_true', Bool.false_eq_true, Bool.true_eq_false, reduceCtorEq, Option.isSome_some, Option.isSome_none, e1] at h) <;> (try omega)) | refine ab_sd (by first | (with_reducible refine vp_in_nI ?_ ?_ <;> omega) | (simp (disch := omega) only [nI_clamp, li_2, li_3, li_4, li_5, li_6, li_7, li_8, li_9, li_10, li_40, li_120, pk_mul, nI_add, nI_1, ix_eq, ix_lt, ix_le, ix_l0, ix_l1, ix_n0, ix_p0, ix_1lt, ix_lt1, ix_1le, ix_le1, ix_le0, ix_0lt, ab_z0, ab_z1, i_10, i_01, eq_self, ab_ozn, ab_ozp, ab_o_some, not_true_eq_false, not_false_eq_true, Bool.not_eq_false, Bool.not_eq_true, Bool.not_eq_false', Bool.not_eq_true', Bool.false_eq_true, Bool.true_eq_false, reduceCtorEq, Option.isSome_some, Option.isSome_none, e1]; with_reducible refine vp_in_nI ?_ ?_ <;> omega)) ?_ | refine ab_sd ?_ ?_ | refine ab_sz (Or.inl rfl) ?_ | refine ab_sz (Or.inr rfl) ?_ | refine ab_sz ?_ ?_)
      show Q _
      rw [show n = s_nX S by omega] at hFC
      exact hQ μ' hK hFC
    | succ d ih =>
      intro n μ' v hn hK hFC
      refine hj _ _ _ _ ?_
      have T' := RepT_q C.2.1 hK.sq
      have X' := RepX_q C.2.2.1 hK.sq
      have hF' := hF.kf hK
      have e1 : μ'.1 3 1 = nI (s_nX S) := X'.1
      have hlb : s_p8 S t n = true → (L ++ s_f7 S t (s_nX S) ++ s_f8 S t n).length < 156 := fun e => by
        have a3 : (s_f8 S t (n + 1)).length ≤ (s_f8 S t (s_nX S)).length := s_fl_mono (by omega)
        have a4 : (s_f8 S t (n + 1)).length = (s_f8 S t n).length + 1 := by
          unfold s_f8
          rw [s_fl_s, List.length_append, if_pos e]; rfl
        simp only [List.length_append]
        omega
      have nx : ∀ μ2, KF μ' μ2 → FC μ2 (if s_p8 S t n = true then L ++ s_f7 S t (s_nX S) ++ s_f8 S t n ++ [(8, n)] else L ++ s_f7 S t (s_nX S) ++ s_f8 S t n) → j 45 [some (.ref 9), some (.int (nI t)), some (.int v), some (.int (nI (n + 1)))] [] μ2 := by
        intro μ2 hK2 hF2
        refine ih (n + 1) μ2 v (by omega) (hK.tr hK2) ?_
        unfold s_f8 at hF2 ⊢
        rw [s_fl_s]
        cases hb : s_p8 S t n with
        | true => rw [hb] at hF2; simpa [List.append_assoc] using hF2
        | false => rw [hb] at hF2; simpa using hF2
      cases hfd : (S.1 58 n == 1 && s_of S t n) with
      | false =>
        have hp : s_p8 S t n = false := by unfold s_p8; rw [hfd]; rfl
        rw [hp] at nx hlb
        repeat' (first | refine hjx _ _ _ _ (by decide) ?_ | (refine br_c (fun h => ?_) (fun h => ?_) <;> (try simp (disch := omega) only [nI_clamp, li_2, li_3, li_4, li_5, li_6, li_7, li_8, li_9, li_10, li_40, li_120, pk_mul, nI_add, nI_1, ix_eq, ix_lt, ix_le, ix_l0, ix_l1, ix_n0, ix_p0, ix_1lt, ix_lt1, ix_1le, ix_le1, ix_le0, ix_0lt, ab_z0, ab_z1, i_10, i_01, eq_self, ab_ozn, ab_ozp, ab_o_some, not_true_eq_false, not_false_eq_true, Bool.not_eq_false, Bool.not_eq_true, Bool.not_eq_false', Bool.not_eq_true', Bool.false_eq_true, Bool.true_eq_false, reduceCtorEq, Option.isSome_some, Option.isSome_none, e1, hfd] at h) <;> (try omega)) | (refine br_n (fun h => ?_) (fun h => ?_) <;> (try simp (disch := omega) only [nI_clamp, li_2, li_3, li_4, li_5, li_6, li_7, li_8, li_9, li_10, li_40, li_120, pk_mul, nI_add, nI_1, ix_eq, ix_lt, ix_le, ix_l0, ix_l1, ix_n0, ix_p0, ix_1lt, ix_lt1, ix_1le, ix_le1, ix_le0, ix_0lt, ab_z0, ab_z1, i_10, i_01, eq_self, ab_ozn, ab_ozp, ab_o_some, not_true_eq_false, not_false_eq_true, Bool.not_eq_false, Bool.not_eq_true, Bool.not_eq_false', Bool.not_eq_true', Bool.false_eq_true, Bool.true_eq_false, reduceCtorEq, Option.isSome_some, Option.isSome_none, e1, hfd] at h) <;> (try omega)) | refine ab_sd (by first | (with_reducible refine vp_in_nI ?_ ?_ <;> omega) | (simp (disch := omega) only [nI_clamp, li_2, li_3, li_4, li_5, li_6, li_7, li_8, li_9, li_10, li_40, li_120, pk_mul, nI_add, nI_1, ix_eq, ix_lt, ix_le, ix_l0, ix_l1, ix_n0, ix_p0, ix_1lt, ix_lt1, ix_1le, ix_le1, ix_le0, ix_0lt, ab_z0, ab_z1, i_10, i_01, eq_self, ab_ozn, ab_ozp, ab_o_some, not_true_eq_false, not_false_eq_true, Bool.not_eq_false, Bool.not_eq_true, Bool.not_eq_false', Bool.not_eq_true', Bool.false_eq_true, Bool.true_eq_false, reduceCtorEq, Option.isSome_some, Option.isSome_none, e1, hfd]; with_reducible refine vp_in_nI ?_ ?_ <;> omega)) ?_ | refine x_isFound hω X' hI hF' (m := n) rfl (by omega) ?_ | refine x_addIf hω hFC (b := false) (c := 8) (n := n) hlb rfl rfl (fun q => by cases q) (fun μ2 hK2 hF2 => ?_) | refine ab_sd ?_ ?_ | refine ab_sz (Or.inl rfl) ?_ | refine ab_sz (Or.inr rfl) ?_ | refine ab_sz ?_ ?_)
        show j 45 _ _ _
        rw [nI_1]
        exact nx _ hK2 hF2
      | true =>
        have hfd2 := hfd
        simp only [Bool.and_eq_true, beq_iff_eq] at hfd2
        cases hp : s_p8 S t n with
        | false =>
          rw [hp] at nx hlb
          repeat' (first | refine hjx _ _ _ _ (by decide) ?_ | (refine br_c (fun h => ?_) (fun h => ?_) <;> (try simp (disch := omega) only [nI_clamp, li_2, li_3, li_4, li_5, li_6, li_7, li_8, li_9, li_10, li_40, li_120, pk_mul, nI_add, nI_1, ix_eq, ix_lt, ix_le, ix_l0, ix_l1, ix_n0, ix_p0, ix_1lt, ix_lt1, ix_1le, ix_le1, ix_le0, ix_0lt, ab_z0, ab_z1, i_10, i_01, eq_self, ab_ozn, ab_ozp, ab_o_some, not_true_eq_false, not_false_eq_true, Bool.not_eq_false, Bool.not_eq_true, Bool.not_eq_false', Bool.not_eq_true', Bool.false_eq_true, Bool.true_eq_false, reduceCtorEq, Option.isSome_some, Option.isSome_none, e1, hfd, hp] at h) <;> (try omega)) | (refine br_n (fun h => ?_) (fun h => ?_) <;> (try simp (disch := omega) only [nI_clamp, li_2, li_3, li_4, li_5, li_6, li_7, li_8, li_9, li_10, li_40, li_120, pk_mul, nI_add, nI_1, ix_eq, ix_lt, ix_le, ix_l0, ix_l1, ix_n0, ix_p0, ix_1lt, ix_lt1, ix_1le, ix_le1, ix_le0, ix_0lt, ab_z0, ab_z1, i_10, i_01, eq_self, ab_ozn, ab_ozp, ab_o_some, not_true_eq_false, not_false_eq_true, Bool.not_eq_false, Bool.not_eq_true, Bool.not_eq_false', Bool.not_eq_true', Bool.false_eq_true, Bool.true_eq_false, reduceCtorEq, Option.isSome_some, Option.isSome_none, e1, hfd, hp] at h) <;> (try omega)) | refine ab_sd (by first | (with_reducible refine vp_in_nI ?_ ?_ <;> omega) | (simp (disch := omega) only [nI_clamp, li_2, li_3, li_4, li_5, li_6, li_7, li_8, li_9, li_10, li_40, li_120, pk_mul, nI_add, nI_1, ix_eq, ix_lt, ix_le, ix_l0, ix_l1, ix_n0, ix_p0, ix_1lt, ix_lt1, ix_1le, ix_le1, ix_le0, ix_0lt, ab_z0, ab_z1, i_10, i_01, eq_self, ab_ozn, ab_ozp, ab_o_some, not_true_eq_false, not_false_eq_true, Bool.not_eq_false, Bool.not_eq_true, Bool.not_eq_false', Bool.not_eq_true', Bool.false_eq_true, Bool.true_eq_false, reduceCtorEq, Option.isSome_some, Option.isSome_none, e1, hfd, hp]; with_reducible refine vp_in_nI ?_ ?_ <;> omega)) ?_ | refine x_isFound hω X' hI hF' (m := n) rfl (by omega) ?_ | refine x_isRivalled hω T' X' hI hF' (m := n) rfl (by omega) hfd2.1 hfd2.2 ?_ | refine x_addIf hω hFC (b := false) (c := 8) (n := n) hlb rfl rfl (fun q => by cases q) (fun μ2 hK2 hF2 => ?_) | refine ab_sd ?_ ?_ | refine ab_sz (Or.inl rfl) ?_ | refine ab_sz (Or.inr rfl) ?_ | refine ab_sz ?_ ?_)
          show j 45 _ _ _
          rw [nI_1]
          exact nx _ hK2 hF2
        | true =>
          rw [hp] at nx hlb
          repeat' (first | refine hjx _ _ _ _ (by decide) ?_ | (refine br_c (fun h => ?_) (fun h => ?_) <;> (try simp (disch := omega) only [nI_clamp, li_2, li_3, li_4, li_5, li_6, li_7, li_8, li_9, li_10, li_40, li_120, pk_mul, nI_add, nI_1, ix_eq, ix_lt, ix_le, ix_l0, ix_l1, ix_n0, ix_p0, ix_1lt, ix_lt1, ix_1le, ix_le1, ix_le0, ix_0lt, ab_z0, ab_z1, i_10, i_01, eq_self, ab_ozn, ab_ozp, ab_o_some, not_true_eq_false, not_false_eq_true, Bool.not_eq_false, Bool.not_eq_true, Bool.not_eq_false', Bool.not_eq_true', Bool.false_eq_true, Bool.true_eq_false, reduceCtorEq, Option.isSome_some, Option.isSome_none, e1, hfd, hp] at h) <;> (try omega)) | (refine br_n (fun h => ?_) (fun h => ?_) <;> (try simp (disch := omega) only [nI_clamp, li_2, li_3, li_4, li_5, li_6, li_7, li_8, li_9, li_10, li_40, li_120, pk_mul, nI_add, nI_1, ix_eq, ix_lt, ix_le, ix_l0, ix_l1, ix_n0, ix_p0, ix_1lt, ix_lt1, ix_1le, ix_le1, ix_le0, ix_0lt, ab_z0, ab_z1, i_10, i_01, eq_self, ab_ozn, ab_ozp, ab_o_some, not_true_eq_false, not_false_eq_true, Bool.not_eq_false, Bool.not_eq_true, Bool.not_eq_false', Bool.not_eq_true', Bool.false_eq_true, Bool.true_eq_false, reduceCtorEq, Option.isSome_some, Option.isSome_none, e1, hfd, hp] at h) <;> (try omega)) | refine ab_sd (by first | (with_reducible refine vp_in_nI ?_ ?_ <;> omega) | (simp (disch := omega) only [nI_clamp, li_2, li_3, li_4, li_5, li_6, li_7, li_8, li_9, li_10, li_40, li_120, pk_mul, nI_add, nI_1, ix_eq, ix_lt, ix_le, ix_l0, ix_l1, ix_n0, ix_p0, ix_1lt, ix_lt1, ix_1le, ix_le1, ix_le0, ix_0lt, ab_z0, ab_z1, i_10, i_01, eq_self, ab_ozn, ab_ozp, ab_o_some, not_true_eq_false, not_false_eq_true, Bool.not_eq_false, Bool.not_eq_true, Bool.not_eq_false', Bool.not_eq_true', Bool.false_eq_true, Bool.true_eq_false, reduceCtorEq, Option.isSome_some, Option.isSome_none, e1, hfd, hp]; with_reducible refine vp_in_nI ?_ ?_ <;> omega)) ?_ | refine x_isFound hω X' hI hF' (m := n) rfl (by omega) ?_ | refine x_isRivalled hω T' X' hI hF' (m := n) rfl (by omega) hfd2.1 hfd2.2 ?_ | refine x_addIf hω hFC (b := true) (c := 8) (n := n) hlb rfl rfl (fun _ => rfl) (fun μ2 hK2 hF2 => ?_) | refine ab_sd ?_ ?_ | refine ab_sz (Or.inl rfl) ?_ | refine ab_sz (Or.inr rfl) ?_ | refine ab_sz ?_ ?_)
          show j 45 _ _ _
          rw [nI_1]
          exact nx _ hK2 hF2
  have h43 : ∀ μ' (v : Int32) v3, KF μ μ' → FC μ' (L ++ s_f7 S t (s_nX S)) → j 43 [some (.ref 9), some (.int (nI t)), some (.int v), v3] [] μ' := by
    intro μ' v v3 hK hFC
    refine hj _ _ _ _ ?_
    repeat' (first | refine hjx _ _ _ _ (by decide) ?_ | (refine br_c (fun h => ?_) (fun h => ?_) <;> (try simp (disch := omega) only [nI_clamp, li_2, li_3, li_4, li_5, li_6, li_7, li_8, li_9, li_10, li_40, li_120, pk_mul, nI_add, nI_1, ix_eq, ix_lt, ix_le, ix_l0, ix_l1, ix_n0, ix_p0, ix_1lt, ix_lt1, ix_1le, ix_le1, ix_le0, ix_0lt, ab_z0, ab_z1, i_10, i_01, eq_self, ab_ozn, ab_ozp, ab_o_some, not_true_eq_false, not_false_eq_true, Bool.not_eq_false, Bool.not_eq_true, Bool.not_eq_false', Bool.not_eq_true', Bool.false_eq_true, Bool.true_eq_false, reduceCtorEq, Option.isSome_some, Option.isSome_none] at h) <;> (try omega)) | (refine br_n (fun h => ?_) (fun h => ?_) <;> (try simp (disch := omega) only [nI_clamp, li_2, li_3, li_4, li_5, li_6, li_7, li_8, li_9, li_10, li_40, li_120, pk_mul, nI_add, nI_1, ix_eq, ix_lt, ix_le, ix_l0, ix_l1, ix_n0, ix_p0, ix_1lt, ix_lt1, ix_1le, ix_le1, ix_le0, ix_0lt, ab_z0, ab_z1, i_10, i_01, eq_self, ab_ozn, ab_ozp, ab_o_some, not_true_eq_false, not_false_eq_true, Bool.not_eq_false, Bool.not_eq_true, Bool.not_eq_false', Bool.not_eq_true', Bool.false_eq_true, Bool.true_eq_false, reduceCtorEq, Option.isSome_some, Option.isSome_none] at h) <;> (try omega)) | refine ab_sd (by first | (with_reducible refine vp_in_nI ?_ ?_ <;> omega) | (simp (disch := omega) only [nI_clamp, li_2, li_3, li_4, li_5, li_6, li_7, li_8, li_9, li_10, li_40, li_120, pk_mul, nI_add, nI_1, ix_eq, ix_lt, ix_le, ix_l0, ix_l1, ix_n0, ix_p0, ix_1lt, ix_lt1, ix_1le, ix_le1, ix_le0, ix_0lt, ab_z0, ab_z1, i_10, i_01, eq_self, ab_ozn, ab_ozp, ab_o_some, not_true_eq_false, not_false_eq_true, Bool.not_eq_false, Bool.not_eq_true, Bool.not_eq_false', Bool.not_eq_true', Bool.false_eq_true, Bool.true_eq_false, reduceCtorEq, Option.isSome_some, Option.isSome_none]; with_reducible refine vp_in_nI ?_ ?_ <;> omega)) ?_ | refine ab_sd ?_ ?_ | refine ab_sz (Or.inl rfl) ?_ | refine ab_sz (Or.inr rfl) ?_ | refine ab_sz ?_ ?_)
    exact h45 (s_nX S) 0 μ' v (by omega) hK (by simpa [s_f8, s_fl] using hFC)
  have h17 : (S.1 50 t == 0 && !s_has (S.1 52 t) 4) = true → ∀ d n μ', n + d = s_nX S → KF μ μ' → FC μ' (L ++ s_f7 S t n) → j 17 [some (.ref 9), some (.int (nI t)), some (.int 1), some (.int (nI n))] [] μ' := by
    intro hmb d
    induction d with
    | zero =>
      intro n μ' hn hK hFC
      refine hj _ _ _ _ ?_
      have e1 : μ'.1 3 1 = nI (s_nX S) := (RepX_q C.2.2.1 hK.sq).1
      repeat' (first | refine hjx _ _ _ _ (by decide) ?_ | (refine br_c (fun h => ?_) (fun h => ?_) <;> (try simp (disch := omega) only [nI_clamp, li_2, li_3, li_4, li_5, li_6, li_7, li_8, li_9, li_10, li_40, li_120, pk_mul, nI_add, nI_1, ix_eq, ix_lt, ix_le, ix_l0, ix_l1, ix_n0, ix_p0, ix_1lt, ix_lt1, ix_1le, ix_le1, ix_le0, ix_0lt, ab_z0, ab_z1, i_10, i_01, eq_self, ab_ozn, ab_ozp, ab_o_some, not_true_eq_false, not_false_eq_true, Bool.not_eq_false, Bool.not_eq_true, Bool.not_eq_false', Bool.not_eq_true', Bool.false_eq_true, Bool.true_eq_false, reduceCtorEq, Option.isSome_some, Option.isSome_none, e1] at h) <;> (try omega)) | (refine br_n (fun h => ?_) (fun h => ?_) <;> (try simp (disch := omega) only [nI_clamp, li_2, li_3, li_4, li_5, li_6, li_7, li_8, li_9, li_10, li_40, li_120, pk_mul, nI_add, nI_1, ix_eq, ix_lt, ix_le, ix_l0, ix_l1, ix_n0, ix_p0, ix_1lt, ix_lt1, ix_1le, ix_le1, ix_le0, ix_0lt, ab_z0, ab_z1, i_10, i_01, eq_self, ab_ozn, ab_ozp, ab_o_some, not_true_eq_false, not_false_eq_true, Bool.not_eq_false, Bool.not_eq_true, Bool.not_eq_false', Bool.not_eq_true', Bool.false_eq_true, Bool.true_eq_false, reduceCtorEq, Option.isSome_some, Option.isSome_none, e1] at h) <;> (try omega)) | refine ab_sd (by first | (with_reducible refine vp_in_nI ?_ ?_ <;> omega) | (simp (disch := omega) only [nI_clamp, li_2, li_3, li_4, li_5, li_6, li_7, li_8, li_9, li_10, li_40, li_120, pk_mul, nI_add, nI_1, ix_eq, ix_lt, ix_le, ix_l0, ix_l1, ix_n0, ix_p0, ix_1lt, ix_lt1, ix_1le, ix_le1, ix_le0, ix_0lt, ab_z0, ab_z1, i_10, i_01, eq_self, ab_ozn, ab_ozp, ab_o_some, not_true_eq_false, not_false_eq_true, Bool.not_eq_false, Bool.not_eq_true, Bool.not_eq_false', Bool.not_eq_true', Bool.false_eq_true, Bool.true_eq_false, reduceCtorEq, Option.isSome_some, Option.isSome_none, e1]; with_reducible refine vp_in_nI ?_ ?_ <;> omega)) ?_ | refine ab_sd ?_ ?_ | refine ab_sz (Or.inl rfl) ?_ | refine ab_sz (Or.inr rfl) ?_ | refine ab_sz ?_ ?_)
      rw [show n = s_nX S by omega] at hFC ⊢
      exact h43 μ' _ _ hK hFC
    | succ d ih =>
      intro n μ' hn hK hFC
      refine hj _ _ _ _ ?_
      have X' := RepX_q C.2.2.1 hK.sq
      have hF' := hF.kf hK
      have e1 : μ'.1 3 1 = nI (s_nX S) := X'.1
      have hlb : s_p7 S t n = true → (L ++ s_f7 S t n).length < 156 := fun e => by
        have a3 : (s_f7 S t (n + 1)).length ≤ (s_f7 S t (s_nX S)).length := s_fl_mono (by omega)
        have a4 : (s_f7 S t (n + 1)).length = (s_f7 S t n).length + 1 := by
          unfold s_f7
          rw [s_fl_s, List.length_append, if_pos e]; rfl
        simp only [List.length_append]
        omega
      have nx : ∀ μ2, KF μ' μ2 → FC μ2 (if s_p7 S t n = true then L ++ s_f7 S t n ++ [(7, n)] else L ++ s_f7 S t n) → j 17 [some (.ref 9), some (.int (nI t)), some (.int 1), some (.int (nI (n + 1)))] [] μ2 := by
        intro μ2 hK2 hF2
        refine ih (n + 1) μ2 (by omega) (hK.tr hK2) ?_
        unfold s_f7 at hF2 ⊢
        rw [s_fl_s]
        cases hb : s_p7 S t n with
        | true => rw [hb] at hF2; simpa [List.append_assoc] using hF2
        | false => rw [hb] at hF2; simpa using hF2
      have p7 : s_p7 S t n = ((S.1 58 n == 1 && s_of S t n) && s_has (S.1 61 n) 4) := by
        unfold s_p7
        rw [hmb]
        cases (S.1 58 n == 1) <;> cases s_of S t n <;> rfl
      rw [p7] at nx hlb
      cases hfd : (S.1 58 n == 1 && s_of S t n) with
      | false =>
        rw [hfd] at nx hlb
        repeat' (first | refine hjx _ _ _ _ (by decide) ?_ | (refine br_c (fun h => ?_) (fun h => ?_) <;> (try simp (disch := omega) only [nI_clamp, li_2, li_3, li_4, li_5, li_6, li_7, li_8, li_9, li_10, li_40, li_120, pk_mul, nI_add, nI_1, ix_eq, ix_lt, ix_le, ix_l0, ix_l1, ix_n0, ix_p0, ix_1lt, ix_lt1, ix_1le, ix_le1, ix_le0, ix_0lt, ab_z0, ab_z1, i_10, i_01, eq_self, ab_ozn, ab_ozp, ab_o_some, not_true_eq_false, not_false_eq_true, Bool.not_eq_false, Bool.not_eq_true, Bool.not_eq_false', Bool.not_eq_true', Bool.false_eq_true, Bool.true_eq_false, reduceCtorEq, Option.isSome_some, Option.isSome_none, e1, hfd] at h) <;> (try omega)) | (refine br_n (fun h => ?_) (fun h => ?_) <;> (try simp (disch := omega) only [nI_clamp, li_2, li_3, li_4, li_5, li_6, li_7, li_8, li_9, li_10, li_40, li_120, pk_mul, nI_add, nI_1, ix_eq, ix_lt, ix_le, ix_l0, ix_l1, ix_n0, ix_p0, ix_1lt, ix_lt1, ix_1le, ix_le1, ix_le0, ix_0lt, ab_z0, ab_z1, i_10, i_01, eq_self, ab_ozn, ab_ozp, ab_o_some, not_true_eq_false, not_false_eq_true, Bool.not_eq_false, Bool.not_eq_true, Bool.not_eq_false', Bool.not_eq_true', Bool.false_eq_true, Bool.true_eq_false, reduceCtorEq, Option.isSome_some, Option.isSome_none, e1, hfd] at h) <;> (try omega)) | refine ab_sd (by first | (with_reducible refine vp_in_nI ?_ ?_ <;> omega) | (simp (disch := omega) only [nI_clamp, li_2, li_3, li_4, li_5, li_6, li_7, li_8, li_9, li_10, li_40, li_120, pk_mul, nI_add, nI_1, ix_eq, ix_lt, ix_le, ix_l0, ix_l1, ix_n0, ix_p0, ix_1lt, ix_lt1, ix_1le, ix_le1, ix_le0, ix_0lt, ab_z0, ab_z1, i_10, i_01, eq_self, ab_ozn, ab_ozp, ab_o_some, not_true_eq_false, not_false_eq_true, Bool.not_eq_false, Bool.not_eq_true, Bool.not_eq_false', Bool.not_eq_true', Bool.false_eq_true, Bool.true_eq_false, reduceCtorEq, Option.isSome_some, Option.isSome_none, e1, hfd]; with_reducible refine vp_in_nI ?_ ?_ <;> omega)) ?_ | refine x_isFound hω X' hI hF' (m := n) rfl (by omega) ?_ | refine x_addIf hω hFC (b := false) (c := 7) (n := n) (fun q => by cases q) rfl rfl (fun q => by cases q) (fun μ2 hK2 hF2 => ?_) | refine ab_sd ?_ ?_ | refine ab_sz (Or.inl rfl) ?_ | refine ab_sz (Or.inr rfl) ?_ | refine ab_sz ?_ ?_)
        show j 17 _ _ _
        rw [nI_1]
        exact nx _ hK2 hF2
      | true =>
        cases hp : s_has (S.1 61 n) 4 with
        | false =>
          rw [hfd, hp] at nx hlb
          repeat' (first | refine hjx _ _ _ _ (by decide) ?_ | (refine br_c (fun h => ?_) (fun h => ?_) <;> (try simp (disch := omega) only [nI_clamp, li_2, li_3, li_4, li_5, li_6, li_7, li_8, li_9, li_10, li_40, li_120, pk_mul, nI_add, nI_1, ix_eq, ix_lt, ix_le, ix_l0, ix_l1, ix_n0, ix_p0, ix_1lt, ix_lt1, ix_1le, ix_le1, ix_le0, ix_0lt, ab_z0, ab_z1, i_10, i_01, eq_self, ab_ozn, ab_ozp, ab_o_some, not_true_eq_false, not_false_eq_true, Bool.not_eq_false, Bool.not_eq_true, Bool.not_eq_false', Bool.not_eq_true', Bool.false_eq_true, Bool.true_eq_false, reduceCtorEq, Option.isSome_some, Option.isSome_none, e1, hfd, hp] at h) <;> (try omega)) | (refine br_n (fun h => ?_) (fun h => ?_) <;> (try simp (disch := omega) only [nI_clamp, li_2, li_3, li_4, li_5, li_6, li_7, li_8, li_9, li_10, li_40, li_120, pk_mul, nI_add, nI_1, ix_eq, ix_lt, ix_le, ix_l0, ix_l1, ix_n0, ix_p0, ix_1lt, ix_lt1, ix_1le, ix_le1, ix_le0, ix_0lt, ab_z0, ab_z1, i_10, i_01, eq_self, ab_ozn, ab_ozp, ab_o_some, not_true_eq_false, not_false_eq_true, Bool.not_eq_false, Bool.not_eq_true, Bool.not_eq_false', Bool.not_eq_true', Bool.false_eq_true, Bool.true_eq_false, reduceCtorEq, Option.isSome_some, Option.isSome_none, e1, hfd, hp] at h) <;> (try omega)) | refine ab_sd (by first | (with_reducible refine vp_in_nI ?_ ?_ <;> omega) | (simp (disch := omega) only [nI_clamp, li_2, li_3, li_4, li_5, li_6, li_7, li_8, li_9, li_10, li_40, li_120, pk_mul, nI_add, nI_1, ix_eq, ix_lt, ix_le, ix_l0, ix_l1, ix_n0, ix_p0, ix_1lt, ix_lt1, ix_1le, ix_le1, ix_le0, ix_0lt, ab_z0, ab_z1, i_10, i_01, eq_self, ab_ozn, ab_ozp, ab_o_some, not_true_eq_false, not_false_eq_true, Bool.not_eq_false, Bool.not_eq_true, Bool.not_eq_false', Bool.not_eq_true', Bool.false_eq_true, Bool.true_eq_false, reduceCtorEq, Option.isSome_some, Option.isSome_none, e1, hfd, hp]; with_reducible refine vp_in_nI ?_ ?_ <;> omega)) ?_ | refine x_isFound hω X' hI hF' (m := n) rfl (by omega) ?_ | refine x_mhasFlag hω X' hW (m := n) (f := 4) rfl rfl (by omega) ?_ | refine x_addIf hω hFC (b := false) (c := 7) (n := n) (fun q => by cases q) rfl rfl (fun q => by cases q) (fun μ2 hK2 hF2 => ?_) | refine ab_sd ?_ ?_ | refine ab_sz (Or.inl rfl) ?_ | refine ab_sz (Or.inr rfl) ?_ | refine ab_sz ?_ ?_)
          show j 17 _ _ _
          rw [nI_1]
          exact nx _ hK2 hF2
        | true =>
          rw [hfd, hp] at nx hlb
          repeat' (first | refine hjx _ _ _ _ (by decide) ?_ | (refine br_c (fun h => ?_) (fun h => ?_) <;> (try simp (disch := omega) only [nI_clamp, li_2, li_3, li_4, li_5, li_6, li_7, li_8, li_9, li_10, li_40, li_120, pk_mul, nI_add, nI_1, ix_eq, ix_lt, ix_le, ix_l0, ix_l1, ix_n0, ix_p0, ix_1lt, ix_lt1, ix_1le, ix_le1, ix_le0, ix_0lt, ab_z0, ab_z1, i_10, i_01, eq_self, ab_ozn, ab_ozp, ab_o_some, not_true_eq_false, not_false_eq_true, Bool.not_eq_false, Bool.not_eq_true, Bool.not_eq_false', Bool.not_eq_true', Bool.false_eq_true, Bool.true_eq_false, reduceCtorEq, Option.isSome_some, Option.isSome_none, e1, hfd, hp] at h) <;> (try omega)) | (refine br_n (fun h => ?_) (fun h => ?_) <;> (try simp (disch := omega) only [nI_clamp, li_2, li_3, li_4, li_5, li_6, li_7, li_8, li_9, li_10, li_40, li_120, pk_mul, nI_add, nI_1, ix_eq, ix_lt, ix_le, ix_l0, ix_l1, ix_n0, ix_p0, ix_1lt, ix_lt1, ix_1le, ix_le1, ix_le0, ix_0lt, ab_z0, ab_z1, i_10, i_01, eq_self, ab_ozn, ab_ozp, ab_o_some, not_true_eq_false, not_false_eq_true, Bool.not_eq_false, Bool.not_eq_true, Bool.not_eq_false', Bool.not_eq_true', Bool.false_eq_true, Bool.true_eq_false, reduceCtorEq, Option.isSome_some, Option.isSome_none, e1, hfd, hp] at h) <;> (try omega)) | refine ab_sd (by first | (with_reducible refine vp_in_nI ?_ ?_ <;> omega) | (simp (disch := omega) only [nI_clamp, li_2, li_3, li_4, li_5, li_6, li_7, li_8, li_9, li_10, li_40, li_120, pk_mul, nI_add, nI_1, ix_eq, ix_lt, ix_le, ix_l0, ix_l1, ix_n0, ix_p0, ix_1lt, ix_lt1, ix_1le, ix_le1, ix_le0, ix_0lt, ab_z0, ab_z1, i_10, i_01, eq_self, ab_ozn, ab_ozp, ab_o_some, not_true_eq_false, not_false_eq_true, Bool.not_eq_false, Bool.not_eq_true, Bool.not_eq_false', Bool.not_eq_true', Bool.false_eq_true, Bool.true_eq_false, reduceCtorEq, Option.isSome_some, Option.isSome_none, e1, hfd, hp]; with_reducible refine vp_in_nI ?_ ?_ <;> omega)) ?_ | refine x_isFound hω X' hI hF' (m := n) rfl (by omega) ?_ | refine x_mhasFlag hω X' hW (m := n) (f := 4) rfl rfl (by omega) ?_ | refine x_addIf hω hFC (b := true) (c := 7) (n := n) hlb rfl rfl (fun _ => rfl) (fun μ2 hK2 hF2 => ?_) | refine ab_sd ?_ ?_ | refine ab_sz (Or.inl rfl) ?_ | refine ab_sz (Or.inr rfl) ?_ | refine ab_sz ?_ ?_)
          show j 17 _ _ _
          rw [nI_1]
          exact nx _ hK2 hF2
  have h14 : ∀ b : Bool, (S.1 50 t == 0 && !s_has (S.1 52 t) 4) = b → j 14 [some (.ref 9), some (.int (nI t)), none, none] [.int (ab_z b)] μ := by
    intro b hb
    refine hj _ _ _ _ ?_
    cases b with
    | true =>
      repeat' (first | refine hjx _ _ _ _ (by decide) ?_ | (refine br_c (fun h => ?_) (fun h => ?_) <;> (try simp (disch := omega) only [nI_clamp, li_2, li_3, li_4, li_5, li_6, li_7, li_8, li_9, li_10, li_40, li_120, pk_mul, nI_add, nI_1, ix_eq, ix_lt, ix_le, ix_l0, ix_l1, ix_n0, ix_p0, ix_1lt, ix_lt1, ix_1le, ix_le1, ix_le0, ix_0lt, ab_z0, ab_z1, i_10, i_01, eq_self, ab_ozn, ab_ozp, ab_o_some, not_true_eq_false, not_false_eq_true, Bool.not_eq_false, Bool.not_eq_true, Bool.not_eq_false', Bool.not_eq_true', Bool.false_eq_true, Bool.true_eq_false, reduceCtorEq, Option.isSome_some, Option.isSome_none] at h) <;> (try omega)) | (refine br_n (fun h => ?_) (fun h => ?_) <;> (try simp (disch := omega) only [nI_clamp, li_2, li_3, li_4, li_5, li_6, li_7, li_8, li_9, li_10, li_40, li_120, pk_mul, nI_add, nI_1, ix_eq, ix_lt, ix_le, ix_l0, ix_l1, ix_n0, ix_p0, ix_1lt, ix_lt1, ix_1le, ix_le1, ix_le0, ix_0lt, ab_z0, ab_z1, i_10, i_01, eq_self, ab_ozn, ab_ozp, ab_o_some, not_true_eq_false, not_false_eq_true, Bool.not_eq_false, Bool.not_eq_true, Bool.not_eq_false', Bool.not_eq_true', Bool.false_eq_true, Bool.true_eq_false, reduceCtorEq, Option.isSome_some, Option.isSome_none] at h) <;> (try omega)) | refine ab_sd (by first | (with_reducible refine vp_in_nI ?_ ?_ <;> omega) | (simp (disch := omega) only [nI_clamp, li_2, li_3, li_4, li_5, li_6, li_7, li_8, li_9, li_10, li_40, li_120, pk_mul, nI_add, nI_1, ix_eq, ix_lt, ix_le, ix_l0, ix_l1, ix_n0, ix_p0, ix_1lt, ix_lt1, ix_1le, ix_le1, ix_le0, ix_0lt, ab_z0, ab_z1, i_10, i_01, eq_self, ab_ozn, ab_ozp, ab_o_some, not_true_eq_false, not_false_eq_true, Bool.not_eq_false, Bool.not_eq_true, Bool.not_eq_false', Bool.not_eq_true', Bool.false_eq_true, Bool.true_eq_false, reduceCtorEq, Option.isSome_some, Option.isSome_none]; with_reducible refine vp_in_nI ?_ ?_ <;> omega)) ?_ | refine ab_sd ?_ ?_ | refine ab_sz (Or.inl rfl) ?_ | refine ab_sz (Or.inr rfl) ?_ | refine ab_sz ?_ ?_)
      exact h17 hb (s_nX S) 0 μ (by omega) KF.rf (by simpa [s_f7, s_fl] using hL)
    | false =>
      have e7 : s_f7 S t (s_nX S) = [] := s_fl_nil (fun m _ => by unfold s_p7; rw [hb]; rfl)
      have e1 : μ.1 3 1 = nI (s_nX S) := C.2.2.1.1
      repeat' (first | refine hjx _ _ _ _ (by decide) ?_ | (refine br_c (fun h => ?_) (fun h => ?_) <;> (try simp (disch := omega) only [nI_clamp, li_2, li_3, li_4, li_5, li_6, li_7, li_8, li_9, li_10, li_40, li_120, pk_mul, nI_add, nI_1, ix_eq, ix_lt, ix_le, ix_l0, ix_l1, ix_n0, ix_p0, ix_1lt, ix_lt1, ix_1le, ix_le1, ix_le0, ix_0lt, ab_z0, ab_z1, i_10, i_01, eq_self, ab_ozn, ab_ozp, ab_o_some, not_true_eq_false, not_false_eq_true, Bool.not_eq_false, Bool.not_eq_true, Bool.not_eq_false', Bool.not_eq_true', Bool.false_eq_true, Bool.true_eq_false, reduceCtorEq, Option.isSome_some, Option.isSome_none] at h) <;> (try omega)) | (refine br_n (fun h => ?_) (fun h => ?_) <;> (try simp (disch := omega) only [nI_clamp, li_2, li_3, li_4, li_5, li_6, li_7, li_8, li_9, li_10, li_40, li_120, pk_mul, nI_add, nI_1, ix_eq, ix_lt, ix_le, ix_l0, ix_l1, ix_n0, ix_p0, ix_1lt, ix_lt1, ix_1le, ix_le1, ix_le0, ix_0lt, ab_z0, ab_z1, i_10, i_01, eq_self, ab_ozn, ab_ozp, ab_o_some, not_true_eq_false, not_false_eq_true, Bool.not_eq_false, Bool.not_eq_true, Bool.not_eq_false', Bool.not_eq_true', Bool.false_eq_true, Bool.true_eq_false, reduceCtorEq, Option.isSome_some, Option.isSome_none] at h) <;> (try omega)) | refine ab_sd (by first | (with_reducible refine vp_in_nI ?_ ?_ <;> omega) | (simp (disch := omega) only [nI_clamp, li_2, li_3, li_4, li_5, li_6, li_7, li_8, li_9, li_10, li_40, li_120, pk_mul, nI_add, nI_1, ix_eq, ix_lt, ix_le, ix_l0, ix_l1, ix_n0, ix_p0, ix_1lt, ix_lt1, ix_1le, ix_le1, ix_le0, ix_0lt, ab_z0, ab_z1, i_10, i_01, eq_self, ab_ozn, ab_ozp, ab_o_some, not_true_eq_false, not_false_eq_true, Bool.not_eq_false, Bool.not_eq_true, Bool.not_eq_false', Bool.not_eq_true', Bool.false_eq_true, Bool.true_eq_false, reduceCtorEq, Option.isSome_some, Option.isSome_none]; with_reducible refine vp_in_nI ?_ ?_ <;> omega)) ?_ | refine ab_sd ?_ ?_ | refine ab_sz (Or.inl rfl) ?_ | refine ab_sz (Or.inr rfl) ?_ | refine ab_sz ?_ ?_)
      refine hj _ _ _ _ ?_
      have e00 : ((ab_z false) = 0) ↔ True := ⟨fun _ => trivial, fun _ => rfl⟩
      repeat' (first | refine hjx _ _ _ _ (by decide) ?_ | (refine br_c (fun h => ?_) (fun h => ?_) <;> (try simp (disch := omega) only [nI_clamp, li_2, li_3, li_4, li_5, li_6, li_7, li_8, li_9, li_10, li_40, li_120, pk_mul, nI_add, nI_1, ix_eq, ix_lt, ix_le, ix_l0, ix_l1, ix_n0, ix_p0, ix_1lt, ix_lt1, ix_1le, ix_le1, ix_le0, ix_0lt, ab_z0, ab_z1, i_10, i_01, eq_self, ab_ozn, ab_ozp, ab_o_some, not_true_eq_false, not_false_eq_true, Bool.not_eq_false, Bool.not_eq_true, Bool.not_eq_false', Bool.not_eq_true', Bool.false_eq_true, Bool.true_eq_false, reduceCtorEq, Option.isSome_some, Option.isSome_none, e1, e00] at h) <;> (try omega)) | (refine br_n (fun h => ?_) (fun h => ?_) <;> (try simp (disch := omega) only [nI_clamp, li_2, li_3, li_4, li_5, li_6, li_7, li_8, li_9, li_10, li_40, li_120, pk_mul, nI_add, nI_1, ix_eq, ix_lt, ix_le, ix_l0, ix_l1, ix_n0, ix_p0, ix_1lt, ix_lt1, ix_1le, ix_le1, ix_le0, ix_0lt, ab_z0, ab_z1, i_10, i_01, eq_self, ab_ozn, ab_ozp, ab_o_some, not_true_eq_false, not_false_eq_true, Bool.not_eq_false, Bool.not_eq_true, Bool.not_eq_false', Bool.not_eq_true', Bool.false_eq_true, Bool.true_eq_false, reduceCtorEq, Option.isSome_some, Option.isSome_none, e1, e00] at h) <;> (try omega)) | refine ab_sd (by first | (with_reducible refine vp_in_nI ?_ ?_ <;> omega) | (simp (disch := omega) only [nI_clamp, li_2, li_3, li_4, li_5, li_6, li_7, li_8, li_9, li_10, li_40, li_120, pk_mul, nI_add, nI_1, ix_eq, ix_lt, ix_le, ix_l0, ix_l1, ix_n0, ix_p0, ix_1lt, ix_lt1, ix_1le, ix_le1, ix_le0, ix_0lt, ab_z0, ab_z1, i_10, i_01, eq_self, ab_ozn, ab_ozp, ab_o_some, not_true_eq_false, not_false_eq_true, Bool.not_eq_false, Bool.not_eq_true, Bool.not_eq_false', Bool.not_eq_true', Bool.false_eq_true, Bool.true_eq_false, reduceCtorEq, Option.isSome_some, Option.isSome_none, e1, e00]; with_reducible refine vp_in_nI ?_ ?_ <;> omega)) ?_ | refine ab_sd ?_ ?_ | refine ab_sz (Or.inl rfl) ?_ | refine ab_sz (Or.inr rfl) ?_ | refine ab_sz ?_ ?_)
      all_goals exact h43 μ _ _ KF.rf (by rw [e7, List.append_nil]; exact hL)
  cases h1 : (S.1 50 t == 0) with
  | false =>
    repeat' (first | refine hjx _ _ _ _ (by decide) ?_ | (refine br_c (fun h => ?_) (fun h => ?_) <;> (try simp (disch := omega) only [nI_clamp, li_2, li_3, li_4, li_5, li_6, li_7, li_8, li_9, li_10, li_40, li_120, pk_mul, nI_add, nI_1, ix_eq, ix_lt, ix_le, ix_l0, ix_l1, ix_n0, ix_p0, ix_1lt, ix_lt1, ix_1le, ix_le1, ix_le0, ix_0lt, ab_z0, ab_z1, i_10, i_01, eq_self, ab_ozn, ab_ozp, ab_o_some, not_true_eq_false, not_false_eq_true, Bool.not_eq_false, Bool.not_eq_true, Bool.not_eq_false', Bool.not_eq_true', Bool.false_eq_true, Bool.true_eq_false, reduceCtorEq, Option.isSome_some, Option.isSome_none, h1] at h) <;> (try omega)) | (refine br_n (fun h => ?_) (fun h => ?_) <;> (try simp (disch := omega) only [nI_clamp, li_2, li_3, li_4, li_5, li_6, li_7, li_8, li_9, li_10, li_40, li_120, pk_mul, nI_add, nI_1, ix_eq, ix_lt, ix_le, ix_l0, ix_l1, ix_n0, ix_p0, ix_1lt, ix_lt1, ix_1le, ix_le1, ix_le0, ix_0lt, ab_z0, ab_z1, i_10, i_01, eq_self, ab_ozn, ab_ozp, ab_o_some, not_true_eq_false, not_false_eq_true, Bool.not_eq_false, Bool.not_eq_true, Bool.not_eq_false', Bool.not_eq_true', Bool.false_eq_true, Bool.true_eq_false, reduceCtorEq, Option.isSome_some, Option.isSome_none, h1] at h) <;> (try omega)) | refine ab_sd (by first | (with_reducible refine vp_in_nI ?_ ?_ <;> omega) | (simp (disch := omega) only [nI_clamp, li_2, li_3, li_4, li_5, li_6, li_7, li_8, li_9, li_10, li_40, li_120, pk_mul, nI_add, nI_1, ix_eq, ix_lt, ix_le, ix_l0, ix_l1, ix_n0, ix_p0, ix_1lt, ix_lt1, ix_1le, ix_le1, ix_le0, ix_0lt, ab_z0, ab_z1, i_10, i_01, eq_self, ab_ozn, ab_ozp, ab_o_some, not_true_eq_false, not_false_eq_true, Bool.not_eq_false, Bool.not_eq_true, Bool.not_eq_false', Bool.not_eq_true', Bool.false_eq_true, Bool.true_eq_false, reduceCtorEq, Option.isSome_some, Option.isSome_none, h1]; with_reducible refine vp_in_nI ?_ ?_ <;> omega)) ?_ | refine x_isClass hω C.2.1 hT (t := t) rfl ht ?_ | refine ab_sd ?_ ?_ | refine ab_sz (Or.inl rfl) ?_ | refine ab_sz (Or.inr rfl) ?_ | refine ab_sz ?_ ?_)
    exact h14 false (by rw [h1]; rfl)
  | true =>
    cases h2 : s_has (S.1 52 t) 4 with
    | true =>
      repeat' (first | refine hjx _ _ _ _ (by decide) ?_ | (refine br_c (fun h => ?_) (fun h => ?_) <;> (try simp (disch := omega) only [nI_clamp, li_2, li_3, li_4, li_5, li_6, li_7, li_8, li_9, li_10, li_40, li_120, pk_mul, nI_add, nI_1, ix_eq, ix_lt, ix_le, ix_l0, ix_l1, ix_n0, ix_p0, ix_1lt, ix_lt1, ix_1le, ix_le1, ix_le0, ix_0lt, ab_z0, ab_z1, i_10, i_01, eq_self, ab_ozn, ab_ozp, ab_o_some, not_true_eq_false, not_false_eq_true, Bool.not_eq_false, Bool.not_eq_true, Bool.not_eq_false', Bool.not_eq_true', Bool.false_eq_true, Bool.true_eq_false, reduceCtorEq, Option.isSome_some, Option.isSome_none, h1, h2] at h) <;> (try omega)) | (refine br_n (fun h => ?_) (fun h => ?_) <;> (try simp (disch := omega) only [nI_clamp, li_2, li_3, li_4, li_5, li_6, li_7, li_8, li_9, li_10, li_40, li_120, pk_mul, nI_add, nI_1, ix_eq, ix_lt, ix_le, ix_l0, ix_l1, ix_n0, ix_p0, ix_1lt, ix_lt1, ix_1le, ix_le1, ix_le0, ix_0lt, ab_z0, ab_z1, i_10, i_01, eq_self, ab_ozn, ab_ozp, ab_o_some, not_true_eq_false, not_false_eq_true, Bool.not_eq_false, Bool.not_eq_true, Bool.not_eq_false', Bool.not_eq_true', Bool.false_eq_true, Bool.true_eq_false, reduceCtorEq, Option.isSome_some, Option.isSome_none, h1, h2] at h) <;> (try omega)) | refine ab_sd (by first | (with_reducible refine vp_in_nI ?_ ?_ <;> omega) | (simp (disch := omega) only [nI_clamp, li_2, li_3, li_4, li_5, li_6, li_7, li_8, li_9, li_10, li_40, li_120, pk_mul, nI_add, nI_1, ix_eq, ix_lt, ix_le, ix_l0, ix_l1, ix_n0, ix_p0, ix_1lt, ix_lt1, ix_1le, ix_le1, ix_le0, ix_0lt, ab_z0, ab_z1, i_10, i_01, eq_self, ab_ozn, ab_ozp, ab_o_some, not_true_eq_false, not_false_eq_true, Bool.not_eq_false, Bool.not_eq_true, Bool.not_eq_false', Bool.not_eq_true', Bool.false_eq_true, Bool.true_eq_false, reduceCtorEq, Option.isSome_some, Option.isSome_none, h1, h2]; with_reducible refine vp_in_nI ?_ ?_ <;> omega)) ?_ | refine x_isClass hω C.2.1 hT (t := t) rfl ht ?_ | refine x_hasFlag hω C.2.1 hW (t := t) (f := 4) rfl rfl ht ?_ | refine ab_sd ?_ ?_ | refine ab_sz (Or.inl rfl) ?_ | refine ab_sz (Or.inr rfl) ?_ | refine ab_sz ?_ ?_)
      exact h14 false (by rw [h1, h2]; rfl)
    | false =>
      repeat' (first | refine hjx _ _ _ _ (by decide) ?_ | (refine br_c (fun h => ?_) (fun h => ?_) <;> (try simp (disch := omega) only [nI_clamp, li_2, li_3, li_4, li_5, li_6, li_7, li_8, li_9, li_10, li_40, li_120, pk_mul, nI_add, nI_1, ix_eq, ix_lt, ix_le, ix_l0, ix_l1, ix_n0, ix_p0, ix_1lt, ix_lt1, ix_1le, ix_le1, ix_le0, ix_0lt, ab_z0, ab_z1, i_10, i_01, eq_self, ab_ozn, ab_ozp, ab_o_some, not_true_eq_false, not_false_eq_true, Bool.not_eq_false, Bool.not_eq_true, Bool.not_eq_false', Bool.not_eq_true', Bool.false_eq_true, Bool.true_eq_false, reduceCtorEq, Option.isSome_some, Option.isSome_none, h1, h2] at h) <;> (try omega)) | (refine br_n (fun h => ?_) (fun h => ?_) <;> (try simp (disch := omega) only [nI_clamp, li_2, li_3, li_4, li_5, li_6, li_7, li_8, li_9, li_10, li_40, li_120, pk_mul, nI_add, nI_1, ix_eq, ix_lt, ix_le, ix_l0, ix_l1, ix_n0, ix_p0, ix_1lt, ix_lt1, ix_1le, ix_le1, ix_le0, ix_0lt, ab_z0, ab_z1, i_10, i_01, eq_self, ab_ozn, ab_ozp, ab_o_some, not_true_eq_false, not_false_eq_true, Bool.not_eq_false, Bool.not_eq_true, Bool.not_eq_false', Bool.not_eq_true', Bool.false_eq_true, Bool.true_eq_false, reduceCtorEq, Option.isSome_some, Option.isSome_none, h1, h2] at h) <;> (try omega)) | refine ab_sd (by first | (with_reducible refine vp_in_nI ?_ ?_ <;> omega) | (simp (disch := omega) only [nI_clamp, li_2, li_3, li_4, li_5, li_6, li_7, li_8, li_9, li_10, li_40, li_120, pk_mul, nI_add, nI_1, ix_eq, ix_lt, ix_le, ix_l0, ix_l1, ix_n0, ix_p0, ix_1lt, ix_lt1, ix_1le, ix_le1, ix_le0, ix_0lt, ab_z0, ab_z1, i_10, i_01, eq_self, ab_ozn, ab_ozp, ab_o_some, not_true_eq_false, not_false_eq_true, Bool.not_eq_false, Bool.not_eq_true, Bool.not_eq_false', Bool.not_eq_true', Bool.false_eq_true, Bool.true_eq_false, reduceCtorEq, Option.isSome_some, Option.isSome_none, h1, h2]; with_reducible refine vp_in_nI ?_ ?_ <;> omega)) ?_ | refine x_isClass hω C.2.1 hT (t := t) rfl ht ?_ | refine x_hasFlag hω C.2.1 hW (t := t) (f := 4) rfl rfl ht ?_ | refine ab_sd ?_ ?_ | refine ab_sz (Or.inl rfl) ?_ | refine ab_sz (Or.inr rfl) ?_ | refine ab_sz ?_ ?_)
      exact h14 true (by rw [h1, h2]; rfl)
end KC
