section R1
variable {l : Launch} {ω : ab_W} {S : sT} {μ : ab_M} {Q : Int32 → ab_M → Prop}
theorem r_noModule (hω : ω.2.2.2 = ab_SH) (R : RepR S μ) {x : Int32} (hQ : ∀ r, r = ab_z (!ab_ok (s_nM S) x) → Q r μ) : ab_CI l ω mX11_noModule [.ref 43, .int x] μ Q := by
  refine ab_intro (sh := ab_SH) (cd := kX11_noModule) hω vX11_noModule (by decide +kernel) rfl (Nat.le_of_ble_eq_true rfl) (fun j hj hw => ?_)
  have e := R.1 43 0 rfl
  repeat' (first | refine hj _ _ _ _ ?_ | refine ab_sd (vp_of (by first | exact ix_40 _ _ | exact ix_120 _ _ | exact ix_6 _ _ | exact ix_4 _ _ | with_reducible rfl) (by omega) (by omega)) ?_ | refine ab_sd ?_ ?_ | refine ab_sz (Or.inl rfl) ?_ | refine ab_sz (Or.inr rfl) ?_ | refine ab_sz ?_ ?_ | refine br_c (fun _ => ?_) (fun _ => ?_) | refine br_n (fun _ => ?_) (fun _ => ?_))
  all_goals (refine hQ _ ?_; unfold ab_z ab_ok; grind)
theorem r_noPack (hω : ω.2.2.2 = ab_SH) (R : RepR S μ) {x : Int32} (hQ : ∀ r, r = ab_z (!ab_ok (s_nP S) x) → Q r μ) : ab_CI l ω mX11_noPack [.ref 43, .int x] μ Q := by
  refine ab_intro (sh := ab_SH) (cd := kX11_noPack) hω vX11_noPack (by decide +kernel) rfl (Nat.le_of_ble_eq_true rfl) (fun j hj hw => ?_)
  have e := R.1 43 2 rfl
  repeat' (first | refine hj _ _ _ _ ?_ | refine ab_sd (vp_of (by first | exact ix_40 _ _ | exact ix_120 _ _ | exact ix_6 _ _ | exact ix_4 _ _ | with_reducible rfl) (by omega) (by omega)) ?_ | refine ab_sd ?_ ?_ | refine ab_sz (Or.inl rfl) ?_ | refine ab_sz (Or.inr rfl) ?_ | refine ab_sz ?_ ?_ | refine br_c (fun _ => ?_) (fun _ => ?_) | refine br_n (fun _ => ?_) (fun _ => ?_))
  all_goals (refine hQ _ ?_; unfold ab_z ab_ok; grind)
theorem r_noType (hω : ω.2.2.2 = ab_SH) (R : RepR S μ) {x : Int32} (hQ : ∀ r, r = ab_z (!ab_ok (s_nT S) x) → Q r μ) : ab_CI l ω mX11_noType [.ref 43, .int x] μ Q := by
  refine ab_intro (sh := ab_SH) (cd := kX11_noType) hω vX11_noType (by decide +kernel) rfl (Nat.le_of_ble_eq_true rfl) (fun j hj hw => ?_)
  have e := R.1 43 6 rfl
  repeat' (first | refine hj _ _ _ _ ?_ | refine ab_sd (vp_of (by first | exact ix_40 _ _ | exact ix_120 _ _ | exact ix_6 _ _ | exact ix_4 _ _ | with_reducible rfl) (by omega) (by omega)) ?_ | refine ab_sd ?_ ?_ | refine ab_sz (Or.inl rfl) ?_ | refine ab_sz (Or.inr rfl) ?_ | refine ab_sz ?_ ?_ | refine br_c (fun _ => ?_) (fun _ => ?_) | refine br_n (fun _ => ?_) (fun _ => ?_))
  all_goals (refine hQ _ ?_; unfold ab_z ab_ok; grind)
theorem r_noMember (hω : ω.2.2.2 = ab_SH) (R : RepR S μ) {x : Int32} (hQ : ∀ r, r = ab_z (!ab_ok (s_nX S) x) → Q r μ) : ab_CI l ω mX11_noMember [.ref 43, .int x] μ Q := by
  refine ab_intro (sh := ab_SH) (cd := kX11_noMember) hω vX11_noMember (by decide +kernel) rfl (Nat.le_of_ble_eq_true rfl) (fun j hj hw => ?_)
  have e := R.1 43 16 rfl
  repeat' (first | refine hj _ _ _ _ ?_ | refine ab_sd (vp_of (by first | exact ix_40 _ _ | exact ix_120 _ _ | exact ix_6 _ _ | exact ix_4 _ _ | with_reducible rfl) (by omega) (by omega)) ?_ | refine ab_sd ?_ ?_ | refine ab_sz (Or.inl rfl) ?_ | refine ab_sz (Or.inr rfl) ?_ | refine ab_sz ?_ ?_ | refine br_c (fun _ => ?_) (fun _ => ?_) | refine br_n (fun _ => ?_) (fun _ => ?_))
  all_goals (refine hQ _ ?_; unfold ab_z ab_ok; grind)
theorem r_has (hω : ω.2.2.2 = ab_SH) {x y : Int32} {a b : Nat} (ex : x = nI a) (ey : y = nI b) (h : a &&& b < 2 ^ 31) (hQ : ∀ r, r = ab_z (s_has a b) → Q r μ) : ab_CI l ω mX11_has [.int x, .int y] μ Q := by
  subst ex ey
  refine ab_intro (sh := ab_SH) (cd := kX11_has) hω vX11_has (by decide +kernel) rfl (Nat.le_of_ble_eq_true rfl) (fun j hj hw => ?_)
  have e : (nI a &&& nI b = 0) ↔ (a &&& b = 0) := by rw [ab_nand]; exact ix_eq (a := a &&& b) (b := 0) h (by omega)
  repeat' (first | refine hj _ _ _ _ ?_ | refine ab_sd (vp_of (by first | exact ix_40 _ _ | exact ix_120 _ _ | exact ix_6 _ _ | exact ix_4 _ _ | with_reducible rfl) (by omega) (by omega)) ?_ | refine ab_sd ?_ ?_ | refine ab_sz (Or.inl rfl) ?_ | refine ab_sz (Or.inr rfl) ?_ | refine ab_sz ?_ ?_ | refine br_c (fun _ => ?_) (fun _ => ?_) | refine br_n (fun _ => ?_) (fun _ => ?_))
  all_goals (refine hQ _ ?_; unfold ab_z s_has; grind)
theorem r_noForm (hω : ω.2.2.2 = ab_SH) {a f : Int32} (hQ : ∀ r, r = ab_z (!(ab_ok 4 a && ab_ok 8 f)) → Q r μ) : ab_CI l ω mX11_noForm [.int a, .int f] μ Q := by
  refine ab_intro (sh := ab_SH) (cd := kX11_noForm) hω vX11_noForm (by decide +kernel) rfl (Nat.le_of_ble_eq_true rfl) (fun j hj hw => ?_)
  repeat' (first | refine hj _ _ _ _ ?_ | refine ab_sd (vp_of (by first | exact ix_40 _ _ | exact ix_120 _ _ | exact ix_6 _ _ | exact ix_4 _ _ | with_reducible rfl) (by omega) (by omega)) ?_ | refine ab_sd ?_ ?_ | refine ab_sz (Or.inl rfl) ?_ | refine ab_sz (Or.inr rfl) ?_ | refine ab_sz ?_ ?_ | refine br_c (fun _ => ?_) (fun _ => ?_) | refine br_n (fun _ => ?_) (fun _ => ?_))
  all_goals (refine hQ _ ?_; rw [ab_ok4, ab_ok8]; unfold ab_z; grind)
theorem r_isBelow (hω : ω.2.2.2 = ab_SH) (R : RepR S μ) {x y : Int32} {t u : Nat} (ex : x = nI t) (ey : y = nI u) (ht : t < 40) (hu : u < 40) (hQ : ∀ r, r = ab_z (s_ab S t u) → Q r μ) : ab_CI l ω mX11_isBelow [.ref 43, .int x, .int y] μ Q := by
  subst ex ey
  refine ab_intro (sh := ab_SH) (cd := kX11_isBelow) hω vX11_isBelow (by decide +kernel) rfl (Nat.le_of_ble_eq_true rfl) (fun j hj hw => ?_)
  repeat' (first | refine hj _ _ _ _ ?_ | refine ab_sd (vp_of (by first | exact ix_40 _ _ | exact ix_120 _ _ | exact ix_6 _ _ | exact ix_4 _ _ | with_reducible rfl) (by omega) (by omega)) ?_ | refine ab_sd ?_ ?_ | refine ab_sz (Or.inl rfl) ?_ | refine ab_sz (Or.inr rfl) ?_ | refine ab_sz ?_ ?_ | refine br_c (fun _ => ?_) (fun _ => ?_) | refine br_n (fun _ => ?_) (fun _ => ?_))
  all_goals rw [ix_40, nI_clamp (by omega), R.2.1 56 _ rfl]
  · exact ab_z01 _
  · exact hQ _ rfl
theorem r_isAt (hω : ω.2.2.2 = ab_SH) (R : RepR S μ) {x y : Int32} {t u : Nat} (ex : x = nI t) (ey : y = nI u) (ht : t < 40) (hu : u < 40) (hQ : ∀ r, r = ab_z (t == u || s_ab S t u) → Q r μ) : ab_CI l ω mX11_isAt [.ref 43, .int x, .int y] μ Q := by
  subst ex ey
  refine ab_intro (sh := ab_SH) (cd := kX11_isAt) hω vX11_isAt (by decide +kernel) rfl (Nat.le_of_ble_eq_true rfl) (fun j hj hw => ?_)
  have e := ix_eq (a := t) (b := u) (by omega) (by omega)
  repeat' (first | refine hj _ _ _ _ ?_ | refine ab_sd (vp_of (by first | exact ix_40 _ _ | exact ix_120 _ _ | exact ix_6 _ _ | exact ix_4 _ _ | with_reducible rfl) (by omega) (by omega)) ?_ | refine r_isBelow hω R rfl rfl ht hu (fun r hr => ?_) | refine ab_sd ?_ ?_ | refine ab_sz (Or.inl rfl) ?_ | refine ab_sz (Or.inr rfl) ?_ | refine ab_sz ?_ ?_ | refine br_c (fun _ => ?_) (fun _ => ?_) | refine br_n (fun _ => ?_) (fun _ => ?_))
  all_goals (refine hQ _ ?_; unfold ab_z at *; grind)
theorem r_isPlain (hω : ω.2.2.2 = ab_SH) (R : RepR S μ) (hW : Wf S) {x : Int32} {m : Nat} (ex : x = nI m) (hm : m < s_nX S) (hQ : ∀ r, r = ab_z (s_pl S m) → Q r μ) : ab_CI l ω mX11_isPlain [.ref 43, .int x] μ Q := by
  subst ex
  refine ab_intro (sh := ab_SH) (cd := kX11_isPlain) hω vX11_isPlain (by decide +kernel) rfl (Nat.le_of_ble_eq_true rfl) (fun j hj hw => ?_)
  have hX := hW.2.2.2.1
  obtain ⟨-, -, -, h4, h5⟩ := hW.2.2.2.2.2.2 m hm
  have e0 : (nI m).toNatClampNeg = m := nI_clamp (by omega)
  have e1 := R.1 60 m rfl
  have e2 := R.1 61 m rfl
  have e3 : nI (S.1 60 m) = 0 ↔ S.1 60 m = 0 := ix_eq (b := 0) (by omega) (by omega)
  repeat' (first | refine hj _ _ _ _ ?_ | refine ab_sd (vp_of (by first | exact ix_40 _ _ | exact ix_120 _ _ | exact ix_6 _ _ | exact ix_4 _ _ | with_reducible rfl) (by omega) (by omega)) ?_ | refine r_has hω (a := S.1 61 m) (b := 1) (by rw [e0, e2]) rfl (s_and_lt h5) (fun r hr => ?_) | refine ab_sd ?_ ?_ | refine ab_sz (Or.inl rfl) ?_ | refine ab_sz (Or.inr rfl) ?_ | refine ab_sz ?_ ?_ | refine br_c (fun _ => ?_) (fun _ => ?_) | refine br_n (fun _ => ?_) (fun _ => ?_))
  all_goals (refine hQ _ ?_; unfold s_pl; unfold ab_z at *; grind)
theorem r_declared (hω : ω.2.2.2 = ab_SH) (R : RepR S μ) (hW : Wf S) {x y z : Int32} {t k n : Nat} (ex : x = nI t) (ey : y = nI k) (ez : z = nI n) (ht : t < 2 ^ 31) (hk : k < 2 ^ 31) (hn : n < 2 ^ 31) (hQ : ∀ r, r = ab_o (s_dec S t k n) → Q r μ) : ab_CI l ω mX11_declared [.ref 43, .int x, .int y, .int z] μ Q := by
  subst ex ey ez
  refine ab_intro (sh := ab_SH) (cd := kX11_declared) hω vX11_declared (by decide +kernel) rfl (Nat.le_of_ble_eq_true rfl) (fun j hj hw => ?_)
  have hjx : ∀ i ll st μ, i ≠ 2 → _ → j i ll st μ := fun i ll st μ _ h => hj i ll st μ h
  have hX := hW.2.2.2.1
  have g16 := R.1 43 16 rfl
  have loop : ∀ n' m, s_nX S + 1 ≤ m + n' → m ≤ s_nX S → s_decF S t k n m = none → j 2 [some (.ref 43), some (.int (nI t)), some (.int (nI k)), some (.int (nI n)), some (.int (nI m))] [] μ := by
    intro n'
    induction n' with
    | zero => intro m h1 h2; omega
    | succ n' ih =>
      intro m h1 h2 h3
      have e0 : (nI m).toNatClampNeg = m := nI_clamp (by omega)
      have r57 := R.1 57 m rfl
      have r58 := R.1 58 m rfl
      have r59 := R.1 59 m rfl
      have c0 := ix_le (a := s_nX S) (b := m) (by omega) (by omega)
      refine hj _ _ _ _ ?_
      by_cases hm : m < s_nX S
      · obtain ⟨q1, q2, q3, -, -⟩ := hW.2.2.2.2.2.2 m hm
        have hT := hW.2.2.1.2
        have c1 := ix_eq (a := S.1 57 m) (b := t) (by omega) (by omega)
        have c2 := ix_eq (a := S.1 58 m) (b := k) (by omega) (by omega)
        have c3 := ix_eq (a := S.1 59 m) (b := n) (by omega) (by omega)
        have hs : s_decF S t k n (m + 1) = if S.1 57 m = t ∧ S.1 58 m = k ∧ S.1 59 m = n then some m else none := by simp only [s_decF, h3]
        repeat' (first | refine hjx _ _ _ _ (by decide) ?_ | refine ab_sd (vp_of (by first | exact ix_40 _ _ | exact ix_120 _ _ | exact ix_6 _ _ | exact ix_4 _ _ | with_reducible rfl) (by omega) (by omega)) ?_ | refine ab_sd ?_ ?_ | refine ab_sz (Or.inl rfl) ?_ | refine ab_sz (Or.inr rfl) ?_ | refine ab_sz ?_ ?_ | refine br_c (fun _ => ?_) (fun _ => ?_) | refine br_n (fun _ => ?_) (fun _ => ?_))
        · grind
        all_goals first | (rw [nI_1]; exact ih (m + 1) (by omega) (by omega) (by grind)) | (refine hQ _ ?_; unfold s_dec; rw [s_decF_step hm h3 (by grind)]; rfl)
      · have hm2 : m = s_nX S := by omega
        repeat' (first | refine hjx _ _ _ _ (by decide) ?_ | refine ab_sd (vp_of (by first | exact ix_40 _ _ | exact ix_120 _ _ | exact ix_6 _ _ | exact ix_4 _ _ | with_reducible rfl) (by omega) (by omega)) ?_ | refine ab_sd ?_ ?_ | refine ab_sz (Or.inl rfl) ?_ | refine ab_sz (Or.inr rfl) ?_ | refine ab_sz ?_ ?_ | refine br_c (fun _ => ?_) (fun _ => ?_) | refine br_n (fun _ => ?_) (fun _ => ?_))
        · exact hQ _ (by unfold s_dec; rw [← hm2, h3]; rfl)
        all_goals grind
  repeat' (first | refine hjx _ _ _ _ (by decide) ?_ | refine ab_sd (vp_of (by first | exact ix_40 _ _ | exact ix_120 _ _ | exact ix_6 _ _ | exact ix_4 _ _ | with_reducible rfl) (by omega) (by omega)) ?_ | refine ab_sd ?_ ?_ | refine ab_sz (Or.inl rfl) ?_ | refine ab_sz (Or.inr rfl) ?_ | refine ab_sz ?_ ?_ | refine br_c (fun _ => ?_) (fun _ => ?_) | refine br_n (fun _ => ?_) (fun _ => ?_))
  exact loop (s_nX S + 1) 0 (by omega) (by omega) rfl
theorem r_topOf (hω : ω.2.2.2 = ab_SH) (R : RepR S μ) (hW : Wf S) {x : Int32} {t : Nat} (ex : x = nI t) (ht : t < s_nT S) (hQ : ∀ r, r = nI (s_top S t) → Q r μ) : ab_CI l ω mX11_topOf [.ref 43, .int x] μ Q := by
  subst ex
  refine ab_intro (sh := ab_SH) (cd := kX11_topOf) hω vX11_topOf (by decide +kernel) rfl (Nat.le_of_ble_eq_true rfl) (fun j hj hw => ?_)
  have hjx : ∀ i ll st μ, i ≠ 2 → _ → j i ll st μ := fun i ll st μ _ h => hj i ll st μ h
  have hT := hW.2.2.1.2
  have loop : ∀ n' a, a < n' → a < s_nT S → (∀ r, r = nI (s_top S a) → Q r μ) → j 2 [some (.ref 43), some (.int (nI t)), some (.int (nI a))] [] μ := by
    intro n'
    induction n' with
    | zero => intro a h1; omega
    | succ n' ih =>
      intro a h1 h2 hQ
      have e0 : (nI a).toNatClampNeg = a := nI_clamp (by omega)
      have r49 := R.2.2 49 a (Or.inl rfl) h2
      have ho := (hW.2.2.2.2.2.1 a h2).2.2.2.2.2.2.1
      cases e : s_ou S a with
      | none =>
        have c1 : ab_o (s_ou S a) = -2 := by rw [e]; rfl
        have ht : s_top S a = a := by unfold s_top; rw [s_ch_none e]; rfl
        refine hj _ _ _ _ ?_
        repeat' (first | refine hjx _ _ _ _ (by decide) ?_ | refine ab_sd (vp_of (by first | exact ix_40 _ _ | exact ix_120 _ _ | exact ix_6 _ _ | exact ix_4 _ _ | with_reducible rfl) (by omega) (by omega)) ?_ | refine ab_sd ?_ ?_ | refine ab_sz (Or.inl rfl) ?_ | refine ab_sz (Or.inr rfl) ?_ | refine ab_sz ?_ ?_ | refine br_c (fun _ => ?_) (fun _ => ?_) | refine br_n (fun _ => ?_) (fun _ => ?_))
        · exact hQ _ (by rw [ht])
        · grind
      | some o =>
        have h3 := ho o e
        have c1 : ab_o (s_ou S a) = nI o := by rw [e]; rfl
        have c2 := nI_pos (n := o) (by omega)
        have ht : s_top S a = s_top S o := by
          unfold s_top
          rw [s_ch_some hW h2 e]
          cases hc : s_ch S o with
          | nil => unfold s_ch at hc; cases o <;> simp [s_chF] at hc
          | cons b r => simp [List.getLast?_cons]
        refine hj _ _ _ _ ?_
        repeat' (first | refine hjx _ _ _ _ (by decide) ?_ | refine ab_sd (vp_of (by first | exact ix_40 _ _ | exact ix_120 _ _ | exact ix_6 _ _ | exact ix_4 _ _ | with_reducible rfl) (by omega) (by omega)) ?_ | refine ab_sd ?_ ?_ | refine ab_sz (Or.inl rfl) ?_ | refine ab_sz (Or.inr rfl) ?_ | refine ab_sz ?_ ?_ | refine br_c (fun _ => ?_) (fun _ => ?_) | refine br_n (fun _ => ?_) (fun _ => ?_))
        · grind
        · rw [e0, r49, c1]
          exact ih o (by omega) (by omega) (by rw [← ht]; exact hQ)
  repeat' (first | refine hjx _ _ _ _ (by decide) ?_ | refine ab_sd (vp_of (by first | exact ix_40 _ _ | exact ix_120 _ _ | exact ix_6 _ _ | exact ix_4 _ _ | with_reducible rfl) (by omega) (by omega)) ?_ | refine ab_sd ?_ ?_ | refine ab_sz (Or.inl rfl) ?_ | refine ab_sz (Or.inr rfl) ?_ | refine ab_sz ?_ ?_ | refine br_c (fun _ => ?_) (fun _ => ?_) | refine br_n (fun _ => ?_) (fun _ => ?_))
  exact loop (t + 1) t (by omega) ht hQ
end R1
