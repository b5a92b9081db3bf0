/-! MEMBERS OF, OVERRIDES: the values -/
def Rk (S : sT) (ρ : Nat → Nat) : Prop := (∀ t, t < s_nT S → ρ t < 40 ∧ (∀ p, s_pa S t = some p → ρ p < ρ t) ∧ (∀ k, k < S.1 55 t → ρ (S.1 54 (4 * t + k)) < ρ t)) ∧ (∀ t u, t < s_nT S → u < s_nT S → s_ab S t u = true → ρ u < ρ t)
def s_ofF (S : sT) : Nat → Nat → Nat → Bool
  | 0, _, _ => false
  | n + 1, t, m => s_ofS S (fun j => s_ofF S n (j / 120) (j % 120)) t m
def s_of (S : sT) (t m : Nat) : Bool := s_ofF S 41 t m
def s_ovF (S : sT) : Nat → Nat → Nat → Bool
  | 0, _, _ => false
  | n + 1, d, a => s_ovS S (fun j => s_ovF S n (j / 120) (j % 120)) d a
def s_ov (S : sT) (d a : Nat) : Bool := s_ovF S 41 d a
theorem s_ofS_c {S : sT} (hX : s_nX S ≤ 120) {O O' : Nat → Bool} {t m : Nat} (hm : m < s_nX S) (hp : ∀ p, s_pa S t = some p → ∀ m, m < s_nX S → O (120 * p + m) = O' (120 * p + m)) (hf : ∀ k, k < S.1 55 t → ∀ m, m < s_nX S → O (120 * S.1 54 (4 * t + k) + m) = O' (120 * S.1 54 (4 * t + k) + m)) : s_ofS S O t m = s_ofS S O' t m := by
  have e1 : ∀ x, x < s_nX S → s_cfp S O t x = s_cfp S O' t x := by
    intro x hx
    unfold s_cfp
    cases e : s_pa S t with
    | none => rfl
    | some p => simp only [hp p e x hx]
  have e2 : ∀ x, x < s_nX S → s_ofp S O t x = s_ofp S O' t x := by
    intro x hx
    unfold s_ofp
    cases e : s_pa S t with
    | none => rfl
    | some p => simp only [hp p e x hx]
  have e3 : ∀ x, x < s_nX S → s_iof S O t x = s_iof S O' t x := by
    intro x hx
    unfold s_iof
    exact ab_ex_congr (fun k hk => hf k hk x hx)
  have e4 : s_bh S O t m = s_bh S O' t m := by
    unfold s_bh
    refine ab_ex_congr (fun x hx => ?_)
    unfold s_bh1
    rw [e1 x hx, e2 x hx, e3 x hx]
  unfold s_ofS
  rw [e1 m hm, e3 m hm, e4]
theorem s_dm (p m : Nat) (h : m < 120) : (120 * p + m) / 120 = p ∧ (120 * p + m) % 120 = m := by omega
theorem s_ofF_st {S : sT} {ρ : Nat → Nat} (hW : Wf S) (hR : Rk S ρ) : ∀ (n n' t m : Nat), t < s_nT S → m < s_nX S → ρ t < n → ρ t < n' → s_ofF S n t m = s_ofF S n' t m
  | 0, n', t, m, ht, hm, h1, h2 => by omega
  | n + 1, 0, t, m, ht, hm, h1, h2 => by omega
  | n + 1, n' + 1, t, m, ht, hm, h1, h2 => by
    have hX := hW.2.2.2.1
    obtain ⟨-, -, -, -, -, t6, -, t8⟩ := hW.2.2.2.2.2.1 t ht
    obtain ⟨-, r2, r3⟩ := hR.1 t ht
    simp only [s_ofF]
    refine s_ofS_c hX hm (fun p e x hx => ?_) (fun k hk x hx => ?_)
    · have := r2 p e
      simp only [(s_dm p x (by omega)).1, (s_dm p x (by omega)).2]
      exact s_ofF_st hW hR n n' p x (t8 p e) hx (by omega) (by omega)
    · have := r3 k hk
      simp only [(s_dm _ x (show x < 120 by omega)).1, (s_dm _ x (show x < 120 by omega)).2]
      exact s_ofF_st hW hR n n' _ x (t6 k hk) hx (by omega) (by omega)
/-- the equation, with any picture that is right at the PARENT and the FACES -/
theorem s_of_eq {S : sT} {ρ : Nat → Nat} (hW : Wf S) (hR : Rk S ρ) {t m : Nat} (ht : t < s_nT S) (hm : m < s_nX S) {O : Nat → Bool} (hp : ∀ p, s_pa S t = some p → ∀ m, m < s_nX S → O (120 * p + m) = s_of S p m) (hf : ∀ k, k < S.1 55 t → ∀ m, m < s_nX S → O (120 * S.1 54 (4 * t + k) + m) = s_of S (S.1 54 (4 * t + k)) m) : s_ofS S O t m = s_of S t m := by
  have hX := hW.2.2.2.1
  obtain ⟨-, -, -, -, -, t6, -, t8⟩ := hW.2.2.2.2.2.1 t ht
  obtain ⟨r1, r2, r3⟩ := hR.1 t ht
  show _ = s_ofS S (fun j => s_ofF S 40 (j / 120) (j % 120)) t m
  refine s_ofS_c hX hm (fun p e x hx => ?_) (fun k hk x hx => ?_)
  · have := r2 p e
    rw [hp p e x hx]
    simp only [(s_dm p x (by omega)).1, (s_dm p x (by omega)).2]
    exact s_ofF_st hW hR 41 40 p x (t8 p e) hx (by omega) (by omega)
  · have := r3 k hk
    rw [hf k hk x hx]
    simp only [(s_dm _ x (show x < 120 by omega)).1, (s_dm _ x (show x < 120 by omega)).2]
    exact s_ofF_st hW hR 41 40 _ x (t6 k hk) hx (by omega) (by omega)
theorem s_can_rk {S : sT} {ρ : Nat → Nat} (hW : Wf S) (hR : Rk S ρ) {d a : Nat} (hd : d < s_nX S) (ha : a < s_nX S) (h : s_can S d a = true) : ρ (S.1 57 a) < ρ (S.1 57 d) := by
  unfold s_can at h
  simp only [Bool.and_eq_true] at h
  exact hR.2 _ _ (hW.2.2.2.2.2.2 d hd).1 (hW.2.2.2.2.2.2 a ha).1 h.2
theorem s_ovF_can {S : sT} {n d a : Nat} (h : s_can S d a = false) : s_ovF S n d a = false := by
  cases n with
  | zero => rfl
  | succ n => simp [s_ovF, s_ovS, h]
theorem s_ov_un {S : sT} {ρ : Nat → Nat} (hW : Wf S) (hR : Rk S ρ) {V : Nat → Bool} (hV : ∀ d a, d < s_nX S → a < s_nX S → V (120 * d + a) = s_ovS S V d a) : ∀ (n d a : Nat), d < s_nX S → a < s_nX S → ρ (S.1 57 d) < ρ (S.1 57 a) + n → V (120 * d + a) = s_ovF S n d a
  | 0, d, a, hd, ha, h => by
    rw [hV d a hd ha]
    cases hc : s_can S d a with
    | false => simp [s_ovF, s_ovS, hc]
    | true => have := s_can_rk hW hR hd ha hc; omega
  | n + 1, d, a, hd, ha, h => by
    have hX := hW.2.2.2.1
    rw [hV d a hd ha]
    cases hc : s_can S d a with
    | false => simp [s_ovF, s_ovS, hc]
    | true =>
      have h0 := s_can_rk hW hR hd ha hc
      simp only [s_ovF, s_ovS]
      congr 2
      unfold s_by
      refine ab_ex_congr (fun b hb => ?_)
      simp only [(s_dm d b (by omega)).1, (s_dm d b (by omega)).2, (s_dm b a (by omega)).1, (s_dm b a (by omega)).2]
      congr 1
      cases c1 : s_can S d b with
      | false =>
        have e1 : V (120 * d + b) = false := by rw [hV d b hd hb]; simp [s_ovS, c1]
        rw [e1, s_ovF_can c1]; rfl
      | true =>
        cases c2 : s_can S b a with
        | false =>
          have e1 : V (120 * b + a) = false := by rw [hV b a hb ha]; simp [s_ovS, c2]
          rw [e1, s_ovF_can c2]; simp
        | true =>
          have h1 := s_can_rk hW hR hd hb c1
          have h2 := s_can_rk hW hR hb ha c2
          rw [s_ov_un hW hR hV n d b hd hb (by omega), s_ov_un hW hR hV n b a hb ha (by omega)]
def KB (μ : ab_M) : Prop := (∃ O : Nat → Bool, ∀ j, μ.1 62 j = ab_z (O j)) ∧ (∃ O : Nat → Bool, ∀ j, μ.1 63 j = ab_z (O j)) ∧ (∃ O : Nat → Bool, ∀ j, μ.1 64 j = ab_z (O j)) ∧ (∃ O : Nat → Bool, ∀ j, μ.1 65 j = ab_z (O j))
def CacheOK (S : sT) (μ : ab_M) : Prop := (∀ t m, t < s_nT S → m < s_nX S → μ.1 62 (120 * t + m) = ab_z (s_of S t m)) ∧ (∀ d a, d < s_nX S → a < s_nX S → μ.1 64 (120 * d + a) = ab_z (s_ov S d a))
def CacheR (S : sT) (μ : ab_M) : Prop := KB μ ∧ (μ.1 43 22 = 0 ∨ (μ.1 43 22 = 1 ∧ CacheOK S μ))
theorem s_exr {S : sT} {ρ : Nat → Nat} (hW : Wf S) (hR : Rk S ρ) {D : Nat → Bool} : ∀ (n u : Nat), ρ u < n → u < s_nT S → D u = false → ∃ v, v < s_nT S ∧ D v = false ∧ s_rdy S D v = true
  | 0, u, h, _, _ => by omega
  | n + 1, u, h, hu, hd => by
    obtain ⟨-, -, -, -, -, t6, -, t8⟩ := hW.2.2.2.2.2.1 u hu
    obtain ⟨-, r2, r3⟩ := hR.1 u hu
    cases hr : s_rdy S D u with
    | true => exact ⟨u, hu, hd, hr⟩
    | false =>
      unfold s_rdy at hr
      rw [Bool.and_eq_false_iff] at hr
      rcases hr with hr | hr
      · cases e : s_pa S u with
        | none => rw [e] at hr; cases hr
        | some p =>
          rw [e] at hr
          have := r2 p e
          exact s_exr hW hR n p (by omega) (t8 p e) hr
      · have : ¬ ∀ k, k < S.1 55 u → D (S.1 54 (4 * u + k)) = true := fun q => by rw [ab_al_iff.mpr q] at hr; cases hr
        have : ∃ k, k < S.1 55 u ∧ D (S.1 54 (4 * u + k)) = false := by
          apply Classical.byContradiction
          intro q
          refine this (fun k hk => ?_)
          cases hb : D (S.1 54 (4 * u + k)) with
          | true => rfl
          | false => exact absurd ⟨k, hk, hb⟩ q
        obtain ⟨k, hk, hb⟩ := this
        have := r3 k hk
        exact s_exr hW hR n _ (by omega) (t6 k hk) hb
theorem ab_cnt_full {f : Nat → Bool} : ∀ {n : Nat}, ab_cnt f n = n → ∀ i, i < n → f i = true
  | 0, _, i, hi => by omega
  | n + 1, h, i, hi => by
    have h1 := ab_cnt_le f n
    simp only [ab_cnt] at h
    cases hf : f n with
    | false => rw [hf] at h; simp at h; omega
    | true =>
      rw [hf] at h
      by_cases e : i = n
      · subst e; exact hf
      · exact ab_cnt_full (n := n) (by simpa using h) i (by omega)
theorem ab_cnt_not {f : Nat → Bool} : ∀ {n : Nat}, ab_cnt f n < n → ∃ i, i < n ∧ f i = false
  | 0, h => by omega
  | n + 1, h => by
    simp only [ab_cnt] at h
    cases hf : f n with
    | false => exact ⟨n, by omega, hf⟩
    | true =>
      rw [hf] at h
      simp at h
      obtain ⟨i, h1, h2⟩ := ab_cnt_not h
      exact ⟨i, by omega, h2⟩
theorem ab_cnt_zero {f : Nat → Bool} : ∀ {n : Nat}, (∀ i, i < n → f i = false) → ab_cnt f n = 0
  | 0, _ => rfl
  | n + 1, h => by
    simp only [ab_cnt]
    rw [ab_cnt_zero (fun i hi => h i (by omega)), h n (by omega)]
    rfl
