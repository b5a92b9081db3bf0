/-! what is true of S, kept by each change -/
def Iv2 (S : sT) : Prop := Iv S ∧ ∀ u, u < 40 → s_ab S 0 u = false
theorem s_decF_e {S S' : sT} (h : ∀ k j, 57 ≤ k → k ≤ 59 → S'.1 k j = S.1 k j) : ∀ n t k x, s_decF S' t k x n = s_decF S t k x n
  | 0, _, _, _ => rfl
  | n + 1, t, k, x => by
    simp only [s_decF]
    rw [s_decF_e h n t k x, h 57 n (by omega) (by omega), h 58 n (by omega) (by omega), h 59 n (by omega) (by omega)]
theorem s_dec_e {S S' : sT} (h : ∀ k j, 57 ≤ k → k ≤ 59 → S'.1 k j = S.1 k j) (hn : s_nX S' = s_nX S) (t k x : Nat) : s_dec S' t k x = s_dec S t k x := by
  unfold s_dec
  rw [hn]
  exact s_decF_e h _ t k x
theorem s_dg_e {S S' : sT} (h : ∀ k j, 57 ≤ k → k ≤ 59 → S'.1 k j = S.1 k j) (hn : s_nX S' = s_nX S) (t g : Nat) : s_dg S' t g = s_dg S t g := s_dec_e h hn t _ _
theorem Iv_m {S S' : sT} (h : Iv2 S) (e1 : ∀ k j, 48 ≤ k → S'.1 k j = S.1 k j) (eT : s_nT S' = s_nT S) (eX : s_nX S' = s_nX S) (e56 : ∀ j, S'.2.1 56 j = S.2.1 56 j) (e2 : S'.2.2 = S.2.2) (hM : 1 ≤ s_nM S' ∧ s_nM S' ≤ 6) (hP : s_nP S ≤ s_nP S' ∧ s_nP S' ≤ 10) (h45 : ∀ p, p < s_nP S' → S'.1 45 p < s_nM S') (hF1 : ∀ m n, s_nM S' ≤ m → m < 6 → n < 6 → S'.2.1 44 (6 * m + n) = false) (hF2 : ∀ p, s_nP S' ≤ p → p < 10 → S'.2.1 47 p = false ∧ ∀ m, m < 6 → S'.2.1 46 (6 * p + m) = false) : Iv2 S' := by
  obtain ⟨⟨hW, hF, i3, i4, i5, i6, i7, i8⟩, hr⟩ := h
  obtain ⟨w1, w2, w3, w4, w5, w6, w7⟩ := hW
  have eab : ∀ t u, s_ab S' t u = s_ab S t u := fun t u => e56 _
  have epa : ∀ t, s_pa S' t = s_pa S t := fun t => by show S'.2.2 53 t = _; rw [e2]
  have eou : ∀ t, s_ou S' t = s_ou S t := fun t => by show S'.2.2 49 t = _; rw [e2]
  refine ⟨⟨⟨hM, ⟨by omega, hP.2⟩, by rw [eT]; exact w3, by rw [eX]; exact w4, h45, fun t ht => ?_, fun m hm => ?_⟩, ⟨hF1, hF2, fun t ht h40 => ?_, fun t u ht hu hor => ?_⟩, fun m hm => ?_, fun t p ht hp => ?_, fun t k ht hk => ?_, fun t u v ht hu hv a b => ?_, fun t k k' ht hk hk' e => ?_, fun t ht e => ?_⟩, fun u hu => ?_⟩
  · rw [eT] at ht
    have := w6 t ht
    rw [e1 48 t (by omega), e1 50 t (by omega), e1 51 t (by omega), e1 52 t (by omega), e1 55 t (by omega), eou, epa, eT]
    refine ⟨by omega, this.2.1, this.2.2.1, this.2.2.2.1, this.2.2.2.2.1, fun k hk => ?_, this.2.2.2.2.2.2.1, this.2.2.2.2.2.2.2⟩
    rw [e1 54 _ (by omega)]
    exact this.2.2.2.2.2.1 k hk
  · rw [eX] at hm
    rw [e1 57 m (by omega), e1 58 m (by omega), e1 59 m (by omega), e1 60 m (by omega), e1 61 m (by omega), eT]
    exact w7 m hm
  · rw [eT] at ht
    rw [e1 55 t (by omega)]
    exact hF.2.2.1 t ht h40
  · rw [eT] at hor
    rw [eab]
    exact hF.2.2.2 t u ht hu hor
  · rw [eX] at hm
    rw [s_dec_e (fun k j a b => e1 k j (by omega)) eX, e1 57 m (by omega), e1 58 m (by omega), e1 59 m (by omega)]
    exact i3 m hm
  · rw [eT] at ht
    rw [epa] at hp
    rw [eab]
    exact i4 t p ht hp
  · rw [eT] at ht
    rw [e1 55 t (by omega)] at hk
    rw [eab, e1 54 _ (by omega)]
    exact i5 t k ht hk
  · rw [eT] at ht hu hv
    rw [eab] at a b ⊢
    exact i6 t u v ht hu hv a b
  · rw [eT] at ht
    rw [e1 55 t (by omega)] at hk hk'
    rw [e1 54 _ (by omega), e1 54 _ (by omega)] at e
    exact i7 t k k' ht hk hk' e
  · rw [eT] at ht
    rw [eou] at e
    rw [e1 51 t (by omega)]
    exact i8 t ht e
  · rw [eab]
    exact hr u hu
theorem Iv_module {S : sT} (h : Iv2 S) : Iv2 (o_module S) := by
  unfold o_module
  obtain ⟨w1, w2, w3, w4, w5, w6, w7⟩ := h.1.1
  have hF := h.1.2.1
  by_cases q : s_nM S = 6
  · rw [if_pos q]; exact h
  · rw [if_neg q]
    have eM : s_nM (s_un (s_ub S 44 (6 * s_nM S) true) 43 0 (s_nM S + 1)) = s_nM S + 1 := un_eq
    have eP : s_nP (s_un (s_ub S 44 (6 * s_nM S) true) 43 0 (s_nM S + 1)) = s_nP S := un_ne (by omega)
    refine Iv_m h (fun k j hk => un_ne (by omega)) (un_ne (by omega)) (un_ne (by omega)) (fun j => ub_ne (by omega)) rfl (by rw [eM]; omega) (by rw [eP]; omega) (fun p hp => ?_) (fun m n hm h6 hn => ?_) (fun p hp h10 => ?_)
    · rw [eP] at hp
      rw [eM, un_ne (by omega)]
      have := w5 p hp
      show S.1 45 p < _
      omega
    · rw [eM] at hm
      show (s_ub S 44 (6 * s_nM S) true).2.1 44 (6 * m + n) = false
      rw [ub_ne (by omega)]
      exact hF.1 m n (by omega) h6 hn
    · rw [eP] at hp
      show (s_ub S 44 (6 * s_nM S) true).2.1 47 p = false ∧ ∀ m, m < 6 → (s_ub S 44 (6 * s_nM S) true).2.1 46 (6 * p + m) = false
      rw [ub_ne (by omega)]
      refine ⟨(hF.2.1 p hp h10).1, fun m hm => ?_⟩
      rw [ub_ne (by omega)]
      exact (hF.2.1 p hp h10).2 m hm
theorem Iv_reads {S : sT} (h : Iv2 S) (x y : Int32) : Iv2 (o_reads S x y) := by
  unfold o_reads
  obtain ⟨w1, w2, w3, w4, w5, w6, w7⟩ := h.1.1
  have hF := h.1.2.1
  by_cases q : a_reads S x y = 1
  · rw [if_pos q]
    unfold a_reads at q
    cases hc : (ab_ok (s_nM S) x && ab_ok (s_nM S) y) with
    | false => rw [hc] at q; exact absurd (show (-1 : Int32) = 1 from q) (by decide)
    | true =>
      simp only [Bool.and_eq_true] at hc
      obtain ⟨m, hm, rfl⟩ := ab_ok_t (by omega) hc.1
      obtain ⟨n, hn, rfl⟩ := ab_ok_t (by omega) hc.2
      rw [nI_clamp (by omega), nI_clamp (by omega)]
      refine Iv_m h (fun k j hk => rfl) rfl rfl (fun j => ub_ne (by omega)) rfl w1 ⟨Nat.le_refl _, w2.2⟩ w5 (fun m' n' hm' h6 hn' => ?_) (fun p hp h10 => ?_)
      · have hm2 : s_nM S ≤ m' := hm'
        rw [ub_ne (by omega)]
        exact hF.1 m' n' hm' h6 hn'
      · have := hF.2.1 p hp h10
        rw [ub_ne (by omega)]
        refine ⟨this.1, fun m' hm' => ?_⟩
        rw [ub_ne (by omega)]
        exact this.2 m' hm'
  · rw [if_neg q]; exact h
theorem Iv_pack {S : sT} (h : Iv2 S) (x : Int32) : Iv2 (o_pack S x) := by
  unfold o_pack
  obtain ⟨w1, w2, w3, w4, w5, w6, w7⟩ := h.1.1
  have hF := h.1.2.1
  by_cases q : ab_ok (s_nM S) x = true ∧ ¬ s_nP S = 10
  · rw [if_pos q]
    obtain ⟨m, hm, rfl⟩ := ab_ok_t (by omega) q.1
    rw [nI_clamp (by omega)]
    have eM : s_nM (s_un (s_un S 45 (s_nP S) m) 43 2 (s_nP S + 1)) = s_nM S := by
      show (s_un (s_un S 45 (s_nP S) m) 43 2 (s_nP S + 1)).1 43 0 = _
      rw [un_ne (by omega), un_ne (by omega)]
    have eP : s_nP (s_un (s_un S 45 (s_nP S) m) 43 2 (s_nP S + 1)) = s_nP S + 1 := un_eq
    refine Iv_m h (fun k j hk => by rw [un_ne (by omega), un_ne (by omega)]) (by show (s_un (s_un S 45 (s_nP S) m) 43 2 (s_nP S + 1)).1 43 6 = _; rw [un_ne (by omega), un_ne (by omega)]) (by show (s_un (s_un S 45 (s_nP S) m) 43 2 (s_nP S + 1)).1 43 16 = _; rw [un_ne (by omega), un_ne (by omega)]) (fun j => rfl) rfl (by rw [eM]; exact w1) (by rw [eP]; omega) (fun p hp => ?_) (fun m' n hm' h6 hn => ?_) (fun p hp h10 => ?_)
    · rw [eP] at hp
      rw [eM, un_ne (by omega)]
      by_cases e : p = s_nP S
      · subst e; rw [un_eq]; exact hm
      · rw [un_ne (by omega)]; exact w5 p (by omega)
    · rw [eM] at hm'
      exact hF.1 m' n hm' h6 hn
    · rw [eP] at hp
      exact hF.2.1 p (by omega) h10
  · rw [if_neg q]; exact h
theorem Iv_export {S : sT} (h : Iv2 S) (x y : Int32) : Iv2 (o_export S x y) := by
  unfold o_export
  obtain ⟨w1, w2, w3, w4, w5, w6, w7⟩ := h.1.1
  have hF := h.1.2.1
  by_cases q : a_export S x y = 1
  · rw [if_pos q]
    unfold a_export at q
    cases hc : (ab_ok (s_nP S) x && (y == -1 || ab_ok (s_nM S) y)) with
    | false => rw [hc] at q; exact absurd (show (-1 : Int32) = 1 from q) (by decide)
    | true =>
      simp only [Bool.and_eq_true, Bool.or_eq_true] at hc
      obtain ⟨p, hp, rfl⟩ := ab_ok_t (by omega) hc.1
      rw [nI_clamp (by omega)]
      by_cases qy : y = -1
      · rw [if_pos qy]
        refine Iv_m h (fun k j hk => rfl) rfl rfl (fun j => ub_ne (by omega)) rfl w1 ⟨Nat.le_refl _, w2.2⟩ w5 (fun m' n' hm' h6 hn' => ?_) (fun p' hp' h10 => ?_)
        · rw [ub_ne (by omega)]
          exact hF.1 m' n' hm' h6 hn'
        · have hp2 : s_nP S ≤ p' := hp'
          have := hF.2.1 p' hp' h10
          rw [ub_ne (by omega)]
          refine ⟨this.1, fun m' hm' => ?_⟩
          rw [ub_ne (by omega)]
          exact this.2 m' hm'
      · rw [if_neg qy]
        have hy : ab_ok (s_nM S) y = true := by
          rcases hc.2 with a | a
          · exact absurd (by simpa using a) qy
          · exact a
        obtain ⟨m, hm, rfl⟩ := ab_ok_t (by omega) hy
        rw [nI_clamp (by omega)]
        refine Iv_m h (fun k j hk => rfl) rfl rfl (fun j => ub_ne (by omega)) rfl w1 ⟨Nat.le_refl _, w2.2⟩ w5 (fun m' n' hm' h6 hn' => ?_) (fun p' hp' h10 => ?_)
        · rw [ub_ne (by omega)]
          exact hF.1 m' n' hm' h6 hn'
        · have hp2 : s_nP S ≤ p' := hp'
          have := hF.2.1 p' hp' h10
          rw [ub_ne (by omega)]
          refine ⟨this.1, fun m' hm' => ?_⟩
          rw [ub_ne (by omega)]
          exact this.2 m' hm'
  · rw [if_neg q]; exact h
