/-! what is true of S, kept by parent, face, type, member -/
theorem ab_A2_tr {N : Nat} {A : Nat → Nat → Bool} {t u : Nat} (htr : ∀ a b c, a < N → b < N → c < N → A a b = true → A b c = true → A a c = true) (ht : t < N) (hu : u < N) {a b c : Nat} (ha : a < N) (hb : b < N) (hc : c < N) (h1 : ab_A2 A t u a b = true) (h2 : ab_A2 A t u b c = true) : ab_A2 A t u a c = true := by
  have lo : ∀ a b, a < N → b < N → A a b = true → ab_at A b t = true → ab_at A a t = true := by
    intro a b ha hb g1 g2
    unfold ab_at at g2 ⊢
    simp only [Bool.or_eq_true, beq_iff_eq] at g2 ⊢
    rcases g2 with e | g2
    · exact Or.inr (by rw [← e]; exact g1)
    · exact Or.inr (htr a b t ha hb ht g1 g2)
  have up : ∀ b c, b < N → c < N → A b c = true → ab_at A u b = true → ab_at A u c = true := by
    intro b c hb hc g1 g2
    unfold ab_at at g2 ⊢
    simp only [Bool.or_eq_true, beq_iff_eq] at g2 ⊢
    rcases g2 with e | g2
    · exact Or.inr (by rw [e]; exact g1)
    · exact Or.inr (htr u b c hu hb hc g2 g1)
  unfold ab_A2 at h1 h2 ⊢
  simp only [Bool.or_eq_true, Bool.and_eq_true] at h1 h2 ⊢
  rcases h1 with h1 | h1
  · rcases h2 with h2 | h2
    · exact Or.inl (htr a b c ha hb hc h1 h2)
    · exact Or.inr ⟨lo a b ha hb h1 h2.1, h2.2⟩
  · rcases h2 with h2 | h2
    · exact Or.inr ⟨h1.1, up b c hb hc h2 h1.2⟩
    · exact Or.inr ⟨h1.1, h2.2⟩
theorem Iv_raise {S S1 : sT} (h : Iv2 S) {t u : Nat} (ht : t < s_nT S) (hu : u < s_nT S) (t0 : ¬ t = 0) (e1 : ∀ k j, k ≠ 54 → k ≠ 55 → S1.1 k j = S.1 k j) (e2 : S1.2.1 = S.2.1) (eou : ∀ j, s_ou S1 j = s_ou S j)
    (hpa : ∀ t' p', t' < s_nT S → s_pa S1 t' = some p' → s_pa S t' = some p' ∨ (t' = t ∧ p' = u))
    (hf : ∀ t' k, t' < s_nT S → k < S1.1 55 t' → (∃ k', k' < S.1 55 t' ∧ S1.1 54 (4 * t' + k) = S.1 54 (4 * t' + k')) ∨ (t' = t ∧ S1.1 54 (4 * t' + k) = u))
    (h55 : ∀ t', t' < s_nT S → S1.1 55 t' ≤ 4) (h55z : ∀ t', s_nT S ≤ t' → t' < 40 → S1.1 55 t' = 0)
    (hd : ∀ t' k k', t' < s_nT S → k < S1.1 55 t' → k' < S1.1 55 t' → S1.1 54 (4 * t' + k) = S1.1 54 (4 * t' + k') → k = k') : Iv2 (s_raise S1 t u) := by
  obtain ⟨⟨hW, hF, i3, i4, i5, i6, i7, i8⟩, hr⟩ := h
  obtain ⟨w1, w2, w3, w4, w5, w6, w7⟩ := hW
  have eT : S1.1 43 6 = S.1 43 6 := e1 43 6 (by omega) (by omega)
  have eX : S1.1 43 16 = S.1 43 16 := e1 43 16 (by omega) (by omega)
  have eM : S1.1 43 0 = S.1 43 0 := e1 43 0 (by omega) (by omega)
  have eP : S1.1 43 2 = S.1 43 2 := e1 43 2 (by omega) (by omega)
  have eT' : s_nT (s_raise S1 t u) = s_nT S := eT
  have hT := w3.2
  have abS1 : ∀ a b, s_ab S1 a b = s_ab S a b := fun a b => by show S1.2.1 56 _ = S.2.1 56 _; rw [e2]
  have ab1 : ∀ a b, a < s_nT S → b < s_nT S → s_ab (s_raise S1 t u) a b = ab_A2 (s_ab S) t u a b := by
    intro a b ha hb
    rw [s_ab_raise (by show a < S1.1 43 6; rw [eT]; exact ha) (by show b < S1.1 43 6; rw [eT]; exact hb) (by show S1.1 43 6 ≤ 40; rw [eT]; exact hT)]
    unfold ab_A2 ab_at
    simp only [abS1]
  have mono : ∀ a b, a < s_nT S → b < s_nT S → s_ab S a b = true → s_ab (s_raise S1 t u) a b = true := by
    intro a b ha hb hab
    rw [ab1 a b ha hb]
    unfold ab_A2
    rw [hab]; rfl
  have new : s_ab (s_raise S1 t u) t u = true := by
    rw [ab1 t u ht hu]
    unfold ab_A2 ab_at
    simp
  have o21 : ∀ k j, ¬ k = 56 → (s_raise S1 t u).2.1 k j = S.2.1 k j := fun k j hk => by
    show (if k = 56 then _ else S1.2.1 k j) = _
    rw [if_neg hk, e2]
  have f1 : ∀ k j, k ≠ 54 → k ≠ 55 → (s_raise S1 t u).1 k j = S.1 k j := e1
  refine ⟨⟨⟨?_, ?_, ?_, ?_, fun p hp => ?_, fun t' ht' => ?_, fun m hm => ?_⟩, ⟨fun m n hm h6 hn => ?_, fun p hp h10 => ?_, fun t' ht' h40 => ?_, fun a b ha hb hor => ?_⟩, fun m hm => ?_, fun t' p' ht' hp' => ?_, fun t' k ht' hk => ?_, fun a b c ha hb hc h1 h2 => ?_, fun t' k k' ht' hk hk' e => ?_, fun t' ht' e => ?_⟩, fun v hv => ?_⟩
  · show 1 ≤ S1.1 43 0 ∧ S1.1 43 0 ≤ 6; rw [eM]; exact w1
  · show 1 ≤ S1.1 43 2 ∧ S1.1 43 2 ≤ 10; rw [eP]; exact w2
  · show 1 ≤ S1.1 43 6 ∧ S1.1 43 6 ≤ 40; rw [eT]; exact w3
  · show S1.1 43 16 ≤ 120; rw [eX]; exact w4
  · have hp : p < S1.1 43 2 := hp
    rw [eP] at hp
    show S1.1 45 p < S1.1 43 0
    rw [eM, e1 45 p (by omega) (by omega)]
    exact w5 p hp
  · rw [eT'] at ht'
    have := w6 t' ht'
    rw [eT', f1 48 t' (by omega) (by omega), f1 50 t' (by omega) (by omega), f1 51 t' (by omega) (by omega), f1 52 t' (by omega) (by omega)]
    refine ⟨?_, this.2.1, this.2.2.1, this.2.2.2.1, h55 t' ht', fun k hk => ?_, fun o ho => ?_, fun p hp => ?_⟩
    · show _ < S1.1 43 2; rw [eP]; exact this.1
    · rcases hf t' k ht' hk with ⟨k', hk', e⟩ | ⟨e, e'⟩
      · show S1.1 54 (4 * t' + k) < _
        rw [e]
        exact this.2.2.2.2.2.1 k' hk'
      · show S1.1 54 (4 * t' + k) < _
        rw [e']; exact hu
    · have ho : s_ou S1 t' = some o := ho
      rw [eou] at ho
      exact this.2.2.2.2.2.2.1 o ho
    · rcases hpa t' p ht' hp with e | ⟨e, e'⟩
      · exact this.2.2.2.2.2.2.2 p e
      · rw [e']; exact hu
  · have hm : m < S1.1 43 16 := hm
    rw [eX] at hm
    rw [eT', f1 57 m (by omega) (by omega), f1 58 m (by omega) (by omega), f1 59 m (by omega) (by omega), f1 60 m (by omega) (by omega), f1 61 m (by omega) (by omega)]
    exact w7 m hm
  · have hm : S1.1 43 0 ≤ m := hm
    rw [eM] at hm
    rw [o21 44 _ (by omega)]
    exact hF.1 m n hm h6 hn
  · have hp : S1.1 43 2 ≤ p := hp
    rw [eP] at hp
    rw [o21 47 _ (by omega)]
    refine ⟨(hF.2.1 p hp h10).1, fun m hm => ?_⟩
    rw [o21 46 _ (by omega)]
    exact (hF.2.1 p hp h10).2 m hm
  · rw [eT'] at ht'
    exact h55z t' ht' h40
  · rw [eT'] at hor
    have h0 := hF.2.2.2 a b ha hb hor
    show s_rsB S1 t u (40 * a + b) = false
    unfold s_rsB
    rw [show (40 * a + b) / 40 = a by omega, show (40 * a + b) % 40 = b by omega, e2]
    have h0' : S.2.1 56 (40 * a + b) = false := h0
    rw [h0']
    have : (decide (a < s_nT S1) && decide (b < s_nT S1)) = false := by
      show (decide (a < S1.1 43 6) && decide (b < S1.1 43 6)) = false
      rw [eT]
      rcases hor with q | q
      · simp [show ¬ a < S.1 43 6 from Nat.not_lt.mpr q]
      · simp [show ¬ b < S.1 43 6 from Nat.not_lt.mpr q]
    rw [this]; rfl
  · have hm : m < S1.1 43 16 := hm
    rw [eX] at hm
    rw [s_dec_e (S := S) (fun k j a b => f1 k j (by omega) (by omega)) eX, f1 57 m (by omega) (by omega), f1 58 m (by omega) (by omega), f1 59 m (by omega) (by omega)]
    exact i3 m hm
  · rw [eT'] at ht'
    rcases hpa t' p' ht' hp' with e | ⟨rfl, rfl⟩
    · exact mono t' p' ht' ((w6 t' ht').2.2.2.2.2.2.2 p' e) (i4 t' p' ht' e)
    · exact new
  · rw [eT'] at ht'
    rcases hf t' k ht' hk with ⟨k', hk', e⟩ | ⟨e', e⟩
    · show s_ab _ t' (S1.1 54 (4 * t' + k)) = true
      rw [e]
      exact mono _ _ ht' ((w6 t' ht').2.2.2.2.2.1 k' hk') (i5 t' k' ht' hk')
    · show s_ab _ t' (S1.1 54 (4 * t' + k)) = true
      rw [e, e']
      exact new
  · rw [eT'] at ha hb hc
    rw [ab1 _ _ ha hb] at h1
    rw [ab1 _ _ hb hc] at h2
    rw [ab1 _ _ ha hc]
    exact ab_A2_tr i6 ht hu ha hb hc h1 h2
  · rw [eT'] at ht'
    exact hd t' k k' ht' hk hk' e
  · rw [eT'] at ht'
    have e : s_ou S1 t' = none := e
    rw [eou] at e
    rw [f1 51 t' (by omega) (by omega)]
    exact i8 t' ht' e
  · show s_rsB S1 t u (40 * 0 + v) = false
    unfold s_rsB
    rw [show (40 * 0 + v) / 40 = 0 by omega, show (40 * 0 + v) % 40 = v by omega, e2]
    have h0 := hr v hv
    have h0' : S.2.1 56 (40 * 0 + v) = false := h0
    rw [h0']
    have : s_at S1 0 t = false := by
      unfold s_at
      rw [abS1, hr t (by omega)]
      have : ¬ (0 = t) := fun q => t0 q.symm
      simp [this]
    rw [this]; simp
theorem Iv_parent {S : sT} (h : Iv2 S) (x y : Int32) : Iv2 (o_parent S x y) := by
  unfold o_parent
  have hW := h.1.1
  have hT := hW.2.2.1.2
  by_cases q : a_parent S x y = 1
  · rw [if_pos q]
    unfold a_parent at q
    cases hc : (ab_ok (s_nT S) x && ab_ok (s_nT S) y && v_par S x.toNatClampNeg y.toNatClampNeg) with
    | false => rw [hc] at q; exact absurd (show (-1 : Int32) = 1 from q) (by decide)
    | true =>
      simp only [Bool.and_eq_true] at hc
      obtain ⟨t, ht, rfl⟩ := ab_ok_t (by omega) hc.1.1
      obtain ⟨p, hp, rfl⟩ := ab_ok_t (by omega) hc.1.2
      have hv := hc.2
      rw [nI_clamp (by omega), nI_clamp (by omega)] at hv ⊢
      unfold v_par at hv
      simp at hv
      refine Iv_raise h ht hp hv.2 (fun k j _ _ => rfl) rfl (fun j => ?_) (fun t' p' ht' hp' => ?_) (fun t' k ht' hk => Or.inl ⟨k, hk, rfl⟩) (fun t' ht' => (hW.2.2.2.2.2.1 t' ht').2.2.2.2.1) (fun t' ht' h40 => h.1.2.1.2.2.1 t' ht' h40) (fun t' k k' ht' hk hk' e => h.1.2.2.2.2.2.2.1 t' k k' ht' hk hk' e)
      · show (if 49 = 53 ∧ j = t then some p else S.2.2 49 j) = S.2.2 49 j
        simp
      · have hp' : (if 53 = 53 ∧ t' = t then some p else S.2.2 53 t') = some p' := hp'
        by_cases e : t' = t
        · simp [e] at hp'
          exact Or.inr ⟨e, hp'.symm⟩
        · simp [e] at hp'
          exact Or.inl hp'
  · rw [if_neg q]; exact h
theorem Iv_face {S : sT} (h : Iv2 S) (x y : Int32) : Iv2 (o_face S x y) := by
  unfold o_face
  have hW := h.1.1
  have hT := hW.2.2.1.2
  split
  · rename_i q
    simp only [Bool.and_eq_true, Bool.not_eq_true', beq_eq_false_iff_ne] at q
    obtain ⟨t, ht, rfl⟩ := ab_ok_t (by omega) q.1.1.1.1.1.1
    obtain ⟨p, hp, rfl⟩ := ab_ok_t (by omega) q.1.1.1.1.1.2
    rw [nI_clamp (by omega), nI_clamp (by omega)] at q ⊢
    have t0 := q.1.1.1.2
    have hnf := q.1.2
    have h4 := q.2
    have h5 := (hW.2.2.2.2.2.1 t ht).2.2.2.2.1
    have e55 : ∀ t', (s_un (s_un S 54 (4 * t + S.1 55 t) p) 55 t (S.1 55 t + 1)).1 55 t' = if t' = t then S.1 55 t + 1 else S.1 55 t' := by
      intro t'
      by_cases e : t' = t
      · rw [e, un_eq, if_pos rfl]
      · rw [un_ne (by omega), un_ne (by omega), if_neg e]
    have e54 : ∀ j, (s_un (s_un S 54 (4 * t + S.1 55 t) p) 55 t (S.1 55 t + 1)).1 54 j = if j = 4 * t + S.1 55 t then p else S.1 54 j := by
      intro j
      rw [un_ne (by omega)]
      by_cases e : j = 4 * t + S.1 55 t
      · rw [e, un_eq, if_pos rfl]
      · rw [un_ne (by omega), if_neg e]
    refine Iv_raise h ht hp t0 (fun k j a b => ?_) rfl (fun j => rfl) (fun t' p' ht' hp' => Or.inl hp') (fun t' k ht' hk => ?_) (fun t' ht' => ?_) (fun t' ht' h40 => ?_) (fun t' k k' ht' hk hk' e => ?_)
    · rw [un_ne (by omega), un_ne (by omega)]
    · have h5' := (hW.2.2.2.2.2.1 t' ht').2.2.2.2.1
      rw [e55] at hk
      rw [e54]
      by_cases e : t' = t
      · subst e
        rw [if_pos rfl] at hk
        by_cases e2 : k = S.1 55 t'
        · subst e2; exact Or.inr ⟨rfl, by simp⟩
        · exact Or.inl ⟨k, by omega, by rw [if_neg (by omega)]⟩
      · rw [if_neg e] at hk
        exact Or.inl ⟨k, hk, by rw [if_neg (by omega)]⟩
    · have h5' := (hW.2.2.2.2.2.1 t' ht').2.2.2.2.1
      rw [e55]
      split <;> omega
    · rw [e55, if_neg (by omega)]
      exact h.1.2.1.2.2.1 t' ht' h40
    · have h5' := (hW.2.2.2.2.2.1 t' ht').2.2.2.2.1
      rw [e55] at hk hk'
      rw [e54, e54] at e
      have nf : ∀ k, k < S.1 55 t → ¬ S.1 54 (4 * t + k) = p := by
        intro k hk e
        have : s_isf S t p = true := ab_ex_iff.mpr ⟨k, hk, by simp [e]⟩
        rw [hnf] at this; cases this
      by_cases e2 : t' = t
      · subst e2
        rw [if_pos rfl] at hk hk'
        by_cases c1 : k = S.1 55 t'
        · by_cases c2 : k' = S.1 55 t'
          · omega
          · rw [if_pos (by omega), if_neg (by omega)] at e
            exact absurd e.symm (nf k' (by omega))
        · by_cases c2 : k' = S.1 55 t'
          · rw [if_neg (by omega), if_pos (by omega)] at e
            exact absurd e (nf k (by omega))
          · rw [if_neg (by omega), if_neg (by omega)] at e
            exact h.1.2.2.2.2.2.2.1 t' k k' ht' (by omega) (by omega) e
      · rw [if_neg e2] at hk hk'
        rw [if_neg (by omega), if_neg (by omega)] at e
        exact h.1.2.2.2.2.2.2.1 t' k k' ht' hk hk' e
  · exact h
