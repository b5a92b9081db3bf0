/-! what is true of S, kept by type, member -/
theorem ty_1 {S : sT} {pk so ac fl : Nat} {ou : Option Nat} {a b : Nat} (h : ¬ (a = 43 ∧ b = 6)) (h2 : a < 48 ∨ 52 < a ∨ a = 49 ∨ ¬ b = s_nT S) : (s_type S pk ou so ac fl).1 a b = S.1 a b := by
  show (if a = 43 ∧ b = 6 then s_nT S + 1 else if a = 48 ∧ b = s_nT S then pk else if a = 50 ∧ b = s_nT S then so else if a = 51 ∧ b = s_nT S then ac else if a = 52 ∧ b = s_nT S then fl else S.1 a b) = _
  rw [if_neg h, if_neg (by omega), if_neg (by omega), if_neg (by omega), if_neg (by omega)]
theorem ty_nT {S : sT} {pk so ac fl : Nat} {ou : Option Nat} : s_nT (s_type S pk ou so ac fl) = s_nT S + 1 := by
  show (s_type S pk ou so ac fl).1 43 6 = _
  simp [s_type]
theorem ty_new {S : sT} {pk so ac fl : Nat} {ou : Option Nat} : (s_type S pk ou so ac fl).1 48 (s_nT S) = pk ∧ (s_type S pk ou so ac fl).1 50 (s_nT S) = so ∧ (s_type S pk ou so ac fl).1 51 (s_nT S) = ac ∧ (s_type S pk ou so ac fl).1 52 (s_nT S) = fl ∧ s_ou (s_type S pk ou so ac fl) (s_nT S) = ou ∧ s_pa (s_type S pk ou so ac fl) (s_nT S) = (if so = 0 then some 0 else none) := by
  refine ⟨by simp [s_type], by simp [s_type], by simp [s_type], by simp [s_type], ?_, ?_⟩
  · show (s_type S pk ou so ac fl).2.2 49 (s_nT S) = _
    simp [s_type]
  · show (s_type S pk ou so ac fl).2.2 53 (s_nT S) = _
    simp [s_type]
theorem ty_ou {S : sT} {pk so ac fl t : Nat} {ou : Option Nat} (h : ¬ t = s_nT S) : s_ou (s_type S pk ou so ac fl) t = s_ou S t ∧ s_pa (s_type S pk ou so ac fl) t = s_pa S t := by
  constructor
  · show (if 49 = 49 ∧ t = s_nT S then ou else if 49 = 53 ∧ t = s_nT S then _ else S.2.2 49 t) = _
    simp [h]
  · show (if 53 = 49 ∧ t = s_nT S then ou else if 53 = 53 ∧ t = s_nT S then _ else S.2.2 53 t) = _
    simp [h]
theorem ty_ab {S : sT} {pk so ac fl t u : Nat} {ou : Option Nat} (hu : u < 40) : s_ab (s_type S pk ou so ac fl) t u = if t = s_nT S ∧ u = 0 then so == 0 else s_ab S t u := by
  show (if 56 = 56 ∧ 40 * t + u = 40 * s_nT S then so == 0 else S.2.1 56 (40 * t + u)) = _
  by_cases q : t = s_nT S ∧ u = 0
  · rw [if_pos q, if_pos ⟨rfl, by omega⟩]
  · rw [if_neg q, if_neg (by omega)]
theorem Iv_ty {S : sT} (h : Iv2 S) {pk so ac fl : Nat} {ou : Option Nat} (hT : s_nT S < 40) (hpk : pk < s_nP S) (ho : ∀ o, ou = some o → o < s_nT S) (hso : so < 2) (hac : ac < 4) (hfl : fl < 8) (hr : s_rT S pk ou so ac fl = 0) : Iv2 (s_type S pk ou so ac fl) := by
  obtain ⟨⟨hW, hF, i3, i4, i5, i6, i7, i8⟩, hr0⟩ := h
  obtain ⟨w1, w2, w3, w4, w5, w6, w7⟩ := hW
  obtain ⟨n1, n2, n3, n4, n5, n6⟩ := ty_new (S := S) (pk := pk) (ou := ou) (so := so) (ac := ac) (fl := fl)
  have eT := ty_nT (S := S) (pk := pk) (ou := ou) (so := so) (ac := ac) (fl := fl)
  have eX : s_nX (s_type S pk ou so ac fl) = s_nX S := ty_1 (by omega) (by omega)
  have eM : s_nM (s_type S pk ou so ac fl) = s_nM S := ty_1 (by omega) (by omega)
  have eP : s_nP (s_type S pk ou so ac fl) = s_nP S := ty_1 (by omega) (by omega)
  have z55 := hF.2.2.1 (s_nT S) (Nat.le_refl _) hT
  have hz := hF.2.2.2
  have o21 : ∀ k j, ¬ k = 56 → (s_type S pk ou so ac fl).2.1 k j = S.2.1 k j := fun k j hk => by
    show (if k = 56 ∧ j = 40 * s_nT S then so == 0 else S.2.1 k j) = _
    rw [if_neg (by omega)]
  have inT : ∀ a b, a < s_nT S + 1 → b < s_nT S + 1 → s_ab (s_type S pk ou so ac fl) a b = true → (a = s_nT S ∧ b = 0) ∨ (a < s_nT S ∧ b < s_nT S ∧ s_ab S a b = true) := by
    intro a b ha hb hab
    rw [ty_ab (by omega)] at hab
    by_cases q : a = s_nT S ∧ b = 0
    · exact Or.inl q
    · rw [if_neg q] at hab
      refine Or.inr ⟨?_, ?_, hab⟩
      · apply Classical.byContradiction
        intro c
        rw [hz a b (by omega) (by omega) (Or.inl (by omega))] at hab; cases hab
      · apply Classical.byContradiction
        intro c
        rw [hz a b (by omega) (by omega) (Or.inr (by omega))] at hab; cases hab
  have old : ∀ a b, a < s_nT S → b < 40 → s_ab (s_type S pk ou so ac fl) a b = s_ab S a b := fun a b ha hb => by
    rw [ty_ab hb, if_neg (by omega)]
  refine ⟨⟨⟨by rw [eM]; exact w1, by rw [eP]; exact w2, by rw [eT]; omega, by rw [eX]; exact w4, fun p hp => ?_, fun t ht => ?_, fun m hm => ?_⟩, ⟨fun m n hm h6 hn => ?_, fun p hp h10 => ?_, fun t ht h40 => ?_, fun a b ha hb hor => ?_⟩, fun m hm => ?_, fun t p ht hp => ?_, fun t k ht hk => ?_, fun a b c ha hb hc h1 h2 => ?_, fun t k k' ht hk hk' e => ?_, fun t ht e => ?_⟩, fun v hv => ?_⟩
  · rw [eP] at hp
    rw [eM, ty_1 (by omega) (by omega)]
    exact w5 p hp
  · rw [eT] at ht ⊢
    rw [eP, ty_1 (a := 55) (by omega) (by omega)]
    by_cases q : t = s_nT S
    · subst q
      rw [n1, n2, n3, n4, n5, n6, z55]
      refine ⟨hpk, hso, hac, hfl, by omega, fun k hk => by omega, ho, fun p hp => ?_⟩
      split at hp
      · cases hp; omega
      · cases hp
    · have := w6 t (by omega)
      rw [ty_1 (a := 48) (by omega) (by omega), ty_1 (a := 50) (by omega) (by omega), ty_1 (a := 51) (by omega) (by omega), ty_1 (a := 52) (by omega) (by omega), (ty_ou q).1, (ty_ou q).2]
      refine ⟨this.1, this.2.1, this.2.2.1, this.2.2.2.1, this.2.2.2.2.1, fun k hk => ?_, this.2.2.2.2.2.2.1, fun p hp => ?_⟩
      · rw [ty_1 (by omega) (by omega)]
        have := this.2.2.2.2.2.1 k hk
        omega
      · have := this.2.2.2.2.2.2.2 p hp
        omega
  · rw [eX] at hm
    have := w7 m hm
    rw [eT, ty_1 (a := 57) (by omega) (by omega), ty_1 (a := 58) (by omega) (by omega), ty_1 (a := 59) (by omega) (by omega), ty_1 (a := 60) (by omega) (by omega), ty_1 (a := 61) (by omega) (by omega)]
    exact ⟨by omega, this.2⟩
  · rw [eM] at hm
    rw [o21 44 _ (by omega)]
    exact hF.1 m n hm h6 hn
  · rw [eP] at hp
    rw [o21 47 _ (by omega)]
    refine ⟨(hF.2.1 p hp h10).1, fun m hm => ?_⟩
    rw [o21 46 _ (by omega)]
    exact (hF.2.1 p hp h10).2 m hm
  · rw [eT] at ht
    rw [ty_1 (by omega) (by omega)]
    exact hF.2.2.1 t (by omega) h40
  · rw [eT] at hor
    rw [ty_ab hb, if_neg (by omega)]
    exact hz a b ha hb (by omega)
  · rw [eX] at hm
    rw [s_dec_e (S := S) (fun k j a b => ty_1 (by omega) (by omega)) eX, ty_1 (a := 57) (by omega) (by omega), ty_1 (a := 58) (by omega) (by omega), ty_1 (a := 59) (by omega) (by omega)]
    exact i3 m hm
  · rw [eT] at ht
    by_cases q : t = s_nT S
    · subst q
      rw [n6] at hp
      split at hp
      · cases hp
        rw [ty_ab (by omega), if_pos ⟨rfl, rfl⟩]
        simpa using ‹so = 0›
      · cases hp
    · rw [(ty_ou q).2] at hp
      have := (w6 t (by omega)).2.2.2.2.2.2.2 p hp
      rw [old t p (by omega) (by omega)]
      exact i4 t p (by omega) hp
  · rw [eT] at ht
    rw [ty_1 (a := 55) (by omega) (by omega)] at hk
    by_cases q : t = s_nT S
    · subst q; rw [z55] at hk; omega
    · have := (w6 t (by omega)).2.2.2.2.2.1 k hk
      rw [ty_1 (a := 54) (by omega) (by omega), old t _ (by omega) (by omega)]
      exact i5 t k (by omega) hk
  · rw [eT] at ha hb hc
    rcases inT a b ha hb h1 with ⟨rfl, rfl⟩ | ⟨a1, a2, a3⟩
    · exfalso
      rcases inT 0 c hb hc h2 with ⟨q, -⟩ | ⟨b1, b2, b3⟩
      · omega
      · rw [hr0 c (by omega)] at b3; cases b3
    · rcases inT b c hb hc h2 with ⟨q, -⟩ | ⟨b1, b2, b3⟩
      · omega
      · rw [old a c a1 (by omega)]
        exact i6 a b c a1 a2 b2 a3 b3
  · rw [eT] at ht
    rw [ty_1 (a := 55) (by omega) (by omega)] at hk hk'
    rw [ty_1 (a := 54) (by omega) (by omega), ty_1 (a := 54) (by omega) (by omega)] at e
    by_cases q : t = s_nT S
    · subst q; rw [z55] at hk; omega
    · exact i7 t k k' (by omega) hk hk' e
  · rw [eT] at ht
    by_cases q : t = s_nT S
    · subst q
      rw [n5] at e
      subst e
      rw [n3]
      unfold s_rT at hr
      by_cases c : (ac ≠ 1 ∧ ac ≠ 3) ∨ s_has fl 1 = true
      · rw [if_pos c] at hr; cases hr
      · omega
    · rw [(ty_ou q).1] at e
      rw [ty_1 (a := 51) (by omega) (by omega)]
      exact i8 t (by omega) e
  · rw [old 0 v (by omega) hv]
    exact hr0 v hv
theorem Iv_type {S : sT} (h : Iv2 S) (x y z v w : Int32) : Iv2 (o_type S x y z v w) := by
  unfold o_type
  have hW := h.1.1
  have hT := hW.2.2.1.2
  have hP := hW.2.1.2
  split
  · rename_i q
    obtain ⟨q1, q2, q3⟩ := q
    unfold v_type at q1
    simp only [Bool.and_eq_true, Bool.or_eq_true, beq_iff_eq] at q1
    obtain ⟨⟨⟨hx, hy⟩, hz⟩, hf1, hf2⟩ := q1
    obtain ⟨pk, hpk, rfl⟩ := ab_ok_t (by omega) hx
    obtain ⟨so, hso, rfl⟩ := ab_ok_t (by omega) hz
    obtain ⟨ac, hac, rfl⟩ := ab_ok_t (by omega) hf1
    obtain ⟨fl, hfl, rfl⟩ := ab_ok_t (by omega) hf2
    unfold s_rT2 at q2
    rw [nI_clamp (by omega), nI_clamp (by omega), nI_clamp (by omega), nI_clamp (by omega)] at q2 ⊢
    refine Iv_ty h (by omega) hpk (fun o ho => ?_) hso hac hfl q2
    unfold s_dou at ho
    split at ho
    · cases ho
    · rename_i c
      rcases hy with hy | hy
      · exact absurd hy c
      · obtain ⟨o', ho', rfl⟩ := ab_ok_t (by omega) hy
        rw [nI_clamp (by omega)] at ho
        cases ho
        exact ho'
  · exact h
theorem me_1 {S : sT} {t k n ac fl a b : Nat} (h : ¬ (a = 43 ∧ b = 16)) (h2 : a < 57 ∨ 61 < a ∨ ¬ b = s_nX S) : (s_mem S t k n ac fl).1 a b = S.1 a b := by
  show (if a = 43 ∧ b = 16 then s_nX S + 1 else if a = 57 ∧ b = s_nX S then t else if a = 58 ∧ b = s_nX S then k else if a = 59 ∧ b = s_nX S then n else if a = 60 ∧ b = s_nX S then ac else if a = 61 ∧ b = s_nX S then fl else S.1 a b) = _
  rw [if_neg h, if_neg (by omega), if_neg (by omega), if_neg (by omega), if_neg (by omega), if_neg (by omega)]
theorem me_nX {S : sT} {t k n ac fl : Nat} : s_nX (s_mem S t k n ac fl) = s_nX S + 1 := by
  show (s_mem S t k n ac fl).1 43 16 = _
  simp [s_mem]
theorem me_new {S : sT} {t k n ac fl : Nat} : (s_mem S t k n ac fl).1 57 (s_nX S) = t ∧ (s_mem S t k n ac fl).1 58 (s_nX S) = k ∧ (s_mem S t k n ac fl).1 59 (s_nX S) = n ∧ (s_mem S t k n ac fl).1 60 (s_nX S) = ac ∧ (s_mem S t k n ac fl).1 61 (s_nX S) = fl := by
  refine ⟨?_, ?_, ?_, ?_, ?_⟩ <;> simp [s_mem]
theorem s_decF_l {S S' : sT} {N : Nat} (h : ∀ k j, 57 ≤ k → k ≤ 59 → j < N → S'.1 k j = S.1 k j) : ∀ n t k x, n ≤ N → s_decF S' t k x n = s_decF S t k x n
  | 0, _, _, _, _ => rfl
  | n + 1, t, k, x, hn => by
    simp only [s_decF]
    rw [s_decF_l h n t k x (by omega), h 57 n (by omega) (by omega) (by omega), h 58 n (by omega) (by omega) (by omega), h 59 n (by omega) (by omega) (by omega)]
theorem me_dec {S : sT} {t k n ac fl : Nat} (hd : s_dec S t k n = none) (t' k' n' : Nat) : s_dec (s_mem S t k n ac fl) t' k' n' = if t' = t ∧ k' = k ∧ n' = n then some (s_nX S) else s_dec S t' k' n' := by
  obtain ⟨e1, e2, e3, -, -⟩ := me_new (S := S) (t := t) (k := k) (n := n) (ac := ac) (fl := fl)
  show s_decF (s_mem S t k n ac fl) t' k' n' (s_nX (s_mem S t k n ac fl)) = _
  rw [me_nX]
  simp only [s_decF]
  rw [s_decF_l (S := S) (N := s_nX S) (fun a j h1 h2 h3 => me_1 (by omega) (by omega)) _ _ _ _ (Nat.le_refl _), e1, e2, e3]
  show (match s_dec S t' k' n' with | some m => some m | none => if t = t' ∧ k = k' ∧ n = n' then some (s_nX S) else none) = _
  by_cases q : t' = t ∧ k' = k ∧ n' = n
  · obtain ⟨rfl, rfl, rfl⟩ := q
    rw [hd]
  · rw [if_neg q]
    cases s_dec S t' k' n' with
    | some m => rfl
    | none =>
      have : ¬ (t = t' ∧ k = k' ∧ n = n') := by omega
      simp [this]
theorem Iv_me {S : sT} (h : Iv2 S) {t k n ac fl : Nat} (hX : s_nX S < 120) (ht : t < s_nT S) (hk : k < 3) (hn : n < 10) (hac : ac < 4) (hfl : fl < 8) (hd : s_dec S t k n = none) : Iv2 (s_mem S t k n ac fl) := by
  obtain ⟨⟨hW, hF, i3, i4, i5, i6, i7, i8⟩, hr0⟩ := h
  obtain ⟨w1, w2, w3, w4, w5, w6, w7⟩ := hW
  obtain ⟨e1, e2, e3, e4, e5⟩ := me_new (S := S) (t := t) (k := k) (n := n) (ac := ac) (fl := fl)
  have eX := me_nX (S := S) (t := t) (k := k) (n := n) (ac := ac) (fl := fl)
  have eT : s_nT (s_mem S t k n ac fl) = s_nT S := me_1 (by omega) (by omega)
  have eM : s_nM (s_mem S t k n ac fl) = s_nM S := me_1 (by omega) (by omega)
  have eP : s_nP (s_mem S t k n ac fl) = s_nP S := me_1 (by omega) (by omega)
  have f1 : ∀ a b, a < 57 → ¬ a = 43 → (s_mem S t k n ac fl).1 a b = S.1 a b := fun a b h1 h2 => me_1 (by omega) (by omega)
  refine ⟨⟨⟨by rw [eM]; exact w1, by rw [eP]; exact w2, by rw [eT]; exact w3, by rw [eX]; omega, fun p hp => ?_, fun t' ht' => ?_, fun m hm => ?_⟩, ⟨fun m n hm h6 hn => hF.1 m n (by rw [eM] at hm; exact hm) h6 hn, fun p hp h10 => hF.2.1 p (by rw [eP] at hp; exact hp) h10, fun t' ht' h40 => ?_, fun a b ha hb hor => hF.2.2.2 a b ha hb (by rw [eT] at hor; exact hor)⟩, fun m hm => ?_, fun t' p ht' hp => i4 t' p (by rw [eT] at ht'; exact ht') hp, fun t' k' ht' hk' => ?_, fun a b c ha hb hc h1 h2 => i6 a b c (by rw [eT] at ha; exact ha) (by rw [eT] at hb; exact hb) (by rw [eT] at hc; exact hc) h1 h2, fun t' k1 k2 ht' hk1 hk2 e => ?_, fun t' ht' e => ?_⟩, hr0⟩
  · rw [eP] at hp
    rw [eM, f1 45 p (by omega) (by omega)]
    exact w5 p hp
  · rw [eT] at ht' ⊢
    rw [eP, f1 48 _ (by omega) (by omega), f1 50 _ (by omega) (by omega), f1 51 _ (by omega) (by omega), f1 52 _ (by omega) (by omega), f1 55 _ (by omega) (by omega)]
    have := w6 t' ht'
    refine ⟨this.1, this.2.1, this.2.2.1, this.2.2.2.1, this.2.2.2.2.1, fun k' hk' => ?_, this.2.2.2.2.2.2⟩
    rw [f1 54 _ (by omega) (by omega)]
    exact this.2.2.2.2.2.1 k' hk'
  · rw [eX] at hm
    rw [eT]
    by_cases q : m = s_nX S
    · subst q
      rw [e1, e2, e3, e4, e5]
      exact ⟨ht, hk, hn, hac, hfl⟩
    · rw [me_1 (a := 57) (by omega) (by omega), me_1 (a := 58) (by omega) (by omega), me_1 (a := 59) (by omega) (by omega), me_1 (a := 60) (by omega) (by omega), me_1 (a := 61) (by omega) (by omega)]
      exact w7 m (by omega)
  · rw [eT] at ht'
    rw [f1 55 _ (by omega) (by omega)]
    exact hF.2.2.1 t' ht' h40
  · rw [eX] at hm
    rw [me_dec hd]
    by_cases q : m = s_nX S
    · subst q
      rw [e1, e2, e3]
      simp
    · rw [me_1 (a := 57) (by omega) (by omega), me_1 (a := 58) (by omega) (by omega), me_1 (a := 59) (by omega) (by omega)]
      have := i3 m (by omega)
      by_cases c : S.1 57 m = t ∧ S.1 58 m = k ∧ S.1 59 m = n
      · rw [c.1, c.2.1, c.2.2, hd] at this; cases this
      · rw [if_neg c]; exact this
  · rw [eT] at ht'
    rw [f1 55 _ (by omega) (by omega)] at hk'
    rw [f1 54 _ (by omega) (by omega)]
    exact i5 t' k' ht' hk'
  · rw [eT] at ht'
    rw [f1 55 _ (by omega) (by omega)] at hk1 hk2
    rw [f1 54 _ (by omega) (by omega), f1 54 _ (by omega) (by omega)] at e
    exact i7 t' k1 k2 ht' hk1 hk2 e
  · rw [eT] at ht'
    rw [f1 51 _ (by omega) (by omega)]
    exact i8 t' ht' e
theorem Iv_member {S : sT} (h : Iv2 S) (x y z v w : Int32) : Iv2 (o_member S x y z v w) := by
  unfold o_member
  have hW := h.1.1
  have hT := hW.2.2.1.2
  have hX := hW.2.2.2.1
  split
  · rename_i q
    obtain ⟨q1, q2, q3⟩ := q
    unfold v_mem at q1
    simp only [Bool.and_eq_true] at q1
    obtain ⟨⟨⟨hx, hy⟩, hz⟩, hf1, hf2⟩ := q1
    obtain ⟨t, ht, rfl⟩ := ab_ok_t (by omega) hx
    obtain ⟨k, hk, rfl⟩ := ab_ok_t (by omega) hy
    obtain ⟨n, hn, rfl⟩ := ab_ok_t (by omega) hz
    obtain ⟨ac, hac, rfl⟩ := ab_ok_t (by omega) hf1
    obtain ⟨fl, hfl, rfl⟩ := ab_ok_t (by omega) hf2
    unfold s_rM2 at q2
    rw [nI_clamp (by omega), nI_clamp (by omega), nI_clamp (by omega), nI_clamp (by omega), nI_clamp (by omega)] at q2 ⊢
    refine Iv_me h (by omega) ht hk hn hac hfl ?_
    unfold s_rM at q2
    split at q2
    · omega
    · split at q2
      · omega
      · split at q2
        · omega
        · split at q2
          · omega
          · rename_i c
            cases e : s_dec S t k n with
            | none => rfl
            | some m => rw [e] at c; simp at c
  · exact h
