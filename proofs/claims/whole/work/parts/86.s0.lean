/-! the start -/
def S0 : sT := (fun k j => if k = 43 ∧ (j = 0 ∨ j = 2 ∨ j = 6) then 1 else if k = 51 ∧ j = 0 then 3 else 0, fun k j => k == 47 && j == 0, fun _ _ => none)
def μ0 : ab_M := (fun k => match k with
  | 1 => fun j => match j with
    | 0 => 1
    | 1 => 1
    | _ => 0
  | 2 => fun j => match j with
    | 0 => 1
    | _ => 0
  | 12 => upd (fun _ => 0) (0 : Int32).toNatClampNeg (-1)
  | 14 => upd (fun _ => 0) (0 : Int32).toNatClampNeg (-1)
  | 16 => upd (fun _ => 0) (0 : Int32).toNatClampNeg 3
  | 17 => upd (fun _ => 0) (0 : Int32).toNatClampNeg (-1)
  | 30 => ib_fill 1200 (fun _ => 0) (-1)
  | 43 => fun j => match j with
    | 0 => 1
    | 2 => 1
    | 6 => 1
    | _ => 0
  | 47 => upd (fun _ => 0) (0 : Int32).toNatClampNeg (vp_nar .boolean 1)
  | 49 => upd (fun _ => 0) (0 : Int32).toNatClampNeg (-2)
  | 51 => upd (fun _ => 0) (0 : Int32).toNatClampNeg 3
  | 53 => upd (fun _ => 0) (0 : Int32).toNatClampNeg (-2)
  | _ => fun _ => 0, fun k => match k with
  | 2 => fun j => match j with
    | 1 => ab_one 0
    | _ => 0
  | 22 => vp_updL (fun _ => 0) (0 : Int32).toNatClampNeg (ab_one 0)
  | 25 => vp_updL (fun _ => 0) (0 : Int32).toNatClampNeg (ab_one 0)
  | _ => fun _ => 0)
theorem c00 : (0 : Int32).toNatClampNeg = 0 := by decide
theorem s0_nT : s_nT S0 = 1 := rfl
theorem s0_nX : s_nX S0 = 0 := rfl
theorem s0_dg (t g : Nat) : s_dg S0 t g = none := rfl
theorem s0_pg (g : Nat) (p : Nat → Bool) (i : Nat) : s_pg S0 g p i = false := rfl
theorem s0_b1 (i : Nat) : ab_bt (ab_one 0) i = decide (i = 0) := ab_bt_one (by omega) i
theorem RepM_0 : RepM S0 μ0 := by
  refine ⟨rfl, rfl, fun m n hm hn => ?_, fun p hp => ?_, fun p hp => ⟨fun h => ?_, fun h i hi => ?_⟩⟩
  · show bt 0 n = (44 == 47 && (6 * m + n) == 0)
    rw [b_0]; rfl
  · have : p = 0 := by
      have : p < 1 := hp
      omega
    subst this
    rfl
  · have h : (47 == 47 && p == 0) = true := h
    have : p = 0 := by simpa using h
    subst this
    show upd (fun _ => 0) (0 : Int32).toNatClampNeg (-1) 0 = -1
    rw [c00]; rfl
  · have h : (47 == 47 && p == 0) = false := h
    have hp0 : ¬ p = 0 := by simpa using h
    have e : μ0.1 12 p = 0 := by
      show upd (fun _ => 0) (0 : Int32).toNatClampNeg (-1) p = 0
      rw [c00]
      simp [upd, hp0]
    rw [e, b_0]
    show false = (decide (i < 6) && (46 == 47 && (6 * p + i) == 0))
    simp
theorem RepT_0 : RepT S0 μ0 := by
  refine ⟨rfl, fun i => ?_, fun i => ?_, fun t ht => ?_, fun t ht i => ?_, fun p hp i => ?_, fun i => i, fun i => i, fun i hi => ?_, fun t ht => ⟨ht, rfl⟩, fun t u ht hu hab => ?_⟩
  · show ab_bt (ab_one 0) i = (decide (i < 1) && (S0.1 50 i == 0))
    rw [s0_b1]
    have : (S0.1 50 i == 0) = true := rfl
    rw [this, Bool.and_true, decide_eq_decide]
    omega
  · show ab_bt 0 i = (decide (i < 1) && s_has (S0.1 52 i) 1)
    rw [ab_bt_0]
    have e52 : S0.1 52 i = 0 := rfl
    have : s_has (S0.1 52 i) 1 = false := by rw [e52]; rfl
    rw [this, Bool.and_false]
  · have ht : t < 1 := ht
    have : t = 0 := by omega
    subst this
    refine ⟨rfl, ?_, rfl, ?_, ?_, rfl, fun i => ?_⟩
    · show upd (fun _ => 0) (0 : Int32).toNatClampNeg (-1) 0 = -1
      rw [c00]; rfl
    · show upd (fun _ => 0) (0 : Int32).toNatClampNeg 3 0 = 3
      rw [c00]; rfl
    · show upd (fun _ => 0) (0 : Int32).toNatClampNeg (-1) 0 = -1
      rw [c00]; rfl
    · show ab_bt (vp_updL (fun _ => 0) (0 : Int32).toNatClampNeg (ab_one 0) 0) i = [0].contains i
      rw [c00]
      show ab_bt (ab_one 0) i = _
      rw [s0_b1, List.contains_cons]
      by_cases q : i = 0
      · subst q; rfl
      · have : (i == 0) = false := by simpa using q
        rw [this]; simp [q]
  · refine ⟨?_, ?_, ?_⟩
    · show ab_bt 0 i = (decide (t < 1) && false)
      rw [ab_bt_0, Bool.and_false]
    · show ab_bt 0 i = (decide (t < 1) && decide (i < 1) && (56 == 47 && (40 * t + i) == 0))
      rw [ab_bt_0]
      simp
    · show ab_bt 0 i = (decide (t < 1) && decide (i < 1) && (56 == 47 && (40 * i + t) == 0))
      rw [ab_bt_0]
      simp
  · show ab_bt (vp_updL (fun _ => 0) (0 : Int32).toNatClampNeg (ab_one 0) p) i = (decide (i < 1) && (S0.1 48 i == p))
    have e48 : S0.1 48 i = 0 := rfl
    rw [c00, e48]
    by_cases q : p = 0
    · subst q
      show ab_bt (ab_one 0) i = _
      rw [s0_b1]
      have : ((0 : Nat) == 0) = true := rfl
      rw [this, Bool.and_true, decide_eq_decide]
      omega
    · have : vp_updL (fun _ => 0) 0 (ab_one 0) p = 0 := by simp [vp_updL, q]
      rw [this, ab_bt_0]
      have : ((0 : Nat) == p) = false := by
        have : ¬ 0 = p := fun x => q x.symm
        simpa using this
      rw [this, Bool.and_false]
  · have hi : i < 1 := hi
    have : i = 0 := by omega
    subst this
    exact ⟨by show 0 < 1; omega, rfl, rfl⟩
  · exfalso
    have hab : (56 == 47 && (40 * t + u) == 0) = true := hab
    simp at hab
theorem RepX_0 : RepX S0 μ0 := by
  refine ⟨rfl, fun m hm => ?_, fun g t hg ht => ?_, fun g i hg => ⟨?_, ?_, ?_, ?_, ?_⟩⟩
  · have hm : m < 0 := hm
    omega
  · show ib_fill 1200 (fun _ => 0) (-1) (40 * g + t) = -1
    unfold ib_fill
    rw [if_pos (by omega)]
  · exact ab_bt_0 i
  · exact ab_bt_0 i
  · exact ab_bt_0 i
  · exact ab_bt_0 i
  · exact ab_bt_0 i
theorem Iv_0 : Iv2 S0 := by
  refine ⟨⟨⟨by decide, by decide, by decide, by decide, fun p hp => ?_, fun t ht => ?_, fun m hm => ?_⟩, ⟨fun m n hm h6 hn => rfl, fun p hp h10 => ⟨?_, fun m hm => rfl⟩, fun t ht h40 => rfl, fun t u ht hu hor => rfl⟩, fun m hm => ?_, fun t p ht hp => ?_, fun t k ht hk => ?_, fun t u v ht hu hv a b => ?_, fun t k k' ht hk hk' e => ?_, fun t ht e => ?_⟩, fun u hu => rfl⟩
  · show 0 < 1; omega
  · have ht : t < 1 := ht
    have : t = 0 := by omega
    subst this
    refine ⟨by show 0 < 1; omega, by show 0 < 2; omega, by show 3 < 4; omega, by show 0 < 8; omega, by show 0 ≤ 4; omega, fun k hk => ?_, fun o ho => (by cases ho), fun p hp => (by cases hp)⟩
    have hk : k < 0 := hk
    omega
  · have hm : m < 0 := hm
    omega
  · have hp : 1 ≤ p := hp
    show (47 == 47 && p == 0) = false
    have : (p == 0) = false := by rw [beq_eq_false_iff_ne]; omega
    rw [this]; rfl
  · have hm : m < 0 := hm
    omega
  · cases hp
  · have hk : k < 0 := hk
    omega
  · cases a
  · have hk : k < 0 := hk
    omega
  · have ht : t < 1 := ht
    have : t = 0 := by omega
    subst this
    exact Or.inr rfl
theorem RepR_0 : RepR S0 μ0 := by
  have m43 : ∀ j, μ0.1 43 j = if j = 0 ∨ j = 2 ∨ j = 6 then 1 else 0 := fun j => by
    by_cases h0 : j = 0
    · subst h0; rfl
    · by_cases h2 : j = 2
      · subst h2; rfl
      · by_cases h6 : j = 6
        · subst h6; rfl
        · rw [if_neg (by omega)]
          show (match j with | 0 => (1 : Int32) | 2 => 1 | 6 => 1 | _ => 0) = 0
          split
          · omega
          · omega
          · omega
          · rfl
  refine ⟨fun k j h => ?_, fun k j h => ?_, fun k j h hj => ?_⟩
  · simp only [s_ik, Bool.or_eq_true, Bool.and_eq_true, beq_iff_eq] at h
    rcases h with (((((((((((h | h) | h) | h) | h) | h) | h) | h) | h) | h) | h) | h) | h
    · subst h; rfl
    · subst h; rfl
    · subst h; rfl
    · subst h
      show upd (fun _ => 0) (0 : Int32).toNatClampNeg 3 j = nI (S0.1 51 j)
      rw [c00]
      by_cases q : j = 0
      · subst q; rfl
      · have : S0.1 51 j = 0 := by simp [S0, q]
        rw [this]
        simp [upd, q]
        rfl
    · subst h; rfl
    · subst h; rfl
    · subst h; rfl
    · subst h; rfl
    · subst h; rfl
    · subst h; rfl
    · subst h; rfl
    · subst h; rfl
    · obtain ⟨rfl, h⟩ := h
      rcases h with ((h | h) | h) | h <;> subst h <;> rfl
  · simp only [s_bk, Bool.or_eq_true, beq_iff_eq] at h
    rcases h with ((h | h) | h) | h
    · subst h; rfl
    · subst h; rfl
    · subst h
      show upd (fun _ => 0) (0 : Int32).toNatClampNeg (vp_nar .boolean 1) j = ab_z (47 == 47 && j == 0)
      rw [c00]
      by_cases q : j = 0
      · subst q; rfl
      · have : (j == 0) = false := by simpa using q
        rw [this]
        simp [upd, q]
        rfl
    · subst h; rfl
  · have hj : j < 1 := hj
    have : j = 0 := by omega
    subst this
    rcases h with h | h
    · subst h
      show upd (fun _ => 0) (0 : Int32).toNatClampNeg (-2) 0 = -2
      rw [c00]; rfl
    · subst h
      show upd (fun _ => 0) (0 : Int32).toNatClampNeg (-2) 0 = -2
      rw [c00]; rfl
theorem LI_0 : LI S0 μ0 := by
  refine ⟨Iv_0, ⟨RepM_0, RepT_0, RepX_0, fun g hg hb => ?_, fun n hn hb => ?_⟩, RepR_0, ⟨⟨fun _ => false, fun _ => rfl⟩, ⟨fun _ => false, fun _ => rfl⟩, ⟨fun _ => false, fun _ => rfl⟩, ⟨fun _ => false, fun _ => rfl⟩⟩, Or.inl rfl⟩
  · exfalso
    have : bt (0 : Int32) g = true := hb
    rw [b_0] at this; cases this
  · exfalso
    have : bt (0 : Int32) n = true := hb
    rw [b_0] at this; cases this
