/-! ===== Int32 by its bits: bt x i ===== -/
def bt (x : Int32) (i : Nat) : Bool := x.toBitVec.getLsbD i
theorem b_ext {x y : Int32} (h : ∀ i, i < 32 → bt x i = bt y i) : x = y := Int32.toBitVec_inj.mp (BitVec.eq_of_getLsbD_eq (fun i hi => h i hi))
theorem b_or (x y : Int32) (i : Nat) : bt (x ||| y) i = (bt x i || bt y i) := by unfold bt; rw [Int32.toBitVec_or, BitVec.getLsbD_or]
theorem b_and (x y : Int32) (i : Nat) : bt (x &&& y) i = (bt x i && bt y i) := by unfold bt; rw [Int32.toBitVec_and, BitVec.getLsbD_and]
theorem b_xor (x y : Int32) (i : Nat) : bt (x ^^^ y) i = (bt x i ^^ bt y i) := by unfold bt; rw [Int32.toBitVec_xor, BitVec.getLsbD_xor]
theorem b_big {x : Int32} {i : Nat} (h : 32 ≤ i) : bt x i = false := BitVec.getLsbD_of_ge _ _ h
theorem b_255 (i : Nat) : bt 255 i = decide (i < 8) := by
  rcases Nat.lt_or_ge i 32 with h | h
  · exact (by decide +kernel : ∀ i, i < 32 → bt 255 i = decide (i < 8)) i h
  · rw [b_big h, decide_eq_false (by omega)]
theorem b_65535 (i : Nat) : bt 65535 i = decide (i < 16) := by
  rcases Nat.lt_or_ge i 32 with h | h
  · exact (by decide +kernel : ∀ i, i < 32 → bt 65535 i = decide (i < 16)) i h
  · rw [b_big h, decide_eq_false (by omega)]
theorem b_m1 : ∀ i, i < 32 → bt (-1) i = true := by decide +kernel
theorem b_0 (i : Nat) : bt 0 i = false := BitVec.getLsbD_zero
theorem s_l : ∀ n, n < 32 → ((nI n &&& 31).toBitVec.smod 32).toNat = n := by decide +kernel
theorem s_u : ∀ n, n < 32 → (((nI n).toUInt32 &&& Int32.toUInt32 31).toBitVec % 32).toNat = n := by decide +kernel
theorem b_shl (n : Nat) (hn : n < 32) (x : Int32) {i : Nat} (hi : i < 32) : bt (x <<< (nI n &&& 31)) i = (decide (n ≤ i) && bt x (i - n)) := by
  unfold bt
  rw [Int32.toBitVec_shiftLeft]
  show (x.toBitVec <<< ((nI n &&& 31).toBitVec.smod 32).toNat).getLsbD i = _
  rw [s_l n hn, BitVec.getLsbD_shiftLeft]
  rcases Nat.lt_or_ge i n with h | h
  · simp [h, Nat.not_le.mpr h]
  · simp [hi, h, Nat.not_lt.mpr h]
theorem b_ushr (n : Nat) (hn : n < 32) (x : Int32) (i : Nat) : bt ((x.toUInt32 >>> ((nI n).toUInt32 &&& Int32.toUInt32 31)).toInt32) i = bt x (n + i) := by
  show (x.toUInt32 >>> ((nI n).toUInt32 &&& Int32.toUInt32 31)).toBitVec.getLsbD i = x.toUInt32.toBitVec.getLsbD (n + i)
  rw [UInt32.toBitVec_shiftRight]
  show (x.toUInt32.toBitVec >>> (((nI n).toUInt32 &&& Int32.toUInt32 31).toBitVec % 32).toNat).getLsbD i = _
  rw [s_u n hn, BitVec.getLsbD_ushiftRight]
theorem b_sshr (n : Nat) (hn : n < 32) (x : Int32) {i : Nat} (hi : i < 32) : bt (x >>> (nI n &&& 31)) i = if n + i < 32 then bt x (n + i) else bt x 31 := by
  unfold bt
  rw [Int32.toBitVec_shiftRight]
  show (x.toBitVec.sshiftRight ((nI n &&& 31).toBitVec.smod 32).toNat).getLsbD i = _
  rw [s_l n hn, BitVec.getLsbD_sshiftRight, BitVec.msb_eq_getLsbD_last]
  simp [hi]
/-! ===== Int64 by its bits ===== -/
def ab_bt (x : Int64) (i : Nat) : Bool := x.toBitVec.getLsbD i
theorem ab_bt_ext {x y : Int64} (h : ∀ i, i < 64 → ab_bt x i = ab_bt y i) : x = y := Int64.toBitVec_inj.mp (BitVec.eq_of_getLsbD_eq (fun i hi => h i hi))
theorem ab_bt_or (x y : Int64) (i : Nat) : ab_bt (x ||| y) i = (ab_bt x i || ab_bt y i) := by unfold ab_bt; rw [Int64.toBitVec_or, BitVec.getLsbD_or]
theorem ab_bt_and (x y : Int64) (i : Nat) : ab_bt (x &&& y) i = (ab_bt x i && ab_bt y i) := by unfold ab_bt; rw [Int64.toBitVec_and, BitVec.getLsbD_and]
theorem ab_bt_xor (x y : Int64) (i : Nat) : ab_bt (x ^^^ y) i = (ab_bt x i ^^ ab_bt y i) := by unfold ab_bt; rw [Int64.toBitVec_xor, BitVec.getLsbD_xor]
theorem ab_bt_big {x : Int64} {i : Nat} (h : 64 ≤ i) : ab_bt x i = false := BitVec.getLsbD_of_ge _ _ h
theorem ab_bt_0 (i : Nat) : ab_bt 0 i = false := BitVec.getLsbD_zero
theorem ab_bt_m1 : ∀ i, i < 64 → ab_bt (-1) i = true := by decide +kernel
theorem ab_bt_not {x : Int64} {i : Nat} (h : i < 64) : ab_bt (x ^^^ (-1)) i = !ab_bt x i := by
  rw [ab_bt_xor, ab_bt_m1 i h]; simp
theorem ab_bt_zero {x : Int64} : x = 0 ↔ ∀ i, i < 64 → ab_bt x i = false := by
  constructor
  · rintro rfl i _; exact ab_bt_0 i
  · intro h; exact ab_bt_ext (fun i hi => by rw [h i hi, ab_bt_0])
theorem ab_bt_nz {x : Int64} : ¬ x = 0 ↔ ∃ i, i < 64 ∧ ab_bt x i = true := by
  constructor
  · intro h
    apply Classical.byContradiction
    intro h2
    refine h (ab_bt_zero.mpr (fun i hi => ?_))
    cases hb : ab_bt x i with
    | false => rfl
    | true => exact absurd ⟨i, hi, hb⟩ h2
  · rintro ⟨i, hi, hb⟩ rfl
    rw [ab_bt_0] at hb
    cases hb
theorem ab_sh64 : ∀ k, k < 64 → ((nI k).toInt64.toUInt64 &&& Int64.toUInt64 63) = UInt64.ofNat k := by decide +kernel
theorem ab_sl64 : ∀ k, k < 64 → (((nI k).toInt64 &&& 63).toBitVec.smod 64).toNat = k := by decide +kernel
theorem ab_bt_ushr {x : Int64} {k : Nat} (hk : k < 64) (i : Nat) : ab_bt ((x.toUInt64 >>> ((nI k).toInt64.toUInt64 &&& Int64.toUInt64 63)).toInt64) i = ab_bt x (k + i) := by
  rw [ab_sh64 k hk]
  show (x.toUInt64 >>> UInt64.ofNat k).toBitVec.getLsbD i = x.toUInt64.toBitVec.getLsbD (k + i)
  rw [UInt64.toBitVec_shiftRight]
  show (x.toUInt64.toBitVec >>> ((UInt64.ofNat k).toBitVec % 64).toNat).getLsbD i = _
  have e : ((UInt64.ofNat k).toBitVec % 64).toNat = k := (by decide +kernel : ∀ k, k < 64 → ((UInt64.ofNat k).toBitVec % 64).toNat = k) k hk
  rw [e, BitVec.getLsbD_ushiftRight]
theorem ab_bt_shl {x : Int64} {k : Nat} (hk : k < 64) {i : Nat} (hi : i < 64) : ab_bt (x <<< ((nI k).toInt64 &&& 63)) i = (decide (k ≤ i) && ab_bt x (i - k)) := by
  unfold ab_bt
  rw [Int64.toBitVec_shiftLeft]
  show (x.toBitVec <<< (((nI k).toInt64 &&& 63).toBitVec.smod 64).toNat).getLsbD i = _
  rw [ab_sl64 k hk, BitVec.getLsbD_shiftLeft]
  rcases Nat.lt_or_ge i k with h | h
  · simp [h, Nat.not_le.mpr h]
  · simp [hi, h, Nat.not_lt.mpr h]
theorem ab_bt_1 : ∀ i, i < 64 → ab_bt 1 i = decide (i = 0) := by decide +kernel
/-- 1L << k -/
def ab_one (k : Nat) : Int64 := (1 : Int64) <<< ((nI k).toInt64 &&& 63)
theorem ab_bt_one {k : Nat} (hk : k < 64) (i : Nat) : ab_bt (ab_one k) i = decide (i = k) := by
  rcases Nat.lt_or_ge i 64 with hi | hi
  · unfold ab_one
    rw [ab_bt_shl hk hi, ab_bt_1 _ (by omega)]
    rcases Nat.lt_or_ge i k with h | h
    · rw [decide_eq_false (by omega), decide_eq_false (by omega : ¬ i = k)]; rfl
    · rw [decide_eq_true h]
      by_cases e : i = k
      · subst e; simp
      · rw [decide_eq_false (by omega), decide_eq_false e]; rfl
  · rw [ab_bt_big hi, decide_eq_false (by omega)]
/-- (set >>> t & 1) -/
theorem ab_bt_has {x : Int64} {k : Nat} (hk : k < 64) : (((x.toUInt64 >>> ((nI k).toInt64.toUInt64 &&& Int64.toUInt64 63)).toInt64 &&& 1) = 0) ↔ ab_bt x k = false := by
  rw [ab_bt_zero]
  constructor
  · intro h
    have := h 0 (by omega)
    rw [ab_bt_and, ab_bt_ushr hk, ab_bt_1 0 (by omega)] at this
    simpa using this
  · intro h i hi
    rw [ab_bt_and, ab_bt_ushr hk, ab_bt_1 i hi]
    by_cases e : i = 0
    · subst e; simp [h]
    · simp [e]
/-- (x >> n & 1) of an int -/
theorem ab_b_has {x : Int32} {n : Nat} (hn : n < 32) : ((x >>> (nI n &&& 31)) &&& 1) = 0 ↔ bt x n = false := by
  have e1 : ∀ i, i < 32 → bt 1 i = decide (i = 0) := by decide +kernel
  constructor
  · intro h
    have : bt ((x >>> (nI n &&& 31)) &&& 1) 0 = false := by rw [h]; exact b_0 0
    rw [b_and, b_sshr n hn x (by omega), e1 0 (by omega)] at this
    simpa [hn] using this
  · intro h
    refine b_ext (fun i hi => ?_)
    rw [b_and, b_sshr n hn x hi, e1 i hi, b_0]
    by_cases e : i = 0
    · subst e; simp [h, hn]
    · simp [e]
theorem ab_b_one : ∀ n, n < 32 → ∀ i, i < 32 → bt ((1 : Int32) <<< (nI n &&& 31)) i = decide (i = n) := by
  intro n hn i hi
  have e1 : ∀ i, i < 32 → bt 1 i = decide (i = 0) := by decide +kernel
  rw [b_shl n hn 1 hi, e1 _ (by omega)]
  rcases Nat.lt_or_ge i n with h | h
  · rw [decide_eq_false (by omega), decide_eq_false (by omega : ¬ i = n)]; rfl
  · rw [decide_eq_true h]
    by_cases e : i = n
    · subst e; simp
    · rw [decide_eq_false (by omega), decide_eq_false e]; rfl
/-! ===== counting ===== -/
def ab_cnt (f : Nat → Bool) : Nat → Nat
  | 0 => 0
  | n + 1 => ab_cnt f n + (if f n then 1 else 0)
theorem ab_cnt_le (f : Nat → Bool) : ∀ n, ab_cnt f n ≤ n
  | 0 => Nat.le_refl 0
  | n + 1 => by
    have := ab_cnt_le f n
    simp only [ab_cnt]
    split <;> omega
theorem ab_cnt_congr {f g : Nat → Bool} : ∀ {n : Nat}, (∀ i, i < n → f i = g i) → ab_cnt f n = ab_cnt g n
  | 0, _ => rfl
  | n + 1, h => by
    simp only [ab_cnt]
    rw [ab_cnt_congr (fun i hi => h i (by omega)), h n (by omega)]
def ab_ex (f : Nat → Bool) : Nat → Bool
  | 0 => false
  | n + 1 => ab_ex f n || f n
theorem ab_ex_iff {f : Nat → Bool} : ∀ {n : Nat}, ab_ex f n = true ↔ ∃ i, i < n ∧ f i = true
  | 0 => by simp [ab_ex]
  | n + 1 => by
    simp only [ab_ex, Bool.or_eq_true, ab_ex_iff]
    constructor
    · rintro (⟨i, h1, h2⟩ | h)
      · exact ⟨i, by omega, h2⟩
      · exact ⟨n, by omega, h⟩
    · rintro ⟨i, h1, h2⟩
      by_cases e : i = n
      · subst e; exact Or.inr h2
      · exact Or.inl ⟨i, by omega, h2⟩
theorem ab_ex_congr {f g : Nat → Bool} {n : Nat} (h : ∀ i, i < n → f i = g i) : ab_ex f n = ab_ex g n := by
  induction n with
  | zero => rfl
  | succ n ih => simp only [ab_ex]; rw [ih (fun i hi => h i (by omega)), h n (by omega)]
/-! ===== popcount: Long.bitCount ===== -/
def ab_pc (x : Int64) : Nat := ab_cnt (ab_bt x) 64
