theorem ab_cnt_add (f : Nat → Bool) (a : Nat) : ∀ b, ab_cnt f (a + b) = ab_cnt f a + ab_cnt (fun i => f (a + i)) b
  | 0 => rfl
  | b + 1 => by
    show ab_cnt f (a + b) + (if f (a + b) = true then 1 else 0) = _
    rw [ab_cnt_add f a b]
    simp only [ab_cnt]
    omega
def ab_rep (c : Nat) : Nat → Nat
  | 0 => 0
  | m + 1 => 256 * ab_rep c m + c
theorem ab_and256 (a b c d : Nat) (hb : b < 256) (hd : d < 256) : (256 * a + b) &&& (256 * c + d) = 256 * (a &&& c) + (b &&& d) := by
  have h1 : ((256 * a + b) &&& (256 * c + d)) / 2 ^ 8 = a &&& c := by
    rw [← Nat.shiftRight_eq_div_pow, Nat.shiftRight_and_distrib, Nat.shiftRight_eq_div_pow, Nat.shiftRight_eq_div_pow]
    have e1 : (256 * a + b) / 2 ^ 8 = a := by omega
    have e2 : (256 * c + d) / 2 ^ 8 = c := by omega
    rw [e1, e2]
  have h2 : ((256 * a + b) &&& (256 * c + d)) % 2 ^ 8 = b &&& d := by
    rw [Nat.and_mod_two_pow]
    have e1 : (256 * a + b) % 2 ^ 8 = b := by omega
    have e2 : (256 * c + d) % 2 ^ 8 = d := by omega
    rw [e1, e2]
  omega
def ab_f1 (m n : Nat) : Nat := n - ((n / 2) &&& ab_rep 0x55 m)
def ab_f2 (m n : Nat) : Nat := (n &&& ab_rep 0x33 m) + ((n / 4) &&& ab_rep 0x33 m)
def ab_f3 (m n : Nat) : Nat := (n + n / 16) &&& ab_rep 0x0f m
theorem ab_d55 : ∀ r, r < 2 → ∀ w, w < 128 → (128 * r + w) &&& 0x55 = w &&& 0x55 := by decide +kernel
theorem ab_d33 : ∀ r, r < 4 → ∀ w, w < 64 → (64 * r + w) &&& 0x33 = w &&& 0x33 := by decide +kernel
theorem ab_d0f : ∀ v, v < 256 → v &&& 0x0f = v % 16 := by decide +kernel
theorem ab_dg : ∀ v, v < 256 → ab_f3 1 (ab_f2 1 (ab_f1 1 v)) = ab_cnt (fun i => v.testBit i) 8 ∧ ab_f2 1 (ab_f1 1 v) % 16 ≤ 4 ∧ ab_f2 1 (ab_f1 1 v) / 16 ≤ 4 ∧ ab_f1 1 v < 256 := by decide +kernel
theorem ab_f1s (m q v : Nat) (hv : v < 256) : ab_f1 (m + 1) (256 * q + v) = 256 * ab_f1 m q + ab_f1 1 v := by
  unfold ab_f1
  have e : (256 * q + v) / 2 = 256 * (q / 2) + (128 * (q % 2) + v / 2) := by omega
  have e1 : ab_rep 0x55 1 = 0x55 := rfl
  rw [e1, e]
  show _ - (_ &&& (256 * ab_rep 0x55 m + 0x55)) = _
  rw [ab_and256 _ _ _ _ (by omega) (by omega), ab_d55 (q % 2) (by omega) (v / 2) (by omega)]
  have h1 : q / 2 &&& ab_rep 0x55 m ≤ q / 2 := Nat.and_le_left
  have h2 : v / 2 &&& 0x55 ≤ v / 2 := Nat.and_le_left
  omega
theorem ab_f2s (m q v : Nat) (hv : v < 256) : ab_f2 (m + 1) (256 * q + v) = 256 * ab_f2 m q + ab_f2 1 v := by
  unfold ab_f2
  have e : (256 * q + v) / 4 = 256 * (q / 4) + (64 * (q % 4) + v / 4) := by omega
  have e1 : ab_rep 0x33 1 = 0x33 := rfl
  rw [e1, e]
  show (_ &&& (256 * ab_rep 0x33 m + 0x33)) + (_ &&& (256 * ab_rep 0x33 m + 0x33)) = _
  rw [ab_and256 _ _ _ _ (by omega) (by omega), ab_and256 _ _ _ _ (by omega) (by omega), ab_d33 (q % 4) (by omega) (v / 4) (by omega)]
  omega
theorem ab_f3s (m q v : Nat) (hv : v % 16 ≤ 4) (hv2 : v / 16 ≤ 4) (hq : q % 16 ≤ 4) : ab_f3 (m + 1) (256 * q + v) = 256 * ab_f3 m q + ab_f3 1 v := by
  unfold ab_f3
  have e : (256 * q + v) + (256 * q + v) / 16 = 256 * (q + q / 16) + (16 * (q % 16) + v + v / 16) := by omega
  have e1 : ab_rep 0x0f 1 = 0x0f := rfl
  rw [e1, e]
  show (_ &&& (256 * ab_rep 0x0f m + 0x0f)) = _
  rw [ab_and256 _ _ _ _ (by omega) (by omega), ab_d0f _ (by omega), ab_d0f _ (by omega)]
  omega
def ab_ds : Nat → Nat → Nat
  | 0, _ => 0
  | m + 1, n => 256 * ab_ds m (n / 256) + ab_cnt (fun i => (n % 256).testBit i) 8
theorem ab_gs : ∀ (m n : Nat), n < 256 ^ m → ab_f3 m (ab_f2 m (ab_f1 m n)) = ab_ds m n ∧ ab_f2 m (ab_f1 m n) % 16 ≤ 4
  | 0, n, h => by
    have : n = 0 := by omega
    subst this
    decide +kernel
  | m + 1, n, h => by
    have hq : n / 256 < 256 ^ m := by
      rw [Nat.pow_succ] at h
      omega
    obtain ⟨i1, i2⟩ := ab_gs m (n / 256) hq
    obtain ⟨d1, d2, d3, d4⟩ := ab_dg (n % 256) (by omega)
    have e : n = 256 * (n / 256) + n % 256 := by omega
    have e1 : ab_f1 (m + 1) n = 256 * ab_f1 m (n / 256) + ab_f1 1 (n % 256) := by
      conv => lhs; rw [e]
      exact ab_f1s m _ _ (by omega)
    rw [e1, ab_f2s m _ _ d4, ab_f3s m _ _ d2 d3 i2, i1, d1]
    refine ⟨rfl, ?_⟩
    omega
theorem ab_cnt8 : ∀ v : Nat, ab_cnt (fun i => v.testBit i) 8 ≤ 8 := fun v => ab_cnt_le _ 8
theorem ab_cnt_split (n : Nat) (k : Nat) : ab_cnt (fun i => n.testBit i) (8 + k) = ab_cnt (fun i => (n % 256).testBit i) 8 + ab_cnt (fun i => (n / 256).testBit i) k := by
  rw [ab_cnt_add]
  have e1 : ab_cnt (fun i => n.testBit i) 8 = ab_cnt (fun i => (n % 256).testBit i) 8 := by
    apply ab_cnt_congr
    intro i hi
    show n.testBit i = (n % 2 ^ 8).testBit i
    rw [Nat.testBit_mod_two_pow]
    simp [hi]
  have e2 : ab_cnt (fun i => n.testBit (8 + i)) k = ab_cnt (fun i => (n / 256).testBit i) k := by
    apply ab_cnt_congr
    intro i hi
    show n.testBit (8 + i) = (n / 2 ^ 8).testBit i
    rw [Nat.testBit_div_two_pow, Nat.add_comm]
  rw [e1, e2]
theorem ab_ds8 (n : Nat) : ∃ c0 c1 c2 c3 c4 c5 c6 c7 : Nat, c0 ≤ 8 ∧ c1 ≤ 8 ∧ c2 ≤ 8 ∧ c3 ≤ 8 ∧ c4 ≤ 8 ∧ c5 ≤ 8 ∧ c6 ≤ 8 ∧ c7 ≤ 8 ∧ ab_cnt (fun i => n.testBit i) 64 = c0 + (c1 + (c2 + (c3 + (c4 + (c5 + (c6 + (c7 + 0))))))) ∧ ab_ds 8 n = 256 * (256 * (256 * (256 * (256 * (256 * (256 * (256 * 0 + c7) + c6) + c5) + c4) + c3) + c2) + c1) + c0 := by
  refine ⟨ab_cnt (fun i => (n % 256).testBit i) 8,
    ab_cnt (fun i => ((n / 256) % 256).testBit i) 8,
    ab_cnt (fun i => ((n / 256 / 256) % 256).testBit i) 8,
    ab_cnt (fun i => ((n / 256 / 256 / 256) % 256).testBit i) 8,
    ab_cnt (fun i => ((n / 256 / 256 / 256 / 256) % 256).testBit i) 8,
    ab_cnt (fun i => ((n / 256 / 256 / 256 / 256 / 256) % 256).testBit i) 8,
    ab_cnt (fun i => ((n / 256 / 256 / 256 / 256 / 256 / 256) % 256).testBit i) 8,
    ab_cnt (fun i => ((n / 256 / 256 / 256 / 256 / 256 / 256 / 256) % 256).testBit i) 8, ab_cnt8 _, ab_cnt8 _, ab_cnt8 _, ab_cnt8 _, ab_cnt8 _, ab_cnt8 _, ab_cnt8 _, ab_cnt8 _, ?_, rfl⟩
  show ab_cnt (fun i => n.testBit i) (8 + (8 + (8 + (8 + (8 + (8 + (8 + (8 + 0)))))))) = _
  rw [ab_cnt_split, ab_cnt_split, ab_cnt_split, ab_cnt_split, ab_cnt_split, ab_cnt_split, ab_cnt_split, ab_cnt_split]
  rfl
/-- what bitCount's last four lines make of the bytes' counts -/
theorem ab_sum8 (n i a b c : Nat) (hi : i = ab_ds 8 n) (ha : a = i + i / 256) (hb : b = a + a / 65536) (hc : c = b + b / 4294967296) : a < 2 ^ 63 ∧ b < 2 ^ 63 ∧ c < 2 ^ 63 ∧ c % 128 = ab_cnt (fun i => n.testBit i) 64 := by
  obtain ⟨c0, c1, c2, c3, c4, c5, c6, c7, g0, g1, g2, g3, g4, g5, g6, g7, e1, e2⟩ := ab_ds8 n
  rw [e2] at hi
  rw [e1]
  have h1 : i / 256 = 256 * (256 * (256 * (256 * (256 * (256 * c7 + c6) + c5) + c4) + c3) + c2) + c1 := by omega
  have h2 : a / 65536 = 256 * (256 * (256 * (256 * (256 * c7 + (c6 + c7)) + (c5 + c6)) + (c4 + c5)) + (c3 + c4)) + (c2 + c3) := by omega
  refine ⟨by omega, by omega, by omega, ?_⟩
  have h3 : b / 4294967296 = 256 * (256 * (256 * c7 + (c6 + c7)) + (c5 + c6 + c7)) + (c4 + c5 + c6 + c7) := by omega
  omega
/-! Int64 as an unsigned number -/
def ab_un (x : Int64) : Nat := x.toBitVec.toNat
theorem ab_un_lt (x : Int64) : ab_un x < 2 ^ 64 := x.toBitVec.isLt
theorem ab_un_bt (x : Int64) (i : Nat) : (ab_un x).testBit i = ab_bt x i := rfl
theorem ab_un_sub (x y : Int64) (h : ab_un y ≤ ab_un x) : ab_un (x - y) = ab_un x - ab_un y := by
  have h1 := ab_un_lt x
  have h2 := ab_un_lt y
  unfold ab_un at *
  rw [Int64.toBitVec_sub, BitVec.toNat_sub]
  omega
theorem ab_un_add (x y : Int64) (h : ab_un x + ab_un y < 2 ^ 64) : ab_un (x + y) = ab_un x + ab_un y := by
  unfold ab_un at *
  rw [Int64.toBitVec_add, BitVec.toNat_add]
  omega
theorem ab_un_and (x y : Int64) : ab_un (x &&& y) = ab_un x &&& ab_un y := by
  unfold ab_un
  rw [Int64.toBitVec_and, BitVec.toNat_and]
theorem ab_un_shr (x : Int64) (k : Nat) (hk : k < 64) : ab_un ((x.toUInt64 >>> ((nI k).toInt64.toUInt64 &&& Int64.toUInt64 63)).toInt64) = ab_un x / 2 ^ k := by
  apply Nat.eq_of_testBit_eq
  intro i
  rw [ab_un_bt, ab_bt_ushr hk, Nat.testBit_div_two_pow, ab_un_bt, Nat.add_comm]
theorem ab_un_i32 (x : Int64) (h : ab_un x % 128 ≤ 64) : x.toInt32 &&& 127 = nI (ab_un x % 128) := by
  refine b_ext (fun i hi => ?_)
  have e127 : ∀ i, i < 32 → bt 127 i = decide (i < 7) := by decide +kernel
  rw [b_and, e127 i hi]
  have e1 : bt x.toInt32 i = (ab_un x).testBit i := by
    rw [ab_un_bt]
    show (x.toBitVec.signExtend 32).getLsbD i = x.toBitVec.getLsbD i
    rw [BitVec.getLsbD_signExtend]
    simp [hi, show i < 64 by omega]
  have e2 : bt (nI (ab_un x % 128)) i = (ab_un x % 2 ^ 7).testBit i := by
    show (BitVec.ofNat 32 (ab_un x % 128)).getLsbD i = _
    rw [BitVec.getLsbD_ofNat]
    simp [hi]
  rw [e1, e2, Nat.testBit_mod_two_pow, Bool.and_comm]
set_option maxRecDepth 10000 in
/-- Long.bitCount -/
theorem ab_bitCount (x a b c d e f : Int64) (ha : a = x - ((x.toUInt64 >>> ((1 : Int32).toInt64.toUInt64 &&& Int64.toUInt64 63)).toInt64 &&& 6148914691236517205))
    (hb : b = (a &&& 3689348814741910323) + ((a.toUInt64 >>> ((2 : Int32).toInt64.toUInt64 &&& Int64.toUInt64 63)).toInt64 &&& 3689348814741910323))
    (hc : c = (b + (b.toUInt64 >>> ((4 : Int32).toInt64.toUInt64 &&& Int64.toUInt64 63)).toInt64) &&& 1085102592571150095)
    (hd : d = c + (c.toUInt64 >>> ((8 : Int32).toInt64.toUInt64 &&& Int64.toUInt64 63)).toInt64)
    (he : e = d + (d.toUInt64 >>> ((16 : Int32).toInt64.toUInt64 &&& Int64.toUInt64 63)).toInt64)
    (hf : f = e + (e.toUInt64 >>> ((32 : Int32).toInt64.toUInt64 &&& Int64.toUInt64 63)).toInt64) : f.toInt32 &&& 127 = nI (ab_pc x) := by
  have m1 : ab_un (6148914691236517205 : Int64) = ab_rep 0x55 8 := by decide +kernel
  have m2 : ab_un (3689348814741910323 : Int64) = ab_rep 0x33 8 := by decide +kernel
  have m3 : ab_un (1085102592571150095 : Int64) = ab_rep 0x0f 8 := by decide +kernel
  have b2 : ab_rep 0x33 8 = 3689348814741910323 := by decide +kernel
  have hx := ab_un_lt x
  obtain ⟨g1, -⟩ := ab_gs 8 (ab_un x) (by omega)
  have s1 : ∀ y : Int64, ab_un ((y.toUInt64 >>> ((1 : Int32).toInt64.toUInt64 &&& Int64.toUInt64 63)).toInt64) = ab_un y / 2 := fun y => ab_un_shr y 1 (by omega)
  have s2 : ∀ y : Int64, ab_un ((y.toUInt64 >>> ((2 : Int32).toInt64.toUInt64 &&& Int64.toUInt64 63)).toInt64) = ab_un y / 4 := fun y => ab_un_shr y 2 (by omega)
  have s4 : ∀ y : Int64, ab_un ((y.toUInt64 >>> ((4 : Int32).toInt64.toUInt64 &&& Int64.toUInt64 63)).toInt64) = ab_un y / 16 := fun y => ab_un_shr y 4 (by omega)
  have s8 : ∀ y : Int64, ab_un ((y.toUInt64 >>> ((8 : Int32).toInt64.toUInt64 &&& Int64.toUInt64 63)).toInt64) = ab_un y / 256 := fun y => ab_un_shr y 8 (by omega)
  have s16 : ∀ y : Int64, ab_un ((y.toUInt64 >>> ((16 : Int32).toInt64.toUInt64 &&& Int64.toUInt64 63)).toInt64) = ab_un y / 65536 := fun y => ab_un_shr y 16 (by omega)
  have s32 : ∀ y : Int64, ab_un ((y.toUInt64 >>> ((32 : Int32).toInt64.toUInt64 &&& Int64.toUInt64 63)).toInt64) = ab_un y / 4294967296 := fun y => ab_un_shr y 32 (by omega)
  have ua : ab_un a = ab_f1 8 (ab_un x) := by
    rw [ha, ab_un_sub _ _ (by rw [ab_un_and, s1]; exact Nat.le_trans Nat.and_le_left (Nat.div_le_self _ _)), ab_un_and, s1, m1]
    rfl
  have ub : ab_un b = ab_f2 8 (ab_un a) := by
    have h1 : ab_un a &&& ab_rep 0x33 8 ≤ ab_rep 0x33 8 := Nat.and_le_right
    have h2 : ab_un a / 4 &&& ab_rep 0x33 8 ≤ ab_rep 0x33 8 := Nat.and_le_right
    rw [hb, ab_un_add _ _ (by rw [ab_un_and, ab_un_and, s2, m2]; omega), ab_un_and, ab_un_and, s2, m2]
    rfl
  have ublt : ab_un b ≤ 2 * 3689348814741910323 := by
    have h1 : ab_un a &&& ab_rep 0x33 8 ≤ ab_rep 0x33 8 := Nat.and_le_right
    have h2 : ab_un a / 4 &&& ab_rep 0x33 8 ≤ ab_rep 0x33 8 := Nat.and_le_right
    rw [ub]
    unfold ab_f2
    omega
  have uc : ab_un c = ab_f3 8 (ab_un b) := by
    rw [hc, ab_un_and, ab_un_add _ _ (by rw [s4]; omega), s4, m3]
    rfl
  have uc2 : ab_un c = ab_ds 8 (ab_un x) := by rw [uc, ub, ua, g1]
  obtain ⟨k1, k2, k3, k4⟩ := ab_sum8 (ab_un x) (ab_un c) _ _ _ uc2 rfl rfl rfl
  have ud : ab_un d = ab_un c + ab_un c / 256 := by rw [hd, ab_un_add _ _ (by rw [s8]; omega), s8]
  have ue : ab_un e = ab_un d + ab_un d / 65536 := by rw [he, ab_un_add _ _ (by rw [s16, ud]; omega), s16]
  have uf : ab_un f = ab_un e + ab_un e / 4294967296 := by rw [hf, ab_un_add _ _ (by rw [s32, ue, ud]; omega), s32]
  have k5 : ab_un f % 128 = ab_pc x := by rw [uf, ue, ud]; exact k4
  have k6 := ab_cnt_le (ab_bt x) 64
  rw [ab_un_i32 f (by rw [k5]; exact k6), k5]
