/-! THE MATHEMATICAL STATE: numbers, truths, places or none, by the reference's own cells (43 scalars 0 modules, 2 packs, 6 types, 16 members; 44 doesRead, 45 moduleOf, 46 isOut, 47 isOutToAll, 48 packOf, 49 outerOf, 50 sortOf, 51 accessOf, 52 flagsOf, 53 parentOf, 54 faces, 55 faceCount, 56 isAbove, 57 mType, 58 mKind, 59 mName, 60 mAccess, 61 mFlags) -/
abbrev sT : Type := (Nat → Nat → Nat) × (Nat → Nat → Bool) × (Nat → Nat → Option Nat)
def ab_o : Option Nat → Int32
  | none => -2
  | some n => nI n
def s_ik (k j : Nat) : Bool := k == 45 || k == 48 || k == 50 || k == 51 || k == 52 || k == 54 || k == 55 || k == 57 || k == 58 || k == 59 || k == 60 || k == 61 || (k == 43 && (j == 0 || j == 2 || j == 6 || j == 16))
def s_bk (k : Nat) : Bool := k == 44 || k == 46 || k == 47 || k == 56
abbrev s_nM (S : sT) : Nat := S.1 43 0
abbrev s_nP (S : sT) : Nat := S.1 43 2
abbrev s_nT (S : sT) : Nat := S.1 43 6
abbrev s_nX (S : sT) : Nat := S.1 43 16
abbrev s_ou (S : sT) (t : Nat) : Option Nat := S.2.2 49 t
abbrev s_pa (S : sT) (t : Nat) : Option Nat := S.2.2 53 t
abbrev s_ab (S : sT) (t u : Nat) : Bool := S.2.1 56 (40 * t + u)
/-- the reference's cells hold S -/
def RepR (S : sT) (μ : ab_M) : Prop := (∀ k j, s_ik k j = true → μ.1 k j = nI (S.1 k j)) ∧ (∀ k j, s_bk k = true → μ.1 k j = ab_z (S.2.1 k j)) ∧ (∀ k j, (k = 49 ∨ k = 53) → j < s_nT S → μ.1 k j = ab_o (S.2.2 k j))
/-- ranges -/
def Wf (S : sT) : Prop := (1 ≤ s_nM S ∧ s_nM S ≤ 6) ∧ (1 ≤ s_nP S ∧ s_nP S ≤ 10) ∧ (1 ≤ s_nT S ∧ s_nT S ≤ 40) ∧ s_nX S ≤ 120 ∧ (∀ p, p < s_nP S → S.1 45 p < s_nM S) ∧
  (∀ t, t < s_nT S → S.1 48 t < s_nP S ∧ S.1 50 t < 2 ∧ S.1 51 t < 4 ∧ S.1 52 t < 8 ∧ S.1 55 t ≤ 4 ∧ (∀ k, k < S.1 55 t → S.1 54 (4 * t + k) < s_nT S) ∧ (∀ o, s_ou S t = some o → o < t) ∧ (∀ p, s_pa S t = some p → p < s_nT S)) ∧
  (∀ m, m < s_nX S → S.1 57 m < s_nT S ∧ S.1 58 m < 3 ∧ S.1 59 m < 10 ∧ S.1 60 m < 4 ∧ S.1 61 m < 8)
theorem ix_40 (t u : Nat) : (40 : Int32) * nI t + nI u = nI (40 * t + u) := by rw [show (40 : Int32) = nI 40 from rfl, pk_mul, nI_add]
theorem ix_120 (t u : Nat) : (120 : Int32) * nI t + nI u = nI (120 * t + u) := by rw [show (120 : Int32) = nI 120 from rfl, pk_mul, nI_add]
theorem ix_6 (t u : Nat) : (6 : Int32) * nI t + nI u = nI (6 * t + u) := by rw [show (6 : Int32) = nI 6 from rfl, pk_mul, nI_add]
theorem ix_4 (t u : Nat) : (4 : Int32) * nI t + nI u = nI (4 * t + u) := by rw [show (4 : Int32) = nI 4 from rfl, pk_mul, nI_add]
theorem ix_lt {a b : Nat} (ha : a < 2 ^ 31) (hb : b < 2 ^ 31) : (nI a < nI b) ↔ a < b := nI_ltI ha hb
theorem ix_le {a b : Nat} (ha : a < 2 ^ 31) (hb : b < 2 ^ 31) : (nI a ≤ nI b) ↔ a ≤ b := nI_leI ha hb
theorem ix_eq {a b : Nat} (ha : a < 2 ^ 31) (hb : b < 2 ^ 31) : (nI a = nI b) ↔ a = b := nI_eq ha hb
def s_has (a b : Nat) : Bool := (a &&& b) != 0
theorem ab_nand (a b : Nat) : nI a &&& nI b = nI (a &&& b) := by
  apply Int32.toBitVec_inj.1
  show BitVec.ofNat 32 a &&& BitVec.ofNat 32 b = BitVec.ofNat 32 (a &&& b)
  apply BitVec.eq_of_getLsbD_eq
  intro i hi
  simp [hi]
theorem ab_o_some (n : Nat) : ab_o (some n) = nI n := rfl
theorem ab_o_none : ab_o none = -2 := rfl
theorem ab_o_neg {o : Option Nat} (h : ∀ n, o = some n → n < 2 ^ 31) : ab_o o < 0 ↔ o = none := by
  cases o with
  | none => exact ⟨fun _ => rfl, fun _ => by decide⟩
  | some n => exact ⟨fun q => absurd q (nI_pos (h n rfl)), fun q => by cases q⟩
theorem ab_o_nn {o : Option Nat} (h : ∀ n, o = some n → n < 2 ^ 31) : 0 ≤ ab_o o ↔ ∃ n, o = some n := by
  cases o with
  | none => exact ⟨fun q => absurd q (by decide), fun ⟨n, q⟩ => by cases q⟩
  | some n => exact ⟨fun q => ⟨n, rfl⟩, fun q => nI_pos' (h n rfl)⟩
/-- the TYPE and the OUTERS around it, outwards -/
def s_chF (S : sT) : Nat → Nat → List Nat
  | 0, t => [t]
  | n + 1, t => t :: (match s_ou S t with
    | none => []
    | some o => s_chF S n o)
def s_ch (S : sT) (t : Nat) : List Nat := s_chF S t t
theorem s_chF_st {S : sT} (hW : Wf S) : ∀ (n m t : Nat), t < s_nT S → t ≤ n → t ≤ m → s_chF S n t = s_chF S m t
  | n, m, t, ht, hn, hm => by
    have ho := (hW.2.2.2.2.2.1 t ht).2.2.2.2.2.2.1
    cases e : s_ou S t with
    | none => cases n <;> cases m <;> simp [s_chF, e]
    | some o =>
      have h1 := ho o e
      obtain ⟨n', rfl⟩ : ∃ n', n = n' + 1 := ⟨n - 1, by omega⟩
      obtain ⟨m', rfl⟩ : ∃ m', m = m' + 1 := ⟨m - 1, by omega⟩
      simp only [s_chF, e]
      rw [s_chF_st hW n' m' o (by omega) (by omega) (by omega)]
termination_by n => n
theorem s_ch_none {S : sT} {t : Nat} (e : s_ou S t = none) : s_ch S t = [t] := by
  unfold s_ch
  cases t <;> simp [s_chF, e]
theorem s_ch_some {S : sT} (hW : Wf S) {t o : Nat} (ht : t < s_nT S) (e : s_ou S t = some o) : s_ch S t = t :: s_ch S o := by
  have h1 := (hW.2.2.2.2.2.1 t ht).2.2.2.2.2.2.1 o e
  unfold s_ch
  obtain ⟨n', rfl⟩ : ∃ n', t = n' + 1 := ⟨t - 1, by omega⟩
  simp only [s_chF, e]
  rw [s_chF_st hW n' o o (by omega) (by omega) (by omega)]
/-- its TOP -/
def s_top (S : sT) (t : Nat) : Nat := (s_ch S t).getLastD t
theorem vp_of {x : Int32} {k n : Nat} (e : x = nI k) (h : k < n) (hn : n < 2 ^ 31) : vp_in x n := by rw [e]; exact vp_in_nI h hn
theorem ab_ok4 (x : Int32) : ab_ok 4 x = (decide (0 ≤ x) && decide (x ≤ nI 3)) := by
  unfold ab_ok
  congr 1
  rw [decide_eq_decide, Int32.lt_iff_toInt_lt, Int32.le_iff_toInt_le]
  show _ < (4 : Int) ↔ _ ≤ (3 : Int)
  omega
theorem ab_ok8 (x : Int32) : ab_ok 8 x = (decide (0 ≤ x) && decide (x ≤ nI 7)) := by
  unfold ab_ok
  congr 1
  rw [decide_eq_decide, Int32.lt_iff_toInt_lt, Int32.le_iff_toInt_le]
  show _ < (8 : Int) ↔ _ ≤ (7 : Int)
  omega
def s_pl (S : sT) (m : Nat) : Bool := !(S.1 60 m == 0) && !s_has (S.1 61 m) 1
theorem s_and_lt {a b : Nat} (h : a < 8) : a &&& b < 2 ^ 31 := by
  have : a &&& b ≤ a := Nat.and_le_left
  omega
/-- the MEMBER of a kind and NAME that a TYPE DECLARES, among the first n -/
def s_decF (S : sT) (t k x : Nat) : Nat → Option Nat
  | 0 => none
  | n + 1 => match s_decF S t k x n with
    | some m => some m
    | none => if S.1 57 n = t ∧ S.1 58 n = k ∧ S.1 59 n = x then some n else none
def s_dec (S : sT) (t k x : Nat) : Option Nat := s_decF S t k x (s_nX S)
theorem s_decF_some {S : sT} {t k x m : Nat} : ∀ {n : Nat}, s_decF S t k x n = some m → m < n ∧ S.1 57 m = t ∧ S.1 58 m = k ∧ S.1 59 m = x
  | 0, h => by cases h
  | n + 1, h => by
    simp only [s_decF] at h
    split at h
    · rename_i m' e
      cases h
      obtain ⟨h1, h2⟩ := s_decF_some e
      exact ⟨by omega, h2⟩
    · split at h
      · rename_i h3
        cases h
        exact ⟨by omega, h3⟩
      · cases h
theorem s_decF_none {S : sT} {t k x : Nat} : ∀ {n : Nat}, s_decF S t k x n = none → ∀ m, m < n → ¬ (S.1 57 m = t ∧ S.1 58 m = k ∧ S.1 59 m = x)
  | 0, _ => fun m hm => by omega
  | n + 1, h => by
    simp only [s_decF] at h
    split at h
    · cases h
    · rename_i e
      split at h
      · cases h
      · rename_i h3
        intro m hm
        by_cases hmn : m = n
        · subst hmn; exact h3
        · exact s_decF_none e m (by omega)
theorem s_decF_step {S : sT} {t k x n N : Nat} (hn : n < N) (e : s_decF S t k x n = none) (h : S.1 57 n = t ∧ S.1 58 n = k ∧ S.1 59 n = x) : s_decF S t k x N = some n := by
  induction N with
  | zero => omega
  | succ N ih =>
    simp only [s_decF]
    by_cases hN : n = N
    · subst hN
      rw [e]
      simp [h]
    · rw [ih (by omega)]
theorem RepR_fs {S : sT} {μ : ab_M} (R : RepR S μ) : μ.1 44 = (fun j => ab_z (S.2.1 44 j)) ∧ μ.1 45 = (fun j => nI (S.1 45 j)) ∧ μ.1 46 = (fun j => ab_z (S.2.1 46 j)) ∧ μ.1 47 = (fun j => ab_z (S.2.1 47 j)) ∧ μ.1 48 = (fun j => nI (S.1 48 j)) ∧ (∀ j, j < s_nT S → μ.1 49 j = ab_o (s_ou S j)) ∧ μ.1 50 = (fun j => nI (S.1 50 j)) ∧ μ.1 51 = (fun j => nI (S.1 51 j)) ∧ μ.1 52 = (fun j => nI (S.1 52 j)) ∧ (∀ j, j < s_nT S → μ.1 53 j = ab_o (s_pa S j)) ∧ μ.1 54 = (fun j => nI (S.1 54 j)) ∧ μ.1 55 = (fun j => nI (S.1 55 j)) ∧ μ.1 56 = (fun j => ab_z (S.2.1 56 j)) ∧ μ.1 57 = (fun j => nI (S.1 57 j)) ∧ μ.1 58 = (fun j => nI (S.1 58 j)) ∧ μ.1 59 = (fun j => nI (S.1 59 j)) ∧ μ.1 60 = (fun j => nI (S.1 60 j)) ∧ μ.1 61 = (fun j => nI (S.1 61 j)) ∧ μ.1 43 0 = nI (s_nM S) ∧ μ.1 43 2 = nI (s_nP S) ∧ μ.1 43 6 = nI (s_nT S) ∧ μ.1 43 16 = nI (s_nX S) :=
  ⟨funext fun j => R.2.1 44 j rfl, funext fun j => R.1 45 j rfl, funext fun j => R.2.1 46 j rfl, funext fun j => R.2.1 47 j rfl, funext fun j => R.1 48 j rfl, fun j h => R.2.2 49 j (Or.inl rfl) h, funext fun j => R.1 50 j rfl, funext fun j => R.1 51 j rfl, funext fun j => R.1 52 j rfl, fun j h => R.2.2 53 j (Or.inr rfl) h, funext fun j => R.1 54 j rfl, funext fun j => R.1 55 j rfl, funext fun j => R.2.1 56 j rfl, funext fun j => R.1 57 j rfl, funext fun j => R.1 58 j rfl, funext fun j => R.1 59 j rfl, funext fun j => R.1 60 j rfl, funext fun j => R.1 61 j rfl, R.1 43 0 rfl, R.1 43 2 rfl, R.1 43 6 rfl, R.1 43 16 rfl⟩
theorem ix_l0 {a : Nat} (h : a < 2 ^ 31) : (nI a = 0) ↔ a = 0 := ix_eq (b := 0) h (by omega)
theorem ix_l1 {a : Nat} (h : a < 2 ^ 31) : (nI a = 1) ↔ a = 1 := ix_eq (b := 1) h (by omega)
theorem ix_l2 {a : Nat} (h : a < 2 ^ 31) : (nI a = 2) ↔ a = 2 := ix_eq (b := 2) h (by omega)
theorem ix_l3 {a : Nat} (h : a < 2 ^ 31) : (nI a = 3) ↔ a = 3 := ix_eq (b := 3) h (by omega)
theorem ix_l4 {a : Nat} (h : a < 2 ^ 31) : (nI a = 4) ↔ a = 4 := ix_eq (b := 4) h (by omega)
theorem ix_l5 {a : Nat} (h : a < 2 ^ 31) : (nI a = 5) ↔ a = 5 := ix_eq (b := 5) h (by omega)
theorem ix_l6 {a : Nat} (h : a < 2 ^ 31) : (nI a = 6) ↔ a = 6 := ix_eq (b := 6) h (by omega)
theorem ix_l10 {a : Nat} (h : a < 2 ^ 31) : (nI a = 10) ↔ a = 10 := ix_eq (b := 10) h (by omega)
theorem ix_l40 {a : Nat} (h : a < 2 ^ 31) : (nI a = 40) ↔ a = 40 := ix_eq (b := 40) h (by omega)
theorem ix_l120 {a : Nat} (h : a < 2 ^ 31) : (nI a = 120) ↔ a = 120 := ix_eq (b := 120) h (by omega)
theorem ix_n0 {a : Nat} (h : a < 2 ^ 31) : (nI a < 0) ↔ False := ⟨fun q => nI_pos h q, False.elim⟩
theorem ix_p0 {a : Nat} (h : a < 2 ^ 31) : (0 ≤ nI a) ↔ True := ⟨fun _ => trivial, fun _ => nI_pos' h⟩
theorem ab_ozn : ((ab_o none) < 0) ↔ True := ⟨fun _ => trivial, fun _ => by decide⟩
theorem ab_ozp : (0 ≤ (ab_o none)) ↔ False := ⟨fun q => absurd q (by decide), False.elim⟩
theorem li_2 : (2 : Int32) = nI 2 := rfl
theorem li_3 : (3 : Int32) = nI 3 := rfl
theorem li_4 : (4 : Int32) = nI 4 := rfl
theorem li_5 : (5 : Int32) = nI 5 := rfl
theorem li_6 : (6 : Int32) = nI 6 := rfl
theorem li_7 : (7 : Int32) = nI 7 := rfl
theorem li_8 : (8 : Int32) = nI 8 := rfl
theorem li_9 : (9 : Int32) = nI 9 := rfl
theorem li_10 : (10 : Int32) = nI 10 := rfl
theorem li_40 : (40 : Int32) = nI 40 := rfl
theorem li_120 : (120 : Int32) = nI 120 := rfl
theorem ix_1lt {a : Nat} (h : a < 2 ^ 31) : ((1 : Int32) < nI a) ↔ 1 < a := ix_lt (a := 1) (by omega) h
theorem ix_lt1 {a : Nat} (h : a < 2 ^ 31) : (nI a < 1) ↔ a < 1 := ix_lt (b := 1) h (by omega)
theorem ix_1le {a : Nat} (h : a < 2 ^ 31) : ((1 : Int32) ≤ nI a) ↔ 1 ≤ a := ix_le (a := 1) (by omega) h
theorem ix_le1 {a : Nat} (h : a < 2 ^ 31) : (nI a ≤ 1) ↔ a ≤ 1 := ix_le (b := 1) h (by omega)
theorem ix_le0 {a : Nat} (h : a < 2 ^ 31) : (nI a ≤ 0) ↔ a = 0 := by
  have := ix_le (a := a) (b := 0) h (by omega)
  exact this.trans (by omega)
theorem ix_0lt {a : Nat} (h : a < 2 ^ 31) : (0 < nI a) ↔ 0 < a := ix_lt (a := 0) (by omega) h
def ab_o1 : Option Nat → Int32
  | none => -1
  | some n => nI n
theorem ab_o1_some (n : Nat) : ab_o1 (some n) = nI n := rfl
theorem ab_o_neg2 {o : Option Nat} (h : ∀ n, o = some n → n < 2 ^ 31) : ab_o o < 0 ↔ o.isSome = false := by
  rw [ab_o_neg h]; cases o <;> simp
theorem ab_o_pos2 {o : Option Nat} (h : ∀ n, o = some n → n < 2 ^ 31) : 0 ≤ ab_o o ↔ o.isSome = true := by
  rw [ab_o_nn h]; cases o <;> simp
theorem s_dec_lt {S : sT} (hW : Wf S) {t k x m : Nat} (h : s_dec S t k x = some m) : m < s_nX S ∧ m < 120 := by
  have := (s_decF_some h).1
  have := hW.2.2.2.1
  omega
theorem q_n {Q : Int32 → ab_M → Prop} {n : Nat} {r : Int32} {μ : ab_M} (h : Q (nI n) μ) (k : Nat) (hk : r = nI k) (e : k = n) : Q r μ := by rw [hk, e]; exact h
