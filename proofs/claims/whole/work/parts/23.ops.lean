/-! changes of the state, and what they keep -/
def s_un (S : sT) (k j v : Nat) : sT := (fun a b => if a = k ∧ b = j then v else S.1 a b, S.2)
def s_ub (S : sT) (k j : Nat) (v : Bool) : sT := (S.1, fun a b => if a = k ∧ b = j then v else S.2.1 a b, S.2.2)
def s_uo (S : sT) (k j : Nat) (v : Option Nat) : sT := (S.1, S.2.1, fun a b => if a = k ∧ b = j then v else S.2.2 a b)
def SameC (μ μ' : ab_M) : Prop := μ'.2 = μ.2 ∧ ∀ k, k < 43 → μ'.1 k = μ.1 k
def SameK (μ μ' : ab_M) : Prop := μ'.1 43 22 = μ.1 43 22 ∧ μ'.1 62 = μ.1 62 ∧ μ'.1 64 = μ.1 64
theorem SameC.rf {μ : ab_M} : SameC μ μ := ⟨rfl, fun _ _ => rfl⟩
theorem SameC.tr {μ μ' μ'' : ab_M} (h : SameC μ μ') (h' : SameC μ' μ'') : SameC μ μ'' := ⟨h'.1.trans h.1, fun k hk => (h'.2 k hk).trans (h.2 k hk)⟩
theorem SameC.mi {μ μ' : ab_M} (h : SameC μ μ') {k j : Nat} {x : Int32} (hk : 43 ≤ k) : SameC μ (ab_mi μ' k j x) := ⟨h.1, fun a ha => by
  rw [← h.2 a ha]
  funext b
  have : ¬ a = k := by omega
  simp [ab_mi, this]⟩
theorem SameK.rf {μ : ab_M} : SameK μ μ := ⟨rfl, rfl, rfl⟩
theorem SameK.tr {μ μ' μ'' : ab_M} (h : SameK μ μ') (h' : SameK μ' μ'') : SameK μ μ'' := ⟨h'.1.trans h.1, h'.2.1.trans h.2.1, h'.2.2.trans h.2.2⟩
theorem SameK.mi {μ μ' : ab_M} (h : SameK μ μ') {k j : Nat} {x : Int32} (h1 : k ≠ 62) (h2 : k ≠ 64) (h3 : ¬ (k = 43 ∧ j = 22)) : SameK μ (ab_mi μ' k j x) := by
  refine ⟨?_, ?_, ?_⟩
  · rw [← h.1]
    have : ¬ (43 = k ∧ 22 = j) := fun q => h3 ⟨q.1.symm, q.2.symm⟩
    simp [ab_mi, this]
  · rw [← h.2.1]
    funext b
    simp [ab_mi, Ne.symm h1]
  · rw [← h.2.2]
    funext b
    simp [ab_mi, Ne.symm h2]
theorem s_ikb {k j : Nat} (h : s_ik k j = true) : s_bk k = false ∧ k ≠ 49 ∧ k ≠ 53 := by
  simp only [s_ik, Bool.or_eq_true, Bool.and_eq_true, beq_iff_eq] at h
  rcases h with h | h
  · rcases h with ((((((((((h | h) | h) | h) | h) | h) | h) | h) | h) | h) | h) | h <;> subst h <;> simp [s_bk]
  · rw [h.1]; simp [s_bk]
theorem rep_u {S : sT} {μ : ab_M} (R : RepR S μ) {k j v : Nat} (hk : s_ik k j = true) (hn : ¬ (k = 43 ∧ j = 6)) : RepR (s_un S k j v) (ab_mi μ k j (nI v)) := by
  obtain ⟨e1, e2, e3⟩ := s_ikb hk
  have hT : s_nT (s_un S k j v) = s_nT S := by
    simp only [s_nT, s_un]
    rw [if_neg (fun q => hn ⟨q.1.symm, q.2.symm⟩)]
  refine ⟨fun a b h => ?_, fun a b h => ?_, fun a b h hb => ?_⟩
  · by_cases hab : a = k ∧ b = j
    · simp [ab_mi, s_un, hab]
    · simp [ab_mi, s_un, hab, R.1 a b h]
  · have hab : ¬ a = k := fun q => by rw [q, e1] at h; cases h
    simp [ab_mi, s_un, hab, R.2.1 a b h]
  · have hab : ¬ a = k := fun q => by rcases h with h | h <;> omega
    rw [hT] at hb
    simp [ab_mi, s_un, hab, R.2.2 a b h hb]
theorem rep_ub {S : sT} {μ : ab_M} (R : RepR S μ) {k j : Nat} {v : Bool} (hk : s_bk k = true) : RepR (s_ub S k j v) (ab_mi μ k j (ab_z v)) := by
  have e0 : ∀ b, s_ik k b = false := by
    intro b
    simp only [s_bk, Bool.or_eq_true, beq_iff_eq] at hk
    rcases hk with ((h | h) | h) | h <;> subst h <;> simp [s_ik]
  have e1 : k ≠ 49 ∧ k ≠ 53 := by
    simp only [s_bk, Bool.or_eq_true, beq_iff_eq] at hk
    omega
  refine ⟨fun a b h => ?_, fun a b h => ?_, fun a b h hb => ?_⟩
  · have hab : ¬ a = k := fun q => by rw [q, e0] at h; cases h
    simp [ab_mi, s_ub, hab, R.1 a b h]
  · by_cases hab : a = k ∧ b = j
    · simp [ab_mi, s_ub, hab]
    · simp [ab_mi, s_ub, hab, R.2.1 a b h]
  · have hab : ¬ a = k := fun q => by rcases h with h | h <;> omega
    simp [ab_mi, hab]
    exact R.2.2 a b h hb
theorem rep_c {S : sT} {μ : ab_M} (R : RepR S μ) {k j : Nat} {x : Int32} (h1 : s_ik k j = false) (h2 : s_bk k = false) (h3 : k ≠ 49 ∧ k ≠ 53) : RepR S (ab_mi μ k j x) := by
  refine ⟨fun a b h => ?_, fun a b h => ?_, fun a b h hb => ?_⟩
  · have hab : ¬ (a = k ∧ b = j) := fun q => by rw [q.1, q.2, h1] at h; cases h
    simp [ab_mi, hab, R.1 a b h]
  · have hab : ¬ a = k := fun q => by rw [q, h2] at h; cases h
    simp [ab_mi, hab, R.2.1 a b h]
  · have hab : ¬ a = k := fun q => by rcases h with h | h <;> omega
    simp [ab_mi, hab, R.2.2 a b h hb]
/-! answers and changes: modules and packages -/
def a_module (S : sT) : Int32 := if s_nM S = 6 then -4 else nI (s_nM S)
def o_module (S : sT) : sT := if s_nM S = 6 then S else s_un (s_ub S 44 (6 * s_nM S) true) 43 0 (s_nM S + 1)
def a_reads (S : sT) (m n : Int32) : Int32 := if ab_ok (s_nM S) m && ab_ok (s_nM S) n then (if m = n ∨ S.2.1 44 (6 * m.toNatClampNeg + n.toNatClampNeg) = true then 0 else 1) else -1
def o_reads (S : sT) (m n : Int32) : sT := if a_reads S m n = 1 then s_ub S 44 (6 * m.toNatClampNeg + n.toNatClampNeg) true else S
def a_pack (S : sT) (m : Int32) : Int32 := if ab_ok (s_nM S) m then (if s_nP S = 10 then -4 else nI (s_nP S)) else -1
def o_pack (S : sT) (m : Int32) : sT := if ab_ok (s_nM S) m ∧ ¬ s_nP S = 10 then s_un (s_un S 45 (s_nP S) m.toNatClampNeg) 43 2 (s_nP S + 1) else S
def a_export (S : sT) (p to : Int32) : Int32 := if ab_ok (s_nP S) p && (to == -1 || ab_ok (s_nM S) to) then (if S.2.1 47 p.toNatClampNeg = true ∨ (¬ to = -1 ∧ S.2.1 46 (6 * p.toNatClampNeg + to.toNatClampNeg) = true) then 0 else 1) else -1
def o_export (S : sT) (p to : Int32) : sT := if a_export S p to = 1 then (if to = -1 then s_ub S 47 p.toNatClampNeg true else s_ub S 46 (6 * p.toNatClampNeg + to.toNatClampNeg) true) else S
def a_count (S : sT) (x : Int32) : Int32 := if x = 0 then nI (s_nM S) else if x = 1 then nI (s_nP S) else if x = 2 then nI (s_nT S) else if x = 3 then nI (s_nX S) else -1
def a_below (S : sT) (t u : Int32) : Int32 := if ab_ok (s_nT S) t && ab_ok (s_nT S) u then ab_z (s_ab S t.toNatClampNeg u.toNatClampNeg) else -1
def a_open (S : sT) (f t : Int32) : Int32 := if ab_ok (s_nT S) f && ab_ok (s_nT S) t then ab_z (s_open S f.toNatClampNeg t.toNatClampNeg) else -1
def SameD (μ μ' : ab_M) : Prop := μ'.2 = μ.2 ∧ ∀ k, k < 43 ∨ (62 ≤ k ∧ k ≤ 65) → μ'.1 k = μ.1 k
theorem SameD.rf {μ : ab_M} : SameD μ μ := ⟨rfl, fun _ _ => rfl⟩
theorem SameD.tr {μ μ' μ'' : ab_M} (h : SameD μ μ') (h' : SameD μ' μ'') : SameD μ μ'' := ⟨h'.1.trans h.1, fun k hk => (h'.2 k hk).trans (h.2 k hk)⟩
theorem SameD.mi {μ μ' : ab_M} (h : SameD μ μ') {k j : Nat} {x : Int32} (hk : 43 ≤ k ∧ ¬ (62 ≤ k ∧ k ≤ 65)) : SameD μ (ab_mi μ' k j x) := ⟨h.1, fun a ha => by
  rw [← h.2 a ha]
  funext b
  have : ¬ a = k := by omega
  simp [ab_mi, this]⟩
theorem SameD.c {μ μ' : ab_M} (h : SameD μ μ') : SameC μ μ' := ⟨h.1, fun k hk => h.2 k (Or.inl hk)⟩
