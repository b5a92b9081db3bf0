/-! rows for walks: side conditions, branches -/
theorem ab_sd {i : Int32} {n : Nat} {K : Prop} (a : vp_in i n) (b : K) : vp_in i n ∧ K := ⟨a, b⟩
theorem ab_sz {x : Int32} {K : Prop} (a : x = 0 ∨ x = 1) (b : K) : (x = 0 ∨ x = 1) ∧ K := ⟨a, b⟩
theorem br_n {c A B : Prop} (a : ¬ c → A) (b : c → B) : (¬ c → A) ∧ (c → B) := ⟨a, b⟩
/-- a boolean as the machine has it -/
def ab_z (b : Bool) : Int32 := if b then 1 else 0
theorem ab_z01 (b : Bool) : ab_z b = 0 ∨ ab_z b = 1 := by cases b <;> simp [ab_z]
theorem ab_z0 (b : Bool) : ab_z b = 0 ↔ b = false := by cases b <;> simp [ab_z]
theorem ab_z1 (b : Bool) : ab_z b = 1 ↔ b = true := by cases b <;> simp [ab_z]
theorem ab_zt : ab_z true = 1 := rfl
theorem ab_zf : ab_z false = 0 := rfl
theorem ab_zor (a b : Bool) : ab_z a ||| ab_z b = ab_z (a || b) := by cases a <;> cases b <;> decide
theorem ab_zand (a b : Bool) : ab_z a &&& ab_z b = ab_z (a && b) := by cases a <;> cases b <;> decide
/-- a number of a kind of which there are n -/
def ab_ok (n : Nat) (x : Int32) : Bool := decide (0 ≤ x) && decide (x < nI n)
theorem ab_ok_t {n : Nat} {x : Int32} (hn : n < 2 ^ 31) (h : ab_ok n x = true) : ∃ k, k < n ∧ x = nI k := by
  simp only [ab_ok, Bool.and_eq_true, decide_eq_true_eq] at h
  rcases pk_ix x hn with h1 | h1 | h1
  · exact absurd h.1 (by simpa using h1)
  · exact absurd h.2 (by simpa using h1)
  · exact h1
theorem ab_ok_nI {n k : Nat} (hn : n < 2 ^ 31) (hk : k < n) : ab_ok n (nI k) = true := by
  simp only [ab_ok, Bool.and_eq_true, decide_eq_true_eq]
  exact ⟨nI_pos' (by omega), nI_lt hk hn⟩
