section Tr
variable {l : Launch} {ω : ab_W}
theorem t_X4_hasModule (hω : ω.2.2.2 = ab_SH) {x : Int32} {μ : ab_M} {Q : Int32 → ab_M → Prop} (hQ : ∀ r, r = ab_z (decide (0 ≤ x) && decide (x < μ.1 1 0)) → Q r μ) : ab_CI l ω mX4_hasModule [.ref 1, .int x] μ Q := by
  refine ab_intro (sh := ab_SH) (cd := kX4_hasModule) hω vX4_hasModule (by decide +kernel) rfl (Nat.le_of_ble_eq_true rfl) (fun j hj hw => ?_)
  repeat' (first | refine hj _ _ _ _ ?_ | refine ab_sd ?_ ?_ | refine ab_sz ?_ ?_ | refine br_c (fun _ => ?_) (fun _ => ?_) | refine br_n (fun _ => ?_) (fun _ => ?_))
  all_goals first | (refine hQ _ ?_; unfold ab_z; grind) | grind
theorem t_X11_isBelow (hω : ω.2.2.2 = ab_SH) {x y : Int32} {μ : ab_M} {Q : Int32 → ab_M → Prop} (h1 : vp_in (40 * x + y) 1600) (h2 : ∀ k, μ.1 56 k = 0 ∨ μ.1 56 k = 1) (hQ : Q (μ.1 56 (40 * x + y).toNatClampNeg) μ) : ab_CI l ω mX11_isBelow [.ref 43, .int x, .int y] μ Q := by
  refine ab_intro (sh := ab_SH) (cd := kX11_isBelow) hω vX11_isBelow (by decide +kernel) rfl (Nat.le_of_ble_eq_true rfl) (fun j hj hw => ?_)
  repeat' (first | refine hj _ _ _ _ ?_ | refine ab_sd ?_ ?_ | refine ab_sz ?_ ?_ | refine br_c (fun _ => ?_) (fun _ => ?_) | refine br_n (fun _ => ?_) (fun _ => ?_))
  · exact h1
  · exact h2 _
  · exact hQ
theorem t_X11_ruleOfType (hω : ω.2.2.2 = ab_SH) {a b c d f : Int32} {μ : ab_M} {Q : Int32 → ab_M → Prop} : ab_CI l ω mX11_ruleOfType [.ref 43, .int a, .int b, .int c, .int d, .int f] μ Q := by
  refine ab_intro (sh := ab_SH) (cd := kX11_ruleOfType) hω vX11_ruleOfType (by decide +kernel) rfl (Nat.le_of_ble_eq_true rfl) (fun j hj hw => ?_)
  repeat' (first | refine hj _ _ _ _ ?_ | refine ab_sd ?_ ?_ | refine ab_sz ?_ ?_ | refine br_c (fun _ => ?_) (fun _ => ?_) | refine br_n (fun _ => ?_) (fun _ => ?_))
  trace_state
  all_goals sorry
theorem t_J_bitCount (hω : ω.2.2.2 = ab_SH) {x : Int64} {μ : ab_M} {Q : Int32 → ab_M → Prop} (hQ : ∀ r, r = nI (ab_pc x) → Q r μ) : ab_CI l ω mJ13_bitCount_95d88 [.long x] μ Q := by
  refine ab_intro (sh := ab_SH) (cd := kJ13_bitCount_95d88) hω vJ13_bitCount_95d88 (by decide +kernel) rfl (Nat.le_of_ble_eq_true rfl) (fun j hj hw => ?_)
  repeat' (first | refine hj _ _ _ _ ?_ | refine ab_sd ?_ ?_ | refine ab_sz ?_ ?_ | refine br_c (fun _ => ?_) (fun _ => ?_) | refine br_n (fun _ => ?_) (fun _ => ?_))
  exact hQ _ (ab_bitCount x _ _ _ _ _ _ rfl rfl rfl rfl rfl rfl)
end Tr
