/-! THE LAW: its loop -/
theorem dL_law_18 : decode cL_law 18 = .ok (.iload_n 3, 1) := by decide +kernel
theorem dL_law_19 : decode cL_law 19 = .ok (.aload_n 0, 1) := by decide +kernel
theorem dL_law_20 : decode cL_law 20 = .ok (.arraylength, 1) := by decide +kernel
theorem dL_law_21 : decode cL_law 21 = .ok (.bipush 6, 2) := by decide +kernel
theorem dL_law_23 : decode cL_law 23 = .ok (.isub, 1) := by decide +kernel
theorem dL_law_24 : decode cL_law 24 = .ok (.if_icmp .gt 803, 3) := by decide +kernel
theorem dL_law_27 : decode cL_law 27 = .ok (.aload_n 0, 1) := by decide +kernel
theorem dL_law_28 : decode cL_law 28 = .ok (.iload_n 3, 1) := by decide +kernel
theorem dL_law_29 : decode cL_law 29 = .ok (.iaload, 1) := by decide +kernel
theorem dL_law_30 : decode cL_law 30 = .ok (.bipush 31, 2) := by decide +kernel
theorem dL_law_32 : decode cL_law 32 = .ok (.iand, 1) := by decide +kernel
theorem dL_law_33 : decode cL_law 33 = .ok (.tableswitch 788 0 18 #[91, 104, 137, 160, 193, 256, 289, 322, 385, 408, 441, 474, 507, 540, 603, 656, 689, 722, 745], 91) := by decide +kernel
theorem dL_law_821 : decode cL_law 821 = .ok (.iinc 3 6, 3) := by decide +kernel
theorem dL_law_824 : decode cL_law 824 = .ok (.goto (-806), 3) := by decide +kernel
theorem dL_law_827 : decode cL_law 827 = .ok (.iconst 1, 1) := by decide +kernel
theorem dL_law_828 : decode cL_law 828 = .ok (.ireturn, 1) := by decide +kernel
set_option maxHeartbeats 4000000 in
set_option maxRecDepth 100000 in
theorem law_loop {p : Program} {l : Launch} {e : Env} {s : State} {m : MethodId} {below : List Frame} {meth : Method} {c : Code} {b L : Nat} {xs : Nat → Int32} (hL : L ≤ 3072) (C0 : lw_At p s m meth c b L xs) {ω : ab_W} (hω : ω.2.2.2 = ab_SH) (hK : va_K ω.2.2.1 vwCl (ab_tys ω) s) : ∀ (n i : Nat), i ≤ L → L + 1 ≤ i + n → ∀ (S : sT) (μ : ab_M), LI S μ → ∀ (H : Heap) (locs : List Loc) (ls : Array Slot), va_P ω.2.2.1 vwCl (ab_wl ω μ) H → va_D (fun q : Nat => s.heap.size ≤ q) (ab_wl ω μ) → va_S (fun q : Nat => s.heap.size ≤ q) s.heap H locs → lv_has ls 4 [(0, .ref b), (1, .ref (ω.1 0)), (2, .ref (ω.1 43)), (3, .int (nI i))] → W p l e room_1 s m #[Value.ref b] below meth c H locs 68 27695 (lw_Z below #[Value.ref b] s) (F0 m 18 ls []) := by
  have C1 := C0
  obtain ⟨hx, hb, hr, hml, hown, hts, hX, hbl, hlocks, hgv⟩ := C0
  have hA : ∀ q : Nat, s.heap.size ≤ q → (fun q : Nat => s.heap.size ≤ q) q := fun _ h => h
  have hbA : ¬ (fun q : Nat => s.heap.size ≤ q) b := Nat.not_le.mpr hbl
  intro n
  induction n with
  | zero => intro i h1 h2; exact absurd h2 (by omega)
  | succ n ih =>
    intro i hi hin S μ h H locs ls hP hD hS hl
    refine lv_iload_n hx hb dL_law_18 rfl (lv_at hl 3 rfl) ?_
    refine lv_aload_n hx hb dL_law_19 rfl (lv_at hl 0 rfl) ?_
    refine va_slen hx hb hX hbl hbA hS dL_law_20 ?_
    refine lv_bipush (v := 6) hx hb dL_law_21 (by decide) ?_
    refine lv_isub hx hb dL_law_23 ?_
    refine lv_icmp_gt (tgt := 827) hx hb dL_law_24 (by decide) (fun c1 => ?_) (fun c1 => ?_)
    · refine lv_iconst (v := 1) hx hb dL_law_827 (by decide) ?_
      refine va_forget (fun q hq => hS.2.2 q hq) ?_
      refine W.widen (k := 68) (n := 27695) (Nat.le_refl _) (Nat.le_refl _) ?_
      exact lw_ret hx hb hr hlocks dL_law_828
    · have hlt : i + 6 ≤ L := by
        apply Classical.byContradiction
        intro q
        exact c1 ((lw_gt hL (by omega)).mpr (by omega))
      have h821 : ∀ (S' : sT) (μ' : ab_M) (H' : Heap) (locs' : List Loc), LI S' μ' → va_P ω.2.2.1 vwCl (ab_wl ω μ') H' → va_D (fun q : Nat => s.heap.size ≤ q) (ab_wl ω μ') → va_S (fun q : Nat => s.heap.size ≤ q) s.heap H' locs' → W p l e room_1 s m #[Value.ref b] below meth c H' locs' 68 27695 (lw_Z below #[Value.ref b] s) (F0 m 821 ls []) := by
        intro S' μ' H' locs' h' hP' hD' hS'
        refine lv_iinc (v := nI (i + 6)) (lv' := [(3, .int (nI (i + 6))), (0, .ref b), (1, .ref (ω.1 0)), (2, .ref (ω.1 43))]) hx hb dL_law_821 hl (k := 3) rfl (nI_add i 6) (by decide) rfl (fun ls hl => ?_)
        refine lv_goto (tgt := 18) hx hb dL_law_824 (by decide) ?_
        exact ih (i + 6) (by omega) (by omega) S' μ' h' H' locs' ls hP' hD' hS' (lv_sub hl [1, 2, 3, 0] rfl)
      refine lv_aload_n hx hb dL_law_27 rfl (lv_at hl 0 rfl) ?_
      refine lv_iload_n hx hb dL_law_28 rfl (lv_at hl 3 rfl) ?_
      refine va_sld hx hb hX hbl hbA hS (vp_in_nI (show i < L by omega) (by omega)) dL_law_29 ?_
      refine lv_bipush (v := 31) hx hb dL_law_30 (by decide) ?_
      refine lv_iand hx hb dL_law_32 ?_
      obtain ⟨k, hk, ek⟩ := lw_31 (xs (nI i).toNatClampNeg)
      rw [ek]
      match k, hk with
      | 0, _ => exact lv_tableIn (off := 91) (tgt := 124) hx hb dL_law_33 (by decide) (by decide) (by decide) (by decide) (lw_a0 hL C1 hω hK h hP hD hS hlt hl h821)
      | 1, _ => exact lv_tableIn (off := 104) (tgt := 137) hx hb dL_law_33 (by decide) (by decide) (by decide) (by decide) (lw_a1 hL C1 hω hK h hP hD hS hlt hl h821)
      | 2, _ => exact lv_tableIn (off := 137) (tgt := 170) hx hb dL_law_33 (by decide) (by decide) (by decide) (by decide) (lw_a2 hL C1 hω hK h hP hD hS hlt hl h821)
      | 3, _ => exact lv_tableIn (off := 160) (tgt := 193) hx hb dL_law_33 (by decide) (by decide) (by decide) (by decide) (lw_a3 hL C1 hω hK h hP hD hS hlt hl h821)
      | 4, _ => exact lv_tableIn (off := 193) (tgt := 226) hx hb dL_law_33 (by decide) (by decide) (by decide) (by decide) (lw_a4 hL C1 hω hK h hP hD hS hlt hl h821)
      | 5, _ => exact lv_tableIn (off := 256) (tgt := 289) hx hb dL_law_33 (by decide) (by decide) (by decide) (by decide) (lw_a5 hL C1 hω hK h hP hD hS hlt hl h821)
      | 6, _ => exact lv_tableIn (off := 289) (tgt := 322) hx hb dL_law_33 (by decide) (by decide) (by decide) (by decide) (lw_a6 hL C1 hω hK h hP hD hS hlt hl h821)
      | 7, _ => exact lv_tableIn (off := 322) (tgt := 355) hx hb dL_law_33 (by decide) (by decide) (by decide) (by decide) (lw_a7 hL C1 hω hK h hP hD hS hlt hl h821)
      | 8, _ => exact lv_tableIn (off := 385) (tgt := 418) hx hb dL_law_33 (by decide) (by decide) (by decide) (by decide) (lw_a8 hL C1 hω hK h hP hD hS hlt hl h821)
      | 9, _ => exact lv_tableIn (off := 408) (tgt := 441) hx hb dL_law_33 (by decide) (by decide) (by decide) (by decide) (lw_a9 hL C1 hω hK h hP hD hS hlt hl h821)
      | 10, _ => exact lv_tableIn (off := 441) (tgt := 474) hx hb dL_law_33 (by decide) (by decide) (by decide) (by decide) (lw_a10 hL C1 hω hK h hP hD hS hlt hl h821)
      | 11, _ => exact lv_tableIn (off := 474) (tgt := 507) hx hb dL_law_33 (by decide) (by decide) (by decide) (by decide) (lw_a11 hL C1 hω hK h hP hD hS hlt hl h821)
      | 12, _ => exact lv_tableIn (off := 507) (tgt := 540) hx hb dL_law_33 (by decide) (by decide) (by decide) (by decide) (lw_a12 hL C1 hω hK h hP hD hS hlt hl h821)
      | 13, _ => exact lv_tableIn (off := 540) (tgt := 573) hx hb dL_law_33 (by decide) (by decide) (by decide) (by decide) (lw_a13 hL C1 hω hK h hP hD hS hlt hl h821)
      | 14, _ => exact lv_tableIn (off := 603) (tgt := 636) hx hb dL_law_33 (by decide) (by decide) (by decide) (by decide) (lw_a14 hL C1 hω hK h hP hD hS hlt hl h821)
      | 15, _ => exact lv_tableIn (off := 656) (tgt := 689) hx hb dL_law_33 (by decide) (by decide) (by decide) (by decide) (lw_a15 hL C1 hω hK h hP hD hS hlt hl h821)
      | 16, _ => exact lv_tableIn (off := 689) (tgt := 722) hx hb dL_law_33 (by decide) (by decide) (by decide) (by decide) (lw_a16 hL C1 hω hK h hP hD hS hlt hl h821)
      | 17, _ => exact lv_tableIn (off := 722) (tgt := 755) hx hb dL_law_33 (by decide) (by decide) (by decide) (by decide) (lw_a17 hL C1 hω hK h hP hD hS hlt hl h821)
      | 18, _ => exact lv_tableIn (off := 745) (tgt := 778) hx hb dL_law_33 (by decide) (by decide) (by decide) (by decide) (lw_a18 hL C1 hω hK h hP hD hS hlt hl h821)
      | k + 19, hk => exact lv_tableOut (tgt := 821) hx hb dL_law_33 (Or.inr (by rw [nI_ti (by omega)]; omega)) (by decide) (h821 S μ H locs h hP hD hS)
