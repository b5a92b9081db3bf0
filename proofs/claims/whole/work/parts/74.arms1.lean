/-! the law: arms 0 to 3 -/
theorem dL_law_124 : decode cL_law 124 = .ok (.aload_n 1, 1) := by decide +kernel
theorem dL_law_125 : decode cL_law 125 = .ok (.invokevirtual 13, 3) := by decide +kernel
theorem dL_law_128 : decode cL_law 128 = .ok (.aload_n 2, 1) := by decide +kernel
theorem dL_law_129 : decode cL_law 129 = .ok (.invokevirtual 17, 3) := by decide +kernel
theorem dL_law_132 : decode cL_law 132 = .ok (.if_icmp .eq 689, 3) := by decide +kernel
set_option maxHeartbeats 4000000 in
set_option maxRecDepth 100000 in
theorem lw_a0 {p : Program} {l : Launch} {e : Env} {s : State} {m : MethodId} {below : List Frame} {meth : Method} {c : Code} {b L : Nat} {xs : Nat → Int32} (hL : L ≤ 3072) (C0 : lw_At p s m meth c b L xs) {ω : ab_W} (hω : ω.2.2.2 = ab_SH) (hK : va_K ω.2.2.1 vwCl (ab_tys ω) s) {S : sT} {μ : ab_M} (h : LI S μ) {H : Heap} {locs : List Loc} {ls : Array Slot} (hP : va_P ω.2.2.1 vwCl (ab_wl ω μ) H) (hD : va_D (fun q : Nat => s.heap.size ≤ q) (ab_wl ω μ)) (hS : va_S (fun q : Nat => s.heap.size ≤ q) s.heap H locs) {i : Nat} (hi : i + 6 ≤ L) (hl : lv_has ls 4 [(0, .ref b), (1, .ref (ω.1 0)), (2, .ref (ω.1 43)), (3, .int (nI i))]) (kk : ∀ (S' : sT) (μ' : ab_M) (H' : Heap) (locs' : List Loc), LI S' μ' → va_P ω.2.2.1 vwCl (ab_wl ω μ') H' → va_D (fun q : Nat => s.heap.size ≤ q) (ab_wl ω μ') → va_S (fun q : Nat => s.heap.size ≤ q) s.heap H' locs' → W p l e room_1 s m #[Value.ref b] below meth c H' locs' 68 27695 (lw_Z below #[Value.ref b] s) (F0 m 821 ls [])) : W p l e room_1 s m #[Value.ref b] below meth c H locs 68 27695 (lw_Z below #[Value.ref b] s) (F0 m 124 ls []) := by
  obtain ⟨hx, hb, hr, hml, hown, hts, hX, hbl, hlocks, hgv⟩ := C0
  have hA : ∀ q : Nat, s.heap.size ≤ q → (fun q : Nat => s.heap.size ≤ q) q := fun _ h => h
  have hbA : ¬ (fun q : Nat => s.heap.size ≤ q) b := Nat.not_le.mpr hbl
  have hts2 : ∀ w ∈ ab_T, w.before #[Value.ref b] s = true := fun w hw => hts w (List.mem_filter.mp hw).1
  refine lv_aload_n hx hb dL_law_124 rfl (lv_at hl 1 rfl) ?_
  refine lw_inv (a := 0) (ci := 9) (As := []) (rest := []) (k := 0) hx hb hml hown hts2 hK hA hP hD hS hl.1 (Nat.le_of_ble_eq_true rfl) (Nat.le_of_ble_eq_true rfl) (t_module hω h) rfl (ab_cw (md := mX10_module) (g0 := 440) (g1 := 67) (g2 := 443) (g4 := 441) (g5 := 442) hts2 (by decide +kernel) (by decide +kernel) (by decide +kernel)) rfl rfl (by rw [hω]; rfl) rfl (Nat.le_of_ble_eq_true rfl) rfl dL_law_125 (fun r μ1 H1 locs1 hq hP1 hD1 hS1 => ?_)
  refine lv_aload_n hx hb dL_law_128 rfl (lv_at hl 2 rfl) ?_
  refine lw_inv (a := 43) (ci := 10) (As := []) (rest := [.int r]) (k := 0) hx hb hml hown hts2 hK hA hP1 hD1 hS1 hl.1 (Nat.le_of_ble_eq_true rfl) (Nat.le_of_ble_eq_true rfl) (u_module hω hq.2) rfl (ab_cw (md := mX11_module) (g0 := 992) (g1 := 79) (g2 := 995) (g4 := 993) (g5 := 994) hts2 (by decide +kernel) (by decide +kernel) (by decide +kernel)) rfl rfl (by rw [hω]; rfl) rfl (Nat.le_of_ble_eq_true rfl) rfl dL_law_129 (fun r2 μ2 H2 locs2 hq2 hP2 hD2 hS2 => ?_)
  exact lv_icmp_eq (tgt := 821) hx hb dL_law_132 (by decide) (fun _ => kk _ μ2 H2 locs2 hq2.2 hP2 hD2 hS2) (fun c9 => absurd (hq.1.trans hq2.1.symm) c9)
theorem dL_law_137 : decode cL_law 137 = .ok (.aload_n 1, 1) := by decide +kernel
theorem dL_law_138 : decode cL_law 138 = .ok (.aload_n 0, 1) := by decide +kernel
theorem dL_law_139 : decode cL_law 139 = .ok (.iload_n 3, 1) := by decide +kernel
theorem dL_law_140 : decode cL_law 140 = .ok (.iconst 1, 1) := by decide +kernel
theorem dL_law_141 : decode cL_law 141 = .ok (.iadd, 1) := by decide +kernel
theorem dL_law_142 : decode cL_law 142 = .ok (.iaload, 1) := by decide +kernel
theorem dL_law_143 : decode cL_law 143 = .ok (.aload_n 0, 1) := by decide +kernel
theorem dL_law_144 : decode cL_law 144 = .ok (.iload_n 3, 1) := by decide +kernel
theorem dL_law_145 : decode cL_law 145 = .ok (.iconst 2, 1) := by decide +kernel
theorem dL_law_146 : decode cL_law 146 = .ok (.iadd, 1) := by decide +kernel
theorem dL_law_147 : decode cL_law 147 = .ok (.iaload, 1) := by decide +kernel
theorem dL_law_148 : decode cL_law 148 = .ok (.invokevirtual 18, 3) := by decide +kernel
theorem dL_law_151 : decode cL_law 151 = .ok (.aload_n 2, 1) := by decide +kernel
theorem dL_law_152 : decode cL_law 152 = .ok (.aload_n 0, 1) := by decide +kernel
theorem dL_law_153 : decode cL_law 153 = .ok (.iload_n 3, 1) := by decide +kernel
theorem dL_law_154 : decode cL_law 154 = .ok (.iconst 1, 1) := by decide +kernel
theorem dL_law_155 : decode cL_law 155 = .ok (.iadd, 1) := by decide +kernel
theorem dL_law_156 : decode cL_law 156 = .ok (.iaload, 1) := by decide +kernel
theorem dL_law_157 : decode cL_law 157 = .ok (.aload_n 0, 1) := by decide +kernel
theorem dL_law_158 : decode cL_law 158 = .ok (.iload_n 3, 1) := by decide +kernel
theorem dL_law_159 : decode cL_law 159 = .ok (.iconst 2, 1) := by decide +kernel
theorem dL_law_160 : decode cL_law 160 = .ok (.iadd, 1) := by decide +kernel
theorem dL_law_161 : decode cL_law 161 = .ok (.iaload, 1) := by decide +kernel
theorem dL_law_162 : decode cL_law 162 = .ok (.invokevirtual 22, 3) := by decide +kernel
theorem dL_law_165 : decode cL_law 165 = .ok (.if_icmp .eq 656, 3) := by decide +kernel
set_option maxHeartbeats 4000000 in
set_option maxRecDepth 100000 in
theorem lw_a1 {p : Program} {l : Launch} {e : Env} {s : State} {m : MethodId} {below : List Frame} {meth : Method} {c : Code} {b L : Nat} {xs : Nat → Int32} (hL : L ≤ 3072) (C0 : lw_At p s m meth c b L xs) {ω : ab_W} (hω : ω.2.2.2 = ab_SH) (hK : va_K ω.2.2.1 vwCl (ab_tys ω) s) {S : sT} {μ : ab_M} (h : LI S μ) {H : Heap} {locs : List Loc} {ls : Array Slot} (hP : va_P ω.2.2.1 vwCl (ab_wl ω μ) H) (hD : va_D (fun q : Nat => s.heap.size ≤ q) (ab_wl ω μ)) (hS : va_S (fun q : Nat => s.heap.size ≤ q) s.heap H locs) {i : Nat} (hi : i + 6 ≤ L) (hl : lv_has ls 4 [(0, .ref b), (1, .ref (ω.1 0)), (2, .ref (ω.1 43)), (3, .int (nI i))]) (kk : ∀ (S' : sT) (μ' : ab_M) (H' : Heap) (locs' : List Loc), LI S' μ' → va_P ω.2.2.1 vwCl (ab_wl ω μ') H' → va_D (fun q : Nat => s.heap.size ≤ q) (ab_wl ω μ') → va_S (fun q : Nat => s.heap.size ≤ q) s.heap H' locs' → W p l e room_1 s m #[Value.ref b] below meth c H' locs' 68 27695 (lw_Z below #[Value.ref b] s) (F0 m 821 ls [])) : W p l e room_1 s m #[Value.ref b] below meth c H locs 68 27695 (lw_Z below #[Value.ref b] s) (F0 m 137 ls []) := by
  obtain ⟨hx, hb, hr, hml, hown, hts, hX, hbl, hlocks, hgv⟩ := C0
  have hA : ∀ q : Nat, s.heap.size ≤ q → (fun q : Nat => s.heap.size ≤ q) q := fun _ h => h
  have hbA : ¬ (fun q : Nat => s.heap.size ≤ q) b := Nat.not_le.mpr hbl
  have hts2 : ∀ w ∈ ab_T, w.before #[Value.ref b] s = true := fun w hw => hts w (List.mem_filter.mp hw).1
  have v1 : vp_in (nI i + 1) L := by rw [show (1 : Int32) = nI 1 from rfl, nI_add]; exact vp_in_nI (by omega) (by omega)
  have v2 : vp_in (nI i + 2) L := by rw [show (2 : Int32) = nI 2 from rfl, nI_add]; exact vp_in_nI (by omega) (by omega)
  refine lv_aload_n hx hb dL_law_137 rfl (lv_at hl 1 rfl) ?_
  refine lv_aload_n hx hb dL_law_138 rfl (lv_at hl 0 rfl) ?_
  refine lv_iload_n hx hb dL_law_139 rfl (lv_at hl 3 rfl) ?_
  refine lv_iconst (v := 1) hx hb dL_law_140 (by decide) ?_
  refine lv_iadd hx hb dL_law_141 ?_
  refine va_sld hx hb hX hbl hbA hS v1 dL_law_142 ?_
  refine lv_aload_n hx hb dL_law_143 rfl (lv_at hl 0 rfl) ?_
  refine lv_iload_n hx hb dL_law_144 rfl (lv_at hl 3 rfl) ?_
  refine lv_iconst (v := 2) hx hb dL_law_145 (by decide) ?_
  refine lv_iadd hx hb dL_law_146 ?_
  refine va_sld hx hb hX hbl hbA hS v2 dL_law_147 ?_
  refine lw_inv (a := 0) (ci := 9) (As := [.int (xs (nI i + 1).toNatClampNeg), .int (xs (nI i + 2).toNatClampNeg)]) (rest := []) (k := 2) hx hb hml hown hts2 hK hA hP hD hS hl.1 (Nat.le_of_ble_eq_true rfl) (Nat.le_of_ble_eq_true rfl) (t_reads hω h (xs (nI i + 1).toNatClampNeg) (xs (nI i + 2).toNatClampNeg)) rfl (ab_cw (md := mX10_reads) (g0 := 448) (g1 := 67) (g2 := 451) (g4 := 449) (g5 := 450) hts2 (by decide +kernel) (by decide +kernel) (by decide +kernel)) rfl rfl (by rw [hω]; rfl) rfl (Nat.le_of_ble_eq_true rfl) rfl dL_law_148 (fun r μ1 H1 locs1 hq hP1 hD1 hS1 => ?_)
  refine lv_aload_n hx hb dL_law_151 rfl (lv_at hl 2 rfl) ?_
  refine lv_aload_n hx hb dL_law_152 rfl (lv_at hl 0 rfl) ?_
  refine lv_iload_n hx hb dL_law_153 rfl (lv_at hl 3 rfl) ?_
  refine lv_iconst (v := 1) hx hb dL_law_154 (by decide) ?_
  refine lv_iadd hx hb dL_law_155 ?_
  refine va_sld hx hb hX hbl hbA hS1 v1 dL_law_156 ?_
  refine lv_aload_n hx hb dL_law_157 rfl (lv_at hl 0 rfl) ?_
  refine lv_iload_n hx hb dL_law_158 rfl (lv_at hl 3 rfl) ?_
  refine lv_iconst (v := 2) hx hb dL_law_159 (by decide) ?_
  refine lv_iadd hx hb dL_law_160 ?_
  refine va_sld hx hb hX hbl hbA hS1 v2 dL_law_161 ?_
  refine lw_inv (a := 43) (ci := 10) (As := [.int (xs (nI i + 1).toNatClampNeg), .int (xs (nI i + 2).toNatClampNeg)]) (rest := [.int r]) (k := 2) hx hb hml hown hts2 hK hA hP1 hD1 hS1 hl.1 (Nat.le_of_ble_eq_true rfl) (Nat.le_of_ble_eq_true rfl) (u_reads hω hq.2) rfl (ab_cw (md := mX11_reads) (g0 := 996) (g1 := 79) (g2 := 999) (g4 := 997) (g5 := 998) hts2 (by decide +kernel) (by decide +kernel) (by decide +kernel)) rfl rfl (by rw [hω]; rfl) rfl (Nat.le_of_ble_eq_true rfl) rfl dL_law_162 (fun r2 μ2 H2 locs2 hq2 hP2 hD2 hS2 => ?_)
  exact lv_icmp_eq (tgt := 821) hx hb dL_law_165 (by decide) (fun _ => kk _ μ2 H2 locs2 hq2.2 hP2 hD2 hS2) (fun c9 => absurd (hq.1.trans hq2.1.symm) c9)
theorem dL_law_170 : decode cL_law 170 = .ok (.aload_n 1, 1) := by decide +kernel
theorem dL_law_171 : decode cL_law 171 = .ok (.aload_n 0, 1) := by decide +kernel
theorem dL_law_172 : decode cL_law 172 = .ok (.iload_n 3, 1) := by decide +kernel
theorem dL_law_173 : decode cL_law 173 = .ok (.iconst 1, 1) := by decide +kernel
theorem dL_law_174 : decode cL_law 174 = .ok (.iadd, 1) := by decide +kernel
theorem dL_law_175 : decode cL_law 175 = .ok (.iaload, 1) := by decide +kernel
theorem dL_law_176 : decode cL_law 176 = .ok (.invokevirtual 23, 3) := by decide +kernel
theorem dL_law_179 : decode cL_law 179 = .ok (.aload_n 2, 1) := by decide +kernel
theorem dL_law_180 : decode cL_law 180 = .ok (.aload_n 0, 1) := by decide +kernel
theorem dL_law_181 : decode cL_law 181 = .ok (.iload_n 3, 1) := by decide +kernel
theorem dL_law_182 : decode cL_law 182 = .ok (.iconst 1, 1) := by decide +kernel
theorem dL_law_183 : decode cL_law 183 = .ok (.iadd, 1) := by decide +kernel
theorem dL_law_184 : decode cL_law 184 = .ok (.iaload, 1) := by decide +kernel
theorem dL_law_185 : decode cL_law 185 = .ok (.invokevirtual 27, 3) := by decide +kernel
theorem dL_law_188 : decode cL_law 188 = .ok (.if_icmp .eq 633, 3) := by decide +kernel
set_option maxHeartbeats 4000000 in
set_option maxRecDepth 100000 in
theorem lw_a2 {p : Program} {l : Launch} {e : Env} {s : State} {m : MethodId} {below : List Frame} {meth : Method} {c : Code} {b L : Nat} {xs : Nat → Int32} (hL : L ≤ 3072) (C0 : lw_At p s m meth c b L xs) {ω : ab_W} (hω : ω.2.2.2 = ab_SH) (hK : va_K ω.2.2.1 vwCl (ab_tys ω) s) {S : sT} {μ : ab_M} (h : LI S μ) {H : Heap} {locs : List Loc} {ls : Array Slot} (hP : va_P ω.2.2.1 vwCl (ab_wl ω μ) H) (hD : va_D (fun q : Nat => s.heap.size ≤ q) (ab_wl ω μ)) (hS : va_S (fun q : Nat => s.heap.size ≤ q) s.heap H locs) {i : Nat} (hi : i + 6 ≤ L) (hl : lv_has ls 4 [(0, .ref b), (1, .ref (ω.1 0)), (2, .ref (ω.1 43)), (3, .int (nI i))]) (kk : ∀ (S' : sT) (μ' : ab_M) (H' : Heap) (locs' : List Loc), LI S' μ' → va_P ω.2.2.1 vwCl (ab_wl ω μ') H' → va_D (fun q : Nat => s.heap.size ≤ q) (ab_wl ω μ') → va_S (fun q : Nat => s.heap.size ≤ q) s.heap H' locs' → W p l e room_1 s m #[Value.ref b] below meth c H' locs' 68 27695 (lw_Z below #[Value.ref b] s) (F0 m 821 ls [])) : W p l e room_1 s m #[Value.ref b] below meth c H locs 68 27695 (lw_Z below #[Value.ref b] s) (F0 m 170 ls []) := by
  obtain ⟨hx, hb, hr, hml, hown, hts, hX, hbl, hlocks, hgv⟩ := C0
  have hA : ∀ q : Nat, s.heap.size ≤ q → (fun q : Nat => s.heap.size ≤ q) q := fun _ h => h
  have hbA : ¬ (fun q : Nat => s.heap.size ≤ q) b := Nat.not_le.mpr hbl
  have hts2 : ∀ w ∈ ab_T, w.before #[Value.ref b] s = true := fun w hw => hts w (List.mem_filter.mp hw).1
  have v1 : vp_in (nI i + 1) L := by rw [show (1 : Int32) = nI 1 from rfl, nI_add]; exact vp_in_nI (by omega) (by omega)
  refine lv_aload_n hx hb dL_law_170 rfl (lv_at hl 1 rfl) ?_
  refine lv_aload_n hx hb dL_law_171 rfl (lv_at hl 0 rfl) ?_
  refine lv_iload_n hx hb dL_law_172 rfl (lv_at hl 3 rfl) ?_
  refine lv_iconst (v := 1) hx hb dL_law_173 (by decide) ?_
  refine lv_iadd hx hb dL_law_174 ?_
  refine va_sld hx hb hX hbl hbA hS v1 dL_law_175 ?_
  refine lw_inv (a := 0) (ci := 9) (As := [.int (xs (nI i + 1).toNatClampNeg)]) (rest := []) (k := 1) hx hb hml hown hts2 hK hA hP hD hS hl.1 (Nat.le_of_ble_eq_true rfl) (Nat.le_of_ble_eq_true rfl) (t_pack hω h (xs (nI i + 1).toNatClampNeg)) rfl (ab_cw (md := mX10_pack) (g0 := 460) (g1 := 67) (g2 := 463) (g4 := 461) (g5 := 462) hts2 (by decide +kernel) (by decide +kernel) (by decide +kernel)) rfl rfl (by rw [hω]; rfl) rfl (Nat.le_of_ble_eq_true rfl) rfl dL_law_176 (fun r μ1 H1 locs1 hq hP1 hD1 hS1 => ?_)
  refine lv_aload_n hx hb dL_law_179 rfl (lv_at hl 2 rfl) ?_
  refine lv_aload_n hx hb dL_law_180 rfl (lv_at hl 0 rfl) ?_
  refine lv_iload_n hx hb dL_law_181 rfl (lv_at hl 3 rfl) ?_
  refine lv_iconst (v := 1) hx hb dL_law_182 (by decide) ?_
  refine lv_iadd hx hb dL_law_183 ?_
  refine va_sld hx hb hX hbl hbA hS1 v1 dL_law_184 ?_
  refine lw_inv (a := 43) (ci := 10) (As := [.int (xs (nI i + 1).toNatClampNeg)]) (rest := [.int r]) (k := 1) hx hb hml hown hts2 hK hA hP1 hD1 hS1 hl.1 (Nat.le_of_ble_eq_true rfl) (Nat.le_of_ble_eq_true rfl) (u_pack hω hq.2) rfl (ab_cw (md := mX11_pack) (g0 := 1004) (g1 := 79) (g2 := 1007) (g4 := 1005) (g5 := 1006) hts2 (by decide +kernel) (by decide +kernel) (by decide +kernel)) rfl rfl (by rw [hω]; rfl) rfl (Nat.le_of_ble_eq_true rfl) rfl dL_law_185 (fun r2 μ2 H2 locs2 hq2 hP2 hD2 hS2 => ?_)
  exact lv_icmp_eq (tgt := 821) hx hb dL_law_188 (by decide) (fun _ => kk _ μ2 H2 locs2 hq2.2 hP2 hD2 hS2) (fun c9 => absurd (hq.1.trans hq2.1.symm) c9)
theorem dL_law_193 : decode cL_law 193 = .ok (.aload_n 1, 1) := by decide +kernel
theorem dL_law_194 : decode cL_law 194 = .ok (.aload_n 0, 1) := by decide +kernel
theorem dL_law_195 : decode cL_law 195 = .ok (.iload_n 3, 1) := by decide +kernel
theorem dL_law_196 : decode cL_law 196 = .ok (.iconst 1, 1) := by decide +kernel
theorem dL_law_197 : decode cL_law 197 = .ok (.iadd, 1) := by decide +kernel
theorem dL_law_198 : decode cL_law 198 = .ok (.iaload, 1) := by decide +kernel
theorem dL_law_199 : decode cL_law 199 = .ok (.aload_n 0, 1) := by decide +kernel
theorem dL_law_200 : decode cL_law 200 = .ok (.iload_n 3, 1) := by decide +kernel
theorem dL_law_201 : decode cL_law 201 = .ok (.iconst 2, 1) := by decide +kernel
theorem dL_law_202 : decode cL_law 202 = .ok (.iadd, 1) := by decide +kernel
theorem dL_law_203 : decode cL_law 203 = .ok (.iaload, 1) := by decide +kernel
theorem dL_law_204 : decode cL_law 204 = .ok (.invokevirtual 28, 3) := by decide +kernel
theorem dL_law_207 : decode cL_law 207 = .ok (.aload_n 2, 1) := by decide +kernel
theorem dL_law_208 : decode cL_law 208 = .ok (.aload_n 0, 1) := by decide +kernel
theorem dL_law_209 : decode cL_law 209 = .ok (.iload_n 3, 1) := by decide +kernel
theorem dL_law_210 : decode cL_law 210 = .ok (.iconst 1, 1) := by decide +kernel
theorem dL_law_211 : decode cL_law 211 = .ok (.iadd, 1) := by decide +kernel
theorem dL_law_212 : decode cL_law 212 = .ok (.iaload, 1) := by decide +kernel
theorem dL_law_213 : decode cL_law 213 = .ok (.aload_n 0, 1) := by decide +kernel
theorem dL_law_214 : decode cL_law 214 = .ok (.iload_n 3, 1) := by decide +kernel
theorem dL_law_215 : decode cL_law 215 = .ok (.iconst 2, 1) := by decide +kernel
theorem dL_law_216 : decode cL_law 216 = .ok (.iadd, 1) := by decide +kernel
theorem dL_law_217 : decode cL_law 217 = .ok (.iaload, 1) := by decide +kernel
theorem dL_law_218 : decode cL_law 218 = .ok (.invokevirtual 31, 3) := by decide +kernel
theorem dL_law_221 : decode cL_law 221 = .ok (.if_icmp .eq 600, 3) := by decide +kernel
set_option maxHeartbeats 4000000 in
set_option maxRecDepth 100000 in
theorem lw_a3 {p : Program} {l : Launch} {e : Env} {s : State} {m : MethodId} {below : List Frame} {meth : Method} {c : Code} {b L : Nat} {xs : Nat → Int32} (hL : L ≤ 3072) (C0 : lw_At p s m meth c b L xs) {ω : ab_W} (hω : ω.2.2.2 = ab_SH) (hK : va_K ω.2.2.1 vwCl (ab_tys ω) s) {S : sT} {μ : ab_M} (h : LI S μ) {H : Heap} {locs : List Loc} {ls : Array Slot} (hP : va_P ω.2.2.1 vwCl (ab_wl ω μ) H) (hD : va_D (fun q : Nat => s.heap.size ≤ q) (ab_wl ω μ)) (hS : va_S (fun q : Nat => s.heap.size ≤ q) s.heap H locs) {i : Nat} (hi : i + 6 ≤ L) (hl : lv_has ls 4 [(0, .ref b), (1, .ref (ω.1 0)), (2, .ref (ω.1 43)), (3, .int (nI i))]) (kk : ∀ (S' : sT) (μ' : ab_M) (H' : Heap) (locs' : List Loc), LI S' μ' → va_P ω.2.2.1 vwCl (ab_wl ω μ') H' → va_D (fun q : Nat => s.heap.size ≤ q) (ab_wl ω μ') → va_S (fun q : Nat => s.heap.size ≤ q) s.heap H' locs' → W p l e room_1 s m #[Value.ref b] below meth c H' locs' 68 27695 (lw_Z below #[Value.ref b] s) (F0 m 821 ls [])) : W p l e room_1 s m #[Value.ref b] below meth c H locs 68 27695 (lw_Z below #[Value.ref b] s) (F0 m 193 ls []) := by
  obtain ⟨hx, hb, hr, hml, hown, hts, hX, hbl, hlocks, hgv⟩ := C0
  have hA : ∀ q : Nat, s.heap.size ≤ q → (fun q : Nat => s.heap.size ≤ q) q := fun _ h => h
  have hbA : ¬ (fun q : Nat => s.heap.size ≤ q) b := Nat.not_le.mpr hbl
  have hts2 : ∀ w ∈ ab_T, w.before #[Value.ref b] s = true := fun w hw => hts w (List.mem_filter.mp hw).1
  have v1 : vp_in (nI i + 1) L := by rw [show (1 : Int32) = nI 1 from rfl, nI_add]; exact vp_in_nI (by omega) (by omega)
  have v2 : vp_in (nI i + 2) L := by rw [show (2 : Int32) = nI 2 from rfl, nI_add]; exact vp_in_nI (by omega) (by omega)
  refine lv_aload_n hx hb dL_law_193 rfl (lv_at hl 1 rfl) ?_
  refine lv_aload_n hx hb dL_law_194 rfl (lv_at hl 0 rfl) ?_
  refine lv_iload_n hx hb dL_law_195 rfl (lv_at hl 3 rfl) ?_
  refine lv_iconst (v := 1) hx hb dL_law_196 (by decide) ?_
  refine lv_iadd hx hb dL_law_197 ?_
  refine va_sld hx hb hX hbl hbA hS v1 dL_law_198 ?_
  refine lv_aload_n hx hb dL_law_199 rfl (lv_at hl 0 rfl) ?_
  refine lv_iload_n hx hb dL_law_200 rfl (lv_at hl 3 rfl) ?_
  refine lv_iconst (v := 2) hx hb dL_law_201 (by decide) ?_
  refine lv_iadd hx hb dL_law_202 ?_
  refine va_sld hx hb hX hbl hbA hS v2 dL_law_203 ?_
  refine lw_inv (a := 0) (ci := 9) (As := [.int (xs (nI i + 1).toNatClampNeg), .int (xs (nI i + 2).toNatClampNeg)]) (rest := []) (k := 2) hx hb hml hown hts2 hK hA hP hD hS hl.1 (Nat.le_of_ble_eq_true rfl) (Nat.le_of_ble_eq_true rfl) (t_export hω h (xs (nI i + 1).toNatClampNeg) (xs (nI i + 2).toNatClampNeg)) rfl (ab_cw (md := mX10_export) (g0 := 468) (g1 := 67) (g2 := 471) (g4 := 469) (g5 := 470) hts2 (by decide +kernel) (by decide +kernel) (by decide +kernel)) rfl rfl (by rw [hω]; rfl) rfl (Nat.le_of_ble_eq_true rfl) rfl dL_law_204 (fun r μ1 H1 locs1 hq hP1 hD1 hS1 => ?_)
  refine lv_aload_n hx hb dL_law_207 rfl (lv_at hl 2 rfl) ?_
  refine lv_aload_n hx hb dL_law_208 rfl (lv_at hl 0 rfl) ?_
  refine lv_iload_n hx hb dL_law_209 rfl (lv_at hl 3 rfl) ?_
  refine lv_iconst (v := 1) hx hb dL_law_210 (by decide) ?_
  refine lv_iadd hx hb dL_law_211 ?_
  refine va_sld hx hb hX hbl hbA hS1 v1 dL_law_212 ?_
  refine lv_aload_n hx hb dL_law_213 rfl (lv_at hl 0 rfl) ?_
  refine lv_iload_n hx hb dL_law_214 rfl (lv_at hl 3 rfl) ?_
  refine lv_iconst (v := 2) hx hb dL_law_215 (by decide) ?_
  refine lv_iadd hx hb dL_law_216 ?_
  refine va_sld hx hb hX hbl hbA hS1 v2 dL_law_217 ?_
  refine lw_inv (a := 43) (ci := 10) (As := [.int (xs (nI i + 1).toNatClampNeg), .int (xs (nI i + 2).toNatClampNeg)]) (rest := [.int r]) (k := 2) hx hb hml hown hts2 hK hA hP1 hD1 hS1 hl.1 (Nat.le_of_ble_eq_true rfl) (Nat.le_of_ble_eq_true rfl) (u_export hω hq.2) rfl (ab_cw (md := mX11_export) (g0 := 1008) (g1 := 79) (g2 := 1011) (g4 := 1009) (g5 := 1010) hts2 (by decide +kernel) (by decide +kernel) (by decide +kernel)) rfl rfl (by rw [hω]; rfl) rfl (Nat.le_of_ble_eq_true rfl) rfl dL_law_218 (fun r2 μ2 H2 locs2 hq2 hP2 hD2 hS2 => ?_)
  exact lv_icmp_eq (tgt := 821) hx hb dL_law_221 (by decide) (fun _ => kk _ μ2 H2 locs2 hq2.2 hP2 hD2 hS2) (fun c9 => absurd (hq.1.trans hq2.1.symm) c9)
