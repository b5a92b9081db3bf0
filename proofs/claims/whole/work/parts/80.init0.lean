/-! constructors: arrays, Sets.one, Arrays.fill -/
abbrev ib_tys (cI cJ cZ : ClassId) : List (ClassId × FieldType) := [(cI, .int), (cJ, .long), (cZ, .boolean)]
def ib_fill (n : Nat) (f : Nat → Int32) (v : Int32) : Nat → Int32 := fun j => if j < n then v else f j
section IB
variable {p : Program} {l : Launch} {e : Env} {R : Room} {s : State} {m : MethodId} {args : Array Value} {below : List Frame} {meth : Method} {c : Code} {H H0 : Heap} {locs : List Loc} {cells slots : Nat} {Q : State → Prop} {cc : ByteArray} {pc : Nat} {ls : Array Slot} {rest : List Value} {D : va_G} {cI cJ cZ : ClassId} {ws : va_W} {A : Nat → Prop} {N : Nat} {n : Int32}
theorem ib_newI (hexec : p.tables.exec = Jvm.exec) (hb : c.code = cc) (harr : (Cond.arrayClass .int).before args s = true) (hK : va_K D vwCl (ib_tys cI cJ cZ) s) (hP : va_P D vwCl ws H) (hD : va_D A ws) (hS : va_S A H0 H locs) (hA : ∀ q, H0.size ≤ q → A q) (hn : ¬ n < 0) (hN : n.toNatClampNeg = N) (hbytes : N * componentBytes .int ≤ 536870912) (hcells : cells + 1 ≤ R.cells) (hslots : slots + N ≤ R.slots) (hdg : decode cc pc = .ok (.newarray .int, 2))
    (kk : ∀ (q : Nat) (H1 : Heap), va_P D vwCl (ws ++ [(q, .inl (cI, N, .inl (fun _ => 0)))]) H1 → va_D A (ws ++ [(q, .inl (cI, N, .inl (fun _ => 0)))]) → va_S A H0 H1 locs → W p l e R s m args below meth c H1 locs (cells + 1) (slots + N) Q (F0 m (pc + 2) ls (.ref q :: rest))) : W p l e R s m args below meth c H locs cells slots Q (F0 m pc ls (.int n :: rest)) := by
  refine va_newa (atype := .int) hexec hb harr rfl hK hP hD hS hA (a0 := (N, .inl (fun _ => 0))) (fun _ => rfl) hn hN hbytes hcells hslots hdg (fun q cA H1 hK1 hP1 hD1 hS1 => ?_)
  have e1 := va_nm_int (hK1.2 3 (cA, .int) rfl).2
  have e2 := va_nm_int (hK.2 0 (cI, .int) rfl).2
  rw [e2] at e1
  cases e1
  exact kk q H1 hP1 hD1 hS1
theorem ib_newJ (hexec : p.tables.exec = Jvm.exec) (hb : c.code = cc) (harr : (Cond.arrayClass .long).before args s = true) (hK : va_K D vwCl (ib_tys cI cJ cZ) s) (hP : va_P D vwCl ws H) (hD : va_D A ws) (hS : va_S A H0 H locs) (hA : ∀ q, H0.size ≤ q → A q) (hn : ¬ n < 0) (hN : n.toNatClampNeg = N) (hbytes : N * componentBytes .long ≤ 536870912) (hcells : cells + 1 ≤ R.cells) (hslots : slots + N ≤ R.slots) (hdg : decode cc pc = .ok (.newarray .long, 2))
    (kk : ∀ (q : Nat) (H1 : Heap), va_P D vwCl (ws ++ [(q, .inl (cJ, N, .inr (.inl (fun _ => 0))))]) H1 → va_D A (ws ++ [(q, .inl (cJ, N, .inr (.inl (fun _ => 0))))]) → va_S A H0 H1 locs → W p l e R s m args below meth c H1 locs (cells + 1) (slots + N) Q (F0 m (pc + 2) ls (.ref q :: rest))) : W p l e R s m args below meth c H locs cells slots Q (F0 m pc ls (.int n :: rest)) := by
  refine va_newa (atype := .long) hexec hb harr rfl hK hP hD hS hA (a0 := (N, .inr (.inl (fun _ => 0)))) (fun _ => rfl) hn hN hbytes hcells hslots hdg (fun q cA H1 hK1 hP1 hD1 hS1 => ?_)
  have e1 := va_nm_long (hK1.2 3 (cA, .long) rfl).2
  have e2 := va_nm_long (hK.2 1 (cJ, .long) rfl).2
  rw [e2] at e1
  cases e1
  exact kk q H1 hP1 hD1 hS1
theorem ib_newZ (hexec : p.tables.exec = Jvm.exec) (hb : c.code = cc) (harr : (Cond.arrayClass .boolean).before args s = true) (hK : va_K D vwCl (ib_tys cI cJ cZ) s) (hP : va_P D vwCl ws H) (hD : va_D A ws) (hS : va_S A H0 H locs) (hA : ∀ q, H0.size ≤ q → A q) (hn : ¬ n < 0) (hN : n.toNatClampNeg = N) (hbytes : N * componentBytes .boolean ≤ 536870912) (hcells : cells + 1 ≤ R.cells) (hslots : slots + N ≤ R.slots) (hdg : decode cc pc = .ok (.newarray .boolean, 2))
    (kk : ∀ (q : Nat) (H1 : Heap), va_P D vwCl (ws ++ [(q, .inl (cZ, N, .inl (fun _ => 0)))]) H1 → va_D A (ws ++ [(q, .inl (cZ, N, .inl (fun _ => 0)))]) → va_S A H0 H1 locs → W p l e R s m args below meth c H1 locs (cells + 1) (slots + N) Q (F0 m (pc + 2) ls (.ref q :: rest))) : W p l e R s m args below meth c H locs cells slots Q (F0 m pc ls (.int n :: rest)) := by
  refine va_newa (atype := .boolean) hexec hb harr rfl hK hP hD hS hA (a0 := (N, .inl (fun _ => 0))) (fun _ => rfl) hn hN hbytes hcells hslots hdg (fun q cA H1 hK1 hP1 hD1 hS1 => ?_)
  have e1 : s.vm.findClass ("[" ++ FieldType.boolean.toString) = some cA := (hK1.2 3 (cA, .boolean) rfl).2
  have e2 : s.vm.findClass ("[" ++ FieldType.boolean.toString) = some cZ := (hK.2 2 (cZ, .boolean) rfl).2
  rw [e2] at e1
  cases e1
  exact kk q H1 hP1 hD1 hS1
theorem ib_cwI {own : String} {index k : Nat} {md : ab_Md} (hts : ∀ w ∈ ab_T, w.before args s = true) (g0 g1 g2 g4 : Nat) (hn : md.1.name = "<init>") (h : (ab_tb g0 (.methodLink own index md.1) && ab_tb g1 (.initialized md.1.cls) && ab_tb g2 (.code md.1 md.2.1 md.2.2.1 none) && ab_tb g4 (.instanceMethod md.1) && decide (md.1.cls ≠ "java/lang/invoke/MethodHandle") && decide (md.1.cls ≠ "java/lang/invoke/VarHandle") && decide ((parseMethodDescriptor md.1.desc).map (fun d => d.parameters.length) = some k) && decide (md.2.2.2.2.frames + 1 ≤ R.frames) && decide (8 + (md.2.2.1 + 11) + md.2.2.2.2.locals ≤ R.locals) && decide (md.2.2.2.1 = none)) = true) :
    CallB R s args own index md.1 md.2.1 md.2.2.1 none (ab_ws md) md.2.2.2.2 md.2.2.2.2.cells md.2.2.2.2.slots k ∧ md.1.name = "<init>" ∧ (Cond.instanceMethod md.1).before args s = true := by
  simp only [Bool.and_eq_true] at h
  obtain ⟨⟨⟨⟨⟨⟨⟨⟨⟨a1, a2⟩, a3⟩, a4⟩, a5⟩, a6⟩, a7⟩, a8⟩, a9⟩, a10⟩ := h
  have e := of_decide_eq_true a10
  rw [← e] at a3 ⊢
  exact ⟨callB_of (Ts := ab_T) k hts (ab_goodM (ab_tb_in a3)) rfl rfl rfl (hts _ (ab_tb_in a2)) (hts _ (ab_tb_in a1)) ⟨of_decide_eq_true a5, of_decide_eq_true a6, of_decide_eq_true a7⟩ ⟨of_decide_eq_true a8, of_decide_eq_true a9⟩, hn, hts _ (ab_tb_in a4)⟩
end IB
theorem dX7_one_0 : decode cX7_one 0 = .ok (.lconst 1, 1) := by decide +kernel
theorem dX7_one_1 : decode cX7_one 1 = .ok (.iload_n 0, 1) := by decide +kernel
theorem dX7_one_2 : decode cX7_one 2 = .ok (.lshl, 1) := by decide +kernel
theorem dX7_one_3 : decode cX7_one 3 = .ok (.lreturn, 1) := by decide +kernel
theorem dJ7_fill_53178_0 : decode cJ7_fill_53178 0 = .ok (.iconst 0, 1) := by decide +kernel
theorem dJ7_fill_53178_1 : decode cJ7_fill_53178 1 = .ok (.istore_n 2, 1) := by decide +kernel
theorem dJ7_fill_53178_2 : decode cJ7_fill_53178 2 = .ok (.aload_n 0, 1) := by decide +kernel
theorem dJ7_fill_53178_3 : decode cJ7_fill_53178 3 = .ok (.arraylength, 1) := by decide +kernel
theorem dJ7_fill_53178_4 : decode cJ7_fill_53178 4 = .ok (.istore_n 3, 1) := by decide +kernel
theorem dJ7_fill_53178_5 : decode cJ7_fill_53178 5 = .ok (.iload_n 2, 1) := by decide +kernel
theorem dJ7_fill_53178_6 : decode cJ7_fill_53178 6 = .ok (.iload_n 3, 1) := by decide +kernel
theorem dJ7_fill_53178_7 : decode cJ7_fill_53178 7 = .ok (.if_icmp .ge 13, 3) := by decide +kernel
theorem dJ7_fill_53178_10 : decode cJ7_fill_53178 10 = .ok (.aload_n 0, 1) := by decide +kernel
theorem dJ7_fill_53178_11 : decode cJ7_fill_53178 11 = .ok (.iload_n 2, 1) := by decide +kernel
theorem dJ7_fill_53178_12 : decode cJ7_fill_53178 12 = .ok (.iload_n 1, 1) := by decide +kernel
theorem dJ7_fill_53178_13 : decode cJ7_fill_53178 13 = .ok (.iastore, 1) := by decide +kernel
theorem dJ7_fill_53178_14 : decode cJ7_fill_53178 14 = .ok (.iinc 2 1, 3) := by decide +kernel
theorem dJ7_fill_53178_17 : decode cJ7_fill_53178 17 = .ok (.goto (-12), 3) := by decide +kernel
theorem dJ7_fill_53178_20 : decode cJ7_fill_53178 20 = .ok (.return_, 1) := by decide +kernel
set_option maxHeartbeats 4000000 in
/-- Sets.one(0) -/
theorem ci_one (l : Launch) (D : va_G) (cI cJ cZ : ClassId) (sz : Nat) : Met l mX7_one.1 (ab_ws mX7_one) mX7_one.2.2.2.2 (va_Pc [.int 0] (fun U => U.heap.size = sz ∧ va_P D vwCl [] U.heap ∧ va_K D vwCl (ib_tys cI cJ cZ) U ∧ va_D (fun _ => True) [])) (va_Ql (fun (r : Int64) (_ : Unit) => r = ab_one 0) (fun _ t => va_P D vwCl [] t.heap ∧ va_K D vwCl (ib_tys cI cJ cZ) t ∧ va_D (va_A [] sz) []) (va_A [] sz)) 0 0 (va_A [] sz) := by
  refine Met.ofW (cc := cX7_one) (maxL := 1) (ret := some .long) (by decide) rfl ?_
  intro p e s m args below meth c s₁ B hml hv
  obtain ⟨rfl, hsz, hP, hK, hD0⟩ := hv
  have hx := B.exec
  have hb := B.bytes
  have hr := B.returns
  subst hsz
  have hD := hD0.self (sz := s.heap.size)
  have hS : va_S (va_A [] s.heap.size) s.heap s.heap [] := va_S.rf
  have hl := lv_entry ([.int 0]) (n := 1) (Nat.le_of_ble_eq_true rfl)
  rw [lg_entry_eq]
  generalize (lg_sl ([.int 0]) ++ List.replicate (1 - (lg_sl ([.int 0])).length) Slot.unset).toArray = ls at hl ⊢
  have hl : lv_has ls 1 [(0, .int 0)] := hl
  refine lv_lconst (v := 1) hx hb dX7_one_0 (by decide) ?_
  refine lv_iload_n hx hb dX7_one_1 rfl (lv_at hl 0 rfl) ?_
  refine lv_lshl (v := ab_one 0) hx hb dX7_one_2 (by decide) ?_
  exact W.lret (v := ab_one 0) hx hb hr (fun t ht hW => ⟨⟨ab_one 0, (), rfl, rfl, by rw [ht]; exact hP, va_K.moved hW.alike hK, hD⟩, hS.F ht⟩) hS.2.2 dX7_one_3
def mf_fill : ab_Md := (yJ7_fill_53178, cJ7_fill_53178, 4, none, { frames := 0, cells := 0, slots := 0, locals := 0 })
set_option maxHeartbeats 4000000 in
set_option maxRecDepth 100000 in
/-- Arrays.fill -/
theorem ci_fill (l : Launch) (D : va_G) (cI cJ cZ : ClassId) (sz a n : Nat) (f : Nat → Int32) (v : Int32) (hn : n < 2 ^ 31) : Met l mf_fill.1 (ab_ws mf_fill) mf_fill.2.2.2.2 (va_Pc [.ref a, .int v] (fun U => U.heap.size = sz ∧ va_P D vwCl [(a, .inl (cI, n, .inl f))] U.heap ∧ va_K D vwCl (ib_tys cI cJ cZ) U ∧ va_D (fun _ => True) [(a, .inl (cI, n, .inl f))])) (va_Qv (fun _ : Unit => True) (fun _ t => va_P D vwCl [(a, .inl (cI, n, .inl (ib_fill n f v)))] t.heap ∧ va_K D vwCl (ib_tys cI cJ cZ) t ∧ va_D (va_A [(a, .inl (cI, n, .inl f))] sz) [(a, .inl (cI, n, .inl (ib_fill n f v)))]) (va_A [(a, .inl (cI, n, .inl f))] sz)) 0 0 (va_A [(a, .inl (cI, n, .inl f))] sz) := by
  refine Met.ofW (cc := cJ7_fill_53178) (maxL := 4) (ret := none) (by decide) rfl ?_
  intro p e s m args below meth c s₁ B hml hv
  obtain ⟨rfl, hsz, hP, hK, hD0⟩ := hv
  have hx := B.exec
  have hb := B.bytes
  have hr := B.returns
  subst hsz
  have hD := hD0.self (sz := s.heap.size)
  generalize hAe : va_A [(a, .inl (cI, n, .inl f))] s.heap.size = A at hD ⊢
  have hS : va_S A s.heap s.heap [] := va_S.rf
  have hP : va_P D vwCl [(a, .inl (cI, n, .inl f))] s.heap := hP
  have hl := lv_entry ([.ref a, .int v]) (n := 4) (Nat.le_of_ble_eq_true rfl)
  rw [lg_entry_eq]
  generalize (lg_sl ([.ref a, .int v]) ++ List.replicate (4 - (lg_sl ([.ref a, .int v])).length) Slot.unset).toArray = ls at hl ⊢
  have hl : lv_has ls 4 [(0, .ref a), (1, .int v)] := hl
  have loop : ∀ (r i : Nat) (H : Heap) (locs : List Loc) (ls : Array Slot), i + r = n → va_P D vwCl [(a, .inl (cI, n, .inl (ib_fill i f v)))] H → va_D A [(a, .inl (cI, n, .inl (ib_fill i f v)))] → va_S A s.heap H locs → lv_has ls 4 [(3, .int (nI n)), (2, .int (nI i)), (0, .ref a), (1, .int v)] → W p l e (headSpec (ab_ws mf_fill) mf_fill.2.2.2.2).room s m ([.ref a, .int v] : List Value).toArray below meth c H locs 0 0 (MQ below (va_Qv (fun _ : Unit => True) (fun _ t => va_P D vwCl [(a, .inl (cI, n, .inl (ib_fill n f v)))] t.heap ∧ va_K D vwCl (ib_tys cI cJ cZ) t ∧ va_D A [(a, .inl (cI, n, .inl (ib_fill n f v)))]) A) ([.ref a, .int v] : List Value).toArray s 0 0 A) (F0 m 5 ls []) := by
    intro r
    induction r with
    | zero =>
      intro i H locs ls hi hP hD hS hl
      refine lv_iload_n hx hb dJ7_fill_53178_5 rfl (lv_at hl 1 rfl) ?_
      refine lv_iload_n hx hb dJ7_fill_53178_6 rfl (lv_at hl 0 rfl) ?_
      refine lv_icmp_ge (tgt := 20) hx hb dJ7_fill_53178_7 (by decide) (fun c1 => ?_) (fun c1 => ?_)
      · rw [show i = n by omega] at hP hD
        exact W.vret hx hb hr (fun t ht hW => ⟨⟨(), rfl, trivial, by rw [ht]; exact hP, va_K.moved hW.alike hK, hD⟩, hS.F ht⟩) hS.2.2 dJ7_fill_53178_20
      · exfalso
        rw [ix_le (by omega) (by omega)] at c1
        omega
    | succ r ih =>
      intro i H locs ls hi hP hD hS hl
      refine lv_iload_n hx hb dJ7_fill_53178_5 rfl (lv_at hl 1 rfl) ?_
      refine lv_iload_n hx hb dJ7_fill_53178_6 rfl (lv_at hl 0 rfl) ?_
      refine lv_icmp_ge (tgt := 20) hx hb dJ7_fill_53178_7 (by decide) (fun c1 => ?_) (fun c1 => ?_)
      · exfalso
        rw [ix_le (by omega) (by omega)] at c1
        omega
      · refine lv_aload_n hx hb dJ7_fill_53178_10 rfl (lv_at hl 2 rfl) ?_
        refine lv_iload_n hx hb dJ7_fill_53178_11 rfl (lv_at hl 1 rfl) ?_
        refine lv_iload_n hx hb dJ7_fill_53178_12 rfl (lv_at hl 3 rfl) ?_
        refine va_iast hx hb hK hP hD hS 0 0 rfl rfl (vp_in_nI (show i < n by omega) hn) dJ7_fill_53178_13 (fun H locs hP hD hS => ?_)
        have e1 : upd (ib_fill i f v) (nI i).toNatClampNeg v = ib_fill (i + 1) f v := by
          rw [nI_clamp (by omega)]
          funext j
          unfold ib_fill upd
          by_cases q : j = i
          · subst q; simp
          · by_cases q2 : j < i
            · simp [q, q2, show j < i + 1 by omega]
            · simp [q, q2, show ¬ j < i + 1 by omega]
        have hP : va_P D vwCl [(a, .inl (cI, n, .inl (upd (ib_fill i f v) (nI i).toNatClampNeg v)))] H := hP
        have hD : va_D A [(a, .inl (cI, n, .inl (upd (ib_fill i f v) (nI i).toNatClampNeg v)))] := hD
        rw [e1] at hP hD
        refine lv_iinc (v := nI (i + 1)) (lv' := [(2, .int (nI (i + 1))), (3, .int (nI n)), (0, .ref a), (1, .int v)]) hx hb dJ7_fill_53178_14 hl (k := 1) rfl (nI_1 i) (by decide) rfl (fun ls hl => ?_)
        refine lv_goto (tgt := 5) hx hb dJ7_fill_53178_17 (by decide) ?_
        exact ih (i + 1) H locs ls (by omega) hP hD hS (lv_sub hl [1, 0, 2, 3] rfl)
  refine lv_iconst (v := 0) hx hb dJ7_fill_53178_0 (by decide) ?_
  refine lv_istore_n (lv' := [(2, .int 0), (0, .ref a), (1, .int v)]) hx hb dJ7_fill_53178_1 rfl hl (by decide) rfl (fun ls hl => ?_)
  refine lv_aload_n hx hb dJ7_fill_53178_2 rfl (lv_at hl 1 rfl) ?_
  refine va_alen hx hb hK hP 0 0 rfl rfl (v := nI n) rfl dJ7_fill_53178_3 ?_
  refine lv_istore_n (lv' := [(3, .int (nI n)), (2, .int 0), (0, .ref a), (1, .int v)]) hx hb dJ7_fill_53178_4 rfl hl (by decide) rfl (fun ls hl => ?_)
  have e0 : ib_fill 0 f v = f := by funext j; simp [ib_fill]
  exact loop n 0 s.heap [] ls (by omega) (by rw [e0]; exact hP) (by rw [e0]; exact hD) hS hl
