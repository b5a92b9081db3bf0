theorem dX2_init_0 : decode cX2_init 0 = .ok (.aload_n 0, 1) := by decide +kernel
theorem dX2_init_1 : decode cX2_init 1 = .ok (.invokespecial 3, 3) := by decide +kernel
theorem dX2_init_4 : decode cX2_init 4 = .ok (.aload_n 0, 1) := by decide +kernel
theorem dX2_init_5 : decode cX2_init 5 = .ok (.sipush 800, 3) := by decide +kernel
theorem dX2_init_8 : decode cX2_init 8 = .ok (.newarray .long, 2) := by decide +kernel
theorem dX2_init_10 : decode cX2_init 10 = .ok (.putfield 11, 3) := by decide +kernel
theorem dX2_init_13 : decode cX2_init 13 = .ok (.aload_n 0, 1) := by decide +kernel
theorem dX2_init_14 : decode cX2_init 14 = .ok (.aload_n 1, 1) := by decide +kernel
theorem dX2_init_15 : decode cX2_init 15 = .ok (.putfield 15, 3) := by decide +kernel
theorem dX2_init_18 : decode cX2_init 18 = .ok (.aload_n 0, 1) := by decide +kernel
theorem dX2_init_19 : decode cX2_init 19 = .ok (.aload_n 2, 1) := by decide +kernel
theorem dX2_init_20 : decode cX2_init 20 = .ok (.putfield 19, 3) := by decide +kernel
theorem dX2_init_23 : decode cX2_init 23 = .ok (.return_, 1) := by decide +kernel
abbrev at_X2 (D : va_G) (cI cJ cZ : ClassId) (A : Nat → Prop) (h0 : Nat) (p1 : Nat) (p2 : Nat) (ad : Nat → Nat) (t : State) : Prop := va_P D vwCl [(h0, .inr (2, [.ref p1, .ref p2, .ref (ad 1), .int 0])), ((ad 1), .inl (cJ, 800, .inr (.inl (fun _ => 0))))] t.heap ∧ va_K D vwCl (ib_tys cI cJ cZ) t ∧ va_D A [(h0, .inr (2, [.ref p1, .ref p2, .ref (ad 1), .int 0])), ((ad 1), .inl (cJ, 800, .inr (.inl (fun _ => 0))))]
def mi_X2 : ab_Md := (yX2_init, cX2_init, 3, none, { frames := 1, cells := 1, slots := 800, locals := 12 })
set_option maxHeartbeats 4000000 in
set_option maxRecDepth 100000 in
theorem ci_X2 (l : Launch) (D : va_G) (cI cJ cZ : ClassId) (h0 sz : Nat) (p1 : Nat) (p2 : Nat) : Met l mi_X2.1 (ab_ws mi_X2) mi_X2.2.2.2.2 (va_Pc [.ref h0, .ref p1, .ref p2] (fun U => U.heap.size = sz ∧ va_P D vwCl [(h0, .inr (2, [.null, .null, .null, .int 0]))] U.heap ∧ va_K D vwCl (ib_tys cI cJ cZ) U ∧ va_D (fun _ => True) [(h0, .inr (2, [.null, .null, .null, .int 0]))])) (va_Qv (fun _ : Nat → Nat => True) (at_X2 D cI cJ cZ (va_A [(h0, .inr (2, [.null, .null, .null, .int 0]))] sz) h0 p1 p2) (va_A [(h0, .inr (2, [.null, .null, .null, .int 0]))] sz)) 1 800 (va_A [(h0, .inr (2, [.null, .null, .null, .int 0]))] sz) := by
  refine Met.ofW (cc := cX2_init) (maxL := 3) (ret := none) (by decide) rfl ?_
  intro p e s m args below meth c s₁ B hml hv
  obtain ⟨rfl, hsz, hP, hK, hD0⟩ := hv
  have hx := B.exec
  have hb := B.bytes
  have hr := B.returns
  have hts : ∀ w ∈ ab_T, w.before ([.ref h0, .ref p1, .ref p2] : List Value).toArray s = true := fun w hw => atoms_spec (ws := ab_ws mi_X2) B.pre w (List.mem_cons_of_mem _ hw)
  have hown : s.vm.findClass RX2 = some m.cls := findClass_of_methodNamed B.named
  have hlocks := B.notSynchronized
  have hin : meth.name = "<init>" := (name_of_methodNamed B.named B.method).1
  subst hsz
  have hD := hD0.self (sz := s.heap.size)
  generalize hAe : va_A [(h0, .inr (2, [.null, .null, .null, .int 0]))] s.heap.size = A at hD ⊢
  have hA : ∀ q : Nat, s.heap.size ≤ q → A q := fun q h => by rw [← hAe]; exact Or.inr h
  have hS : va_S A s.heap s.heap [] := va_S.rf
  have hP : va_P D vwCl [(h0, .inr (2, [.null, .null, .null, .int 0]))] s.heap := hP
  have hl := lv_entry ([.ref h0, .ref p1, .ref p2]) (n := 3) (Nat.le_of_ble_eq_true rfl)
  rw [lg_entry_eq]
  generalize (lg_sl ([.ref h0, .ref p1, .ref p2]) ++ List.replicate (3 - (lg_sl ([.ref h0, .ref p1, .ref p2])).length) Slot.unset).toArray = ls at hl ⊢
  have hl : lv_has ls 3 [(0, .ref h0), (1, .ref p1), (2, .ref p2)] := hl
  refine lv_aload_n hx hb dX2_init_0 rfl (lv_at hl 0 rfl) ?_
  refine W.objInit hx hb hown (hts (.methodLink RX2 3 objectInit) (ab_tb_in (h := 285) (by decide +kernel))) (hts (.instanceMethod objectInit) (ab_tb_in (h := 88) (by decide +kernel))) (hts (.code objectInit ⟨#[0xb1]⟩ 1 none) (ab_tb_in (h := 89) (by decide +kernel))) rfl (by rw [hml]; exact hl.1) rfl dX2_init_1 (Nat.le_of_ble_eq_true rfl) (Nat.le_of_ble_eq_true rfl) ?_
  refine W.eq (g2 := F0 m 4 ls []) rfl ?_
  refine lv_aload_n hx hb dX2_init_4 rfl (lv_at hl 0 rfl) ?_
  refine lv_sipush (v := 800) hx hb dX2_init_5 (by decide) ?_
  refine ib_newJ (N := 800) hx hb (hts (.arrayClass .long) (ab_tb_in (h := 210) (by decide +kernel))) hK hP hD hS hA (by decide) (by decide) (by decide) (Nat.le_of_ble_eq_true rfl) (Nat.le_of_ble_eq_true rfl) dX2_init_8 (fun q1 H hP hD hS => ?_)
  have hP : va_P D vwCl [(h0, .inr (2, [.null, .null, .null, .int 0])), (q1, .inl (cJ, 800, .inr (.inl (fun _ => 0))))] H := hP
  have hD : va_D A [(h0, .inr (2, [.null, .null, .null, .int 0])), (q1, .inl (cJ, 800, .inr (.inl (fun _ => 0))))] := hD
  refine W.widen (k := 1) (n := 800) (by omega) (by omega) ?_
  refine va_putF (D := D) (ci := 2) (v := .ref q1) (ty := (.array .long)) (C := RX2) (T := TX2) (N := 4) hx hb hts (ab_uws (RX2, TX2, 4) (List.mem_of_getElem? (i := 2) rfl)) tyX2 tyX2_ok nmX2 hown hK hP hD hS 0 rfl rfl 2 (by decide) (hts (.fieldLink RX2 11 "AccessJudge$Inheritance" "found" "[J") (ab_tb_in (h := 288) (by decide +kernel))) (fun _ h9 => h9) rfl hin rfl (by decide +kernel) rfl rfl (Nat.le_of_ble_eq_true rfl) dX2_init_10 (fun H locs hP hD hS => ?_)
  have hP : va_P D vwCl [(h0, .inr (2, [.null, .null, .ref q1, .int 0])), (q1, .inl (cJ, 800, .inr (.inl (fun _ => 0))))] H := hP
  have hD : va_D A [(h0, .inr (2, [.null, .null, .ref q1, .int 0])), (q1, .inl (cJ, 800, .inr (.inl (fun _ => 0))))] := hD
  refine lv_aload_n hx hb dX2_init_13 rfl (lv_at hl 0 rfl) ?_
  refine lv_aload_n hx hb dX2_init_14 rfl (lv_at hl 1 rfl) ?_
  refine va_putF (D := D) (ci := 2) (v := .ref p1) (ty := (.object "AccessJudge$Types")) (C := RX2) (T := TX2) (N := 4) hx hb hts (ab_uws (RX2, TX2, 4) (List.mem_of_getElem? (i := 2) rfl)) tyX2 tyX2_ok nmX2 hown hK hP hD hS 0 rfl rfl 0 (by decide) (hts (.fieldLink RX2 15 "AccessJudge$Inheritance" "types" "LAccessJudge$Types;") (ab_tb_in (h := 286) (by decide +kernel))) (fun _ h9 => h9) rfl hin rfl (by decide +kernel) rfl rfl (Nat.le_of_ble_eq_true rfl) dX2_init_15 (fun H locs hP hD hS => ?_)
  have hP : va_P D vwCl [(h0, .inr (2, [.ref p1, .null, .ref q1, .int 0])), (q1, .inl (cJ, 800, .inr (.inl (fun _ => 0))))] H := hP
  have hD : va_D A [(h0, .inr (2, [.ref p1, .null, .ref q1, .int 0])), (q1, .inl (cJ, 800, .inr (.inl (fun _ => 0))))] := hD
  refine lv_aload_n hx hb dX2_init_18 rfl (lv_at hl 0 rfl) ?_
  refine lv_aload_n hx hb dX2_init_19 rfl (lv_at hl 2 rfl) ?_
  refine va_putF (D := D) (ci := 2) (v := .ref p2) (ty := (.object "AccessJudge$Members")) (C := RX2) (T := TX2) (N := 4) hx hb hts (ab_uws (RX2, TX2, 4) (List.mem_of_getElem? (i := 2) rfl)) tyX2 tyX2_ok nmX2 hown hK hP hD hS 0 rfl rfl 1 (by decide) (hts (.fieldLink RX2 19 "AccessJudge$Inheritance" "members" "LAccessJudge$Members;") (ab_tb_in (h := 287) (by decide +kernel))) (fun _ h9 => h9) rfl hin rfl (by decide +kernel) rfl rfl (Nat.le_of_ble_eq_true rfl) dX2_init_20 (fun H locs hP hD hS => ?_)
  have hP : va_P D vwCl [(h0, .inr (2, [.ref p1, .ref p2, .ref q1, .int 0])), (q1, .inl (cJ, 800, .inr (.inl (fun _ => 0))))] H := hP
  have hD : va_D A [(h0, .inr (2, [.ref p1, .ref p2, .ref q1, .int 0])), (q1, .inl (cJ, 800, .inr (.inl (fun _ => 0))))] := hD
  refine W.widen (k := 1) (n := 800) (Nat.le_refl _) (Nat.le_refl _) ?_
  exact W.vret hx hb hr (fun t ht hW => ⟨⟨(fun k => if k = 1 then q1 else 0), rfl, trivial, by rw [ht]; exact hP, va_K.moved hW.alike hK, hD⟩, hS.F ht⟩) hS.2.2 dX2_init_23
theorem dX6_init_0 : decode cX6_init 0 = .ok (.aload_n 0, 1) := by decide +kernel
theorem dX6_init_1 : decode cX6_init 1 = .ok (.invokespecial 3, 3) := by decide +kernel
theorem dX6_init_4 : decode cX6_init 4 = .ok (.aload_n 0, 1) := by decide +kernel
theorem dX6_init_5 : decode cX6_init 5 = .ok (.sipush 400, 3) := by decide +kernel
theorem dX6_init_8 : decode cX6_init 8 = .ok (.newarray .long, 2) := by decide +kernel
theorem dX6_init_10 : decode cX6_init 10 = .ok (.putfield 9, 3) := by decide +kernel
theorem dX6_init_13 : decode cX6_init 13 = .ok (.aload_n 0, 1) := by decide +kernel
theorem dX6_init_14 : decode cX6_init 14 = .ok (.sipush 400, 3) := by decide +kernel
theorem dX6_init_17 : decode cX6_init 17 = .ok (.newarray .long, 2) := by decide +kernel
theorem dX6_init_19 : decode cX6_init 19 = .ok (.putfield 15, 3) := by decide +kernel
theorem dX6_init_22 : decode cX6_init 22 = .ok (.aload_n 0, 1) := by decide +kernel
theorem dX6_init_23 : decode cX6_init 23 = .ok (.aload_n 1, 1) := by decide +kernel
theorem dX6_init_24 : decode cX6_init 24 = .ok (.putfield 18, 3) := by decide +kernel
theorem dX6_init_27 : decode cX6_init 27 = .ok (.aload_n 0, 1) := by decide +kernel
theorem dX6_init_28 : decode cX6_init 28 = .ok (.aload_n 2, 1) := by decide +kernel
theorem dX6_init_29 : decode cX6_init 29 = .ok (.putfield 22, 3) := by decide +kernel
theorem dX6_init_32 : decode cX6_init 32 = .ok (.return_, 1) := by decide +kernel
abbrev at_X6 (D : va_G) (cI cJ cZ : ClassId) (A : Nat → Prop) (h0 : Nat) (p1 : Nat) (p2 : Nat) (ad : Nat → Nat) (t : State) : Prop := va_P D vwCl [(h0, .inr (6, [.ref p1, .ref p2, .ref (ad 1), .ref (ad 2), .int 0])), ((ad 1), .inl (cJ, 400, .inr (.inl (fun _ => 0)))), ((ad 2), .inl (cJ, 400, .inr (.inl (fun _ => 0))))] t.heap ∧ va_K D vwCl (ib_tys cI cJ cZ) t ∧ va_D A [(h0, .inr (6, [.ref p1, .ref p2, .ref (ad 1), .ref (ad 2), .int 0])), ((ad 1), .inl (cJ, 400, .inr (.inl (fun _ => 0)))), ((ad 2), .inl (cJ, 400, .inr (.inl (fun _ => 0))))]
def mi_X6 : ab_Md := (yX6_init, cX6_init, 3, none, { frames := 1, cells := 2, slots := 800, locals := 12 })
set_option maxHeartbeats 4000000 in
set_option maxRecDepth 100000 in
theorem ci_X6 (l : Launch) (D : va_G) (cI cJ cZ : ClassId) (h0 sz : Nat) (p1 : Nat) (p2 : Nat) : Met l mi_X6.1 (ab_ws mi_X6) mi_X6.2.2.2.2 (va_Pc [.ref h0, .ref p1, .ref p2] (fun U => U.heap.size = sz ∧ va_P D vwCl [(h0, .inr (6, [.null, .null, .null, .null, .int 0]))] U.heap ∧ va_K D vwCl (ib_tys cI cJ cZ) U ∧ va_D (fun _ => True) [(h0, .inr (6, [.null, .null, .null, .null, .int 0]))])) (va_Qv (fun _ : Nat → Nat => True) (at_X6 D cI cJ cZ (va_A [(h0, .inr (6, [.null, .null, .null, .null, .int 0]))] sz) h0 p1 p2) (va_A [(h0, .inr (6, [.null, .null, .null, .null, .int 0]))] sz)) 2 800 (va_A [(h0, .inr (6, [.null, .null, .null, .null, .int 0]))] sz) := by
  refine Met.ofW (cc := cX6_init) (maxL := 3) (ret := none) (by decide) rfl ?_
  intro p e s m args below meth c s₁ B hml hv
  obtain ⟨rfl, hsz, hP, hK, hD0⟩ := hv
  have hx := B.exec
  have hb := B.bytes
  have hr := B.returns
  have hts : ∀ w ∈ ab_T, w.before ([.ref h0, .ref p1, .ref p2] : List Value).toArray s = true := fun w hw => atoms_spec (ws := ab_ws mi_X6) B.pre w (List.mem_cons_of_mem _ hw)
  have hown : s.vm.findClass RX6 = some m.cls := findClass_of_methodNamed B.named
  have hlocks := B.notSynchronized
  have hin : meth.name = "<init>" := (name_of_methodNamed B.named B.method).1
  subst hsz
  have hD := hD0.self (sz := s.heap.size)
  generalize hAe : va_A [(h0, .inr (6, [.null, .null, .null, .null, .int 0]))] s.heap.size = A at hD ⊢
  have hA : ∀ q : Nat, s.heap.size ≤ q → A q := fun q h => by rw [← hAe]; exact Or.inr h
  have hS : va_S A s.heap s.heap [] := va_S.rf
  have hP : va_P D vwCl [(h0, .inr (6, [.null, .null, .null, .null, .int 0]))] s.heap := hP
  have hl := lv_entry ([.ref h0, .ref p1, .ref p2]) (n := 3) (Nat.le_of_ble_eq_true rfl)
  rw [lg_entry_eq]
  generalize (lg_sl ([.ref h0, .ref p1, .ref p2]) ++ List.replicate (3 - (lg_sl ([.ref h0, .ref p1, .ref p2])).length) Slot.unset).toArray = ls at hl ⊢
  have hl : lv_has ls 3 [(0, .ref h0), (1, .ref p1), (2, .ref p2)] := hl
  refine lv_aload_n hx hb dX6_init_0 rfl (lv_at hl 0 rfl) ?_
  refine W.objInit hx hb hown (hts (.methodLink RX6 3 objectInit) (ab_tb_in (h := 304) (by decide +kernel))) (hts (.instanceMethod objectInit) (ab_tb_in (h := 88) (by decide +kernel))) (hts (.code objectInit ⟨#[0xb1]⟩ 1 none) (ab_tb_in (h := 89) (by decide +kernel))) rfl (by rw [hml]; exact hl.1) rfl dX6_init_1 (Nat.le_of_ble_eq_true rfl) (Nat.le_of_ble_eq_true rfl) ?_
  refine W.eq (g2 := F0 m 4 ls []) rfl ?_
  refine lv_aload_n hx hb dX6_init_4 rfl (lv_at hl 0 rfl) ?_
  refine lv_sipush (v := 400) hx hb dX6_init_5 (by decide) ?_
  refine ib_newJ (N := 400) hx hb (hts (.arrayClass .long) (ab_tb_in (h := 210) (by decide +kernel))) hK hP hD hS hA (by decide) (by decide) (by decide) (Nat.le_of_ble_eq_true rfl) (Nat.le_of_ble_eq_true rfl) dX6_init_8 (fun q1 H hP hD hS => ?_)
  have hP : va_P D vwCl [(h0, .inr (6, [.null, .null, .null, .null, .int 0])), (q1, .inl (cJ, 400, .inr (.inl (fun _ => 0))))] H := hP
  have hD : va_D A [(h0, .inr (6, [.null, .null, .null, .null, .int 0])), (q1, .inl (cJ, 400, .inr (.inl (fun _ => 0))))] := hD
  refine W.widen (k := 1) (n := 400) (by omega) (by omega) ?_
  refine va_putF (D := D) (ci := 6) (v := .ref q1) (ty := (.array .long)) (C := RX6) (T := TX6) (N := 5) hx hb hts (ab_uws (RX6, TX6, 5) (List.mem_of_getElem? (i := 6) rfl)) tyX6 tyX6_ok nmX6 hown hK hP hD hS 0 rfl rfl 2 (by decide) (hts (.fieldLink RX6 9 "AccessJudge$Overriding" "overridden" "[J") (ab_tb_in (h := 307) (by decide +kernel))) (fun _ h9 => h9) rfl hin rfl (by decide +kernel) rfl rfl (Nat.le_of_ble_eq_true rfl) dX6_init_10 (fun H locs hP hD hS => ?_)
  have hP : va_P D vwCl [(h0, .inr (6, [.null, .null, .ref q1, .null, .int 0])), (q1, .inl (cJ, 400, .inr (.inl (fun _ => 0))))] H := hP
  have hD : va_D A [(h0, .inr (6, [.null, .null, .ref q1, .null, .int 0])), (q1, .inl (cJ, 400, .inr (.inl (fun _ => 0))))] := hD
  refine lv_aload_n hx hb dX6_init_13 rfl (lv_at hl 0 rfl) ?_
  refine lv_sipush (v := 400) hx hb dX6_init_14 (by decide) ?_
  refine ib_newJ (N := 400) hx hb (hts (.arrayClass .long) (ab_tb_in (h := 210) (by decide +kernel))) hK hP hD hS hA (by decide) (by decide) (by decide) (Nat.le_of_ble_eq_true rfl) (Nat.le_of_ble_eq_true rfl) dX6_init_17 (fun q2 H hP hD hS => ?_)
  have hP : va_P D vwCl [(h0, .inr (6, [.null, .null, .ref q1, .null, .int 0])), (q1, .inl (cJ, 400, .inr (.inl (fun _ => 0)))), (q2, .inl (cJ, 400, .inr (.inl (fun _ => 0))))] H := hP
  have hD : va_D A [(h0, .inr (6, [.null, .null, .ref q1, .null, .int 0])), (q1, .inl (cJ, 400, .inr (.inl (fun _ => 0)))), (q2, .inl (cJ, 400, .inr (.inl (fun _ => 0))))] := hD
  refine W.widen (k := 2) (n := 800) (by omega) (by omega) ?_
  refine va_putF (D := D) (ci := 6) (v := .ref q2) (ty := (.array .long)) (C := RX6) (T := TX6) (N := 5) hx hb hts (ab_uws (RX6, TX6, 5) (List.mem_of_getElem? (i := 6) rfl)) tyX6 tyX6_ok nmX6 hown hK hP hD hS 0 rfl rfl 3 (by decide) (hts (.fieldLink RX6 15 "AccessJudge$Overriding" "overriders" "[J") (ab_tb_in (h := 308) (by decide +kernel))) (fun _ h9 => h9) rfl hin rfl (by decide +kernel) rfl rfl (Nat.le_of_ble_eq_true rfl) dX6_init_19 (fun H locs hP hD hS => ?_)
  have hP : va_P D vwCl [(h0, .inr (6, [.null, .null, .ref q1, .ref q2, .int 0])), (q1, .inl (cJ, 400, .inr (.inl (fun _ => 0)))), (q2, .inl (cJ, 400, .inr (.inl (fun _ => 0))))] H := hP
  have hD : va_D A [(h0, .inr (6, [.null, .null, .ref q1, .ref q2, .int 0])), (q1, .inl (cJ, 400, .inr (.inl (fun _ => 0)))), (q2, .inl (cJ, 400, .inr (.inl (fun _ => 0))))] := hD
  refine lv_aload_n hx hb dX6_init_22 rfl (lv_at hl 0 rfl) ?_
  refine lv_aload_n hx hb dX6_init_23 rfl (lv_at hl 1 rfl) ?_
  refine va_putF (D := D) (ci := 6) (v := .ref p1) (ty := (.object "AccessJudge$Types")) (C := RX6) (T := TX6) (N := 5) hx hb hts (ab_uws (RX6, TX6, 5) (List.mem_of_getElem? (i := 6) rfl)) tyX6 tyX6_ok nmX6 hown hK hP hD hS 0 rfl rfl 0 (by decide) (hts (.fieldLink RX6 18 "AccessJudge$Overriding" "types" "LAccessJudge$Types;") (ab_tb_in (h := 305) (by decide +kernel))) (fun _ h9 => h9) rfl hin rfl (by decide +kernel) rfl rfl (Nat.le_of_ble_eq_true rfl) dX6_init_24 (fun H locs hP hD hS => ?_)
  have hP : va_P D vwCl [(h0, .inr (6, [.ref p1, .null, .ref q1, .ref q2, .int 0])), (q1, .inl (cJ, 400, .inr (.inl (fun _ => 0)))), (q2, .inl (cJ, 400, .inr (.inl (fun _ => 0))))] H := hP
  have hD : va_D A [(h0, .inr (6, [.ref p1, .null, .ref q1, .ref q2, .int 0])), (q1, .inl (cJ, 400, .inr (.inl (fun _ => 0)))), (q2, .inl (cJ, 400, .inr (.inl (fun _ => 0))))] := hD
  refine lv_aload_n hx hb dX6_init_27 rfl (lv_at hl 0 rfl) ?_
  refine lv_aload_n hx hb dX6_init_28 rfl (lv_at hl 2 rfl) ?_
  refine va_putF (D := D) (ci := 6) (v := .ref p2) (ty := (.object "AccessJudge$Members")) (C := RX6) (T := TX6) (N := 5) hx hb hts (ab_uws (RX6, TX6, 5) (List.mem_of_getElem? (i := 6) rfl)) tyX6 tyX6_ok nmX6 hown hK hP hD hS 0 rfl rfl 1 (by decide) (hts (.fieldLink RX6 22 "AccessJudge$Overriding" "members" "LAccessJudge$Members;") (ab_tb_in (h := 306) (by decide +kernel))) (fun _ h9 => h9) rfl hin rfl (by decide +kernel) rfl rfl (Nat.le_of_ble_eq_true rfl) dX6_init_29 (fun H locs hP hD hS => ?_)
  have hP : va_P D vwCl [(h0, .inr (6, [.ref p1, .ref p2, .ref q1, .ref q2, .int 0])), (q1, .inl (cJ, 400, .inr (.inl (fun _ => 0)))), (q2, .inl (cJ, 400, .inr (.inl (fun _ => 0))))] H := hP
  have hD : va_D A [(h0, .inr (6, [.ref p1, .ref p2, .ref q1, .ref q2, .int 0])), (q1, .inl (cJ, 400, .inr (.inl (fun _ => 0)))), (q2, .inl (cJ, 400, .inr (.inl (fun _ => 0))))] := hD
  refine W.widen (k := 2) (n := 800) (Nat.le_refl _) (Nat.le_refl _) ?_
  exact W.vret hx hb hr (fun t ht hW => ⟨⟨(fun k => if k = 1 then q1 else if k = 2 then q2 else 0), rfl, trivial, by rw [ht]; exact hP, va_K.moved hW.alike hK, hD⟩, hS.F ht⟩) hS.2.2 dX6_init_32
theorem dX5_init_0 : decode cX5_init 0 = .ok (.aload_n 0, 1) := by decide +kernel
theorem dX5_init_1 : decode cX5_init 1 = .ok (.invokespecial 3, 3) := by decide +kernel
theorem dX5_init_4 : decode cX5_init 4 = .ok (.aload_n 0, 1) := by decide +kernel
theorem dX5_init_5 : decode cX5_init 5 = .ok (.aload_n 1, 1) := by decide +kernel
theorem dX5_init_6 : decode cX5_init 6 = .ok (.putfield 9, 3) := by decide +kernel
theorem dX5_init_9 : decode cX5_init 9 = .ok (.aload_n 0, 1) := by decide +kernel
theorem dX5_init_10 : decode cX5_init 10 = .ok (.aload_n 2, 1) := by decide +kernel
theorem dX5_init_11 : decode cX5_init 11 = .ok (.putfield 15, 3) := by decide +kernel
theorem dX5_init_14 : decode cX5_init 14 = .ok (.aload_n 0, 1) := by decide +kernel
theorem dX5_init_15 : decode cX5_init 15 = .ok (.aload_n 3, 1) := by decide +kernel
theorem dX5_init_16 : decode cX5_init 16 = .ok (.putfield 19, 3) := by decide +kernel
theorem dX5_init_19 : decode cX5_init 19 = .ok (.return_, 1) := by decide +kernel
abbrev at_X5 (D : va_G) (cI cJ cZ : ClassId) (A : Nat → Prop) (h0 : Nat) (p1 : Nat) (p2 : Nat) (p3 : Nat) (ad : Nat → Nat) (t : State) : Prop := va_P D vwCl [(h0, .inr (5, [.ref p1, .ref p2, .ref p3]))] t.heap ∧ va_K D vwCl (ib_tys cI cJ cZ) t ∧ va_D A [(h0, .inr (5, [.ref p1, .ref p2, .ref p3]))]
def mi_X5 : ab_Md := (yX5_init, cX5_init, 4, none, { frames := 1, cells := 0, slots := 0, locals := 12 })
set_option maxHeartbeats 4000000 in
set_option maxRecDepth 100000 in
theorem ci_X5 (l : Launch) (D : va_G) (cI cJ cZ : ClassId) (h0 sz : Nat) (p1 : Nat) (p2 : Nat) (p3 : Nat) : Met l mi_X5.1 (ab_ws mi_X5) mi_X5.2.2.2.2 (va_Pc [.ref h0, .ref p1, .ref p2, .ref p3] (fun U => U.heap.size = sz ∧ va_P D vwCl [(h0, .inr (5, [.null, .null, .null]))] U.heap ∧ va_K D vwCl (ib_tys cI cJ cZ) U ∧ va_D (fun _ => True) [(h0, .inr (5, [.null, .null, .null]))])) (va_Qv (fun _ : Nat → Nat => True) (at_X5 D cI cJ cZ (va_A [(h0, .inr (5, [.null, .null, .null]))] sz) h0 p1 p2 p3) (va_A [(h0, .inr (5, [.null, .null, .null]))] sz)) 0 0 (va_A [(h0, .inr (5, [.null, .null, .null]))] sz) := by
  refine Met.ofW (cc := cX5_init) (maxL := 4) (ret := none) (by decide) rfl ?_
  intro p e s m args below meth c s₁ B hml hv
  obtain ⟨rfl, hsz, hP, hK, hD0⟩ := hv
  have hx := B.exec
  have hb := B.bytes
  have hr := B.returns
  have hts : ∀ w ∈ ab_T, w.before ([.ref h0, .ref p1, .ref p2, .ref p3] : List Value).toArray s = true := fun w hw => atoms_spec (ws := ab_ws mi_X5) B.pre w (List.mem_cons_of_mem _ hw)
  have hown : s.vm.findClass RX5 = some m.cls := findClass_of_methodNamed B.named
  have hlocks := B.notSynchronized
  have hin : meth.name = "<init>" := (name_of_methodNamed B.named B.method).1
  subst hsz
  have hD := hD0.self (sz := s.heap.size)
  generalize hAe : va_A [(h0, .inr (5, [.null, .null, .null]))] s.heap.size = A at hD ⊢
  have hA : ∀ q : Nat, s.heap.size ≤ q → A q := fun q h => by rw [← hAe]; exact Or.inr h
  have hS : va_S A s.heap s.heap [] := va_S.rf
  have hP : va_P D vwCl [(h0, .inr (5, [.null, .null, .null]))] s.heap := hP
  have hl := lv_entry ([.ref h0, .ref p1, .ref p2, .ref p3]) (n := 4) (Nat.le_of_ble_eq_true rfl)
  rw [lg_entry_eq]
  generalize (lg_sl ([.ref h0, .ref p1, .ref p2, .ref p3]) ++ List.replicate (4 - (lg_sl ([.ref h0, .ref p1, .ref p2, .ref p3])).length) Slot.unset).toArray = ls at hl ⊢
  have hl : lv_has ls 4 [(0, .ref h0), (1, .ref p1), (2, .ref p2), (3, .ref p3)] := hl
  refine lv_aload_n hx hb dX5_init_0 rfl (lv_at hl 0 rfl) ?_
  refine W.objInit hx hb hown (hts (.methodLink RX5 3 objectInit) (ab_tb_in (h := 326) (by decide +kernel))) (hts (.instanceMethod objectInit) (ab_tb_in (h := 88) (by decide +kernel))) (hts (.code objectInit ⟨#[0xb1]⟩ 1 none) (ab_tb_in (h := 89) (by decide +kernel))) rfl (by rw [hml]; exact hl.1) rfl dX5_init_1 (Nat.le_of_ble_eq_true rfl) (Nat.le_of_ble_eq_true rfl) ?_
  refine W.eq (g2 := F0 m 4 ls []) rfl ?_
  refine lv_aload_n hx hb dX5_init_4 rfl (lv_at hl 0 rfl) ?_
  refine lv_aload_n hx hb dX5_init_5 rfl (lv_at hl 1 rfl) ?_
  refine va_putF (D := D) (ci := 5) (v := .ref p1) (ty := (.object "AccessJudge$Modules")) (C := RX5) (T := TX5) (N := 3) hx hb hts (ab_uws (RX5, TX5, 3) (List.mem_of_getElem? (i := 5) rfl)) tyX5 tyX5_ok nmX5 hown hK hP hD hS 0 rfl rfl 0 (by decide) (hts (.fieldLink RX5 9 "AccessJudge$Openness" "modules" "LAccessJudge$Modules;") (ab_tb_in (h := 327) (by decide +kernel))) (fun _ h9 => h9) rfl hin rfl (by decide +kernel) rfl rfl (Nat.le_of_ble_eq_true rfl) dX5_init_6 (fun H locs hP hD hS => ?_)
  have hP : va_P D vwCl [(h0, .inr (5, [.ref p1, .null, .null]))] H := hP
  have hD : va_D A [(h0, .inr (5, [.ref p1, .null, .null]))] := hD
  refine lv_aload_n hx hb dX5_init_9 rfl (lv_at hl 0 rfl) ?_
  refine lv_aload_n hx hb dX5_init_10 rfl (lv_at hl 2 rfl) ?_
  refine va_putF (D := D) (ci := 5) (v := .ref p2) (ty := (.object "AccessJudge$Types")) (C := RX5) (T := TX5) (N := 3) hx hb hts (ab_uws (RX5, TX5, 3) (List.mem_of_getElem? (i := 5) rfl)) tyX5 tyX5_ok nmX5 hown hK hP hD hS 0 rfl rfl 1 (by decide) (hts (.fieldLink RX5 15 "AccessJudge$Openness" "types" "LAccessJudge$Types;") (ab_tb_in (h := 328) (by decide +kernel))) (fun _ h9 => h9) rfl hin rfl (by decide +kernel) rfl rfl (Nat.le_of_ble_eq_true rfl) dX5_init_11 (fun H locs hP hD hS => ?_)
  have hP : va_P D vwCl [(h0, .inr (5, [.ref p1, .ref p2, .null]))] H := hP
  have hD : va_D A [(h0, .inr (5, [.ref p1, .ref p2, .null]))] := hD
  refine lv_aload_n hx hb dX5_init_14 rfl (lv_at hl 0 rfl) ?_
  refine lv_aload_n hx hb dX5_init_15 rfl (lv_at hl 3 rfl) ?_
  refine va_putF (D := D) (ci := 5) (v := .ref p3) (ty := (.object "AccessJudge$Members")) (C := RX5) (T := TX5) (N := 3) hx hb hts (ab_uws (RX5, TX5, 3) (List.mem_of_getElem? (i := 5) rfl)) tyX5 tyX5_ok nmX5 hown hK hP hD hS 0 rfl rfl 2 (by decide) (hts (.fieldLink RX5 19 "AccessJudge$Openness" "members" "LAccessJudge$Members;") (ab_tb_in (h := 329) (by decide +kernel))) (fun _ h9 => h9) rfl hin rfl (by decide +kernel) rfl rfl (Nat.le_of_ble_eq_true rfl) dX5_init_16 (fun H locs hP hD hS => ?_)
  have hP : va_P D vwCl [(h0, .inr (5, [.ref p1, .ref p2, .ref p3]))] H := hP
  have hD : va_D A [(h0, .inr (5, [.ref p1, .ref p2, .ref p3]))] := hD
  refine W.widen (k := 0) (n := 0) (Nat.le_refl _) (Nat.le_refl _) ?_
  exact W.vret hx hb hr (fun t ht hW => ⟨⟨(fun k =>  0), rfl, trivial, by rw [ht]; exact hP, va_K.moved hW.alike hK, hD⟩, hS.F ht⟩) hS.2.2 dX5_init_19
theorem dX9_init_0 : decode cX9_init 0 = .ok (.aload_n 0, 1) := by decide +kernel
theorem dX9_init_1 : decode cX9_init 1 = .ok (.invokespecial 3, 3) := by decide +kernel
theorem dX9_init_4 : decode cX9_init 4 = .ok (.aload_n 0, 1) := by decide +kernel
theorem dX9_init_5 : decode cX9_init 5 = .ok (.aload_n 1, 1) := by decide +kernel
theorem dX9_init_6 : decode cX9_init 6 = .ok (.putfield 9, 3) := by decide +kernel
theorem dX9_init_9 : decode cX9_init 9 = .ok (.aload_n 0, 1) := by decide +kernel
theorem dX9_init_10 : decode cX9_init 10 = .ok (.aload_n 2, 1) := by decide +kernel
theorem dX9_init_11 : decode cX9_init 11 = .ok (.putfield 15, 3) := by decide +kernel
theorem dX9_init_14 : decode cX9_init 14 = .ok (.aload_n 0, 1) := by decide +kernel
theorem dX9_init_15 : decode cX9_init 15 = .ok (.aload_n 3, 1) := by decide +kernel
theorem dX9_init_16 : decode cX9_init 16 = .ok (.putfield 19, 3) := by decide +kernel
theorem dX9_init_19 : decode cX9_init 19 = .ok (.aload_n 0, 1) := by decide +kernel
theorem dX9_init_20 : decode cX9_init 20 = .ok (.aload 4, 2) := by decide +kernel
theorem dX9_init_22 : decode cX9_init 22 = .ok (.putfield 23, 3) := by decide +kernel
theorem dX9_init_25 : decode cX9_init 25 = .ok (.return_, 1) := by decide +kernel
abbrev at_X9 (D : va_G) (cI cJ cZ : ClassId) (A : Nat → Prop) (h0 : Nat) (p1 : Nat) (p2 : Nat) (p3 : Nat) (p4 : Nat) (ad : Nat → Nat) (t : State) : Prop := va_P D vwCl [(h0, .inr (8, [.ref p1, .ref p2, .ref p3, .ref p4]))] t.heap ∧ va_K D vwCl (ib_tys cI cJ cZ) t ∧ va_D A [(h0, .inr (8, [.ref p1, .ref p2, .ref p3, .ref p4]))]
def mi_X9 : ab_Md := (yX9_init, cX9_init, 5, none, { frames := 1, cells := 0, slots := 0, locals := 12 })
set_option maxHeartbeats 4000000 in
set_option maxRecDepth 100000 in
theorem ci_X9 (l : Launch) (D : va_G) (cI cJ cZ : ClassId) (h0 sz : Nat) (p1 : Nat) (p2 : Nat) (p3 : Nat) (p4 : Nat) : Met l mi_X9.1 (ab_ws mi_X9) mi_X9.2.2.2.2 (va_Pc [.ref h0, .ref p1, .ref p2, .ref p3, .ref p4] (fun U => U.heap.size = sz ∧ va_P D vwCl [(h0, .inr (8, [.null, .null, .null, .null]))] U.heap ∧ va_K D vwCl (ib_tys cI cJ cZ) U ∧ va_D (fun _ => True) [(h0, .inr (8, [.null, .null, .null, .null]))])) (va_Qv (fun _ : Nat → Nat => True) (at_X9 D cI cJ cZ (va_A [(h0, .inr (8, [.null, .null, .null, .null]))] sz) h0 p1 p2 p3 p4) (va_A [(h0, .inr (8, [.null, .null, .null, .null]))] sz)) 0 0 (va_A [(h0, .inr (8, [.null, .null, .null, .null]))] sz) := by
  refine Met.ofW (cc := cX9_init) (maxL := 5) (ret := none) (by decide) rfl ?_
  intro p e s m args below meth c s₁ B hml hv
  obtain ⟨rfl, hsz, hP, hK, hD0⟩ := hv
  have hx := B.exec
  have hb := B.bytes
  have hr := B.returns
  have hts : ∀ w ∈ ab_T, w.before ([.ref h0, .ref p1, .ref p2, .ref p3, .ref p4] : List Value).toArray s = true := fun w hw => atoms_spec (ws := ab_ws mi_X9) B.pre w (List.mem_cons_of_mem _ hw)
  have hown : s.vm.findClass RX9 = some m.cls := findClass_of_methodNamed B.named
  have hlocks := B.notSynchronized
  have hin : meth.name = "<init>" := (name_of_methodNamed B.named B.method).1
  subst hsz
  have hD := hD0.self (sz := s.heap.size)
  generalize hAe : va_A [(h0, .inr (8, [.null, .null, .null, .null]))] s.heap.size = A at hD ⊢
  have hA : ∀ q : Nat, s.heap.size ≤ q → A q := fun q h => by rw [← hAe]; exact Or.inr h
  have hS : va_S A s.heap s.heap [] := va_S.rf
  have hP : va_P D vwCl [(h0, .inr (8, [.null, .null, .null, .null]))] s.heap := hP
  have hl := lv_entry ([.ref h0, .ref p1, .ref p2, .ref p3, .ref p4]) (n := 5) (Nat.le_of_ble_eq_true rfl)
  rw [lg_entry_eq]
  generalize (lg_sl ([.ref h0, .ref p1, .ref p2, .ref p3, .ref p4]) ++ List.replicate (5 - (lg_sl ([.ref h0, .ref p1, .ref p2, .ref p3, .ref p4])).length) Slot.unset).toArray = ls at hl ⊢
  have hl : lv_has ls 5 [(0, .ref h0), (1, .ref p1), (2, .ref p2), (3, .ref p3), (4, .ref p4)] := hl
  refine lv_aload_n hx hb dX9_init_0 rfl (lv_at hl 0 rfl) ?_
  refine W.objInit hx hb hown (hts (.methodLink RX9 3 objectInit) (ab_tb_in (h := 342) (by decide +kernel))) (hts (.instanceMethod objectInit) (ab_tb_in (h := 88) (by decide +kernel))) (hts (.code objectInit ⟨#[0xb1]⟩ 1 none) (ab_tb_in (h := 89) (by decide +kernel))) rfl (by rw [hml]; exact hl.1) rfl dX9_init_1 (Nat.le_of_ble_eq_true rfl) (Nat.le_of_ble_eq_true rfl) ?_
  refine W.eq (g2 := F0 m 4 ls []) rfl ?_
  refine lv_aload_n hx hb dX9_init_4 rfl (lv_at hl 0 rfl) ?_
  refine lv_aload_n hx hb dX9_init_5 rfl (lv_at hl 1 rfl) ?_
  refine va_putF (D := D) (ci := 8) (v := .ref p1) (ty := (.object "AccessJudge$Types")) (C := RX9) (T := TX9) (N := 4) hx hb hts (ab_uws (RX9, TX9, 4) (List.mem_of_getElem? (i := 8) rfl)) tyX9 tyX9_ok nmX9 hown hK hP hD hS 0 rfl rfl 0 (by decide) (hts (.fieldLink RX9 9 "AccessJudge$Uses" "types" "LAccessJudge$Types;") (ab_tb_in (h := 343) (by decide +kernel))) (fun _ h9 => h9) rfl hin rfl (by decide +kernel) rfl rfl (Nat.le_of_ble_eq_true rfl) dX9_init_6 (fun H locs hP hD hS => ?_)
  have hP : va_P D vwCl [(h0, .inr (8, [.ref p1, .null, .null, .null]))] H := hP
  have hD : va_D A [(h0, .inr (8, [.ref p1, .null, .null, .null]))] := hD
  refine lv_aload_n hx hb dX9_init_9 rfl (lv_at hl 0 rfl) ?_
  refine lv_aload_n hx hb dX9_init_10 rfl (lv_at hl 2 rfl) ?_
  refine va_putF (D := D) (ci := 8) (v := .ref p2) (ty := (.object "AccessJudge$Members")) (C := RX9) (T := TX9) (N := 4) hx hb hts (ab_uws (RX9, TX9, 4) (List.mem_of_getElem? (i := 8) rfl)) tyX9 tyX9_ok nmX9 hown hK hP hD hS 0 rfl rfl 1 (by decide) (hts (.fieldLink RX9 15 "AccessJudge$Uses" "members" "LAccessJudge$Members;") (ab_tb_in (h := 344) (by decide +kernel))) (fun _ h9 => h9) rfl hin rfl (by decide +kernel) rfl rfl (Nat.le_of_ble_eq_true rfl) dX9_init_11 (fun H locs hP hD hS => ?_)
  have hP : va_P D vwCl [(h0, .inr (8, [.ref p1, .ref p2, .null, .null]))] H := hP
  have hD : va_D A [(h0, .inr (8, [.ref p1, .ref p2, .null, .null]))] := hD
  refine lv_aload_n hx hb dX9_init_14 rfl (lv_at hl 0 rfl) ?_
  refine lv_aload_n hx hb dX9_init_15 rfl (lv_at hl 3 rfl) ?_
  refine va_putF (D := D) (ci := 8) (v := .ref p3) (ty := (.object "AccessJudge$Inheritance")) (C := RX9) (T := TX9) (N := 4) hx hb hts (ab_uws (RX9, TX9, 4) (List.mem_of_getElem? (i := 8) rfl)) tyX9 tyX9_ok nmX9 hown hK hP hD hS 0 rfl rfl 2 (by decide) (hts (.fieldLink RX9 19 "AccessJudge$Uses" "inheritance" "LAccessJudge$Inheritance;") (ab_tb_in (h := 345) (by decide +kernel))) (fun _ h9 => h9) rfl hin rfl (by decide +kernel) rfl rfl (Nat.le_of_ble_eq_true rfl) dX9_init_16 (fun H locs hP hD hS => ?_)
  have hP : va_P D vwCl [(h0, .inr (8, [.ref p1, .ref p2, .ref p3, .null]))] H := hP
  have hD : va_D A [(h0, .inr (8, [.ref p1, .ref p2, .ref p3, .null]))] := hD
  refine lv_aload_n hx hb dX9_init_19 rfl (lv_at hl 0 rfl) ?_
  refine lv_aload hx hb dX9_init_20 (lv_at hl 4 rfl) ?_
  refine va_putF (D := D) (ci := 8) (v := .ref p4) (ty := (.object "AccessJudge$Openness")) (C := RX9) (T := TX9) (N := 4) hx hb hts (ab_uws (RX9, TX9, 4) (List.mem_of_getElem? (i := 8) rfl)) tyX9 tyX9_ok nmX9 hown hK hP hD hS 0 rfl rfl 3 (by decide) (hts (.fieldLink RX9 23 "AccessJudge$Uses" "openness" "LAccessJudge$Openness;") (ab_tb_in (h := 346) (by decide +kernel))) (fun _ h9 => h9) rfl hin rfl (by decide +kernel) rfl rfl (Nat.le_of_ble_eq_true rfl) dX9_init_22 (fun H locs hP hD hS => ?_)
  have hP : va_P D vwCl [(h0, .inr (8, [.ref p1, .ref p2, .ref p3, .ref p4]))] H := hP
  have hD : va_D A [(h0, .inr (8, [.ref p1, .ref p2, .ref p3, .ref p4]))] := hD
  refine W.widen (k := 0) (n := 0) (Nat.le_refl _) (Nat.le_refl _) ?_
  exact W.vret hx hb hr (fun t ht hW => ⟨⟨(fun k =>  0), rfl, trivial, by rw [ht]; exact hP, va_K.moved hW.alike hK, hD⟩, hS.F ht⟩) hS.2.2 dX9_init_25
theorem dX0_init_0 : decode cX0_init 0 = .ok (.aload_n 0, 1) := by decide +kernel
theorem dX0_init_1 : decode cX0_init 1 = .ok (.invokespecial 3, 3) := by decide +kernel
theorem dX0_init_4 : decode cX0_init 4 = .ok (.aload_n 0, 1) := by decide +kernel
theorem dX0_init_5 : decode cX0_init 5 = .ok (.aload_n 1, 1) := by decide +kernel
theorem dX0_init_6 : decode cX0_init 6 = .ok (.putfield 9, 3) := by decide +kernel
theorem dX0_init_9 : decode cX0_init 9 = .ok (.aload_n 0, 1) := by decide +kernel
theorem dX0_init_10 : decode cX0_init 10 = .ok (.aload_n 2, 1) := by decide +kernel
theorem dX0_init_11 : decode cX0_init 11 = .ok (.putfield 15, 3) := by decide +kernel
theorem dX0_init_14 : decode cX0_init 14 = .ok (.aload_n 0, 1) := by decide +kernel
theorem dX0_init_15 : decode cX0_init 15 = .ok (.aload_n 3, 1) := by decide +kernel
theorem dX0_init_16 : decode cX0_init 16 = .ok (.putfield 19, 3) := by decide +kernel
theorem dX0_init_19 : decode cX0_init 19 = .ok (.return_, 1) := by decide +kernel
abbrev at_X0 (D : va_G) (cI cJ cZ : ClassId) (A : Nat → Prop) (h0 : Nat) (p1 : Nat) (p2 : Nat) (p3 : Nat) (ad : Nat → Nat) (t : State) : Prop := va_P D vwCl [(h0, .inr (0, [.ref p1, .ref p2, .ref p3]))] t.heap ∧ va_K D vwCl (ib_tys cI cJ cZ) t ∧ va_D A [(h0, .inr (0, [.ref p1, .ref p2, .ref p3]))]
def mi_X0 : ab_Md := (yX0_init, cX0_init, 4, none, { frames := 1, cells := 0, slots := 0, locals := 12 })
set_option maxHeartbeats 4000000 in
set_option maxRecDepth 100000 in
theorem ci_X0 (l : Launch) (D : va_G) (cI cJ cZ : ClassId) (h0 sz : Nat) (p1 : Nat) (p2 : Nat) (p3 : Nat) : Met l mi_X0.1 (ab_ws mi_X0) mi_X0.2.2.2.2 (va_Pc [.ref h0, .ref p1, .ref p2, .ref p3] (fun U => U.heap.size = sz ∧ va_P D vwCl [(h0, .inr (0, [.null, .null, .null]))] U.heap ∧ va_K D vwCl (ib_tys cI cJ cZ) U ∧ va_D (fun _ => True) [(h0, .inr (0, [.null, .null, .null]))])) (va_Qv (fun _ : Nat → Nat => True) (at_X0 D cI cJ cZ (va_A [(h0, .inr (0, [.null, .null, .null]))] sz) h0 p1 p2 p3) (va_A [(h0, .inr (0, [.null, .null, .null]))] sz)) 0 0 (va_A [(h0, .inr (0, [.null, .null, .null]))] sz) := by
  refine Met.ofW (cc := cX0_init) (maxL := 4) (ret := none) (by decide) rfl ?_
  intro p e s m args below meth c s₁ B hml hv
  obtain ⟨rfl, hsz, hP, hK, hD0⟩ := hv
  have hx := B.exec
  have hb := B.bytes
  have hr := B.returns
  have hts : ∀ w ∈ ab_T, w.before ([.ref h0, .ref p1, .ref p2, .ref p3] : List Value).toArray s = true := fun w hw => atoms_spec (ws := ab_ws mi_X0) B.pre w (List.mem_cons_of_mem _ hw)
  have hown : s.vm.findClass RX0 = some m.cls := findClass_of_methodNamed B.named
  have hlocks := B.notSynchronized
  have hin : meth.name = "<init>" := (name_of_methodNamed B.named B.method).1
  subst hsz
  have hD := hD0.self (sz := s.heap.size)
  generalize hAe : va_A [(h0, .inr (0, [.null, .null, .null]))] s.heap.size = A at hD ⊢
  have hA : ∀ q : Nat, s.heap.size ≤ q → A q := fun q h => by rw [← hAe]; exact Or.inr h
  have hS : va_S A s.heap s.heap [] := va_S.rf
  have hP : va_P D vwCl [(h0, .inr (0, [.null, .null, .null]))] s.heap := hP
  have hl := lv_entry ([.ref h0, .ref p1, .ref p2, .ref p3]) (n := 4) (Nat.le_of_ble_eq_true rfl)
  rw [lg_entry_eq]
  generalize (lg_sl ([.ref h0, .ref p1, .ref p2, .ref p3]) ++ List.replicate (4 - (lg_sl ([.ref h0, .ref p1, .ref p2, .ref p3])).length) Slot.unset).toArray = ls at hl ⊢
  have hl : lv_has ls 4 [(0, .ref h0), (1, .ref p1), (2, .ref p2), (3, .ref p3)] := hl
  refine lv_aload_n hx hb dX0_init_0 rfl (lv_at hl 0 rfl) ?_
  refine W.objInit hx hb hown (hts (.methodLink RX0 3 objectInit) (ab_tb_in (h := 361) (by decide +kernel))) (hts (.instanceMethod objectInit) (ab_tb_in (h := 88) (by decide +kernel))) (hts (.code objectInit ⟨#[0xb1]⟩ 1 none) (ab_tb_in (h := 89) (by decide +kernel))) rfl (by rw [hml]; exact hl.1) rfl dX0_init_1 (Nat.le_of_ble_eq_true rfl) (Nat.le_of_ble_eq_true rfl) ?_
  refine W.eq (g2 := F0 m 4 ls []) rfl ?_
  refine lv_aload_n hx hb dX0_init_4 rfl (lv_at hl 0 rfl) ?_
  refine lv_aload_n hx hb dX0_init_5 rfl (lv_at hl 1 rfl) ?_
  refine va_putF (D := D) (ci := 0) (v := .ref p1) (ty := (.object "AccessJudge$Types")) (C := RX0) (T := TX0) (N := 3) hx hb hts (ab_uws (RX0, TX0, 3) (List.mem_of_getElem? (i := 0) rfl)) tyX0 tyX0_ok nmX0 hown hK hP hD hS 0 rfl rfl 0 (by decide) (hts (.fieldLink RX0 9 "AccessJudge$Choice" "types" "LAccessJudge$Types;") (ab_tb_in (h := 362) (by decide +kernel))) (fun _ h9 => h9) rfl hin rfl (by decide +kernel) rfl rfl (Nat.le_of_ble_eq_true rfl) dX0_init_6 (fun H locs hP hD hS => ?_)
  have hP : va_P D vwCl [(h0, .inr (0, [.ref p1, .null, .null]))] H := hP
  have hD : va_D A [(h0, .inr (0, [.ref p1, .null, .null]))] := hD
  refine lv_aload_n hx hb dX0_init_9 rfl (lv_at hl 0 rfl) ?_
  refine lv_aload_n hx hb dX0_init_10 rfl (lv_at hl 2 rfl) ?_
  refine va_putF (D := D) (ci := 0) (v := .ref p2) (ty := (.object "AccessJudge$Members")) (C := RX0) (T := TX0) (N := 3) hx hb hts (ab_uws (RX0, TX0, 3) (List.mem_of_getElem? (i := 0) rfl)) tyX0 tyX0_ok nmX0 hown hK hP hD hS 0 rfl rfl 1 (by decide) (hts (.fieldLink RX0 15 "AccessJudge$Choice" "members" "LAccessJudge$Members;") (ab_tb_in (h := 363) (by decide +kernel))) (fun _ h9 => h9) rfl hin rfl (by decide +kernel) rfl rfl (Nat.le_of_ble_eq_true rfl) dX0_init_11 (fun H locs hP hD hS => ?_)
  have hP : va_P D vwCl [(h0, .inr (0, [.ref p1, .ref p2, .null]))] H := hP
  have hD : va_D A [(h0, .inr (0, [.ref p1, .ref p2, .null]))] := hD
  refine lv_aload_n hx hb dX0_init_14 rfl (lv_at hl 0 rfl) ?_
  refine lv_aload_n hx hb dX0_init_15 rfl (lv_at hl 3 rfl) ?_
  refine va_putF (D := D) (ci := 0) (v := .ref p3) (ty := (.object "AccessJudge$Overriding")) (C := RX0) (T := TX0) (N := 3) hx hb hts (ab_uws (RX0, TX0, 3) (List.mem_of_getElem? (i := 0) rfl)) tyX0 tyX0_ok nmX0 hown hK hP hD hS 0 rfl rfl 2 (by decide) (hts (.fieldLink RX0 19 "AccessJudge$Choice" "overriding" "LAccessJudge$Overriding;") (ab_tb_in (h := 364) (by decide +kernel))) (fun _ h9 => h9) rfl hin rfl (by decide +kernel) rfl rfl (Nat.le_of_ble_eq_true rfl) dX0_init_16 (fun H locs hP hD hS => ?_)
  have hP : va_P D vwCl [(h0, .inr (0, [.ref p1, .ref p2, .ref p3]))] H := hP
  have hD : va_D A [(h0, .inr (0, [.ref p1, .ref p2, .ref p3]))] := hD
  refine W.widen (k := 0) (n := 0) (Nat.le_refl _) (Nat.le_refl _) ?_
  exact W.vret hx hb hr (fun t ht hW => ⟨⟨(fun k =>  0), rfl, trivial, by rw [ht]; exact hP, va_K.moved hW.alike hK, hD⟩, hS.F ht⟩) hS.2.2 dX0_init_19
theorem dX1_init_0 : decode cX1_init 0 = .ok (.aload_n 0, 1) := by decide +kernel
theorem dX1_init_1 : decode cX1_init 1 = .ok (.invokespecial 3, 3) := by decide +kernel
theorem dX1_init_4 : decode cX1_init 4 = .ok (.aload_n 0, 1) := by decide +kernel
theorem dX1_init_5 : decode cX1_init 5 = .ok (.sipush 156, 3) := by decide +kernel
theorem dX1_init_8 : decode cX1_init 8 = .ok (.newarray .int, 2) := by decide +kernel
theorem dX1_init_10 : decode cX1_init 10 = .ok (.putfield 11, 3) := by decide +kernel
theorem dX1_init_13 : decode cX1_init 13 = .ok (.aload_n 0, 1) := by decide +kernel
theorem dX1_init_14 : decode cX1_init 14 = .ok (.sipush 156, 3) := by decide +kernel
theorem dX1_init_17 : decode cX1_init 17 = .ok (.newarray .int, 2) := by decide +kernel
theorem dX1_init_19 : decode cX1_init 19 = .ok (.putfield 15, 3) := by decide +kernel
theorem dX1_init_22 : decode cX1_init 22 = .ok (.aload_n 0, 1) := by decide +kernel
theorem dX1_init_23 : decode cX1_init 23 = .ok (.bipush 10, 2) := by decide +kernel
theorem dX1_init_25 : decode cX1_init 25 = .ok (.newarray .long, 2) := by decide +kernel
theorem dX1_init_27 : decode cX1_init 27 = .ok (.putfield 18, 3) := by decide +kernel
theorem dX1_init_30 : decode cX1_init 30 = .ok (.aload_n 0, 1) := by decide +kernel
theorem dX1_init_31 : decode cX1_init 31 = .ok (.bipush 10, 2) := by decide +kernel
theorem dX1_init_33 : decode cX1_init 33 = .ok (.newarray .long, 2) := by decide +kernel
theorem dX1_init_35 : decode cX1_init 35 = .ok (.putfield 22, 3) := by decide +kernel
theorem dX1_init_38 : decode cX1_init 38 = .ok (.aload_n 0, 1) := by decide +kernel
theorem dX1_init_39 : decode cX1_init 39 = .ok (.aload_n 1, 1) := by decide +kernel
theorem dX1_init_40 : decode cX1_init 40 = .ok (.putfield 25, 3) := by decide +kernel
theorem dX1_init_43 : decode cX1_init 43 = .ok (.aload_n 0, 1) := by decide +kernel
theorem dX1_init_44 : decode cX1_init 44 = .ok (.aload_n 2, 1) := by decide +kernel
theorem dX1_init_45 : decode cX1_init 45 = .ok (.putfield 29, 3) := by decide +kernel
theorem dX1_init_48 : decode cX1_init 48 = .ok (.aload_n 0, 1) := by decide +kernel
theorem dX1_init_49 : decode cX1_init 49 = .ok (.aload_n 3, 1) := by decide +kernel
theorem dX1_init_50 : decode cX1_init 50 = .ok (.putfield 33, 3) := by decide +kernel
theorem dX1_init_53 : decode cX1_init 53 = .ok (.aload_n 0, 1) := by decide +kernel
theorem dX1_init_54 : decode cX1_init 54 = .ok (.aload 4, 2) := by decide +kernel
theorem dX1_init_56 : decode cX1_init 56 = .ok (.putfield 37, 3) := by decide +kernel
theorem dX1_init_59 : decode cX1_init 59 = .ok (.aload_n 0, 1) := by decide +kernel
theorem dX1_init_60 : decode cX1_init 60 = .ok (.aload 5, 2) := by decide +kernel
theorem dX1_init_62 : decode cX1_init 62 = .ok (.putfield 41, 3) := by decide +kernel
theorem dX1_init_65 : decode cX1_init 65 = .ok (.return_, 1) := by decide +kernel
abbrev at_X1 (D : va_G) (cI cJ cZ : ClassId) (A : Nat → Prop) (h0 : Nat) (p1 : Nat) (p2 : Nat) (p3 : Nat) (p4 : Nat) (p5 : Nat) (ad : Nat → Nat) (t : State) : Prop := va_P D vwCl [(h0, .inr (1, [.ref p1, .ref p2, .ref p3, .ref p4, .ref p5, .int 0, .ref (ad 1), .ref (ad 2), .ref (ad 3), .ref (ad 4)])), ((ad 1), .inl (cI, 156, .inl (fun _ => 0))), ((ad 2), .inl (cI, 156, .inl (fun _ => 0))), ((ad 3), .inl (cJ, 10, .inr (.inl (fun _ => 0)))), ((ad 4), .inl (cJ, 10, .inr (.inl (fun _ => 0))))] t.heap ∧ va_K D vwCl (ib_tys cI cJ cZ) t ∧ va_D A [(h0, .inr (1, [.ref p1, .ref p2, .ref p3, .ref p4, .ref p5, .int 0, .ref (ad 1), .ref (ad 2), .ref (ad 3), .ref (ad 4)])), ((ad 1), .inl (cI, 156, .inl (fun _ => 0))), ((ad 2), .inl (cI, 156, .inl (fun _ => 0))), ((ad 3), .inl (cJ, 10, .inr (.inl (fun _ => 0)))), ((ad 4), .inl (cJ, 10, .inr (.inl (fun _ => 0))))]
def mi_X1 : ab_Md := (yX1_init, cX1_init, 6, none, { frames := 1, cells := 4, slots := 332, locals := 12 })
set_option maxHeartbeats 4000000 in
set_option maxRecDepth 100000 in
theorem ci_X1 (l : Launch) (D : va_G) (cI cJ cZ : ClassId) (h0 sz : Nat) (p1 : Nat) (p2 : Nat) (p3 : Nat) (p4 : Nat) (p5 : Nat) : Met l mi_X1.1 (ab_ws mi_X1) mi_X1.2.2.2.2 (va_Pc [.ref h0, .ref p1, .ref p2, .ref p3, .ref p4, .ref p5] (fun U => U.heap.size = sz ∧ va_P D vwCl [(h0, .inr (1, [.null, .null, .null, .null, .null, .int 0, .null, .null, .null, .null]))] U.heap ∧ va_K D vwCl (ib_tys cI cJ cZ) U ∧ va_D (fun _ => True) [(h0, .inr (1, [.null, .null, .null, .null, .null, .int 0, .null, .null, .null, .null]))])) (va_Qv (fun _ : Nat → Nat => True) (at_X1 D cI cJ cZ (va_A [(h0, .inr (1, [.null, .null, .null, .null, .null, .int 0, .null, .null, .null, .null]))] sz) h0 p1 p2 p3 p4 p5) (va_A [(h0, .inr (1, [.null, .null, .null, .null, .null, .int 0, .null, .null, .null, .null]))] sz)) 4 332 (va_A [(h0, .inr (1, [.null, .null, .null, .null, .null, .int 0, .null, .null, .null, .null]))] sz) := by
  refine Met.ofW (cc := cX1_init) (maxL := 6) (ret := none) (by decide) rfl ?_
  intro p e s m args below meth c s₁ B hml hv
  obtain ⟨rfl, hsz, hP, hK, hD0⟩ := hv
  have hx := B.exec
  have hb := B.bytes
  have hr := B.returns
  have hts : ∀ w ∈ ab_T, w.before ([.ref h0, .ref p1, .ref p2, .ref p3, .ref p4, .ref p5] : List Value).toArray s = true := fun w hw => atoms_spec (ws := ab_ws mi_X1) B.pre w (List.mem_cons_of_mem _ hw)
  have hown : s.vm.findClass RX1 = some m.cls := findClass_of_methodNamed B.named
  have hlocks := B.notSynchronized
  have hin : meth.name = "<init>" := (name_of_methodNamed B.named B.method).1
  subst hsz
  have hD := hD0.self (sz := s.heap.size)
  generalize hAe : va_A [(h0, .inr (1, [.null, .null, .null, .null, .null, .int 0, .null, .null, .null, .null]))] s.heap.size = A at hD ⊢
  have hA : ∀ q : Nat, s.heap.size ≤ q → A q := fun q h => by rw [← hAe]; exact Or.inr h
  have hS : va_S A s.heap s.heap [] := va_S.rf
  have hP : va_P D vwCl [(h0, .inr (1, [.null, .null, .null, .null, .null, .int 0, .null, .null, .null, .null]))] s.heap := hP
  have hl := lv_entry ([.ref h0, .ref p1, .ref p2, .ref p3, .ref p4, .ref p5]) (n := 6) (Nat.le_of_ble_eq_true rfl)
  rw [lg_entry_eq]
  generalize (lg_sl ([.ref h0, .ref p1, .ref p2, .ref p3, .ref p4, .ref p5]) ++ List.replicate (6 - (lg_sl ([.ref h0, .ref p1, .ref p2, .ref p3, .ref p4, .ref p5])).length) Slot.unset).toArray = ls at hl ⊢
  have hl : lv_has ls 6 [(0, .ref h0), (1, .ref p1), (2, .ref p2), (3, .ref p3), (4, .ref p4), (5, .ref p5)] := hl
  refine lv_aload_n hx hb dX1_init_0 rfl (lv_at hl 0 rfl) ?_
  refine W.objInit hx hb hown (hts (.methodLink RX1 3 objectInit) (ab_tb_in (h := 377) (by decide +kernel))) (hts (.instanceMethod objectInit) (ab_tb_in (h := 88) (by decide +kernel))) (hts (.code objectInit ⟨#[0xb1]⟩ 1 none) (ab_tb_in (h := 89) (by decide +kernel))) rfl (by rw [hml]; exact hl.1) rfl dX1_init_1 (Nat.le_of_ble_eq_true rfl) (Nat.le_of_ble_eq_true rfl) ?_
  refine W.eq (g2 := F0 m 4 ls []) rfl ?_
  refine lv_aload_n hx hb dX1_init_4 rfl (lv_at hl 0 rfl) ?_
  refine lv_sipush (v := 156) hx hb dX1_init_5 (by decide) ?_
  refine ib_newI (N := 156) hx hb (hts (.arrayClass .int) (ab_tb_in (h := 114) (by decide +kernel))) hK hP hD hS hA (by decide) (by decide) (by decide) (Nat.le_of_ble_eq_true rfl) (Nat.le_of_ble_eq_true rfl) dX1_init_8 (fun q1 H hP hD hS => ?_)
  have hP : va_P D vwCl [(h0, .inr (1, [.null, .null, .null, .null, .null, .int 0, .null, .null, .null, .null])), (q1, .inl (cI, 156, .inl (fun _ => 0)))] H := hP
  have hD : va_D A [(h0, .inr (1, [.null, .null, .null, .null, .null, .int 0, .null, .null, .null, .null])), (q1, .inl (cI, 156, .inl (fun _ => 0)))] := hD
  refine W.widen (k := 1) (n := 156) (by omega) (by omega) ?_
  refine va_putF (D := D) (ci := 1) (v := .ref q1) (ty := (.array .int)) (C := RX1) (T := TX1) (N := 10) hx hb hts (ab_uws (RX1, TX1, 10) (List.mem_of_getElem? (i := 1) rfl)) tyX1 tyX1_ok nmX1 hown hK hP hD hS 0 rfl rfl 6 (by decide) (hts (.fieldLink RX1 11 "AccessJudge$Faults" "codes" "[I") (ab_tb_in (h := 385) (by decide +kernel))) (fun _ h9 => h9) rfl hin rfl (by decide +kernel) rfl rfl (Nat.le_of_ble_eq_true rfl) dX1_init_10 (fun H locs hP hD hS => ?_)
  have hP : va_P D vwCl [(h0, .inr (1, [.null, .null, .null, .null, .null, .int 0, .ref q1, .null, .null, .null])), (q1, .inl (cI, 156, .inl (fun _ => 0)))] H := hP
  have hD : va_D A [(h0, .inr (1, [.null, .null, .null, .null, .null, .int 0, .ref q1, .null, .null, .null])), (q1, .inl (cI, 156, .inl (fun _ => 0)))] := hD
  refine lv_aload_n hx hb dX1_init_13 rfl (lv_at hl 0 rfl) ?_
  refine lv_sipush (v := 156) hx hb dX1_init_14 (by decide) ?_
  refine ib_newI (N := 156) hx hb (hts (.arrayClass .int) (ab_tb_in (h := 114) (by decide +kernel))) hK hP hD hS hA (by decide) (by decide) (by decide) (Nat.le_of_ble_eq_true rfl) (Nat.le_of_ble_eq_true rfl) dX1_init_17 (fun q2 H hP hD hS => ?_)
  have hP : va_P D vwCl [(h0, .inr (1, [.null, .null, .null, .null, .null, .int 0, .ref q1, .null, .null, .null])), (q1, .inl (cI, 156, .inl (fun _ => 0))), (q2, .inl (cI, 156, .inl (fun _ => 0)))] H := hP
  have hD : va_D A [(h0, .inr (1, [.null, .null, .null, .null, .null, .int 0, .ref q1, .null, .null, .null])), (q1, .inl (cI, 156, .inl (fun _ => 0))), (q2, .inl (cI, 156, .inl (fun _ => 0)))] := hD
  refine W.widen (k := 2) (n := 312) (by omega) (by omega) ?_
  refine va_putF (D := D) (ci := 1) (v := .ref q2) (ty := (.array .int)) (C := RX1) (T := TX1) (N := 10) hx hb hts (ab_uws (RX1, TX1, 10) (List.mem_of_getElem? (i := 1) rfl)) tyX1 tyX1_ok nmX1 hown hK hP hD hS 0 rfl rfl 7 (by decide) (hts (.fieldLink RX1 15 "AccessJudge$Faults" "numbers" "[I") (ab_tb_in (h := 387) (by decide +kernel))) (fun _ h9 => h9) rfl hin rfl (by decide +kernel) rfl rfl (Nat.le_of_ble_eq_true rfl) dX1_init_19 (fun H locs hP hD hS => ?_)
  have hP : va_P D vwCl [(h0, .inr (1, [.null, .null, .null, .null, .null, .int 0, .ref q1, .ref q2, .null, .null])), (q1, .inl (cI, 156, .inl (fun _ => 0))), (q2, .inl (cI, 156, .inl (fun _ => 0)))] H := hP
  have hD : va_D A [(h0, .inr (1, [.null, .null, .null, .null, .null, .int 0, .ref q1, .ref q2, .null, .null])), (q1, .inl (cI, 156, .inl (fun _ => 0))), (q2, .inl (cI, 156, .inl (fun _ => 0)))] := hD
  refine lv_aload_n hx hb dX1_init_22 rfl (lv_at hl 0 rfl) ?_
  refine lv_bipush (v := 10) hx hb dX1_init_23 (by decide) ?_
  refine ib_newJ (N := 10) hx hb (hts (.arrayClass .long) (ab_tb_in (h := 210) (by decide +kernel))) hK hP hD hS hA (by decide) (by decide) (by decide) (Nat.le_of_ble_eq_true rfl) (Nat.le_of_ble_eq_true rfl) dX1_init_25 (fun q3 H hP hD hS => ?_)
  have hP : va_P D vwCl [(h0, .inr (1, [.null, .null, .null, .null, .null, .int 0, .ref q1, .ref q2, .null, .null])), (q1, .inl (cI, 156, .inl (fun _ => 0))), (q2, .inl (cI, 156, .inl (fun _ => 0))), (q3, .inl (cJ, 10, .inr (.inl (fun _ => 0))))] H := hP
  have hD : va_D A [(h0, .inr (1, [.null, .null, .null, .null, .null, .int 0, .ref q1, .ref q2, .null, .null])), (q1, .inl (cI, 156, .inl (fun _ => 0))), (q2, .inl (cI, 156, .inl (fun _ => 0))), (q3, .inl (cJ, 10, .inr (.inl (fun _ => 0))))] := hD
  refine W.widen (k := 3) (n := 322) (by omega) (by omega) ?_
  refine va_putF (D := D) (ci := 1) (v := .ref q3) (ty := (.array .long)) (C := RX1) (T := TX1) (N := 10) hx hb hts (ab_uws (RX1, TX1, 10) (List.mem_of_getElem? (i := 1) rfl)) tyX1 tyX1_ok nmX1 hown hK hP hD hS 0 rfl rfl 8 (by decide) (hts (.fieldLink RX1 18 "AccessJudge$Faults" "methodsOf" "[J") (ab_tb_in (h := 389) (by decide +kernel))) (fun _ h9 => h9) rfl hin rfl (by decide +kernel) rfl rfl (Nat.le_of_ble_eq_true rfl) dX1_init_27 (fun H locs hP hD hS => ?_)
  have hP : va_P D vwCl [(h0, .inr (1, [.null, .null, .null, .null, .null, .int 0, .ref q1, .ref q2, .ref q3, .null])), (q1, .inl (cI, 156, .inl (fun _ => 0))), (q2, .inl (cI, 156, .inl (fun _ => 0))), (q3, .inl (cJ, 10, .inr (.inl (fun _ => 0))))] H := hP
  have hD : va_D A [(h0, .inr (1, [.null, .null, .null, .null, .null, .int 0, .ref q1, .ref q2, .ref q3, .null])), (q1, .inl (cI, 156, .inl (fun _ => 0))), (q2, .inl (cI, 156, .inl (fun _ => 0))), (q3, .inl (cJ, 10, .inr (.inl (fun _ => 0))))] := hD
  refine lv_aload_n hx hb dX1_init_30 rfl (lv_at hl 0 rfl) ?_
  refine lv_bipush (v := 10) hx hb dX1_init_31 (by decide) ?_
  refine ib_newJ (N := 10) hx hb (hts (.arrayClass .long) (ab_tb_in (h := 210) (by decide +kernel))) hK hP hD hS hA (by decide) (by decide) (by decide) (Nat.le_of_ble_eq_true rfl) (Nat.le_of_ble_eq_true rfl) dX1_init_33 (fun q4 H hP hD hS => ?_)
  have hP : va_P D vwCl [(h0, .inr (1, [.null, .null, .null, .null, .null, .int 0, .ref q1, .ref q2, .ref q3, .null])), (q1, .inl (cI, 156, .inl (fun _ => 0))), (q2, .inl (cI, 156, .inl (fun _ => 0))), (q3, .inl (cJ, 10, .inr (.inl (fun _ => 0)))), (q4, .inl (cJ, 10, .inr (.inl (fun _ => 0))))] H := hP
  have hD : va_D A [(h0, .inr (1, [.null, .null, .null, .null, .null, .int 0, .ref q1, .ref q2, .ref q3, .null])), (q1, .inl (cI, 156, .inl (fun _ => 0))), (q2, .inl (cI, 156, .inl (fun _ => 0))), (q3, .inl (cJ, 10, .inr (.inl (fun _ => 0)))), (q4, .inl (cJ, 10, .inr (.inl (fun _ => 0))))] := hD
  refine W.widen (k := 4) (n := 332) (by omega) (by omega) ?_
  refine va_putF (D := D) (ci := 1) (v := .ref q4) (ty := (.array .long)) (C := RX1) (T := TX1) (N := 10) hx hb hts (ab_uws (RX1, TX1, 10) (List.mem_of_getElem? (i := 1) rfl)) tyX1 tyX1_ok nmX1 hown hK hP hD hS 0 rfl rfl 9 (by decide) (hts (.fieldLink RX1 22 "AccessJudge$Faults" "met" "[J") (ab_tb_in (h := 390) (by decide +kernel))) (fun _ h9 => h9) rfl hin rfl (by decide +kernel) rfl rfl (Nat.le_of_ble_eq_true rfl) dX1_init_35 (fun H locs hP hD hS => ?_)
  have hP : va_P D vwCl [(h0, .inr (1, [.null, .null, .null, .null, .null, .int 0, .ref q1, .ref q2, .ref q3, .ref q4])), (q1, .inl (cI, 156, .inl (fun _ => 0))), (q2, .inl (cI, 156, .inl (fun _ => 0))), (q3, .inl (cJ, 10, .inr (.inl (fun _ => 0)))), (q4, .inl (cJ, 10, .inr (.inl (fun _ => 0))))] H := hP
  have hD : va_D A [(h0, .inr (1, [.null, .null, .null, .null, .null, .int 0, .ref q1, .ref q2, .ref q3, .ref q4])), (q1, .inl (cI, 156, .inl (fun _ => 0))), (q2, .inl (cI, 156, .inl (fun _ => 0))), (q3, .inl (cJ, 10, .inr (.inl (fun _ => 0)))), (q4, .inl (cJ, 10, .inr (.inl (fun _ => 0))))] := hD
  refine lv_aload_n hx hb dX1_init_38 rfl (lv_at hl 0 rfl) ?_
  refine lv_aload_n hx hb dX1_init_39 rfl (lv_at hl 1 rfl) ?_
  refine va_putF (D := D) (ci := 1) (v := .ref p1) (ty := (.object "AccessJudge$Types")) (C := RX1) (T := TX1) (N := 10) hx hb hts (ab_uws (RX1, TX1, 10) (List.mem_of_getElem? (i := 1) rfl)) tyX1 tyX1_ok nmX1 hown hK hP hD hS 0 rfl rfl 0 (by decide) (hts (.fieldLink RX1 25 "AccessJudge$Faults" "types" "LAccessJudge$Types;") (ab_tb_in (h := 378) (by decide +kernel))) (fun _ h9 => h9) rfl hin rfl (by decide +kernel) rfl rfl (Nat.le_of_ble_eq_true rfl) dX1_init_40 (fun H locs hP hD hS => ?_)
  have hP : va_P D vwCl [(h0, .inr (1, [.ref p1, .null, .null, .null, .null, .int 0, .ref q1, .ref q2, .ref q3, .ref q4])), (q1, .inl (cI, 156, .inl (fun _ => 0))), (q2, .inl (cI, 156, .inl (fun _ => 0))), (q3, .inl (cJ, 10, .inr (.inl (fun _ => 0)))), (q4, .inl (cJ, 10, .inr (.inl (fun _ => 0))))] H := hP
  have hD : va_D A [(h0, .inr (1, [.ref p1, .null, .null, .null, .null, .int 0, .ref q1, .ref q2, .ref q3, .ref q4])), (q1, .inl (cI, 156, .inl (fun _ => 0))), (q2, .inl (cI, 156, .inl (fun _ => 0))), (q3, .inl (cJ, 10, .inr (.inl (fun _ => 0)))), (q4, .inl (cJ, 10, .inr (.inl (fun _ => 0))))] := hD
  refine lv_aload_n hx hb dX1_init_43 rfl (lv_at hl 0 rfl) ?_
  refine lv_aload_n hx hb dX1_init_44 rfl (lv_at hl 2 rfl) ?_
  refine va_putF (D := D) (ci := 1) (v := .ref p2) (ty := (.object "AccessJudge$Members")) (C := RX1) (T := TX1) (N := 10) hx hb hts (ab_uws (RX1, TX1, 10) (List.mem_of_getElem? (i := 1) rfl)) tyX1 tyX1_ok nmX1 hown hK hP hD hS 0 rfl rfl 1 (by decide) (hts (.fieldLink RX1 29 "AccessJudge$Faults" "members" "LAccessJudge$Members;") (ab_tb_in (h := 379) (by decide +kernel))) (fun _ h9 => h9) rfl hin rfl (by decide +kernel) rfl rfl (Nat.le_of_ble_eq_true rfl) dX1_init_45 (fun H locs hP hD hS => ?_)
  have hP : va_P D vwCl [(h0, .inr (1, [.ref p1, .ref p2, .null, .null, .null, .int 0, .ref q1, .ref q2, .ref q3, .ref q4])), (q1, .inl (cI, 156, .inl (fun _ => 0))), (q2, .inl (cI, 156, .inl (fun _ => 0))), (q3, .inl (cJ, 10, .inr (.inl (fun _ => 0)))), (q4, .inl (cJ, 10, .inr (.inl (fun _ => 0))))] H := hP
  have hD : va_D A [(h0, .inr (1, [.ref p1, .ref p2, .null, .null, .null, .int 0, .ref q1, .ref q2, .ref q3, .ref q4])), (q1, .inl (cI, 156, .inl (fun _ => 0))), (q2, .inl (cI, 156, .inl (fun _ => 0))), (q3, .inl (cJ, 10, .inr (.inl (fun _ => 0)))), (q4, .inl (cJ, 10, .inr (.inl (fun _ => 0))))] := hD
  refine lv_aload_n hx hb dX1_init_48 rfl (lv_at hl 0 rfl) ?_
  refine lv_aload_n hx hb dX1_init_49 rfl (lv_at hl 3 rfl) ?_
  refine va_putF (D := D) (ci := 1) (v := .ref p3) (ty := (.object "AccessJudge$Inheritance")) (C := RX1) (T := TX1) (N := 10) hx hb hts (ab_uws (RX1, TX1, 10) (List.mem_of_getElem? (i := 1) rfl)) tyX1 tyX1_ok nmX1 hown hK hP hD hS 0 rfl rfl 2 (by decide) (hts (.fieldLink RX1 33 "AccessJudge$Faults" "inheritance" "LAccessJudge$Inheritance;") (ab_tb_in (h := 380) (by decide +kernel))) (fun _ h9 => h9) rfl hin rfl (by decide +kernel) rfl rfl (Nat.le_of_ble_eq_true rfl) dX1_init_50 (fun H locs hP hD hS => ?_)
  have hP : va_P D vwCl [(h0, .inr (1, [.ref p1, .ref p2, .ref p3, .null, .null, .int 0, .ref q1, .ref q2, .ref q3, .ref q4])), (q1, .inl (cI, 156, .inl (fun _ => 0))), (q2, .inl (cI, 156, .inl (fun _ => 0))), (q3, .inl (cJ, 10, .inr (.inl (fun _ => 0)))), (q4, .inl (cJ, 10, .inr (.inl (fun _ => 0))))] H := hP
  have hD : va_D A [(h0, .inr (1, [.ref p1, .ref p2, .ref p3, .null, .null, .int 0, .ref q1, .ref q2, .ref q3, .ref q4])), (q1, .inl (cI, 156, .inl (fun _ => 0))), (q2, .inl (cI, 156, .inl (fun _ => 0))), (q3, .inl (cJ, 10, .inr (.inl (fun _ => 0)))), (q4, .inl (cJ, 10, .inr (.inl (fun _ => 0))))] := hD
  refine lv_aload_n hx hb dX1_init_53 rfl (lv_at hl 0 rfl) ?_
  refine lv_aload hx hb dX1_init_54 (lv_at hl 4 rfl) ?_
  refine va_putF (D := D) (ci := 1) (v := .ref p4) (ty := (.object "AccessJudge$Overriding")) (C := RX1) (T := TX1) (N := 10) hx hb hts (ab_uws (RX1, TX1, 10) (List.mem_of_getElem? (i := 1) rfl)) tyX1 tyX1_ok nmX1 hown hK hP hD hS 0 rfl rfl 3 (by decide) (hts (.fieldLink RX1 37 "AccessJudge$Faults" "overriding" "LAccessJudge$Overriding;") (ab_tb_in (h := 381) (by decide +kernel))) (fun _ h9 => h9) rfl hin rfl (by decide +kernel) rfl rfl (Nat.le_of_ble_eq_true rfl) dX1_init_56 (fun H locs hP hD hS => ?_)
  have hP : va_P D vwCl [(h0, .inr (1, [.ref p1, .ref p2, .ref p3, .ref p4, .null, .int 0, .ref q1, .ref q2, .ref q3, .ref q4])), (q1, .inl (cI, 156, .inl (fun _ => 0))), (q2, .inl (cI, 156, .inl (fun _ => 0))), (q3, .inl (cJ, 10, .inr (.inl (fun _ => 0)))), (q4, .inl (cJ, 10, .inr (.inl (fun _ => 0))))] H := hP
  have hD : va_D A [(h0, .inr (1, [.ref p1, .ref p2, .ref p3, .ref p4, .null, .int 0, .ref q1, .ref q2, .ref q3, .ref q4])), (q1, .inl (cI, 156, .inl (fun _ => 0))), (q2, .inl (cI, 156, .inl (fun _ => 0))), (q3, .inl (cJ, 10, .inr (.inl (fun _ => 0)))), (q4, .inl (cJ, 10, .inr (.inl (fun _ => 0))))] := hD
  refine lv_aload_n hx hb dX1_init_59 rfl (lv_at hl 0 rfl) ?_
  refine lv_aload hx hb dX1_init_60 (lv_at hl 5 rfl) ?_
  refine va_putF (D := D) (ci := 1) (v := .ref p5) (ty := (.object "AccessJudge$Openness")) (C := RX1) (T := TX1) (N := 10) hx hb hts (ab_uws (RX1, TX1, 10) (List.mem_of_getElem? (i := 1) rfl)) tyX1 tyX1_ok nmX1 hown hK hP hD hS 0 rfl rfl 4 (by decide) (hts (.fieldLink RX1 41 "AccessJudge$Faults" "openness" "LAccessJudge$Openness;") (ab_tb_in (h := 382) (by decide +kernel))) (fun _ h9 => h9) rfl hin rfl (by decide +kernel) rfl rfl (Nat.le_of_ble_eq_true rfl) dX1_init_62 (fun H locs hP hD hS => ?_)
  have hP : va_P D vwCl [(h0, .inr (1, [.ref p1, .ref p2, .ref p3, .ref p4, .ref p5, .int 0, .ref q1, .ref q2, .ref q3, .ref q4])), (q1, .inl (cI, 156, .inl (fun _ => 0))), (q2, .inl (cI, 156, .inl (fun _ => 0))), (q3, .inl (cJ, 10, .inr (.inl (fun _ => 0)))), (q4, .inl (cJ, 10, .inr (.inl (fun _ => 0))))] H := hP
  have hD : va_D A [(h0, .inr (1, [.ref p1, .ref p2, .ref p3, .ref p4, .ref p5, .int 0, .ref q1, .ref q2, .ref q3, .ref q4])), (q1, .inl (cI, 156, .inl (fun _ => 0))), (q2, .inl (cI, 156, .inl (fun _ => 0))), (q3, .inl (cJ, 10, .inr (.inl (fun _ => 0)))), (q4, .inl (cJ, 10, .inr (.inl (fun _ => 0))))] := hD
  refine W.widen (k := 4) (n := 332) (Nat.le_refl _) (Nat.le_refl _) ?_
  exact W.vret hx hb hr (fun t ht hW => ⟨⟨(fun k => if k = 1 then q1 else if k = 2 then q2 else if k = 3 then q3 else if k = 4 then q4 else 0), rfl, trivial, by rw [ht]; exact hP, va_K.moved hW.alike hK, hD⟩, hS.F ht⟩) hS.2.2 dX1_init_65
