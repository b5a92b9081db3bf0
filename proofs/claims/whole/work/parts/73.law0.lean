/-! the law: a call, the switch, the end of the script -/
theorem lw_y (y : Int32) : y = nI y.toBitVec.toNat := by
  apply Int32.toBitVec_inj.1
  show y.toBitVec = BitVec.ofNat 32 y.toBitVec.toNat
  simp
theorem lw_31 (y : Int32) : ∃ n, n < 32 ∧ y &&& 31 = nI n := by
  refine ⟨y.toBitVec.toNat &&& 31, ?_, ?_⟩
  · have : y.toBitVec.toNat &&& 31 ≤ 31 := Nat.and_le_right
    omega
  · conv => lhs; rw [lw_y y]
    exact ab_nand _ 31
theorem lw_gt {L i : Nat} (hL : L ≤ 3072) (hi : i < 2 ^ 30) : (nI L - 6 < nI i) ↔ L < i + 6 := by
  by_cases h : 6 ≤ L
  · have e : nI L - 6 = nI (L - 6) := by
      have := nI_ms (L - 6) 6
      rw [show L - 6 + 6 = L by omega] at this
      exact this
    rw [e, ix_lt (by omega) (by omega)]
    omega
  · have hn : nI L - 6 < 0 := by
      match L, h with
      | 0, _ => decide
      | 1, _ => decide
      | 2, _ => decide
      | 3, _ => decide
      | 4, _ => decide
      | 5, _ => decide
      | n + 6, h => exact absurd (by omega) h
    constructor
    · intro _; omega
    · intro _
      have h0 : (0 : Int32) ≤ nI i := nI_pos' (by omega)
      rw [Int32.lt_iff_toInt_lt] at hn ⊢
      rw [Int32.le_iff_toInt_le] at h0
      omega
section LW
variable {p : Program} {l : Launch} {e : Env} {R : Room} {s : State} {m : MethodId} {args : Array Value} {below : List Frame} {meth : Method} {c : Code}
set_option maxHeartbeats 1000000 in
theorem lw_inv {ω : ab_W} {A : Nat → Prop} {own : String} {cc : ByteArray} {nL cells slots pc : Nat} {H : Heap} {locs : List Loc} {ls : Array Slot} {Qt : State → Prop} {μ : ab_M} {md : ab_Md} {As rest st : List Value} {a ci k index : Nat} {sl : List ab_Sl} {rr : u_T × Nat} {Q : Int32 → ab_M → Prop}
    (hx : p.tables.exec = Jvm.exec) (hb : c.code = cc) (hml : c.maxLocals = nL) (hown : s.vm.findClass own = some m.cls) (hts : ∀ w ∈ ab_T, w.before args s = true) (hK : va_K ω.2.2.1 vwCl (ab_tys ω) s) (hA : ∀ q, s.heap.size ≤ q → A q)
    (hP : va_P ω.2.2.1 vwCl (ab_wl ω μ) H) (hD : va_D A (ab_wl ω μ)) (hS : va_S A s.heap H locs) (hls : ls.size = nL) (hc1 : cells ≤ R.cells) (hc2 : slots ≤ R.slots)
    (hM : ab_CI l ω md (.ref a :: As) μ Q) (hret : md.2.2.2.1 = some .int)
    (cw : CallW R s args own md.1.cls index md.1 md.2.1 md.2.2.1 md.2.2.2.1 (ab_ws md) md.2.2.2.2 0 0 k)
    (hAs : As.map (ab_cv ω.1) = As) (hlen : As.length = k) (hs2 : ω.2.2.2[a]? = some (.inr (ci, sl))) (hcl : vwCl[ci]? = some (md.1.cls, rr))
    (hsm : (rest.map fun v => v.category).sum ≤ 8) (hst : st = As.reverse ++ .ref (ω.1 a) :: rest) (hd : decode cc pc = .ok (.invokevirtual index, 3))
    (kk : ∀ (r : Int32) (μ' : ab_M) (H1 : Heap) (locs1 : List Loc), Q r μ' → va_P ω.2.2.1 vwCl (ab_wl ω μ') H1 → va_D A (ab_wl ω μ') → va_S A s.heap H1 locs1 → W p l e R s m args below meth c H1 locs1 cells slots Qt (F0 m (pc + 3) ls (.int r :: rest))) :
    W p l e R s m args below meth c H locs cells slots Qt (F0 m pc ls st) := by
  subst hst
  have he := ab_wl_at (ω := ω) (μ := μ) (k := a) hs2
  have hFc : ∀ q, va_A (ab_wl ω μ) H.size q → A q := va_free (wc := ab_wl ω μ) hD hS hA (List.range (ab_wl ω μ).length) (ab_range _)
  have hbl : FrameBlind (ab_Pr ω (.ref a :: As) μ H.size) := fun a U g mk q => by obtain ⟨q0, q1, qP, qK, qD⟩ := q; exact ⟨q0, q1, qP, va_K.moved (u := U) (U := U.calling g mk a) (Vm.Alike.refl U.vm) qK, qD⟩
  have hpre : ∀ U : State, U.heap = H → s.WarmedH U.vm → ab_Pr ω (.ref a :: As) μ H.size (Value.ref (ω.1 a) :: As).toArray U := fun U hU hW => ⟨by simp only [List.map_cons, hAs, ab_cv], by rw [hU], by rw [hU]; exact hP, va_K.moved hW.alike hK, hD.weaken (fun _ _ _ _ => trivial)⟩
  have hM := hM H.size
  unfold ab_Qc at hM
  rw [hret] at hM
  dsimp only at hM
  refine va_calli (va_runV (As := As) (rest := rest) (C := md.1.cls) ⟨hx, hb, hml, hown, hts⟩ hM cw ⟨hbl, va_recv hK hP (ci := ci) hcl he, hpre⟩ rfl hlen hls rfl (lv_room hsm) hd ⟨hc1, hc2⟩) hS (fun q _ hq => hFc q hq) hFc (fun r u t H1 locs1 ht hvm hw hB hz1 hk1 hS1 => ?_)
  obtain ⟨hP1, hK1, hD1⟩ := hB
  rw [ht] at hP1
  exact kk r u H1 locs1 hw hP1 (hD1.weaken (fun k q _ hq => hFc q.1 hq)) hS1
end LW
