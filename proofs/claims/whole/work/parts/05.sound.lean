theorem ab_range {α : Type} (w : List α) : (List.range w.length).map (fun i => w[i]?) = w.map some := by
  apply List.ext_getElem?
  intro k
  by_cases hk : k < w.length
  · simp [hk]
  · simp [hk]
theorem ab_u1 {μ : ab_M} {a j : Nat} {x : Int32} : (ab_mi μ a j x).1 a = upd (μ.1 a) j x := by funext b; simp [ab_mi, upd]
theorem ab_u2 {μ : ab_M} {a j : Nat} {x : Int64} : (ab_mj μ a j x).2 a = vp_updL (μ.2 a) j x := by funext b; simp [ab_mj, vp_updL]
theorem ab_e0 {ω : ab_W} {μ : ab_M} {a j n : Nat} {x : Int32} : ab_ct ω (ab_mi μ a j x) a (.inl (0, n)) = .inl (ω.2.1.1, n, .inl (upd (μ.1 a) j x)) := by
  simp [ab_ct, ab_u1]
theorem ab_e1 {ω : ab_W} {μ : ab_M} {a j n : Nat} {x : Int64} : ab_ct ω (ab_mj μ a j x) a (.inl (1, n)) = .inl (ω.2.1.2.1, n, .inr (.inl (vp_updL (μ.2 a) j x))) := by
  simp [ab_ct, ab_u2]
theorem ab_e2 {ω : ab_W} {μ : ab_M} {a j n : Nat} {x : Int32} : ab_ct ω (ab_mi μ a j x) a (.inl (2, n)) = .inl (ω.2.1.2.2, n, .inl (upd (μ.1 a) j x)) := by
  simp [ab_ct, ab_u1]
theorem ab_mr_upd {ω : ab_W} {μ : ab_M} {a n : Nat} {f : Nat → Int32} : ab_ct ω (ab_mr μ a f) a (.inl (0, n)) = .inl (ω.2.1.1, n, .inl f) := by
  have : (ab_mr μ a f).1 a = f := by funext b; simp [ab_mr]
  simp [ab_ct, this]
theorem ab_put_ab_mi {ω : ab_W} {μ : ab_M} {a j ci t : Nat} {sl : List ab_Sl} {x : Int32} (h : sl[j]? = some (.inr t)) (ht : t ≠ 1 := by decide) : ab_ct ω (ab_mi μ a j x) a (.inr (ci, sl)) = .inr (ci, (sl.mapIdx (fun j z => ab_sv ω μ a j z)).set j (.int x)) := by
  have e : sl.mapIdx (fun j z => ab_sv ω (ab_mi μ a j x) a j z) = sl.mapIdx (fun j z => ab_sv ω (ab_mi μ a j x) a j z) := rfl
  simp only [ab_ct, Sum.inr.injEq, Prod.mk.injEq, true_and]
  apply List.ext_getElem?
  intro k
  rw [List.getElem?_set, List.getElem?_mapIdx, List.length_mapIdx, List.getElem?_mapIdx]
  by_cases hk : j = k
  · subst hk
    have hl := (List.getElem?_eq_some_iff.mp h).1
    rw [if_pos rfl, if_pos hl, h]
    simp only [Option.map_some, Option.some.injEq]
    unfold ab_sv
    split
    · rename_i q; cases q
    · rename_i q; cases q; exact absurd rfl ht
    · simp [ab_mi]
  · rw [if_neg hk]
    cases hs : sl[k]? with
    | none => rfl
    | some z =>
      simp only [Option.map_some, Option.some.injEq]
      unfold ab_sv
      have hk' : ¬ k = j := fun q => hk q.symm
      split <;> simp [ab_mi, hk']
theorem ab_put_ab_mj {ω : ab_W} {μ : ab_M} {a j ci : Nat} {sl : List ab_Sl} {x : Int64} (h : sl[j]? = some (.inr 1)) : ab_ct ω (ab_mj μ a j x) a (.inr (ci, sl)) = .inr (ci, (sl.mapIdx (fun j z => ab_sv ω μ a j z)).set j (.long x)) := by
  simp only [ab_ct, Sum.inr.injEq, Prod.mk.injEq, true_and]
  apply List.ext_getElem?
  intro k
  rw [List.getElem?_set, List.getElem?_mapIdx, List.length_mapIdx, List.getElem?_mapIdx]
  by_cases hk : j = k
  · subst hk
    have hl := (List.getElem?_eq_some_iff.mp h).1
    rw [if_pos rfl, if_pos hl, h]
    simp [ab_sv, ab_mj]
  · rw [if_neg hk]
    cases hs : sl[k]? with
    | none => rfl
    | some z =>
      simp only [Option.map_some, Option.some.injEq]
      unfold ab_sv
      have hk' : ¬ k = j := fun q => hk q.symm
      split <;> simp [ab_mj, hk']
theorem ab_tys_ok : ∀ (k : Nat) (r : vw_C), vwCl[k]? = some r → ∃ ty0 : Nat → FieldType, (∀ k, k < r.2.2 → parseFieldDescriptor (r.2.1 k).2.2.1 = some (ty0 k)) ∧ (∀ a, a < r.2.2 → ∀ b, b < r.2.2 → a ≠ b → (r.2.1 a).2.1 ≠ (r.2.1 b).2.1)
  | 0, r, h => by cases h; exact ⟨tyX0, tyX0_ok, nmX0⟩
  | 1, r, h => by cases h; exact ⟨tyX1, tyX1_ok, nmX1⟩
  | 2, r, h => by cases h; exact ⟨tyX2, tyX2_ok, nmX2⟩
  | 3, r, h => by cases h; exact ⟨tyX3, tyX3_ok, nmX3⟩
  | 4, r, h => by cases h; exact ⟨tyX4, tyX4_ok, nmX4⟩
  | 5, r, h => by cases h; exact ⟨tyX5, tyX5_ok, nmX5⟩
  | 6, r, h => by cases h; exact ⟨tyX6, tyX6_ok, nmX6⟩
  | 7, r, h => by cases h; exact ⟨tyX8, tyX8_ok, nmX8⟩
  | 8, r, h => by cases h; exact ⟨tyX9, tyX9_ok, nmX9⟩
  | 9, r, h => by cases h; exact ⟨tyX10, tyX10_ok, nmX10⟩
  | 10, r, h => by cases h; exact ⟨tyX11, tyX11_ok, nmX11⟩
  | k + 11, r, h => by simp [vwCl] at h
theorem ab_goodM {md : ab_Md} (h : Cond.code md.1 md.2.1 md.2.2.1 md.2.2.2.1 ∈ ab_T) : GoodIn ab_T (ab_ws md) := by
  intro w hw
  rcases List.mem_cons.mp hw with rfl | hw
  · exact ab_goodT _ h
  · exact ab_goodT _ hw
theorem ab_cb {R : Room} {s : State} {args : Array Value} {own : String} {index g0 g1 g2 k : Nat} {md : ab_Md} (hts : ∀ w ∈ ab_T, w.before args s = true) (h : ab_cks own index R [g0, g1, g2, 0] md k = true) :
    CallB R s args own index md.1 md.2.1 md.2.2.1 md.2.2.2.1 (ab_ws md) md.2.2.2.2 0 0 k := by
  simp only [ab_cks, Bool.and_eq_true] at h
  obtain ⟨⟨⟨⟨⟨⟨⟨⟨⟨⟨a1, a2⟩, a3⟩, a4⟩, a5⟩, a6⟩, a7⟩, a8⟩, a9⟩, a10⟩, -⟩ := h
  exact callB_of (Ts := ab_T) k hts (ab_goodM (ab_tb_in a3)) rfl (of_decide_eq_true a9) (of_decide_eq_true a10) (hts _ (ab_tb_in a2)) (hts _ (ab_tb_in a1)) ⟨of_decide_eq_true a4, of_decide_eq_true a5, of_decide_eq_true a6⟩ ⟨of_decide_eq_true a7, of_decide_eq_true a8⟩
theorem ab_cw {R : Room} {s : State} {args : Array Value} {own : String} {index g0 g1 g2 g4 g5 k : Nat} {md : ab_Md} (hts : ∀ w ∈ ab_T, w.before args s = true) (h : ab_cks own index R [g0, g1, g2, 0] md k = true) (h4 : ab_tb g4 (.instanceMethod md.1) = true) (h5 : ab_tb g5 (.selects md.1.cls md.1 md.1) = true) :
    CallW R s args own md.1.cls index md.1 md.2.1 md.2.2.1 md.2.2.2.1 (ab_ws md) md.2.2.2.2 0 0 k := ⟨ab_cb hts h, hts _ (ab_tb_in h4), hts _ (ab_tb_in h5)⟩
theorem ab_cwS {R : Room} {s : State} {args : Array Value} {own : String} {index g0 g1 g2 g4 k : Nat} {md : ab_Md} (hts : ∀ w ∈ ab_T, w.before args s = true) (h : ab_cks own index R [g0, g1, g2, 0] md k = true) (h4 : ab_tb g4 (.static md.1) = true) :
    CallB R s args own index md.1 md.2.1 md.2.2.1 md.2.2.2.1 (ab_ws md) md.2.2.2.2 0 0 k ∧ (Cond.static md.1).before args s = true := ⟨ab_cb hts h, hts _ (ab_tb_in h4)⟩
section AbT
variable {p : Program} {l : Launch} {e : Env} {R : Room} {s : State} {m : MethodId} {args : Array Value} {below : List Frame} {meth : Method} {c : Code}
set_option maxHeartbeats 4000000 in
set_option maxRecDepth 100000 in
theorem ab_sound {ω : ab_W} {A : Nat → Prop} {own : String} {cc : ByteArray} {nL : Nat} {ret : Option FieldType} {cd : List ab_En} {sh : List ab_Sh} {QI : Int32 → ab_M → Prop} {QL : Int64 → ab_M → Prop} {QV : ab_M → Prop}
    (hx : p.tables.exec = Jvm.exec) (hb : c.code = cc) (hml : c.maxLocals = nL) (hr : meth.sig.returnType = ret) (hown : s.vm.findClass own = some m.cls) (hts : ∀ w ∈ ab_T, w.before args s = true) (hK : va_K ω.2.2.1 vwCl (ab_tys ω) s) (hA : ∀ q, s.heap.size ≤ q → A q) (hlocks : meth.locks = false) (hsh : ω.2.2.2 = sh)
    {i : Nat} {ll : ab_L} {st : List Value} {μ : ab_M} (hck : ∀ pc len ins ts fx k32 k64 cx, ab_nth cd i = some (pc, len, ins, ts, fx, k32, k64, cx) → ab_ck own cc nL R cd i pc len ts fx k32 k64 cx ins = true)
    (h : ab_wp l ω sh ret cd QI QL QV (ab_J p l e R s m args below meth c ω A nL cd (MQ below (ab_Qc ω A ret QI QL QV) args s 0 0 A)) i ll st μ) : ab_J p l e R s m args below meth c ω A nL cd (MQ below (ab_Qc ω A ret QI QL QV) args s 0 0 A) i ll st μ := by
  intro hll H locs ls hP hD hS hl
  unfold ab_wp at h
  split at h
  · exact h.elim
  rename_i u0 pc len ins ts fa fb fh k32 k64 cx hn
  obtain ⟨fx, hfx⟩ : ∃ fx : Nat × Nat × Nat, fx = (fa, fb, fh) := ⟨_, rfl⟩
  have hfa : fa = fx.1 := by rw [hfx]
  have hfb : fb = fx.2.1 := by rw [hfx]
  rw [← hfx] at hn
  clear hfx
  subst hfa hfb
  have hc := hck pc len ins ts fx k32 k64 cx hn
  have hbp : ab_bp cd i = pc := by simp [ab_bp, hn]
  rw [hbp]
  unfold ab_ck at hc
  rw [Bool.and_eq_true] at hc
  obtain ⟨hd, hc⟩ := hc
  replace hd := of_decide_eq_true hd
  clear hn hck
  have go : ∀ (n : Nat) (ll' : ab_L) (st' : List Value) (μ' : ab_M) (H' : Heap) (locs' : List Loc) (ls' : Array Slot), ab_bp cd (i + 1) = pc + n → ab_J p l e R s m args below meth c ω A nL cd (MQ below (ab_Qc ω A ret QI QL QV) args s 0 0 A) (i + 1) ll' st' μ' → ll'.length = nL → va_P ω.2.2.1 vwCl (ab_wl ω μ') H' → va_D A (ab_wl ω μ') → va_S A s.heap H' locs' → lv_has ls' nL (ab_lv ω.1 0 ll') → W p l e R s m args below meth c H' locs' 0 0 (MQ below (ab_Qc ω A ret QI QL QV) args s 0 0 A) (F0 m (pc + n) ls' (st'.map (ab_cv ω.1))) := by
    intro n ll' st' μ' H' locs' ls' e1 hj h1 h2 h3 h4 h5
    rw [← e1]
    exact hj h1 H' locs' ls' h2 h3 h4 h5
  have gt : ∀ (t : Nat) (st' : List Value), ab_J p l e R s m args below meth c ω A nL cd (MQ below (ab_Qc ω A ret QI QL QV) args s 0 0 A) t ll st' μ → W p l e R s m args below meth c H locs 0 0 (MQ below (ab_Qc ω A ret QI QL QV) args s 0 0 A) (F0 m (ab_bp cd t) ls (st'.map (ab_cv ω.1))) := fun t st' hj => hj hll H locs ls hP hD hS hl
  unfold ab_in at h
  split at h
  · simp only [Bool.and_eq_true, decide_eq_true_eq] at hc
    obtain ⟨⟨rfl, h2⟩, h3⟩ := hc
    exact lv_iconst hx hb hd h3 (go 1 _ _ _ _ _ _ h2 h hll hP hD hS hl)
  · simp only [Bool.and_eq_true, decide_eq_true_eq] at hc
    obtain ⟨⟨rfl, h2⟩, h3⟩ := hc
    exact lv_bipush hx hb hd h3 (go 2 _ _ _ _ _ _ h2 h hll hP hD hS hl)
  · simp only [Bool.and_eq_true, decide_eq_true_eq] at hc
    obtain ⟨⟨rfl, h2⟩, h3⟩ := hc
    exact lv_sipush hx hb hd h3 (go 3 _ _ _ _ _ _ h2 h hll hP hD hS hl)
  · simp only [Bool.and_eq_true, decide_eq_true_eq] at hc
    obtain ⟨⟨rfl, h2⟩, h3⟩ := hc
    exact lv_lconst hx hb hd h3 (go 1 _ _ _ _ _ _ h2 h hll hP hD hS hl)
  · simp only [Bool.and_eq_true, decide_eq_true_eq] at hc
    obtain ⟨⟨rfl, h2⟩, h3⟩ := hc
    exact lv_ldc2 hx hb hown (hts _ (ab_tb_in h3)) hd (go 3 _ _ _ _ _ _ h2 h hll hP hD hS hl)
  · simp only [Bool.and_eq_true, decide_eq_true_eq] at hc
    obtain ⟨rfl, h2⟩ := hc
    unfold ab_gi at h
    split at h
    · rename_i hq
      exact lv_iload_n hx hb hd rfl (ab_lv_at hl hq) (go 1 _ _ _ _ _ _ h2 h hll hP hD hS hl)
    · exact h.elim
  · simp only [Bool.and_eq_true, decide_eq_true_eq] at hc
    obtain ⟨rfl, h2⟩ := hc
    unfold ab_gi at h
    split at h
    · rename_i hq
      exact lv_iload hx hb hd (ab_lv_at hl hq) (go 2 _ _ _ _ _ _ h2 h hll hP hD hS hl)
    · exact h.elim
  · simp only [Bool.and_eq_true, decide_eq_true_eq] at hc
    obtain ⟨rfl, h2⟩ := hc
    unfold ab_gl at h
    split at h
    · rename_i hq
      exact lv_lload_n hx hb hd rfl (ab_lv_at hl hq) (go 1 _ _ _ _ _ _ h2 h hll hP hD hS hl)
    · exact h.elim
  · simp only [Bool.and_eq_true, decide_eq_true_eq] at hc
    obtain ⟨rfl, h2⟩ := hc
    unfold ab_gl at h
    split at h
    · rename_i hq
      exact lv_lload hx hb hd (ab_lv_at hl hq) (go 2 _ _ _ _ _ _ h2 h hll hP hD hS hl)
    · exact h.elim
  · simp only [Bool.and_eq_true, decide_eq_true_eq] at hc
    obtain ⟨rfl, h2⟩ := hc
    unfold ab_ga at h
    split at h
    · rename_i hq
      exact lv_aload_n hx hb hd rfl (ab_lv_at hl hq) (go 1 _ _ _ _ _ _ h2 h hll hP hD hS hl)
    · exact h.elim
  · simp only [Bool.and_eq_true, decide_eq_true_eq] at hc
    obtain ⟨rfl, h2⟩ := hc
    unfold ab_ga at h
    split at h
    · rename_i hq
      exact lv_aload hx hb hd (ab_lv_at hl hq) (go 2 _ _ _ _ _ _ h2 h hll hP hD hS hl)
    · exact h.elim
  · simp only [Bool.and_eq_true, decide_eq_true_eq] at hc
    obtain ⟨⟨rfl, h2⟩, h3⟩ := hc
    unfold ab_is at h
    split at h
    · rename_i x st'
      split at h
      · rename_i hp
        exact lv_istore_n hx hb hd rfl hl h3 rfl (fun ls' hl' => go 1 _ _ _ _ _ _ h2 h (by simp [hll]) hP hD hS (ab_lv_set (v := .int x) hp hl'))
      · exact h.elim
    · exact h.elim
  · simp only [Bool.and_eq_true, decide_eq_true_eq] at hc
    obtain ⟨⟨rfl, h2⟩, h3⟩ := hc
    unfold ab_is at h
    split at h
    · rename_i x st'
      split at h
      · rename_i hp
        exact lv_istore hx hb hd hl h3 rfl (fun ls' hl' => go 2 _ _ _ _ _ _ h2 h (by simp [hll]) hP hD hS (ab_lv_set (v := .int x) hp hl'))
      · exact h.elim
    · exact h.elim
  · simp only [Bool.and_eq_true, decide_eq_true_eq] at hc
    obtain ⟨⟨rfl, h2⟩, h3⟩ := hc
    unfold ab_lt at h
    split at h
    · rename_i x st'
      split at h
      · rename_i hp
        exact lv_lstore_n hx hb hd rfl hl h3 rfl (fun ls' hl' => go 1 _ _ _ _ _ _ h2 h (by simp [hll]) hP hD hS (ab_lv_setL (v := .long x) hp hl'))
      · exact h.elim
    · exact h.elim
  · simp only [Bool.and_eq_true, decide_eq_true_eq] at hc
    obtain ⟨⟨rfl, h2⟩, h3⟩ := hc
    unfold ab_lt at h
    split at h
    · rename_i x st'
      split at h
      · rename_i hp
        exact lv_lstore hx hb hd hl h3 rfl (fun ls' hl' => go 2 _ _ _ _ _ _ h2 h (by simp [hll]) hP hD hS (ab_lv_setL (v := .long x) hp hl'))
      · exact h.elim
    · exact h.elim
  · simp only [Bool.and_eq_true, decide_eq_true_eq] at hc
    obtain ⟨⟨⟨rfl, h2⟩, h3⟩, h4⟩ := hc
    unfold ab_gi at h
    split at h
    · rename_i x hq
      split at h
      · rename_i hp
        obtain ⟨k, hk⟩ := List.getElem?_of_mem (ab_lv_0 (ad := ω.1) (ll := ll) (j := _) (w := .int x) |>.mpr ⟨.int x, by rw [← ab_nth_eq]; exact hq, rfl⟩)
        exact lv_iinc hx hb hd hl hk (by rw [h4]) h3 rfl (fun ls' hl' => go 3 _ _ _ _ _ _ h2 h (by simp [hll]) hP hD hS (ab_lv_set (v := .int (x + k32)) hp hl'))
      · exact h.elim
    · exact h.elim
  · simp only [Bool.and_eq_true, decide_eq_true_eq] at hc
    obtain ⟨rfl, h2⟩ := hc
    unfold ab_i2 at h
    split at h
    · exact lv_iadd hx hb hd (go 1 _ _ _ _ _ _ h2 h hll hP hD hS hl)
    · exact h.elim
  · simp only [Bool.and_eq_true, decide_eq_true_eq] at hc
    obtain ⟨rfl, h2⟩ := hc
    unfold ab_i2 at h
    split at h
    · exact lv_isub hx hb hd (go 1 _ _ _ _ _ _ h2 h hll hP hD hS hl)
    · exact h.elim
  · simp only [Bool.and_eq_true, decide_eq_true_eq] at hc
    obtain ⟨rfl, h2⟩ := hc
    unfold ab_i2 at h
    split at h
    · exact lv_imul hx hb hd (go 1 _ _ _ _ _ _ h2 h hll hP hD hS hl)
    · exact h.elim
  · simp only [Bool.and_eq_true, decide_eq_true_eq] at hc
    obtain ⟨rfl, h2⟩ := hc
    unfold ab_i2 at h
    split at h
    · exact lv_iand hx hb hd (go 1 _ _ _ _ _ _ h2 h hll hP hD hS hl)
    · exact h.elim
  · simp only [Bool.and_eq_true, decide_eq_true_eq] at hc
    obtain ⟨rfl, h2⟩ := hc
    unfold ab_i2 at h
    split at h
    · exact lv_ior hx hb hd (go 1 _ _ _ _ _ _ h2 h hll hP hD hS hl)
    · exact h.elim
  · simp only [Bool.and_eq_true, decide_eq_true_eq] at hc
    obtain ⟨rfl, h2⟩ := hc
    unfold ab_i2 at h
    split at h
    · exact lv_ishl hx hb hd (go 1 _ _ _ _ _ _ h2 h hll hP hD hS hl)
    · exact h.elim
  · simp only [Bool.and_eq_true, decide_eq_true_eq] at hc
    obtain ⟨rfl, h2⟩ := hc
    unfold ab_i2 at h
    split at h
    · exact lv_ishr hx hb hd (go 1 _ _ _ _ _ _ h2 h hll hP hD hS hl)
    · exact h.elim
  · simp only [Bool.and_eq_true, decide_eq_true_eq] at hc
    obtain ⟨rfl, h2⟩ := hc
    unfold ab_l2 at h
    split at h
    · exact lv_ladd hx hb hd (go 1 _ _ _ _ _ _ h2 h hll hP hD hS hl)
    · exact h.elim
  · simp only [Bool.and_eq_true, decide_eq_true_eq] at hc
    obtain ⟨rfl, h2⟩ := hc
    unfold ab_l2 at h
    split at h
    · exact lv_lsub hx hb hd (go 1 _ _ _ _ _ _ h2 h hll hP hD hS hl)
    · exact h.elim
  · simp only [Bool.and_eq_true, decide_eq_true_eq] at hc
    obtain ⟨rfl, h2⟩ := hc
    unfold ab_l2 at h
    split at h
    · exact lv_land hx hb hd (go 1 _ _ _ _ _ _ h2 h hll hP hD hS hl)
    · exact h.elim
  · simp only [Bool.and_eq_true, decide_eq_true_eq] at hc
    obtain ⟨rfl, h2⟩ := hc
    unfold ab_l2 at h
    split at h
    · exact lv_lor hx hb hd (go 1 _ _ _ _ _ _ h2 h hll hP hD hS hl)
    · exact h.elim
  · simp only [Bool.and_eq_true, decide_eq_true_eq] at hc
    obtain ⟨rfl, h2⟩ := hc
    unfold ab_l2 at h
    split at h
    · exact lv_lxor hx hb hd (go 1 _ _ _ _ _ _ h2 h hll hP hD hS hl)
    · exact h.elim
  · simp only [Bool.and_eq_true, decide_eq_true_eq] at hc
    obtain ⟨rfl, h2⟩ := hc
    unfold ab_l2 at h
    split at h
    · exact W.lcmp hx hb hd (go 1 _ _ _ _ _ _ h2 h hll hP hD hS hl)
    · exact h.elim
  · simp only [Bool.and_eq_true, decide_eq_true_eq] at hc
    obtain ⟨rfl, h2⟩ := hc
    split at h
    · exact lv_lneg hx hb hd (go 1 _ _ _ _ _ _ h2 h hll hP hD hS hl)
    · exact h.elim
  · simp only [Bool.and_eq_true, decide_eq_true_eq] at hc
    obtain ⟨rfl, h2⟩ := hc
    split at h
    · exact lv_lushr hx hb hd rfl (go 1 _ _ _ _ _ _ h2 h hll hP hD hS hl)
    · exact h.elim
  · simp only [Bool.and_eq_true, decide_eq_true_eq] at hc
    obtain ⟨rfl, h2⟩ := hc
    split at h
    · exact lv_lshl hx hb hd rfl (go 1 _ _ _ _ _ _ h2 h hll hP hD hS hl)
    · exact h.elim
  · simp only [Bool.and_eq_true, decide_eq_true_eq] at hc
    obtain ⟨rfl, h2⟩ := hc
    split at h
    · exact lv_l2i hx hb hd rfl (go 1 _ _ _ _ _ _ h2 h hll hP hD hS hl)
    · exact h.elim
  · simp only [Bool.and_eq_true, decide_eq_true_eq] at hc
    obtain ⟨rfl, h2⟩ := hc
    split at h
    · exact lv_dup hx hb hd rfl (go 1 _ _ _ _ _ _ h2 h hll hP hD hS hl)
    · exact lv_dup hx hb hd rfl (go 1 _ _ _ _ _ _ h2 h hll hP hD hS hl)
    · exact h.elim
  · simp only [Bool.and_eq_true, decide_eq_true_eq] at hc
    obtain ⟨rfl, h2⟩ := hc
    split at h
    · exact lv_dup_x1 hx hb hd rfl rfl (go 1 _ _ _ _ _ _ h2 h hll hP hD hS hl)
    · exact h.elim
  · simp only [Bool.and_eq_true, decide_eq_true_eq] at hc
    obtain ⟨rfl, h2⟩ := hc
    split at h
    · exact lv_dup2_11 hx hb hd rfl rfl (go 1 _ _ _ _ _ _ h2 h hll hP hD hS hl)
    · exact h.elim
  · rename_i cond off
    split at h
    · rename_i t tr
      simp only [Bool.and_eq_true, decide_eq_true_eq] at hc
      obtain ⟨⟨rfl, h2⟩, h4⟩ := hc
      unfold ab_i2 at h
      split at h
      · unfold ab_ci at h
        cases cond with
        | eq => exact lv_icmp_eq hx hb hd h4 (fun q => gt _ _ (h.1 q)) (fun q => go 3 _ _ _ _ _ _ h2 (h.2 q) hll hP hD hS hl)
        | ne => exact lv_icmp_ne hx hb hd h4 (fun q => gt _ _ (h.1 q)) (fun q => go 3 _ _ _ _ _ _ h2 (h.2 q) hll hP hD hS hl)
        | lt => exact lv_icmp_lt hx hb hd h4 (fun q => gt _ _ (h.1 q)) (fun q => go 3 _ _ _ _ _ _ h2 (h.2 q) hll hP hD hS hl)
        | ge => exact lv_icmp_ge hx hb hd h4 (fun q => gt _ _ (h.1 q)) (fun q => go 3 _ _ _ _ _ _ h2 (h.2 q) hll hP hD hS hl)
        | gt => exact lv_icmp_gt hx hb hd h4 (fun q => gt _ _ (h.1 q)) (fun q => go 3 _ _ _ _ _ _ h2 (h.2 q) hll hP hD hS hl)
        | le => exact lv_icmp_le hx hb hd h4 (fun q => gt _ _ (h.1 q)) (fun q => go 3 _ _ _ _ _ _ h2 (h.2 q) hll hP hD hS hl)
      · exact h.elim
    · exact h.elim
  · rename_i cond off
    split at h
    · rename_i t tr
      simp only [Bool.and_eq_true, decide_eq_true_eq] at hc
      obtain ⟨⟨rfl, h2⟩, h4⟩ := hc
      split at h
      · unfold ab_ci at h
        cases cond with
        | eq => exact lv_if_eq hx hb hd h4 (fun q => gt _ _ (h.1 q)) (fun q => go 3 _ _ _ _ _ _ h2 (h.2 q) hll hP hD hS hl)
        | ne => exact lv_if_ne hx hb hd h4 (fun q => gt _ _ (h.1 q)) (fun q => go 3 _ _ _ _ _ _ h2 (h.2 q) hll hP hD hS hl)
        | lt => exact lv_if_lt hx hb hd h4 (fun q => gt _ _ (h.1 q)) (fun q => go 3 _ _ _ _ _ _ h2 (h.2 q) hll hP hD hS hl)
        | ge => exact lv_if_ge hx hb hd h4 (fun q => gt _ _ (h.1 q)) (fun q => go 3 _ _ _ _ _ _ h2 (h.2 q) hll hP hD hS hl)
        | gt => exact lv_if_gt hx hb hd h4 (fun q => gt _ _ (h.1 q)) (fun q => go 3 _ _ _ _ _ _ h2 (h.2 q) hll hP hD hS hl)
        | le => exact lv_if_le hx hb hd h4 (fun q => gt _ _ (h.1 q)) (fun q => go 3 _ _ _ _ _ _ h2 (h.2 q) hll hP hD hS hl)
      · exact h.elim
    · exact h.elim
  · split at h
    · simp only [Bool.and_eq_true, decide_eq_true_eq] at hc
      obtain ⟨rfl, h4⟩ := hc
      exact lv_goto hx hb hd h4 (gt _ _ h)
    · exact h.elim
  · simp only [Bool.and_eq_true, decide_eq_true_eq] at hc
    obtain ⟨rfl, h2⟩ := hc
    split at h
    · rename_i j a st'
      split at h
      · rename_i n hs
        have he := ab_wl_at (ω := ω) (μ := μ) (k := a) (by rw [hsh, ← ab_nth_eq]; exact hs)
        exact va_iald hx hb hK hP a 0 he rfl h.1 hd (go 1 _ _ _ _ _ _ h2 h.2 hll hP hD hS hl)
      · exact h.elim
    · exact h.elim
  · simp only [Bool.and_eq_true, decide_eq_true_eq] at hc
    obtain ⟨rfl, h2⟩ := hc
    split at h
    · rename_i j a st'
      split at h
      · rename_i n hs
        have he := ab_wl_at (ω := ω) (μ := μ) (k := a) (by rw [hsh, ← ab_nth_eq]; exact hs)
        exact va_lald hx hb hK hP a 1 he rfl h.1 hd (go 1 _ _ _ _ _ _ h2 h.2 hll hP hD hS hl)
      · exact h.elim
    · exact h.elim
  · simp only [Bool.and_eq_true, decide_eq_true_eq] at hc
    obtain ⟨rfl, h2⟩ := hc
    split at h
    · rename_i j a st'
      split at h
      · rename_i n hs
        have he := ab_wl_at (ω := ω) (μ := μ) (k := a) (by rw [hsh, ← ab_nth_eq]; exact hs)
        exact va_zald hx hb hK hP a 2 he rfl h.1 hd (go 1 _ _ _ _ _ _ h2 h.2 hll hP hD hS hl)
      · exact h.elim
    · exact h.elim
  · simp only [Bool.and_eq_true, decide_eq_true_eq] at hc
    obtain ⟨rfl, h2⟩ := hc
    split at h
    · rename_i x j a st'
      split at h
      · rename_i n hs
        have hs2 : ω.2.2.2[a]? = some (.inl (0, n)) := by rw [hsh, ← ab_nth_eq]; exact hs
        have he := ab_wl_at (ω := ω) (μ := μ) (k := a) hs2
        have hw := ab_wl_set (ω := ω) (μ := μ) (μ' := ab_mi μ a j.toNatClampNeg x) hs2 ab_mi_ne (fun _ _ => rfl)
        refine va_iast hx hb hK hP hD hS a 0 he rfl h.1 hd (fun H1 locs1 hP1 hD1 hS1 => ?_)
        · rw [ab_e0] at hw
          exact go 1 _ _ _ _ _ _ h2 h.2 hll (hw ▸ hP1) (hw ▸ hD1) hS1 hl
      · exact h.elim
    · exact h.elim
  · simp only [Bool.and_eq_true, decide_eq_true_eq] at hc
    obtain ⟨rfl, h2⟩ := hc
    split at h
    · rename_i x j a st'
      split at h
      · rename_i n hs
        have hs2 : ω.2.2.2[a]? = some (.inl (1, n)) := by rw [hsh, ← ab_nth_eq]; exact hs
        have he := ab_wl_at (ω := ω) (μ := μ) (k := a) hs2
        have hw := ab_wl_set (ω := ω) (μ := μ) (μ' := ab_mj μ a j.toNatClampNeg x) hs2 (fun _ _ => rfl) ab_mj_ne
        refine va_last hx hb hK hP hD hS a 1 he rfl h.1 hd (fun H1 locs1 hP1 hD1 hS1 => ?_)
        · rw [ab_e1] at hw
          exact go 1 _ _ _ _ _ _ h2 h.2 hll (hw ▸ hP1) (hw ▸ hD1) hS1 hl
      · exact h.elim
    · exact h.elim
  · simp only [Bool.and_eq_true, decide_eq_true_eq] at hc
    obtain ⟨rfl, h2⟩ := hc
    split at h
    · rename_i x j a st'
      split at h
      · rename_i n hs
        have hs2 : ω.2.2.2[a]? = some (.inl (2, n)) := by rw [hsh, ← ab_nth_eq]; exact hs
        have he := ab_wl_at (ω := ω) (μ := μ) (k := a) hs2
        have hz : vp_nar .boolean x = x := by rcases h.2.1 with h0 | h0 <;> subst h0 <;> rfl
        have hw := ab_wl_set (ω := ω) (μ := μ) (μ' := ab_mi μ a j.toNatClampNeg x) hs2 ab_mi_ne (fun _ _ => rfl)
        refine va_zast hx hb hK hP hD hS a 2 he rfl h.1 hd (fun H1 locs1 hP1 hD1 hS1 => ?_)
        · rw [hz] at hP1 hD1
          rw [ab_e2] at hw
          exact go 1 _ _ _ _ _ _ h2 h.2.2 hll (hw ▸ hP1) (hw ▸ hD1) hS1 hl
      · exact h.elim
    · exact h.elim
  · split at h
    · rename_i a st'
      split at h
      · rename_i ci sl hs
        have hs2 : ω.2.2.2[a]? = some (.inr (ci, sl)) := by rw [hsh, ← ab_nth_eq]; exact hs
        have he := ab_wl_at (ω := ω) (μ := μ) (k := a) hs2
        rw [Bool.and_eq_true, Bool.and_eq_true] at hc
        obtain ⟨⟨h1, h2⟩, h3⟩ := hc
        have h1 := of_decide_eq_true h1
        have h2 := of_decide_eq_true h2
        subst h1
        split at h3
        · rename_i r hr2
          obtain ⟨C, T, N⟩ := r
          rw [Bool.and_eq_true] at h3
          obtain ⟨h4, h5⟩ := h3
          have h4 := of_decide_eq_true h4
          split at h
          · rename_i q hci hsl
            have hci := Nat.eq_of_beq_eq_true hci
            subst hci
            exact va_get (D := ω.2.2.1) (C := C) (T := T) (N := N) hx hb hts (ab_uws (C, T, N) (List.mem_of_getElem? hr2)) hown hK hP a he hr2 fx.2.1 h4 (hts _ (ab_tb_in h5)) (fun _ h9 => h9) (v := .ref (ω.1 q)) (by rw [List.getElem?_mapIdx, ← ab_nth_eq, hsl]; rfl) hd (go 3 _ _ _ _ _ _ h2 h hll hP hD hS hl)
          · rename_i hci hsl
            have hci := Nat.eq_of_beq_eq_true hci
            subst hci
            exact va_get (D := ω.2.2.1) (C := C) (T := T) (N := N) hx hb hts (ab_uws (C, T, N) (List.mem_of_getElem? hr2)) hown hK hP a he hr2 fx.2.1 h4 (hts _ (ab_tb_in h5)) (fun _ h9 => h9) (v := .int (μ.1 a fx.2.1)) (by rw [List.getElem?_mapIdx, ← ab_nth_eq, hsl]; rfl) hd (go 3 _ _ _ _ _ _ h2 h hll hP hD hS hl)
          · rename_i hci hsl
            have hci := Nat.eq_of_beq_eq_true hci
            subst hci
            exact va_get (D := ω.2.2.1) (C := C) (T := T) (N := N) hx hb hts (ab_uws (C, T, N) (List.mem_of_getElem? hr2)) hown hK hP a he hr2 fx.2.1 h4 (hts _ (ab_tb_in h5)) (fun _ h9 => h9) (v := .long (μ.2 a fx.2.1)) (by rw [List.getElem?_mapIdx, ← ab_nth_eq, hsl]; rfl) hd (go 3 _ _ _ _ _ _ h2 h hll hP hD hS hl)
          · rename_i hci hsl
            have hci := Nat.eq_of_beq_eq_true hci
            subst hci
            exact va_get (D := ω.2.2.1) (C := C) (T := T) (N := N) hx hb hts (ab_uws (C, T, N) (List.mem_of_getElem? hr2)) hown hK hP a he hr2 fx.2.1 h4 (hts _ (ab_tb_in h5)) (fun _ h9 => h9) (v := .int (μ.1 a fx.2.1)) (by rw [List.getElem?_mapIdx, ← ab_nth_eq, hsl]; rfl) hd (go 3 _ _ _ _ _ _ h2 h hll hP hD hS hl)
          · exact h.elim
        · cases h3
      · exact h.elim
    · exact h.elim
  · split at h
    · rename_i x a st'
      split at h
      · rename_i ci sl hs
        have hs2 : ω.2.2.2[a]? = some (.inr (ci, sl)) := by rw [hsh, ← ab_nth_eq]; exact hs
        have he := ab_wl_at (ω := ω) (μ := μ) (k := a) hs2
        rw [Bool.and_eq_true, Bool.and_eq_true] at hc
        obtain ⟨⟨h1, h2⟩, h3⟩ := hc
        have h1 := of_decide_eq_true h1
        have h2 := of_decide_eq_true h2
        subst h1
        split at h3
        · rename_i r hr2
          obtain ⟨C, T, N⟩ := r
          rw [Bool.and_eq_true, Bool.and_eq_true, Bool.and_eq_true] at h3
          obtain ⟨⟨⟨h4, h5⟩, h6⟩, h7⟩ := h3
          have h4 := of_decide_eq_true h4
          have h6 := of_decide_eq_true h6
          obtain ⟨ty0, hty, hnm⟩ := ab_tys_ok fx.1 (C, T, N) hr2
          have hlen : ∀ z, ab_nth sl fx.2.1 = some z → fx.2.1 < sl.length := fun z hz => by rw [ab_nth_eq] at hz; exact (List.getElem?_eq_some_iff.mp hz).1
          split at h
          · rename_i hci hsl
            have hci := Nat.eq_of_beq_eq_true hci
            subst hci
            have h7 := of_decide_eq_true h7
            have hw := ab_wl_set (ω := ω) (μ := μ) (μ' := ab_mi μ a fx.2.1 x) hs2 ab_mi_ne (fun _ _ => rfl)
            refine va_put (D := ω.2.2.1) (C := C) (T := T) (N := N) (ty := .int) (v := .int x) hx hb hts (ab_uws (C, T, N) (List.mem_of_getElem? hr2)) ty0 hty hnm hown hK hP hD hS a he hr2 fx.2.1 h4 (hts _ (ab_tb_in h5)) (fun _ h9 => h9) h6 h7 rfl rfl (by rw [List.length_mapIdx]; exact hlen _ hsl) hd (fun H1 locs1 hP1 hD1 hS1 => ?_)
            rw [ab_put_ab_mi (by rw [← ab_nth_eq]; exact hsl)] at hw
            exact go 3 _ _ _ _ _ _ h2 h hll (hw ▸ hP1) (hw ▸ hD1) hS1 hl
          · rename_i hci hsl
            have hci := Nat.eq_of_beq_eq_true hci
            subst hci
            have h7 := of_decide_eq_true h7
            have hw := ab_wl_set (ω := ω) (μ := μ) (μ' := ab_mi μ a fx.2.1 x) hs2 ab_mi_ne (fun _ _ => rfl)
            refine va_put (D := ω.2.2.1) (C := C) (T := T) (N := N) (ty := .boolean) (v := .int x) hx hb hts (ab_uws (C, T, N) (List.mem_of_getElem? hr2)) ty0 hty hnm hown hK hP hD hS a he hr2 fx.2.1 h4 (hts _ (ab_tb_in h5)) (fun _ h9 => h9) h6 h7 (by rcases h.1 with h0 | h0 <;> subst h0 <;> rfl) (by rcases h.1 with h0 | h0 <;> subst h0 <;> rfl) (by rw [List.length_mapIdx]; exact hlen _ hsl) hd (fun H1 locs1 hP1 hD1 hS1 => ?_)
            rw [ab_put_ab_mi (by rw [← ab_nth_eq]; exact hsl)] at hw
            exact go 3 _ _ _ _ _ _ h2 h.2 hll (hw ▸ hP1) (hw ▸ hD1) hS1 hl
          · exact h.elim
        · cases h3
      · exact h.elim
    · rename_i x a st'
      split at h
      · rename_i ci sl hs
        have hs2 : ω.2.2.2[a]? = some (.inr (ci, sl)) := by rw [hsh, ← ab_nth_eq]; exact hs
        have he := ab_wl_at (ω := ω) (μ := μ) (k := a) hs2
        rw [Bool.and_eq_true, Bool.and_eq_true] at hc
        obtain ⟨⟨h1, h2⟩, h3⟩ := hc
        have h1 := of_decide_eq_true h1
        have h2 := of_decide_eq_true h2
        subst h1
        split at h3
        · rename_i r hr2
          obtain ⟨C, T, N⟩ := r
          rw [Bool.and_eq_true, Bool.and_eq_true, Bool.and_eq_true] at h3
          obtain ⟨⟨⟨h4, h5⟩, h6⟩, h7⟩ := h3
          have h4 := of_decide_eq_true h4
          have h6 := of_decide_eq_true h6
          obtain ⟨ty0, hty, hnm⟩ := ab_tys_ok fx.1 (C, T, N) hr2
          have hlen : ∀ z, ab_nth sl fx.2.1 = some z → fx.2.1 < sl.length := fun z hz => by rw [ab_nth_eq] at hz; exact (List.getElem?_eq_some_iff.mp hz).1
          split at h
          · rename_i hci hsl
            have hci := Nat.eq_of_beq_eq_true hci
            subst hci
            have h7 := of_decide_eq_true h7
            have hw := ab_wl_set (ω := ω) (μ := μ) (μ' := ab_mj μ a fx.2.1 x) hs2 (fun _ _ => rfl) ab_mj_ne
            refine va_put (D := ω.2.2.1) (C := C) (T := T) (N := N) (ty := .long) (v := .long x) hx hb hts (ab_uws (C, T, N) (List.mem_of_getElem? hr2)) ty0 hty hnm hown hK hP hD hS a he hr2 fx.2.1 h4 (hts _ (ab_tb_in h5)) (fun _ h9 => h9) h6 h7 rfl rfl (by rw [List.length_mapIdx]; exact hlen _ hsl) hd (fun H1 locs1 hP1 hD1 hS1 => ?_)
            rw [ab_put_ab_mj (by rw [← ab_nth_eq]; exact hsl)] at hw
            exact go 3 _ _ _ _ _ _ h2 h hll (hw ▸ hP1) (hw ▸ hD1) hS1 hl
          · exact h.elim
        · cases h3
      · exact h.elim
    · exact h.elim
  · rw [Bool.and_eq_true, Bool.and_eq_true] at hc
    obtain ⟨⟨h1, h2⟩, h3⟩ := hc
    have h1 := of_decide_eq_true h1
    have h2 := of_decide_eq_true h2
    subst h1
    split at h
    · rename_i md n
      split at h3
      · rename_i g0 g1 g2 g4 g5 md2 n2 hcx
        cases hcx
        rw [Bool.and_eq_true, Bool.and_eq_true, Bool.and_eq_true] at h3
        obtain ⟨⟨⟨h4, h5⟩, h6⟩, h7⟩ := h3
        have h7 := of_decide_eq_true h7
        split at h
        · rename_i As a rest hpop
          split at h
          · rename_i ci sl hs hsm
            split at h
            · rename_i hci
              have hci := Nat.eq_of_beq_eq_true hci
              subst hci
              have hs2 : ω.2.2.2[a]? = some (.inr (fx.1, sl)) := by rw [hsh, ← ab_nth_eq]; exact hs
              have he := ab_wl_at (ω := ω) (μ := μ) (k := a) hs2
              obtain ⟨rr, hcl, hcn⟩ := Option.map_eq_some_iff.mp h7
              obtain ⟨xs, hx1, hx2, hx3⟩ := ab_pop_eq _ _ _ _ _ hpop
              have hxs : True := trivial
              subst hx3
              have hlen : (As.map (ab_cv ω.1)).length = n := by simp [hx2, hx1]
              have hstk : (F0 m pc ls ((xs ++ Value.ref a :: rest).map (ab_cv ω.1))).stack = (As.map (ab_cv ω.1)).reverse ++ .ref (ω.1 a) :: rest.map (ab_cv ω.1) := by simp [hx2, ab_cv]
              have cw := ab_cw (args := args) hts h4 h5 h6
              have hcn2 : rr.1 = md.1.cls := hcn
              have hcl : vwCl[fx.1]? = some (md.1.cls, rr.2) := by rw [hcl, ← hcn2]
              have hFc : ∀ q, va_A (ab_wl ω μ) H.size q → A q := va_free (wc := ab_wl ω μ) hD hS hA (List.range (ab_wl ω μ).length) (ab_range _)
              have hbl : FrameBlind (ab_Pr ω (.ref a :: As) μ H.size) := fun a U g mk q => by obtain ⟨q0, q1, qP, qK, qD⟩ := q; exact ⟨q0, q1, qP, va_K.moved (u := U) (U := U.calling g mk a) (Vm.Alike.refl U.vm) qK, qD⟩
              have hpre : ∀ U : State, U.heap = H → s.WarmedH U.vm → ab_Pr ω (.ref a :: As) μ H.size (Value.ref (ω.1 a) :: As.map (ab_cv ω.1)).toArray U := fun U hU hW => ⟨by simp [hxs, ab_cv], by rw [hU], by rw [hU]; exact hP, va_K.moved hW.alike hK, hD.weaken (fun _ _ _ _ => trivial)⟩
              unfold ab_call at h
              split at h
              · rename_i hret
                have hM := h H.size
                unfold ab_Qc at hM
                rw [hret] at hM
                dsimp only at hM
                refine va_callv (va_runV (As := As.map (ab_cv ω.1)) (rest := rest.map (ab_cv ω.1)) (C := md.1.cls) ⟨hx, hb, hml, hown, hts⟩ hM cw ⟨hbl, va_recv hK hP (ci := fx.1) hcl he, hpre⟩ rfl hlen hl.1 hstk (lv_room (ab_small_sum ω.1 rest 8 hsm)) hd ⟨Nat.zero_le _, Nat.zero_le _⟩) hS (fun q _ hq => hFc q hq) hFc (fun u t H1 locs1 ht hvm hw hB hz1 hk1 hS1 => ?_)
                obtain ⟨hP1, hK1, hD1⟩ := hB
                rw [ht] at hP1
                exact go 3 _ _ _ _ _ _ h2 hw hll hP1 (hD1.weaken (fun k q _ hq => hFc q.1 hq)) hS1 hl
              · rename_i hret
                have hM := h H.size
                unfold ab_Qc at hM
                rw [hret] at hM
                dsimp only at hM
                refine va_calll (va_runV (As := As.map (ab_cv ω.1)) (rest := rest.map (ab_cv ω.1)) (C := md.1.cls) ⟨hx, hb, hml, hown, hts⟩ hM cw ⟨hbl, va_recv hK hP (ci := fx.1) hcl he, hpre⟩ rfl hlen hl.1 hstk (lv_room (ab_small_sum ω.1 rest 8 hsm)) hd ⟨Nat.zero_le _, Nat.zero_le _⟩) hS (fun q _ hq => hFc q hq) hFc (fun r u t H1 locs1 ht hvm hw hB hz1 hk1 hS1 => ?_)
                obtain ⟨hP1, hK1, hD1⟩ := hB
                rw [ht] at hP1
                exact go 3 _ _ _ _ _ _ h2 hw hll hP1 (hD1.weaken (fun k q _ hq => hFc q.1 hq)) hS1 hl
              · rename_i hret
                have hM := h H.size
                unfold ab_Qc at hM
                rw [hret] at hM
                dsimp only at hM
                refine va_calli (va_runV (As := As.map (ab_cv ω.1)) (rest := rest.map (ab_cv ω.1)) (C := md.1.cls) ⟨hx, hb, hml, hown, hts⟩ hM cw ⟨hbl, va_recv hK hP (ci := fx.1) hcl he, hpre⟩ rfl hlen hl.1 hstk (lv_room (ab_small_sum ω.1 rest 8 hsm)) hd ⟨Nat.zero_le _, Nat.zero_le _⟩) hS (fun q _ hq => hFc q hq) hFc (fun r u t H1 locs1 ht hvm hw hB hz1 hk1 hS1 => ?_)
                obtain ⟨hP1, hK1, hD1⟩ := hB
                rw [ht] at hP1
                exact go 3 _ _ _ _ _ _ h2 hw hll hP1 (hD1.weaken (fun k q _ hq => hFc q.1 hq)) hS1 hl
              · rename_i hret
                have hM := h H.size
                unfold ab_Qc at hM
                rw [hret] at hM
                dsimp only at hM
                refine va_calli (va_runV (As := As.map (ab_cv ω.1)) (rest := rest.map (ab_cv ω.1)) (C := md.1.cls) ⟨hx, hb, hml, hown, hts⟩ hM cw ⟨hbl, va_recv hK hP (ci := fx.1) hcl he, hpre⟩ rfl hlen hl.1 hstk (lv_room (ab_small_sum ω.1 rest 8 hsm)) hd ⟨Nat.zero_le _, Nat.zero_le _⟩) hS (fun q _ hq => hFc q hq) hFc (fun r u t H1 locs1 ht hvm hw hB hz1 hk1 hS1 => ?_)
                obtain ⟨hP1, hK1, hD1⟩ := hB
                rw [ht] at hP1
                exact go 3 _ _ _ _ _ _ h2 hw hll hP1 (hD1.weaken (fun k q _ hq => hFc q.1 hq)) hS1 hl
              · exact h.elim
            · exact h.elim
          · exact h.elim
        · exact h.elim
      · cases h3
    · exact h.elim
  · rw [Bool.and_eq_true, Bool.and_eq_true] at hc
    obtain ⟨⟨h1, h2⟩, h3⟩ := hc
    have h1 := of_decide_eq_true h1
    have h2 := of_decide_eq_true h2
    subst h1
    split at h
    · rename_i md n
      split at h3
      · rename_i g0 g1 g2 g4 md2 n2 hcx
        cases hcx
        rw [Bool.and_eq_true] at h3
        obtain ⟨h4, h5⟩ := h3
        split at h
        · rename_i As rest hpop
          split at h
          · rename_i hsm
            obtain ⟨xs, hx1, hx2, hx3⟩ := ab_pop_eq _ _ _ _ _ hpop
            have hxs : True := trivial
            subst hx3
            have hlen : (As.map (ab_cv ω.1)).length = n := by simp [hx2, hx1]
            have hstk : (F0 m pc ls ((xs ++ rest).map (ab_cv ω.1))).stack = (As.map (ab_cv ω.1)).reverse ++ rest.map (ab_cv ω.1) := by simp [hx2]
            have cw := ab_cwS (args := args) hts h4 h5
            have hFc : ∀ q, va_A (ab_wl ω μ) H.size q → A q := va_free (wc := ab_wl ω μ) hD hS hA (List.range (ab_wl ω μ).length) (ab_range _)
            have hbl : FrameBlind (ab_Pr ω As μ H.size) := fun a U g mk q => by obtain ⟨q0, q1, qP, qK, qD⟩ := q; exact ⟨q0, q1, qP, va_K.moved (u := U) (U := U.calling g mk a) (Vm.Alike.refl U.vm) qK, qD⟩
            have hpre : ∀ U : State, U.heap = H → s.WarmedH U.vm → ab_Pr ω As μ H.size (As.map (ab_cv ω.1)).toArray U := fun U hU hW => ⟨by simp [hxs, ab_cv], by rw [hU], by rw [hU]; exact hP, va_K.moved hW.alike hK, hD.weaken (fun _ _ _ _ => trivial)⟩
            unfold ab_call at h
            split at h
            · rename_i hret
              have hM := h H.size
              unfold ab_Qc at hM
              rw [hret] at hM
              dsimp only at hM
              refine va_callv (va_runS (As := As.map (ab_cv ω.1)) (rest := rest.map (ab_cv ω.1)) ⟨hx, hb, hml, hown, hts⟩ hM cw ⟨hbl, hpre⟩ rfl hlen hl.1 hstk (lv_room (ab_small_sum ω.1 rest 8 hsm)) hd ⟨Nat.zero_le _, Nat.zero_le _⟩) hS (fun q _ hq => hFc q hq) hFc (fun u t H1 locs1 ht hvm hw hB hz1 hk1 hS1 => ?_)
              obtain ⟨hP1, hK1, hD1⟩ := hB
              rw [ht] at hP1
              exact go 3 _ _ _ _ _ _ h2 hw hll hP1 (hD1.weaken (fun k q _ hq => hFc q.1 hq)) hS1 hl
            · rename_i hret
              have hM := h H.size
              unfold ab_Qc at hM
              rw [hret] at hM
              dsimp only at hM
              refine va_calll (va_runS (As := As.map (ab_cv ω.1)) (rest := rest.map (ab_cv ω.1)) ⟨hx, hb, hml, hown, hts⟩ hM cw ⟨hbl, hpre⟩ rfl hlen hl.1 hstk (lv_room (ab_small_sum ω.1 rest 8 hsm)) hd ⟨Nat.zero_le _, Nat.zero_le _⟩) hS (fun q _ hq => hFc q hq) hFc (fun r u t H1 locs1 ht hvm hw hB hz1 hk1 hS1 => ?_)
              obtain ⟨hP1, hK1, hD1⟩ := hB
              rw [ht] at hP1
              exact go 3 _ _ _ _ _ _ h2 hw hll hP1 (hD1.weaken (fun k q _ hq => hFc q.1 hq)) hS1 hl
            · rename_i hret
              have hM := h H.size
              unfold ab_Qc at hM
              rw [hret] at hM
              dsimp only at hM
              refine va_calli (va_runS (As := As.map (ab_cv ω.1)) (rest := rest.map (ab_cv ω.1)) ⟨hx, hb, hml, hown, hts⟩ hM cw ⟨hbl, hpre⟩ rfl hlen hl.1 hstk (lv_room (ab_small_sum ω.1 rest 8 hsm)) hd ⟨Nat.zero_le _, Nat.zero_le _⟩) hS (fun q _ hq => hFc q hq) hFc (fun r u t H1 locs1 ht hvm hw hB hz1 hk1 hS1 => ?_)
              obtain ⟨hP1, hK1, hD1⟩ := hB
              rw [ht] at hP1
              exact go 3 _ _ _ _ _ _ h2 hw hll hP1 (hD1.weaken (fun k q _ hq => hFc q.1 hq)) hS1 hl
            · rename_i hret
              have hM := h H.size
              unfold ab_Qc at hM
              rw [hret] at hM
              dsimp only at hM
              refine va_calli (va_runS (As := As.map (ab_cv ω.1)) (rest := rest.map (ab_cv ω.1)) ⟨hx, hb, hml, hown, hts⟩ hM cw ⟨hbl, hpre⟩ rfl hlen hl.1 hstk (lv_room (ab_small_sum ω.1 rest 8 hsm)) hd ⟨Nat.zero_le _, Nat.zero_le _⟩) hS (fun q _ hq => hFc q hq) hFc (fun r u t H1 locs1 ht hvm hw hB hz1 hk1 hS1 => ?_)
              obtain ⟨hP1, hK1, hD1⟩ := hB
              rw [ht] at hP1
              exact go 3 _ _ _ _ _ _ h2 hw hll hP1 (hD1.weaken (fun k q _ hq => hFc q.1 hq)) hS1 hl
            · exact h.elim
          · exact h.elim
        · exact h.elim
      · rename_i hcx
        cases hcx
      · cases h3
    · split at h3
      · rename_i hcx
        cases hcx
      · rename_i g0 g1 g2 g4 _
        rw [Bool.and_eq_true, Bool.and_eq_true, Bool.and_eq_true, Bool.and_eq_true, Bool.and_eq_true] at h3
        obtain ⟨⟨⟨⟨⟨h4, h5⟩, h6⟩, h7⟩, h8⟩, h9⟩ := h3
        have h8 := of_decide_eq_true h8
        have h9 := of_decide_eq_true h9
        split at h
        · rename_i n dp b sp a rest
          split at h
          · rename_i n0 n1 hs0 hs1 hsm
            have ha2 : ω.2.2.2[a]? = some (.inl (0, n0)) := by rw [hsh, ← ab_nth_eq]; exact hs0
            have hb2 : ω.2.2.2[b]? = some (.inl (0, n1)) := by rw [hsh, ← ab_nth_eq]; exact hs1
            have ea := ab_wl_at (ω := ω) (μ := μ) (k := a) ha2
            have eb := ab_wl_at (ω := ω) (μ := μ) (k := b) hb2
            obtain ⟨q1, q2, q3, q4, q5, hj⟩ := h
            have hw := ab_wl_set (ω := ω) (μ := μ) (μ' := ab_mr μ b (va_cpy (μ.1 a) (μ.1 b) sp.toNatClampNeg dp.toNatClampNeg n.toNatClampNeg)) hb2 ab_mr_ne (fun _ _ => rfl)
            refine va_copyi hx hb (by rw [hml]; exact hl.1.symm) hown (hts _ (ab_tb_in h4)) (hts _ (ab_tb_in h5)) (hts _ (ab_tb_in h6)) (hts _ (ab_tb_in h7)) hK hP hD hS a b 0 0 ea eb rfl rfl rfl q1 q2 q3 q4 q5 (fun _ _ => rfl) h8 (Nat.le_trans (Nat.add_le_add_right (ab_small_sum ω.1 rest 8 hsm) _) h9) hd (fun H1 locs1 hP1 hD1 hS1 => ?_)
            rw [ab_mr_upd] at hw
            exact go 3 _ _ _ _ _ _ h2 hj hll (hw ▸ hP1) (hw ▸ hD1) hS1 hl
          · exact h.elim
        · exact h.elim
      · cases h3
  · rename_i df lo hi offs
    split at h
    · rename_i d ts' x st'
      rw [Bool.and_eq_true, Bool.and_eq_true, Bool.and_eq_true] at hc
      obtain ⟨⟨⟨h1, h2⟩, h3⟩, h4⟩ := hc
      have h1 := of_decide_eq_true h1
      have h2 := of_decide_eq_true h2
      have h3 := of_decide_eq_true h3
      obtain ⟨g1, g2⟩ := ab_tsw_sp ts' lo h
      by_cases ho : x.toInt < lo ∨ hi < x.toInt
      · exact lv_tableOut hx hb hd ho h1 (gt _ _ (g2 (by omega)))
      · have hj : (x.toInt - lo).toNat < ts'.length := by omega
        obtain ⟨t, ht⟩ : ∃ t, ts'[(x.toInt - lo).toNat]? = some t := ⟨_, List.getElem?_eq_getElem hj⟩
        obtain ⟨f, hf⟩ : ∃ f, offs.toList[(x.toInt - lo).toNat]? = some f := ⟨_, List.getElem?_eq_getElem (by rw [h2]; exact hj)⟩
        have hz : (f, t) ∈ offs.toList.zip ts' := List.mem_of_getElem? (i := (x.toInt - lo).toNat) (by rw [List.getElem?_zip_eq_some]; exact ⟨hf, ht⟩)
        have h5 := of_decide_eq_true (List.all_eq_true.mp h4 (f, t) hz)
        exact lv_tableIn hx hb hd (by omega) (by omega) (off := f) (by rw [← Array.getElem?_toList]; exact hf) h5 (gt _ _ (g1 _ _ ht (by omega)))
    · exact h.elim
  · rename_i df ps
    split at h
    · rename_i d ts' x st'
      rw [Bool.and_eq_true, Bool.and_eq_true, Bool.and_eq_true] at hc
      obtain ⟨⟨⟨h1, h2⟩, h3⟩, h4⟩ := hc
      have h1 := of_decide_eq_true h1
      have h2 := of_decide_eq_true h2
      obtain ⟨t, g1, g2⟩ := ab_lsw_sp (bp := ab_bp cd) h1 ps.toList ts' h2 h4 h
      exact lv_lookup hx hb hd h3 rfl g2 (gt _ _ g1)
    · exact h.elim
  · simp only [Bool.and_eq_true, decide_eq_true_eq] at hc
    subst hc
    split at h
    · exact W.iret hx hb hr (fun t ht hW => ⟨⟨_, _, rfl, h, by rw [ht]; exact hP, va_K.moved hW.alike hK, hD⟩, hS.F ht⟩) hS.2.2 hd hlocks
    · exact W.zret hx hb hr (by rcases h.1 with h0 | h0 <;> subst h0 <;> rfl) (fun t ht hW => ⟨⟨_, _, rfl, h.2, by rw [ht]; exact hP, va_K.moved hW.alike hK, hD⟩, hS.F ht⟩) hS.2.2 hd hlocks
    · exact h.elim
  · simp only [Bool.and_eq_true, decide_eq_true_eq] at hc
    subst hc
    split at h
    · exact W.lret hx hb hr (fun t ht hW => ⟨⟨_, _, rfl, h, by rw [ht]; exact hP, va_K.moved hW.alike hK, hD⟩, hS.F ht⟩) hS.2.2 hd hlocks
    · exact h.elim
  · simp only [Bool.and_eq_true, decide_eq_true_eq] at hc
    subst hc
    split at h
    · exact W.vret hx hb hr (fun t ht hW => ⟨⟨_, rfl, h, by rw [ht]; exact hP, va_K.moved hW.alike hK, hD⟩, hS.F ht⟩) hS.2.2 hd hlocks
    · exact h.elim
  · exact h.elim
end AbT
