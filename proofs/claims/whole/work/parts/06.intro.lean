/-! contracts out of walks of the abstract machine -/
def ab_ea : List Value → ab_L
  | [] => []
  | .long x :: r => some (.long x) :: none :: ab_ea r
  | .double x :: r => some (.double x) :: none :: ab_ea r
  | .int x :: r => some (.int x) :: ab_ea r
  | .ref x :: r => some (.ref x) :: ab_ea r
  | v :: r => some v :: ab_ea r
def ab_ent (nL : Nat) (as : List Value) : ab_L := ab_ea as ++ List.replicate (nL - (ab_ea as).length) none
theorem ab_ea_len (ad : Nat → Nat) : ∀ as : List Value, (lg_sl (as.map (ab_cv ad))).length = (ab_ea as).length
  | [] => rfl
  | v :: r => by
    have ih := ab_ea_len ad r
    cases v <;> simp_all [ab_ea, lg_sl, ab_cv, Value.category]
theorem ab_ea_lv (ad : Nat → Nat) (k : Nat) : ∀ (as : List Value) (n : Nat) (q : Nat × Value), q ∈ ab_lv ad n (ab_ea as ++ List.replicate k none) → q ∈ lv_args n (as.map (ab_cv ad))
  | [], n, q, h => by
    obtain ⟨j, w⟩ := q
    obtain ⟨i, v, h1, h2, h3⟩ := (ab_lv_in _ _).mp h
    simp only [ab_ea, List.nil_append, List.getElem?_replicate] at h2
    split at h2 <;> simp at h2
  | v :: r, n, q, h => by
    have ih := ab_ea_lv ad k r
    cases v <;> (simp only [ab_ea, List.cons_append, ab_lv, List.mem_cons] at h; simp only [List.map_cons, lv_args, ab_cv, Value.category, List.mem_cons]; (rcases h with h | h) <;> first | exact Or.inl h | exact Or.inr (ih _ _ h))
set_option maxHeartbeats 1000000 in
theorem ab_intro {l : Launch} {ω : ab_W} {sh : List ab_Sh} {md : ab_Md} {cd : List ab_En} {as : List Value} {μ : ab_M} {QI : Int32 → ab_M → Prop} {QL : Int64 → ab_M → Prop} {QV : ab_M → Prop}
    (hsh : ω.2.2.2 = sh) (hchk : ab_chk md.1.cls md cd = true) (hpl : plainName md.1.cls = true) (h0 : ab_bp cd 0 = 0) (hlen : (ab_ea as).length ≤ md.2.2.1)
    (body : ∀ j : Nat → ab_L → List Value → ab_M → Prop, (∀ i ll st μ, ab_wp l ω sh md.2.2.2.1 cd QI QL QV j i ll st μ → j i ll st μ) → (∀ i ll ll' st μ, ab_le ll' ll → j i ll' st μ → j i ll st μ) → j 0 (ab_ent md.2.2.1 as) [] μ) : ab_Call l ω md as μ QI QL QV := by
  intro sz
  refine Met.ofW (cc := md.2.1) (maxL := md.2.2.1) (ret := md.2.2.2.1) hpl rfl ?_
  intro p e s m args below meth c s₁ B hml hv
  obtain ⟨rfl, hsz, hP, hK, hD0⟩ := hv
  have hx := B.exec
  have hb := B.bytes
  have hr := B.returns
  have hts : ∀ w ∈ ab_T, w.before (as.map (ab_cv ω.1)).toArray s = true := fun w hw => atoms_spec (ws := ab_ws md) B.pre w (List.mem_cons_of_mem _ hw)
  have hown : s.vm.findClass md.1.cls = some m.cls := findClass_of_methodNamed B.named
  have hlocks := B.notSynchronized
  subst hsz
  have hD := hD0.self (sz := s.heap.size)
  generalize hAe : va_A (ab_wl ω μ) s.heap.size = A at hD ⊢
  have hA : ∀ q : Nat, s.heap.size ≤ q → A q := fun q h => by rw [← hAe]; exact Or.inr h
  have hS : va_S A s.heap s.heap [] := va_S.rf
  have hl := lv_entry (as.map (ab_cv ω.1)) (n := md.2.2.1) (by rw [ab_ea_len]; exact hlen)
  rw [lg_entry_eq]
  generalize (lg_sl (as.map (ab_cv ω.1)) ++ List.replicate (md.2.2.1 - (lg_sl (as.map (ab_cv ω.1))).length) Slot.unset).toArray = ls at hl ⊢
  have hl2 : lv_has ls md.2.2.1 (ab_lv ω.1 0 (ab_ent md.2.2.1 as)) := ⟨hl.1, hl.2.1, fun q hq => hl.2.2 q (ab_ea_lv ω.1 _ as 0 q hq)⟩
  have key := body (ab_J p l e (headSpec (ab_ws md) md.2.2.2.2).room s m (as.map (ab_cv ω.1)).toArray below meth c ω A md.2.2.1 cd (MQ below (ab_Qc ω A md.2.2.2.1 QI QL QV) (as.map (ab_cv ω.1)).toArray s 0 0 A))
    (fun i ll st μ h => ab_sound hx hb hml hr hown hts hK hA hlocks hsh (fun pc len ins ts fx k32 k64 cx hn => ?_) h) (fun i ll ll' st μ hle hj => ?_)
  · have hj := key (by simp [ab_ent]; omega) s.heap [] ls hP hD hS hl2
    rw [h0] at hj
    exact hj
  · have hi : i < cd.length := by
      rw [ab_nth_eq] at hn
      exact (List.getElem?_eq_some_iff.mp hn).1
    have h1 := List.all_eq_true.mp hchk i (List.mem_range.mpr hi)
    rw [hn] at h1
    exact h1
  · intro hll H locs ls2 g1 g2 g3 g4
    obtain ⟨e1, e2⟩ := ab_le_at hle
    refine hj (e1.trans hll) H locs ls2 g1 g2 g3 ⟨g4.1, g4.2.1, fun q hq => ?_⟩
    obtain ⟨a, w⟩ := q
    obtain ⟨v, h1, h2⟩ := ab_lv_0.mp hq
    exact g4.2.2 (a, w) (ab_lv_0.mpr ⟨v, e2 a v h1, h2⟩)
theorem ab_Qc_mono {ω : ab_W} {A : Nat → Prop} {QI QI' : Int32 → ab_M → Prop} {QL QL' : Int64 → ab_M → Prop} {QV QV' : ab_M → Prop} (hI : ∀ x μ', QI x μ' → QI' x μ') (hL : ∀ x μ', QL x μ' → QL' x μ') (hV : ∀ μ', QV μ' → QV' μ') (a : Array Value) (st : State) (o : Outcome) (t : State) : ∀ ret : Option FieldType, ab_Qc ω A ret QI QL QV a st o t → ab_Qc ω A ret QI' QL' QV' a st o t := by
  have key : va_Qi QI (ab_B ω A) A a st o t → va_Qi QI' (ab_B ω A) A a st o t := by
    rintro ⟨⟨r, u, b1, b2, b3⟩, b4⟩
    exact ⟨⟨r, u, b1, hI _ _ b2, b3⟩, b4⟩
  intro ret h
  cases ret with
  | none =>
    obtain ⟨⟨u, b1, b2, b3⟩, b4⟩ := h
    exact ⟨⟨u, b1, hV _ b2, b3⟩, b4⟩
  | some ty =>
    cases ty with
    | long =>
      obtain ⟨⟨r, u, b1, b2, b3⟩, b4⟩ := h
      exact ⟨⟨r, u, b1, hL _ _ b2, b3⟩, b4⟩
    | _ => exact key h
theorem ab_mono {l : Launch} {ω : ab_W} {md : ab_Md} {as : List Value} {μ : ab_M} {QI QI' : Int32 → ab_M → Prop} {QL QL' : Int64 → ab_M → Prop} {QV QV' : ab_M → Prop} (h : ab_Call l ω md as μ QI QL QV)
    (hI : ∀ x μ', QI x μ' → QI' x μ') (hL : ∀ x μ', QL x μ' → QL' x μ') (hV : ∀ μ', QV μ' → QV' μ') : ab_Call l ω md as μ QI' QL' QV' := by
  intro sz p e ha hc hk s m args below hf happ hP hK
  obtain ⟨n, o, h1, h2, h3, h4, h5⟩ := h sz p e ha hc hk s m args below hf happ hP hK
  exact ⟨n, o, h1, h2, h3, ab_Qc_mono hI hL hV _ _ _ _ _ h4, h5⟩
theorem ab_monoI {l : Launch} {ω : ab_W} {md : ab_Md} {as : List Value} {μ : ab_M} {Q Q' : Int32 → ab_M → Prop} (h : ab_CI l ω md as μ Q) (hI : ∀ x μ', Q x μ' → Q' x μ') : ab_CI l ω md as μ Q' := ab_mono h hI (fun _ _ h => h) (fun _ h => h)
theorem ab_monoL {l : Launch} {ω : ab_W} {md : ab_Md} {as : List Value} {μ : ab_M} {Q Q' : Int64 → ab_M → Prop} (h : ab_CL l ω md as μ Q) (hI : ∀ x μ', Q x μ' → Q' x μ') : ab_CL l ω md as μ Q' := ab_mono h (fun _ _ h => h) hI (fun _ h => h)
theorem ab_monoV {l : Launch} {ω : ab_W} {md : ab_Md} {as : List Value} {μ : ab_M} {Q Q' : ab_M → Prop} (h : ab_CV l ω md as μ Q) (hI : ∀ μ', Q μ' → Q' μ') : ab_CV l ω md as μ Q' := ab_mono h (fun _ _ h => h) (fun _ _ h => h) hI
