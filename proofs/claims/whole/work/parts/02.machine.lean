/-! THE ABSTRACT MACHINE. A fixed world of cells; memory = ints (and booleans) and longs by place and index; a reference is a place. -/
abbrev ab_M : Type := (Nat → Nat → Int32) × (Nat → Nat → Int64)
def ab_mi (μ : ab_M) (k j : Nat) (x : Int32) : ab_M := (fun a b => if a = k ∧ b = j then x else μ.1 a b, μ.2)
def ab_mj (μ : ab_M) (k j : Nat) (x : Int64) : ab_M := (μ.1, fun a b => if a = k ∧ b = j then x else μ.2 a b)
def ab_mr (μ : ab_M) (k : Nat) (f : Nat → Int32) : ab_M := (fun a b => if a = k then f b else μ.1 a b, μ.2)
/-- a slot of an object: a place, or a number (0 int, 1 long, 2 boolean) -/
abbrev ab_Sl : Type := Nat ⊕ Nat
/-- a cell: an array (0 int, 1 long, 2 boolean; its length), or an object (its class, its slots) -/
abbrev ab_Sh : Type := (Nat × Nat) ⊕ (Nat × List ab_Sl)
abbrev ab_W : Type := (Nat → Nat) × (ClassId × ClassId × ClassId) × va_G × List ab_Sh
abbrev ab_L : Type := List (Option Value)
/-- a method: name, code, locals, answer, room -/
abbrev ab_Md : Type := MethodName × ByteArray × Nat × Option FieldType × Room
/-- an instruction: place in the code, length, itself; targets or hints; class, slot, hint; constants; the method that it calls and how many arguments -/
abbrev ab_En : Type := Nat × Nat × Instr × List Nat × (Nat × Nat × Nat) × Int32 × Int64 × Option (ab_Md × Nat)
def ab_nth {α : Type} : List α → Nat → Option α
  | [], _ => none
  | a :: _, 0 => some a
  | _ :: l, n + 1 => ab_nth l n
theorem ab_nth_eq {α : Type} : ∀ (l : List α) (n : Nat), ab_nth l n = l[n]?
  | [], n => by simp [ab_nth]
  | a :: l, 0 => by simp [ab_nth]
  | a :: l, n + 1 => by simp [ab_nth, ab_nth_eq l n]
def ab_cv (ad : Nat → Nat) : Value → Value
  | .ref k => .ref (ad k)
  | v => v
theorem ab_cv_cat (ad : Nat → Nat) (v : Value) : (ab_cv ad v).category = v.category := by cases v <;> rfl
def ab_sv (ω : ab_W) (μ : ab_M) (k j : Nat) : ab_Sl → Value
  | .inl p => .ref (ω.1 p)
  | .inr 1 => .long (μ.2 k j)
  | .inr _ => .int (μ.1 k j)
def ab_ct (ω : ab_W) (μ : ab_M) (k : Nat) : ab_Sh → va_E
  | .inl (0, n) => .inl (ω.2.1.1, n, .inl (μ.1 k))
  | .inl (1, n) => .inl (ω.2.1.2.1, n, .inr (.inl (μ.2 k)))
  | .inl (_, n) => .inl (ω.2.1.2.2, n, .inl (μ.1 k))
  | .inr (ci, sl) => .inr (ci, sl.mapIdx (fun j z => ab_sv ω μ k j z))
def ab_wl (ω : ab_W) (μ : ab_M) : va_W := ω.2.2.2.mapIdx (fun k h => (ω.1 k, ab_ct ω μ k h))
abbrev ab_tys (ω : ab_W) : List (ClassId × FieldType) := [(ω.2.1.1, .int), (ω.2.1.2.1, .long), (ω.2.1.2.2, .boolean)]
theorem ab_wl_at {ω : ab_W} {μ : ab_M} {k : Nat} {h : ab_Sh} (e : ω.2.2.2[k]? = some h) : (ab_wl ω μ)[k]? = some (ω.1 k, ab_ct ω μ k h) := by
  simp [ab_wl, List.getElem?_mapIdx, e]
theorem ab_wl_of {ω : ab_W} {μ : ab_M} {k : Nat} {q : Nat × va_E} (e : (ab_wl ω μ)[k]? = some q) : ∃ h, ω.2.2.2[k]? = some h ∧ q = (ω.1 k, ab_ct ω μ k h) := by
  simp only [ab_wl, List.getElem?_mapIdx, Option.map_eq_some_iff] at e
  obtain ⟨h, h1, h2⟩ := e
  exact ⟨h, h1, h2.symm⟩
/-- the world behind a change of one place -/
theorem ab_wl_set {ω : ab_W} {μ μ' : ab_M} {k : Nat} {h : ab_Sh} (e : ω.2.2.2[k]? = some h) (h1 : ∀ a, a ≠ k → μ'.1 a = μ.1 a) (h2 : ∀ a, a ≠ k → μ'.2 a = μ.2 a) :
    (ab_wl ω μ).set k (ω.1 k, ab_ct ω μ' k h) = ab_wl ω μ' := by
  apply List.ext_getElem?
  intro a
  rw [List.getElem?_set]
  by_cases hak : k = a
  · subst hak
    have hl : k < (ab_wl ω μ).length := by
      have := (List.getElem?_eq_some_iff.mp (ab_wl_at (μ := μ) e)).1
      exact this
    simp [hl, ab_wl_at e]
  · rw [if_neg hak]
    simp only [ab_wl, List.getElem?_mapIdx]
    cases hs : ω.2.2.2[a]? with
    | none => rfl
    | some h3 =>
      have e1 := h1 a (Ne.symm hak)
      have e2 := h2 a (Ne.symm hak)
      have e3 : ab_ct ω μ a h3 = ab_ct ω μ' a h3 := by
        match h3 with
        | .inl (0, n) => simp [ab_ct, e1]
        | .inl (1, n) => simp [ab_ct, e2]
        | .inl (n + 2, _) => simp [ab_ct, e1]
        | .inr (ci, sl) =>
          have e4 : (fun j z => ab_sv ω μ a j z) = (fun j z => ab_sv ω μ' a j z) := by
            funext j z
            unfold ab_sv
            rw [e1, e2]
          simp only [ab_ct]
          rw [e4]
      simp [e3]
theorem ab_mi_ne {μ : ab_M} {k j : Nat} {x : Int32} : ∀ a, a ≠ k → (ab_mi μ k j x).1 a = μ.1 a := by
  intro a h
  funext b
  simp [ab_mi, h]
theorem ab_mj_ne {μ : ab_M} {k j : Nat} {x : Int64} : ∀ a, a ≠ k → (ab_mj μ k j x).2 a = μ.2 a := by
  intro a h
  funext b
  simp [ab_mj, h]
theorem ab_mr_ne {μ : ab_M} {k : Nat} {f : Nat → Int32} : ∀ a, a ≠ k → (ab_mr μ k f).1 a = μ.1 a := by
  intro a h
  funext b
  simp [ab_mr, h]
/-! locals -/
def ab_lv (ad : Nat → Nat) : Nat → ab_L → List (Nat × Value)
  | _, [] => []
  | i, none :: r => ab_lv ad (i + 1) r
  | i, some v :: r => (i, ab_cv ad v) :: ab_lv ad (i + 1) r
theorem ab_lv_in {ad : Nat → Nat} {j : Nat} {w : Value} : ∀ (ll : ab_L) (n : Nat), (j, w) ∈ ab_lv ad n ll ↔ ∃ (k : Nat) (v : Value), j = n + k ∧ ll[k]? = some (some v) ∧ w = ab_cv ad v := by
  intro ll
  induction ll with
  | nil => intro n; simp [ab_lv]
  | cons a r ih =>
    intro n
    cases a with
    | none =>
      simp only [ab_lv, ih]
      constructor
      · rintro ⟨k, v, h1, h2, h3⟩
        exact ⟨k + 1, v, by omega, by simpa using h2, h3⟩
      · rintro ⟨k, v, h1, h2, h3⟩
        cases k with
        | zero => simp at h2
        | succ k => exact ⟨k, v, by omega, by simpa using h2, h3⟩
    | some x =>
      simp only [ab_lv, List.mem_cons, ih, Prod.mk.injEq]
      constructor
      · rintro (⟨h1, h2⟩ | ⟨k, v, h1, h2, h3⟩)
        · exact ⟨0, x, by omega, by simp, h2⟩
        · exact ⟨k + 1, v, by omega, by simpa using h2, h3⟩
      · rintro ⟨k, v, h1, h2, h3⟩
        cases k with
        | zero =>
          simp only [List.getElem?_cons_zero, Option.some.injEq] at h2
          subst h2
          exact Or.inl ⟨by omega, h3⟩
        | succ k => exact Or.inr ⟨k, v, by omega, by simpa using h2, h3⟩
theorem ab_lv_0 {ad : Nat → Nat} {j : Nat} {w : Value} {ll : ab_L} : (j, w) ∈ ab_lv ad 0 ll ↔ ∃ v : Value, ll[j]? = some (some v) ∧ w = ab_cv ad v := by
  rw [ab_lv_in]
  constructor
  · rintro ⟨k, v, h1, h2, h3⟩
    obtain rfl : j = k := by omega
    exact ⟨v, h2, h3⟩
  · rintro ⟨v, h2, h3⟩
    exact ⟨j, v, by omega, h2, h3⟩
theorem ab_lv_at {ad : Nat → Nat} {ls : Array Slot} {nL : Nat} {ll : ab_L} (h : lv_has ls nL (ab_lv ad 0 ll)) {k : Nat} {v : Value} (e : ab_nth ll k = some (some v)) : ls[k]? = some (.val (ab_cv ad v)) :=
  h.2.2 (k, ab_cv ad v) (ab_lv_0.mpr ⟨v, by rw [← ab_nth_eq]; exact e, rfl⟩)
/-- the local ahead isn't a long -/
def ab_pv (ll : ab_L) : Nat → Bool
  | 0 => true
  | k + 1 => match ab_nth ll k with
    | some (some (.long _)) => false
    | some (some (.double _)) => false
    | _ => true
theorem ab_pv_of {ll : ab_L} {k j : Nat} {v : Value} (h : ab_pv ll k = true) (hj : j + 1 = k) (e : ll[j]? = some (some v)) : ¬ v.category = 2 := by
  subst hj
  simp only [ab_pv, ab_nth_eq, e] at h
  cases v <;> simp_all [Value.category]
theorem ab_lv_set {ad : Nat → Nat} {ls : Array Slot} {nL k : Nat} {ll : ab_L} {v : Value} (hp : ab_pv ll k = true)
    (h : lv_has ls nL ((k, ab_cv ad v) :: (ab_lv ad 0 ll).filter (fun q => !(q.1 == k) && !(q.1 + 1 == k && q.2.category == 2)))) : lv_has ls nL (ab_lv ad 0 (ll.set k (some v))) := by
  refine ⟨h.1, h.2.1, fun q hq => ?_⟩
  obtain ⟨j, w⟩ := q
  obtain ⟨u, h1, h2⟩ := ab_lv_0.mp hq
  rw [List.getElem?_set] at h1
  by_cases hk : k = j
  · subst hk
    rw [if_pos rfl] at h1
    split at h1
    · simp only [Option.some.injEq] at h1
      subst h1
      exact h.2.2 (k, w) (by rw [h2]; exact List.mem_cons_self)
    · cases h1
  · rw [if_neg hk] at h1
    refine h.2.2 (j, w) (List.mem_cons_of_mem _ (List.mem_filter.mpr ⟨ab_lv_0.mpr ⟨u, h1, h2⟩, ?_⟩))
    have hk' : ¬ j = k := fun q => hk q.symm
    by_cases hj : j + 1 = k
    · have := ab_pv_of hp hj h1
      simp [hk', h2, ab_cv_cat, this]
    · simp [hk', hj]
theorem ab_lv_setL {ad : Nat → Nat} {ls : Array Slot} {nL k : Nat} {ll : ab_L} {v : Value} (hp : ab_pv ll k = true)
    (h : lv_has ls nL ((k, ab_cv ad v) :: (ab_lv ad 0 ll).filter (fun q => !(q.1 == k) && (!(q.1 == k + 1) && !(q.1 + 1 == k && q.2.category == 2))))) : lv_has ls nL (ab_lv ad 0 ((ll.set k (some v)).set (k + 1) none)) := by
  refine ⟨h.1, h.2.1, fun q hq => ?_⟩
  obtain ⟨j, w⟩ := q
  obtain ⟨u, h1, h2⟩ := ab_lv_0.mp hq
  rw [List.getElem?_set] at h1
  by_cases hk1 : k + 1 = j
  · subst hk1
    rw [if_pos rfl] at h1
    split at h1 <;> cases h1
  · rw [if_neg hk1, List.getElem?_set] at h1
    by_cases hk : k = j
    · subst hk
      rw [if_pos rfl] at h1
      split at h1
      · simp only [Option.some.injEq] at h1
        subst h1
        exact h.2.2 (k, w) (by rw [h2]; exact List.mem_cons_self)
      · cases h1
    · rw [if_neg hk] at h1
      refine h.2.2 (j, w) (List.mem_cons_of_mem _ (List.mem_filter.mpr ⟨ab_lv_0.mpr ⟨u, h1, h2⟩, ?_⟩))
      have hk' : ¬ j = k := fun q => hk q.symm
      have hk1' : ¬ j = k + 1 := fun q => hk1 q.symm
      by_cases hj : j + 1 = k
      · have := ab_pv_of hp hj h1
        simp [hk', hk1', h2, ab_cv_cat, this]
      · simp [hk', hk1', hj]
/-- locals of which less is known -/
def ab_le : ab_L → ab_L → Prop
  | [], [] => True
  | none :: r, _ :: r' => ab_le r r'
  | some v :: r, some v' :: r' => v = v' ∧ ab_le r r'
  | _, _ => False
theorem ab_le_at : ∀ {l l' : ab_L}, ab_le l l' → l.length = l'.length ∧ ∀ (j : Nat) (v : Value), l[j]? = some (some v) → l'[j]? = some (some v)
  | [], [], _ => ⟨rfl, fun j v h => by simp at h⟩
  | none :: r, a :: r', h => by
    obtain ⟨h1, h2⟩ := ab_le_at (l := r) (l' := r') h
    refine ⟨by simp [h1], fun j v e => ?_⟩
    cases j with
    | zero => simp at e
    | succ j => simpa using h2 j v (by simpa using e)
  | some v :: r, some v' :: r', h => by
    obtain ⟨h0, h⟩ := h
    obtain ⟨h1, h2⟩ := ab_le_at (l := r) (l' := r') h
    refine ⟨by simp [h1], fun j v e => ?_⟩
    cases j with
    | zero => subst h0; simpa using e
    | succ j => simpa using h2 j v (by simpa using e)
  | [], _ :: _, h => h.elim
  | none :: _, [], h => h.elim
  | some _ :: _, [], h => h.elim
  | some _ :: _, none :: _, h => h.elim
/-- arguments off the stack: n of them, last one first -/
def ab_pop : Nat → List Value → List Value → Option (List Value × List Value)
  | 0, acc, st => some (acc, st)
  | n + 1, acc, v :: st => ab_pop n (v :: acc) st
  | _ + 1, _, [] => none
theorem ab_pop_eq : ∀ (n : Nat) (acc st as rest : List Value), ab_pop n acc st = some (as, rest) → ∃ xs : List Value, xs.length = n ∧ as = xs.reverse ++ acc ∧ st = xs ++ rest
  | 0, acc, st, as, rest, h => by
    simp only [ab_pop, Option.some.injEq, Prod.mk.injEq] at h
    exact ⟨[], rfl, by simp [h.1], by simp [h.2]⟩
  | n + 1, acc, v :: st, as, rest, h => by
    obtain ⟨xs, h1, h2, h3⟩ := ab_pop_eq n (v :: acc) st as rest h
    exact ⟨v :: xs, by simp [h1], by simp [h2], by simp [h3]⟩
  | _ + 1, _, [], _, _, h => by simp [ab_pop] at h
def ab_small : List Value → Nat → Bool
  | [], _ => true
  | .int _ :: r, n + 1 => ab_small r n
  | .ref _ :: r, n + 1 => ab_small r n
  | .long _ :: r, n + 2 => ab_small r n
  | _, _ => false
theorem ab_small_sum (ad : Nat → Nat) : ∀ (st : List Value) (n : Nat), ab_small st n = true → ((st.map (ab_cv ad)).map fun v => v.category).sum ≤ n
  | [], n, _ => by simp
  | .int _ :: r, n + 1, h => by
    have := ab_small_sum ad r n h
    simp only [List.map_cons, List.sum_cons, ab_cv]
    show 1 + _ ≤ _
    omega
  | .ref _ :: r, n + 1, h => by
    have := ab_small_sum ad r n h
    simp only [List.map_cons, List.sum_cons, ab_cv]
    show 1 + _ ≤ _
    omega
  | .long _ :: r, n + 2, h => by
    have := ab_small_sum ad r n h
    simp only [List.map_cons, List.sum_cons, ab_cv]
    show 2 + _ ≤ _
    omega
  | .int _ :: _, 0, h => by simp [ab_small] at h
  | .ref _ :: _, 0, h => by simp [ab_small] at h
  | .long _ :: _, 0, h => by simp [ab_small] at h
  | .long _ :: _, 1, h => by simp [ab_small] at h
  | .float _ :: _, _, h => by simp [ab_small] at h
  | .double _ :: _, _, h => by simp [ab_small] at h
  | .null :: _, _, h => by simp [ab_small] at h
  | .retAddr _ :: _, _, h => by simp [ab_small] at h
