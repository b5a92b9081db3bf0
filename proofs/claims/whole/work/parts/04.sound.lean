/-! the abstract machine's steps are the machine's -/
section AbS
variable {p : Program} {l : Launch} {e : Env} {R : Room} {s : State} {m : MethodId} {args : Array Value} {below : List Frame} {meth : Method} {c : Code}
def ab_J (p : Program) (l : Launch) (e : Env) (R : Room) (s : State) (m : MethodId) (args : Array Value) (below : List Frame) (meth : Method) (c : Code) (ω : ab_W) (A : Nat → Prop) (nL : Nat) (cd : List ab_En) (Qt : State → Prop) (i : Nat) (ll : ab_L) (st : List Value) (μ : ab_M) : Prop :=
  ll.length = nL → ∀ (H : Heap) (locs : List Loc) (ls : Array Slot), va_P ω.2.2.1 vwCl (ab_wl ω μ) H → va_D A (ab_wl ω μ) → va_S A s.heap H locs → lv_has ls nL (ab_lv ω.1 0 ll) → W p l e R s m args below meth c H locs 0 0 Qt (F0 m (ab_bp cd i) ls (st.map (ab_cv ω.1)))
theorem ab_tsw_sp {F : Nat → Prop} {x : Int32} {d : Nat} : ∀ (ts : List Nat) (lo : Int), ab_tsw F x d lo ts → (∀ (j : Nat) (t : Nat), ts[j]? = some t → x.toInt = lo + j → F t) ∧ ((x.toInt < lo ∨ lo + ts.length ≤ x.toInt) → F d)
  | [], lo, h => ⟨fun j t e => by simp at e, fun _ => h⟩
  | t0 :: ts, lo, h => by
    by_cases hx : x.toInt = lo
    · refine ⟨fun j t e hj => ?_, fun hh => ?_⟩
      · have : j = 0 := by omega
        subst this
        simp only [List.getElem?_cons_zero, Option.some.injEq] at e
        subst e
        exact h.1 hx
      · simp only [List.length_cons] at hh
        omega
    · obtain ⟨h1, h2⟩ := ab_tsw_sp ts (lo + 1) (h.2 hx)
      refine ⟨fun j t e hj => ?_, fun hh => h2 ?_⟩
      · cases j with
        | zero => exact absurd (by omega) hx
        | succ j => exact h1 j t (by simpa using e) (by omega)
      · simp only [List.length_cons] at hh
        omega
theorem ab_lsw_sp {F : Nat → Prop} {x : Int32} {d : Nat} {df : Int} {pc : Int} {bp : Nat → Nat} (hd : pc + df = (bp d : Int)) : ∀ (ps : List (Int × Int)) (ts : List Nat), ps.length = ts.length → (ps.zip ts).all (fun q => decide (pc + q.1.2 = (bp q.2 : Int))) = true → ab_lsw F x d ps ts → ∃ t, F t ∧ pc + Op.lookupswitch.offset ps df x.toInt = (bp t : Int)
  | [], ts, _, _, h => ⟨d, h, hd⟩
  | (k, o) :: r, [], hl, _, _ => by simp at hl
  | (k, o) :: r, t :: ts, hl, ha, h => by
    simp only [List.zip_cons_cons, List.all_cons, Bool.and_eq_true, decide_eq_true_eq] at ha
    rw [Op.lookupswitch.offset_cons]
    by_cases hx : x.toInt = k
    · exact ⟨t, h.1 hx, by rw [if_pos (by first | exact hx | exact hx.symm)]; exact ha.1⟩
    · rw [if_neg (by first | exact hx | exact fun q => hx q.symm)]
      exact ab_lsw_sp hd r ts (by simpa using hl) ha.2 (h.2 hx)
end AbS
