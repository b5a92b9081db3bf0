/-! calls by contract, in the abstract machine's words -/
def ab_T : List Cond := lw_tbl.filter goodWord
abbrev ab_ws (md : ab_Md) : List Cond := .code md.1 md.2.1 md.2.2.1 md.2.2.2.1 :: ab_T
def ab_B (ω : ab_W) (A : Nat → Prop) (μ : ab_M) (t : State) : Prop := va_P ω.2.2.1 vwCl (ab_wl ω μ) t.heap ∧ va_K ω.2.2.1 vwCl (ab_tys ω) t ∧ va_D A (ab_wl ω μ)
def ab_Qc (ω : ab_W) (A : Nat → Prop) (ret : Option FieldType) (QI : Int32 → ab_M → Prop) (QL : Int64 → ab_M → Prop) (QV : ab_M → Prop) : Array Value → State → Outcome → State → Prop := match ret with
  | none => va_Qv QV (ab_B ω A) A
  | some .long => va_Ql QL (ab_B ω A) A
  | some _ => va_Qi QI (ab_B ω A) A
def ab_Pr (ω : ab_W) (as : List Value) (μ : ab_M) (sz : Nat) : Array Value → State → Prop := va_Pc (as.map (ab_cv ω.1)) (fun U => U.heap.size = sz ∧ va_P ω.2.2.1 vwCl (ab_wl ω μ) U.heap ∧ va_K ω.2.2.1 vwCl (ab_tys ω) U ∧ va_D (fun _ => True) (ab_wl ω μ))
/-- md, called with as in the memory μ, returns with QI (an int), QL (a long), QV (nothing) -/
def ab_Call (l : Launch) (ω : ab_W) (md : ab_Md) (as : List Value) (μ : ab_M) (QI : Int32 → ab_M → Prop) (QL : Int64 → ab_M → Prop) (QV : ab_M → Prop) : Prop :=
  ∀ sz : Nat, Met l md.1 (ab_ws md) md.2.2.2.2 (ab_Pr ω as μ sz) (ab_Qc ω (va_A (ab_wl ω μ) sz) md.2.2.2.1 QI QL QV) 0 0 (va_A (ab_wl ω μ) sz)
abbrev ab_CI (l : Launch) (ω : ab_W) (md : ab_Md) (as : List Value) (μ : ab_M) (Q : Int32 → ab_M → Prop) : Prop := ab_Call l ω md as μ Q (fun _ _ => False) (fun _ => False)
abbrev ab_CL (l : Launch) (ω : ab_W) (md : ab_Md) (as : List Value) (μ : ab_M) (Q : Int64 → ab_M → Prop) : Prop := ab_Call l ω md as μ (fun _ _ => False) Q (fun _ => False)
abbrev ab_CV (l : Launch) (ω : ab_W) (md : ab_Md) (as : List Value) (μ : ab_M) (Q : ab_M → Prop) : Prop := ab_Call l ω md as μ (fun _ _ => False) (fun _ _ => False) Q
/-! one step -/
def ab_gi (ll : ab_L) (k : Nat) (F : Int32 → Prop) : Prop := match ab_nth ll k with
  | some (some (.int x)) => F x
  | _ => False
def ab_gl (ll : ab_L) (k : Nat) (F : Int64 → Prop) : Prop := match ab_nth ll k with
  | some (some (.long x)) => F x
  | _ => False
def ab_ga (ll : ab_L) (k : Nat) (F : Nat → Prop) : Prop := match ab_nth ll k with
  | some (some (.ref x)) => F x
  | _ => False
def ab_is (ll : ab_L) (k : Nat) (st : List Value) (F : ab_L → List Value → Prop) : Prop := match st with
  | .int x :: st' => match ab_pv ll k with
    | true => F (ll.set k (some (.int x))) st'
    | false => False
  | _ => False
def ab_lt (ll : ab_L) (k : Nat) (st : List Value) (F : ab_L → List Value → Prop) : Prop := match st with
  | .long x :: st' => match ab_pv ll k with
    | true => F ((ll.set k (some (.long x))).set (k + 1) none) st'
    | false => False
  | _ => False
def ab_i2 (st : List Value) (F : Int32 → Int32 → List Value → Prop) : Prop := match st with
  | .int y :: .int x :: st' => F x y st'
  | _ => False
def ab_l2 (st : List Value) (F : Int64 → Int64 → List Value → Prop) : Prop := match st with
  | .long y :: .long x :: st' => F x y st'
  | _ => False
def ab_ci (cond : Jvm.ClassFile.Cond) (x y : Int32) (A B : Prop) : Prop := match cond with
  | .eq => (x = y → A) ∧ (¬ x = y → B)
  | .ne => (¬ x = y → A) ∧ (x = y → B)
  | .lt => (x < y → A) ∧ (¬ x < y → B)
  | .ge => (y ≤ x → A) ∧ (¬ y ≤ x → B)
  | .gt => (y < x → A) ∧ (¬ y < x → B)
  | .le => (x ≤ y → A) ∧ (¬ x ≤ y → B)
def ab_tsw (F : Nat → Prop) (x : Int32) (d : Nat) : Int → List Nat → Prop
  | _, [] => F d
  | lo, t :: ts => (x.toInt = lo → F t) ∧ (¬ x.toInt = lo → ab_tsw F x d (lo + 1) ts)
def ab_lsw (F : Nat → Prop) (x : Int32) (d : Nat) : List (Int × Int) → List Nat → Prop
  | [], _ => F d
  | (k, _) :: r, t :: ts => (x.toInt = k → F t) ∧ (¬ x.toInt = k → ab_lsw F x d r ts)
  | _ :: _, [] => False
def ab_call (l : Launch) (ω : ab_W) (md : ab_Md) (as : List Value) (μ : ab_M) (rest : List Value) (F : List Value → ab_M → Prop) : Prop := match md.2.2.2.1 with
  | none => ab_CV l ω md as μ (fun μ' => F rest μ')
  | some .long => ab_CL l ω md as μ (fun x μ' => F (.long x :: rest) μ')
  | some .int => ab_CI l ω md as μ (fun x μ' => F (.int x :: rest) μ')
  | some .boolean => ab_CI l ω md as μ (fun x μ' => F (.int x :: rest) μ')
  | some _ => False
def ab_in (l : Launch) (ω : ab_W) (sh : List ab_Sh) (ret : Option FieldType) (QI : Int32 → ab_M → Prop) (QL : Int64 → ab_M → Prop) (QV : ab_M → Prop) (K : Nat → ab_L → List Value → ab_M → Prop) (i : Nat) (ll : ab_L) (st : List Value) (μ : ab_M) (ts : List Nat) (fa fb : Nat) (k32 : Int32) (k64 : Int64) (cx : Option (ab_Md × Nat)) : Instr → Prop
  | .iconst _ => K (i + 1) ll (.int k32 :: st) μ
  | .bipush _ => K (i + 1) ll (.int k32 :: st) μ
  | .sipush _ => K (i + 1) ll (.int k32 :: st) μ
  | .lconst _ => K (i + 1) ll (.long k64 :: st) μ
  | .ldc2_w _ => K (i + 1) ll (.long k64 :: st) μ
  | .iload_n n => ab_gi ll n.val (fun x => K (i + 1) ll (.int x :: st) μ)
  | .iload n => ab_gi ll n (fun x => K (i + 1) ll (.int x :: st) μ)
  | .lload_n n => ab_gl ll n.val (fun x => K (i + 1) ll (.long x :: st) μ)
  | .lload n => ab_gl ll n (fun x => K (i + 1) ll (.long x :: st) μ)
  | .aload_n n => ab_ga ll n.val (fun x => K (i + 1) ll (.ref x :: st) μ)
  | .aload n => ab_ga ll n (fun x => K (i + 1) ll (.ref x :: st) μ)
  | .istore_n n => ab_is ll n.val st (fun ll' st' => K (i + 1) ll' st' μ)
  | .istore n => ab_is ll n st (fun ll' st' => K (i + 1) ll' st' μ)
  | .lstore_n n => ab_lt ll n.val st (fun ll' st' => K (i + 1) ll' st' μ)
  | .lstore n => ab_lt ll n st (fun ll' st' => K (i + 1) ll' st' μ)
  | .iinc n _ => ab_gi ll n (fun x => match ab_pv ll n with
    | true => K (i + 1) (ll.set n (some (.int (x + k32)))) st μ
    | false => False)
  | .iadd => ab_i2 st (fun x y st' => K (i + 1) ll (.int (x + y) :: st') μ)
  | .isub => ab_i2 st (fun x y st' => K (i + 1) ll (.int (x - y) :: st') μ)
  | .imul => ab_i2 st (fun x y st' => K (i + 1) ll (.int (x * y) :: st') μ)
  | .iand => ab_i2 st (fun x y st' => K (i + 1) ll (.int (x &&& y) :: st') μ)
  | .ior => ab_i2 st (fun x y st' => K (i + 1) ll (.int (x ||| y) :: st') μ)
  | .ishl => ab_i2 st (fun x y st' => K (i + 1) ll (.int (x <<< (y &&& 31)) :: st') μ)
  | .ishr => ab_i2 st (fun x y st' => K (i + 1) ll (.int (x >>> (y &&& 31)) :: st') μ)
  | .ladd => ab_l2 st (fun x y st' => K (i + 1) ll (.long (x + y) :: st') μ)
  | .lsub => ab_l2 st (fun x y st' => K (i + 1) ll (.long (x - y) :: st') μ)
  | .land => ab_l2 st (fun x y st' => K (i + 1) ll (.long (x &&& y) :: st') μ)
  | .lor => ab_l2 st (fun x y st' => K (i + 1) ll (.long (x ||| y) :: st') μ)
  | .lxor => ab_l2 st (fun x y st' => K (i + 1) ll (.long (x ^^^ y) :: st') μ)
  | .lcmp => ab_l2 st (fun x y st' => K (i + 1) ll (.int (lg_cmp x y) :: st') μ)
  | .lneg => match st with
    | .long x :: st' => K (i + 1) ll (.long (-x) :: st') μ
    | _ => False
  | .lushr => match st with
    | .int y :: .long x :: st' => K (i + 1) ll (.long ((x.toUInt64 >>> (y.toInt64.toUInt64 &&& Int64.toUInt64 63)).toInt64) :: st') μ
    | _ => False
  | .lshl => match st with
    | .int y :: .long x :: st' => K (i + 1) ll (.long (x <<< (y.toInt64 &&& 63)) :: st') μ
    | _ => False
  | .l2i => match st with
    | .long x :: st' => K (i + 1) ll (.int x.toInt32 :: st') μ
    | _ => False
  | .dup => match st with
    | .ref x :: st' => K (i + 1) ll (.ref x :: .ref x :: st') μ
    | .int x :: st' => K (i + 1) ll (.int x :: .int x :: st') μ
    | _ => False
  | .dup_x1 => match st with
    | .int x :: .ref y :: st' => K (i + 1) ll (.int x :: .ref y :: .int x :: st') μ
    | _ => False
  | .dup2 => match st with
    | .int x :: .ref y :: st' => K (i + 1) ll (.int x :: .ref y :: .int x :: .ref y :: st') μ
    | _ => False
  | .if_icmp cond _ => match ts with
    | t :: _ => ab_i2 st (fun x y st' => ab_ci cond x y (K t ll st' μ) (K (i + 1) ll st' μ))
    | _ => False
  | .ifCond cond _ => match ts with
    | t :: _ => match st with
      | .int x :: st' => ab_ci cond x 0 (K t ll st' μ) (K (i + 1) ll st' μ)
      | _ => False
    | _ => False
  | .goto _ => match ts with
    | t :: _ => K t ll st μ
    | _ => False
  | .iaload => match st with
    | .int j :: .ref a :: st' => match ab_nth sh a with
      | some (.inl (0, n)) => vp_in j n ∧ K (i + 1) ll (.int (μ.1 a j.toNatClampNeg) :: st') μ
      | _ => False
    | _ => False
  | .laload => match st with
    | .int j :: .ref a :: st' => match ab_nth sh a with
      | some (.inl (1, n)) => vp_in j n ∧ K (i + 1) ll (.long (μ.2 a j.toNatClampNeg) :: st') μ
      | _ => False
    | _ => False
  | .baload => match st with
    | .int j :: .ref a :: st' => match ab_nth sh a with
      | some (.inl (2, n)) => vp_in j n ∧ K (i + 1) ll (.int (μ.1 a j.toNatClampNeg) :: st') μ
      | _ => False
    | _ => False
  | .iastore => match st with
    | .int x :: .int j :: .ref a :: st' => match ab_nth sh a with
      | some (.inl (0, n)) => vp_in j n ∧ K (i + 1) ll st' (ab_mi μ a j.toNatClampNeg x)
      | _ => False
    | _ => False
  | .lastore => match st with
    | .long x :: .int j :: .ref a :: st' => match ab_nth sh a with
      | some (.inl (1, n)) => vp_in j n ∧ K (i + 1) ll st' (ab_mj μ a j.toNatClampNeg x)
      | _ => False
    | _ => False
  | .bastore => match st with
    | .int x :: .int j :: .ref a :: st' => match ab_nth sh a with
      | some (.inl (2, n)) => vp_in j n ∧ (x = 0 ∨ x = 1) ∧ K (i + 1) ll st' (ab_mi μ a j.toNatClampNeg x)
      | _ => False
    | _ => False
  | .getfield _ => match st with
    | .ref a :: st' => match ab_nth sh a with
      | some (.inr (ci, sl)) => match Nat.beq ci fa, ab_nth sl fb with
        | true, some (.inl q) => K (i + 1) ll (.ref q :: st') μ
        | true, some (.inr 0) => K (i + 1) ll (.int (μ.1 a fb) :: st') μ
        | true, some (.inr 1) => K (i + 1) ll (.long (μ.2 a fb) :: st') μ
        | true, some (.inr 2) => K (i + 1) ll (.int (μ.1 a fb) :: st') μ
        | _, _ => False
      | _ => False
    | _ => False
  | .putfield _ => match st with
    | .int x :: .ref a :: st' => match ab_nth sh a with
      | some (.inr (ci, sl)) => match Nat.beq ci fa, ab_nth sl fb, ts with
        | true, some (.inr 0), [0] => K (i + 1) ll st' (ab_mi μ a fb x)
        | true, some (.inr 2), [2] => (x = 0 ∨ x = 1) ∧ K (i + 1) ll st' (ab_mi μ a fb x)
        | _, _, _ => False
      | _ => False
    | .long x :: .ref a :: st' => match ab_nth sh a with
      | some (.inr (ci, sl)) => match Nat.beq ci fa, ab_nth sl fb, ts with
        | true, some (.inr 1), [1] => K (i + 1) ll st' (ab_mj μ a fb x)
        | _, _, _ => False
      | _ => False
    | _ => False
  | .invokevirtual _ => match cx with
    | some (md, n) => match ab_pop n [] st with
      | some (as, .ref a :: rest) => match ab_nth sh a, ab_small rest 8 with
        | some (.inr (ci, _)), true => match Nat.beq ci fa with
          | true => ab_call l ω md (.ref a :: as) μ rest (fun st' μ' => K (i + 1) ll st' μ')
          | false => False
        | _, _ => False
      | _ => False
    | none => False
  | .invokestatic _ => match cx with
    | some (md, n) => match ab_pop n [] st with
      | some (as, rest) => match ab_small rest 8 with
        | true => ab_call l ω md as μ rest (fun st' μ' => K (i + 1) ll st' μ')
        | false => False
      | _ => False
    | none => match st with
      | .int n :: .int dp :: .ref b :: .int sp :: .ref a :: rest => match ab_nth sh a, ab_nth sh b, ab_small rest 8 with
        | some (.inl (0, n0)), some (.inl (0, n1)), true => (¬ sp < 0) ∧ (¬ dp < 0) ∧ (¬ n < 0) ∧ sp.toNatClampNeg + n.toNatClampNeg ≤ n0 ∧ dp.toNatClampNeg + n.toNatClampNeg ≤ n1 ∧ K (i + 1) ll rest (ab_mr μ b (va_cpy (μ.1 a) (μ.1 b) sp.toNatClampNeg dp.toNatClampNeg n.toNatClampNeg))
        | _, _, _ => False
      | _ => False
  | .tableswitch _ lo _ _ => match ts, st with
    | d :: ts', .int x :: st' => ab_tsw (fun t => K t ll st' μ) x d lo ts'
    | _, _ => False
  | .lookupswitch _ ps => match ts, st with
    | d :: ts', .int x :: st' => ab_lsw (fun t => K t ll st' μ) x d ps.toList ts'
    | _, _ => False
  | .ireturn => match st, ret with
    | [.int x], some .int => QI x μ
    | [.int x], some .boolean => (x = 0 ∨ x = 1) ∧ QI x μ
    | _, _ => False
  | .lreturn => match st, ret with
    | [.long x], some .long => QL x μ
    | _, _ => False
  | .return_ => match st, ret with
    | [], none => QV μ
    | _, _ => False
  | _ => False
def ab_wp (l : Launch) (ω : ab_W) (sh : List ab_Sh) (ret : Option FieldType) (cd : List ab_En) (QI : Int32 → ab_M → Prop) (QL : Int64 → ab_M → Prop) (QV : ab_M → Prop) (K : Nat → ab_L → List Value → ab_M → Prop) (i : Nat) (ll : ab_L) (st : List Value) (μ : ab_M) : Prop :=
  match ab_nth cd i with
  | none => False
  | some (_, _, ins, ts, (fa, fb, _), k32, k64, cx) => ab_in l ω sh ret QI QL QV K i ll st μ ts fa fb k32 k64 cx ins
/-! what a program decides of a method's code -/
def ab_bp (cd : List ab_En) (i : Nat) : Nat := match ab_nth cd i with
  | some e => e.1
  | none => 0
def ab_tb (h : Nat) (w : Cond) : Bool := decide (lw_tbl[h]? = some w) && goodWord w
def ab_cks (own : String) (index : Nat) (R : Room) (ts : List Nat) (md : ab_Md) (n : Nat) : Bool := match ts with
  | [h0, h1, h2, h3] => ab_tb h0 (.methodLink own index md.1) && ab_tb h1 (.initialized md.1.cls) && ab_tb h2 (.code md.1 md.2.1 md.2.2.1 md.2.2.2.1) && decide (md.1.cls ≠ "java/lang/invoke/MethodHandle") && decide (md.1.cls ≠ "java/lang/invoke/VarHandle") && decide ((parseMethodDescriptor md.1.desc).map (fun d => d.parameters.length) = some n) && decide (md.2.2.2.2.frames + 1 ≤ R.frames) && decide (8 + (md.2.2.1 + 11) + md.2.2.2.2.locals ≤ R.locals) && decide (md.2.2.2.2.cells = 0) && decide (md.2.2.2.2.slots = 0) && decide (h3 = 0)
  | _ => false
def ab_ck (own : String) (cc : ByteArray) (nL : Nat) (R : Room) (cd : List ab_En) (i : Nat) (pc len : Nat) (ts : List Nat) (fx : Nat × Nat × Nat) (k32 : Int32) (k64 : Int64) (cx : Option (ab_Md × Nat)) (ins : Instr) : Bool :=
  decide (decode cc pc = .ok (ins, len)) && (match ins with
  | .iconst n => decide (len = 1) && decide (ab_bp cd (i + 1) = pc + 1) && decide (Int32.ofInt n = k32)
  | .bipush n => decide (len = 2) && decide (ab_bp cd (i + 1) = pc + 2) && decide ((Int8.ofInt n).toInt32 = k32)
  | .sipush n => decide (len = 3) && decide (ab_bp cd (i + 1) = pc + 3) && decide ((Int16.ofInt n).toInt32 = k32)
  | .lconst n => decide (len = 1) && decide (ab_bp cd (i + 1) = pc + 1) && decide (Int64.ofNat (n : Nat) = k64)
  | .ldc2_w n => decide (len = 3) && decide (ab_bp cd (i + 1) = pc + 3) && ab_tb fx.2.2 (.constantLong own n k64)
  | .iload_n _ | .lload_n _ | .aload_n _ => decide (len = 1) && decide (ab_bp cd (i + 1) = pc + 1)
  | .iload _ | .lload _ | .aload _ => decide (len = 2) && decide (ab_bp cd (i + 1) = pc + 2)
  | .istore_n n => decide (len = 1) && decide (ab_bp cd (i + 1) = pc + 1) && decide (n.val < nL)
  | .istore n => decide (len = 2) && decide (ab_bp cd (i + 1) = pc + 2) && decide (n < nL)
  | .lstore_n n => decide (len = 1) && decide (ab_bp cd (i + 1) = pc + 1) && decide (n.val + 1 < nL)
  | .lstore n => decide (len = 2) && decide (ab_bp cd (i + 1) = pc + 2) && decide (n + 1 < nL)
  | .iinc n k => decide (len = 3) && decide (ab_bp cd (i + 1) = pc + 3) && decide (n < nL) && decide (Int32.ofInt k = k32)
  | .iadd | .isub | .imul | .iand | .ior | .ishl | .ishr | .ladd | .lsub | .land | .lor | .lxor | .lcmp | .lneg | .lushr | .lshl | .l2i | .dup | .dup_x1 | .dup2 | .iaload | .laload | .baload | .iastore | .lastore | .bastore => decide (len = 1) && decide (ab_bp cd (i + 1) = pc + 1)
  | .if_icmp _ off | .ifCond _ off => decide (len = 3) && decide (ab_bp cd (i + 1) = pc + 3) && (match ts with
    | t :: _ => decide ((pc : Int) + off = (ab_bp cd t : Int))
    | [] => false)
  | .goto off => decide (len = 3) && (match ts with
    | t :: _ => decide ((pc : Int) + off = (ab_bp cd t : Int))
    | [] => false)
  | .getfield n => decide (len = 3) && decide (ab_bp cd (i + 1) = pc + 3) && (match vwCl[fx.1]? with
    | some r => decide (fx.2.1 < r.2.2) && ab_tb fx.2.2 (.fieldLink own n (r.2.1 fx.2.1).1 (r.2.1 fx.2.1).2.1 (r.2.1 fx.2.1).2.2.1)
    | none => false)
  | .putfield n => decide (len = 3) && decide (ab_bp cd (i + 1) = pc + 3) && (match vwCl[fx.1]? with
    | some r => decide (fx.2.1 < r.2.2) && ab_tb fx.2.2 (.fieldLink own n (r.2.1 fx.2.1).1 (r.2.1 fx.2.1).2.1 (r.2.1 fx.2.1).2.2.1) && decide ((r.2.1 fx.2.1).2.2.2 = false) && (match ts with
      | [0] => decide (parseFieldDescriptor (r.2.1 fx.2.1).2.2.1 = some .int)
      | [1] => decide (parseFieldDescriptor (r.2.1 fx.2.1).2.2.1 = some .long)
      | [2] => decide (parseFieldDescriptor (r.2.1 fx.2.1).2.2.1 = some .boolean)
      | _ => false)
    | none => false)
  | .invokevirtual n => decide (len = 3) && decide (ab_bp cd (i + 1) = pc + 3) && (match ts, cx with
    | h0 :: h1 :: h2 :: h4 :: h5 :: [], some (md, k) => ab_cks own n R [h0, h1, h2, 0] md k && ab_tb h4 (.instanceMethod md.1) && ab_tb h5 (.selects md.1.cls md.1 md.1) && decide ((vwCl[fx.1]?).map (fun r => r.1) = some md.1.cls)
    | _, _ => false)
  | .invokestatic n => decide (len = 3) && decide (ab_bp cd (i + 1) = pc + 3) && (match ts, cx with
    | h0 :: h1 :: h2 :: h4 :: [], some (md, k) => ab_cks own n R [h0, h1, h2, 0] md k && ab_tb h4 (.static md.1)
    | h0 :: h1 :: h2 :: h4 :: [], none => ab_tb h0 (.methodLink own n arraycopyName) && ab_tb h1 (.native arraycopyName) && ab_tb h2 (.static arraycopyName) && ab_tb h4 (.initialized "java/lang/System") && decide (1 ≤ R.frames) && decide (8 + (nativeFrameWords "java/lang/System" "arraycopy" 5 + 11) ≤ R.locals)
    | _, _ => false)
  | .tableswitch df lo hi offs => match ts with
    | d :: ts' => decide ((pc : Int) + df = (ab_bp cd d : Int)) && decide (offs.toList.length = ts'.length) && decide (hi = lo + (ts'.length : Int) - 1) && (offs.toList.zip ts').all (fun q => decide ((pc : Int) + q.1 = (ab_bp cd q.2 : Int)))
    | [] => false
  | .lookupswitch df ps => match ts with
    | d :: ts' => decide ((pc : Int) + df = (ab_bp cd d : Int)) && decide (ps.toList.length = ts'.length) && (ps.toList.zip (ps.toList.drop 1)).all (fun (a, next) => a.1 < next.1) && (ps.toList.zip ts').all (fun q => decide ((pc : Int) + q.1.2 = (ab_bp cd q.2 : Int)))
    | [] => false
  | .ireturn | .lreturn | .return_ => decide (len = 1)
  | _ => false)
def ab_chk (own : String) (md : ab_Md) (cd : List ab_En) : Bool := (List.range cd.length).all (fun i => match ab_nth cd i with
  | some (pc, len, ins, ts, fx, k32, k64, cx) => ab_ck own md.2.1 md.2.2.1 md.2.2.2.2 cd i pc len ts fx k32 k64 cx ins
  | none => false)
theorem ab_goodT : GoodIn ab_T ab_T := fun w h => ⟨h, good_of_word (List.mem_filter.mp h).2⟩
theorem ab_tb_in {h : Nat} {w : Cond} (e : ab_tb h w = true) : w ∈ ab_T := by
  simp only [ab_tb, Bool.and_eq_true, decide_eq_true_eq] at e
  exact List.mem_filter.mpr ⟨List.mem_of_getElem? e.1, e.2⟩
theorem ab_uws : ∀ r ∈ vwCl, ∀ w ∈ u_ws r.1 r.2.1 r.2.2, w ∈ ab_T := by decide +kernel
