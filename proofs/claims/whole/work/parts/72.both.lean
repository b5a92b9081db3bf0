/-! BOTH: a call of the class, then the same call of the reference -/
/-- S' differs from S in modules and packages alone -/
def Am (S S' : sT) : Prop := (∀ k j, 48 ≤ k → S'.1 k j = S.1 k j) ∧ s_nT S' = s_nT S ∧ s_nX S' = s_nX S ∧ (∀ j, S'.2.1 56 j = S.2.1 56 j) ∧ S'.2.2 = S.2.2
theorem Am.rf {S : sT} : Am S S := ⟨fun _ _ _ => rfl, rfl, rfl, fun _ => rfl, rfl⟩
theorem Am_module (S : sT) : Am S (o_module S) := by
  unfold o_module
  split
  · exact Am.rf
  · exact ⟨fun k j hk => un_ne (by omega), un_ne (by omega), un_ne (by omega), fun j => ub_ne (by omega), rfl⟩
theorem Am_reads (S : sT) (x y : Int32) : Am S (o_reads S x y) := by
  unfold o_reads
  split
  · exact ⟨fun k j hk => rfl, rfl, rfl, fun j => ub_ne (by omega), rfl⟩
  · exact Am.rf
theorem Am_pack (S : sT) (x : Int32) : Am S (o_pack S x) := by
  unfold o_pack
  split
  · refine ⟨fun k j hk => ?_, ?_, ?_, fun j => rfl, rfl⟩
    · rw [un_ne (by omega), un_ne (by omega)]
    · show (s_un (s_un S 45 (s_nP S) x.toNatClampNeg) 43 2 (s_nP S + 1)).1 43 6 = _
      rw [un_ne (by omega), un_ne (by omega)]
    · show (s_un (s_un S 45 (s_nP S) x.toNatClampNeg) 43 2 (s_nP S + 1)).1 43 16 = _
      rw [un_ne (by omega), un_ne (by omega)]
  · exact Am.rf
theorem Am_export (S : sT) (x y : Int32) : Am S (o_export S x y) := by
  unfold o_export
  split
  · split
    · exact ⟨fun k j hk => rfl, rfl, rfl, fun j => ub_ne (by omega), rfl⟩
    · exact ⟨fun k j hk => rfl, rfl, rfl, fun j => ub_ne (by omega), rfl⟩
  · exact Am.rf
theorem Am.ofS {S S' : sT} (h : Am S S') (O : Nat → Bool) (t m : Nat) : s_ofS S' O t m = s_ofS S O t m := by
  obtain ⟨e1, eT, eX, e56, e2⟩ := h
  have epa : ∀ t, s_pa S' t = s_pa S t := fun t => by show S'.2.2 53 t = _; rw [e2]
  have eab : ∀ t u, s_ab S' t u = s_ab S t u := fun t u => e56 _
  have epl : ∀ x, s_pl S' x = s_pl S x := fun x => by
    unfold s_pl
    rw [e1 60 x (by omega), e1 61 x (by omega)]
  have ecfp : ∀ x, s_cfp S' O t x = s_cfp S O t x := fun x => by
    unfold s_cfp
    rw [epa t]
    cases s_pa S t with
    | none => rfl
    | some p => simp only [e1 60 x (by omega), e1 57 x (by omega), e1 48 _ (show 48 ≤ 48 by omega)]
  have eofp : ∀ x, s_ofp S' O t x = s_ofp S O t x := fun x => by
    unfold s_ofp
    rw [epa t]
  have eiof : ∀ x, s_iof S' O t x = s_iof S O t x := fun x => by
    unfold s_iof
    rw [e1 55 t (by omega)]
    exact ab_ex_congr (fun k _ => by rw [e1 54 _ (by omega)])
  have ebh : s_bh S' O t m = s_bh S O t m := by
    unfold s_bh
    rw [eX]
    refine ab_ex_congr (fun x _ => ?_)
    unfold s_bh1
    rw [e1 58 x (by omega), e1 59 x (by omega), e1 59 m (by omega), e1 57 x (by omega), e1 57 m (by omega), e1 50 _ (by omega), e1 61 x (by omega), ecfp, epl, eab, eofp, eiof]
  unfold s_ofS
  rw [e1 57 m (by omega), e1 58 m (by omega), e1 59 m (by omega), s_dec_e (fun k j a b => e1 k j (by omega)) eX, ecfp, eiof, epl, ebh]
theorem Am.ofF {S S' : sT} (h : Am S S') : ∀ n t m, s_ofF S' n t m = s_ofF S n t m
  | 0, _, _ => rfl
  | n + 1, t, m => by
    have e : (fun j => s_ofF S' n (j / 120) (j % 120)) = (fun j => s_ofF S n (j / 120) (j % 120)) := funext (fun j => Am.ofF h n _ _)
    show s_ofS S' (fun j => s_ofF S' n (j / 120) (j % 120)) t m = s_ofS S (fun j => s_ofF S n (j / 120) (j % 120)) t m
    rw [e]
    exact h.ofS _ t m
theorem Am.of {S S' : sT} (h : Am S S') (t m : Nat) : s_of S' t m = s_of S t m := h.ofF 41 t m
theorem Am.ovS {S S' : sT} (h : Am S S') (V : Nat → Bool) (d a : Nat) : s_ovS S' V d a = s_ovS S V d a := by
  obtain ⟨e1, eT, eX, e56, e2⟩ := h
  have eab : ∀ t u, s_ab S' t u = s_ab S t u := fun t u => e56 _
  have epl : ∀ x, s_pl S' x = s_pl S x := fun x => by
    unfold s_pl
    rw [e1 60 x (by omega), e1 61 x (by omega)]
  have eby : s_by S' V d a = s_by S V d a := by
    unfold s_by
    rw [eX]
    exact ab_ex_congr (fun b _ => by rw [e1 57 b (by omega), e1 50 _ (by omega)])
  unfold s_ovS s_can
  rw [eby, e1 58 d (by omega), e1 58 a (by omega), e1 59 d (by omega), e1 59 a (by omega), epl, epl, e1 57 d (by omega), e1 57 a (by omega), eab, e1 60 a (by omega), e1 48 _ (by omega), e1 48 _ (by omega)]
theorem Am.ovF {S S' : sT} (h : Am S S') : ∀ n d a, s_ovF S' n d a = s_ovF S n d a
  | 0, _, _ => rfl
  | n + 1, d, a => by
    have e : (fun j => s_ovF S' n (j / 120) (j % 120)) = (fun j => s_ovF S n (j / 120) (j % 120)) := funext (fun j => Am.ovF h n _ _)
    show s_ovS S' (fun j => s_ovF S' n (j / 120) (j % 120)) d a = s_ovS S (fun j => s_ovF S n (j / 120) (j % 120)) d a
    rw [e]
    exact h.ovS _ d a
theorem Am.ov {S S' : sT} (h : Am S S') (d a : Nat) : s_ov S' d a = s_ov S d a := h.ovF 41 d a
theorem RepC_m {S S' : sT} {μ μ' : ab_M} (C : RepC S μ) (M' : RepM S' μ') (hx : SameX μ μ') (h : Am S S') : RepC S' μ' := by
  obtain ⟨-, T, X, CI, CO⟩ := C
  have h0 := h
  obtain ⟨e1, eT, eX, e56, e2⟩ := h
  have dg : ∀ t g, s_dg S' t g = s_dg S t g := fun t g => s_dg_e (fun k j a b => e1 k j (by omega)) eX t g
  have m1 : ∀ k j, ¬ (k = 1 ∨ k = 10 ∨ k = 11 ∨ k = 12) → μ'.1 k j = μ.1 k j := fun k j hk => by rw [hx.2 k (by omega) (by omega) (by omega) (by omega)]
  refine ⟨M', RepT_e T (fun k j hk => ⟨m1 k j (by omega), by rw [hx.1]⟩) eT (fun k j a b => e1 k j (by omega)) e56 (fun j => by show S'.2.2 49 j = _; rw [e2]) (fun j => by show S'.2.2 53 j = _; rw [e2]), RepX_e X (fun k j hk => ⟨m1 k j (by omega), by rw [hx.1]⟩) eX (fun k j a b => e1 k j (by omega)), ?_, ?_⟩
  · intro g hg hb t ht i
    rw [m1 4 3 (by omega)] at hb
    rw [eT] at ht
    rw [hx.1, CI g hg hb t ht i]
    unfold s_pg
    rw [dg]
    cases s_dg S i g with
    | none => rfl
    | some m => exact (h0.of t m).symm
  · intro n hn hb t ht i
    rw [m1 5 4 (by omega)] at hb
    rw [eT] at ht
    have vg : ∀ a b, s_vg S' (10 + n) a b = s_vg S (10 + n) a b := fun a b => by
      unfold s_vg
      rw [dg]
      cases s_dg S a (10 + n) with
      | none => rfl
      | some d =>
        show s_pg S' (10 + n) (s_ov S' d) b = s_pg S (10 + n) (s_ov S d) b
        unfold s_pg
        rw [dg]
        cases s_dg S b (10 + n) with
        | none => rfl
        | some m => exact h0.ov d m
    rw [hx.1, vg, vg]
    exact CO n hn hb t ht i
theorem KB_d {μ μ' : ab_M} (h : SameD μ μ') (K : KB μ) : KB μ' := by
  unfold KB
  rw [h.2 62 (by omega), h.2 63 (by omega), h.2 64 (by omega), h.2 65 (by omega)]
  exact K
theorem CacheR_m {S S' : sT} {μ μ' : ab_M} (K : CacheR S μ) (hd : SameD μ μ') (hk : SameK μ μ') (h : Am S S') : CacheR S' μ' := by
  refine ⟨KB_d hd K.1, ?_⟩
  rw [hk.1]
  rcases K.2 with k | ⟨k, ok⟩
  · exact Or.inl k
  · refine Or.inr ⟨k, fun t m ht hm => ?_, fun d a hd' ha => ?_⟩
    · rw [h.2.1] at ht
      rw [h.2.2.1] at hm
      rw [hk.2.1, ok.1 t m ht hm, h.of]
    · rw [h.2.2.1] at hd' ha
      rw [hk.2.2, ok.2 d a hd' ha, h.ov]
theorem CacheR_o {S S' : sT} {μ μ' : ab_M} (K : CacheR S μ) (hd : SameD μ μ') (hk : (SameK μ μ' ∧ S' = S) ∨ μ'.1 43 22 = 0) : CacheR S' μ' := by
  rcases hk with ⟨hk, e⟩ | hk
  · exact CacheR_m K hd hk (by rw [e]; exact Am.rf)
  · exact ⟨KB_d hd K.1, Or.inl hk⟩
theorem RepC_c {S : sT} {μ μ' : ab_M} (C : RepC S μ) (h : SameC μ μ') : RepC S μ' := by
  obtain ⟨M, T, X, CI, CO⟩ := C
  have m1 : ∀ k j, k < 43 → μ'.1 k j = μ.1 k j := fun k j hk => by rw [h.2 k hk]
  refine ⟨RepM_e M (fun k j hk => m1 k j (by omega)) rfl rfl (fun _ => rfl) (fun _ => rfl) (fun _ => rfl) (fun _ => rfl), RepT_e T (fun k j hk => ⟨m1 k j (by omega), by rw [h.1]⟩) rfl (fun _ _ _ _ => rfl) (fun _ => rfl) (fun _ => rfl) (fun _ => rfl), RepX_e X (fun k j hk => ⟨m1 k j (by omega), by rw [h.1]⟩) rfl (fun _ _ _ _ => rfl), ?_, ?_⟩
  · intro g hg hb t ht i
    rw [m1 4 3 (by omega)] at hb
    rw [h.1]
    exact CI g hg hb t ht i
  · intro n hn hb t ht i
    rw [m1 5 4 (by omega)] at hb
    rw [h.1]
    exact CO n hn hb t ht i
theorem SameX.kc {μ μ' : ab_M} (h : SameX μ μ') : KC μ μ' := fun k j hk => by rw [h.2 k (by omega) (by omega) (by omega) (by omega)]
/-- what holds between two calls of the law -/
def LI (S : sT) (μ : ab_M) : Prop := Iv2 S ∧ RepC S μ ∧ RepR S μ ∧ CacheR S μ
/-- .. and between the class's call and the reference's -/
def LM (S S' : sT) (μ : ab_M) : Prop := Iv2 S ∧ Iv2 S' ∧ RepC S' μ ∧ RepR S μ ∧ CacheR S μ
theorem LI.rk {S : sT} {μ : ab_M} (h : LI S μ) : ∃ ρ, Rk S ρ := RepT_rk h.2.1.2.1 h.1.1.1 h.1.1.2.2.2.1 h.1.1.2.2.2.2.1
theorem LI.q {S : sT} {μ μ' : ab_M} (h : LI S μ) (C : RepC S μ') (sq : SameQ μ μ') : LI S μ' := ⟨h.1, C, RepR_q h.2.2.1 sq, CacheR_q h.2.2.2 sq⟩
theorem LI.r {S : sT} {μ μ' : ab_M} (h : LI S μ) (R : RepR S μ') (sc : SameC μ μ') (K : CacheR S μ') : LI S μ' := ⟨h.1, RepC_c h.2.1 sc, R, K⟩
theorem LM.d {S S' : sT} {μ μ' : ab_M} (h : LM S S' μ) (R : RepR S' μ') (sd : SameD μ μ') (K : CacheR S' μ') : LI S' μ' := ⟨h.2.1, RepC_c h.2.2.1 sd.c, R, K⟩
section KL2
variable {l : Launch} {ω : ab_W} {S : sT} {μ : ab_M}
-- the calls that change
theorem t_module (hω : ω.2.2.2 = ab_SH) (h : LI S μ) : ab_CI l ω mX10_module [.ref 0] μ (fun r μ' => r = a_module S ∧ LM S (o_module S) μ') :=
  x_module hω h.2.1.1 h.1.1.1 h.1.1.2.1 (fun μ' M' sx => ⟨rfl, h.1, Iv_module h.1, RepC_m h.2.1 M' sx (Am_module S), sx.kc.rr h.2.2.1, sx.kc.cr h.2.2.2⟩)
theorem u_module (hω : ω.2.2.2 = ab_SH) (h : LM S (o_module S) μ) : ab_CI l ω mX11_module [.ref 43] μ (fun r μ' => r = a_module S ∧ LI (o_module S) μ') :=
  r_module hω h.2.2.2.1 h.1.1.1 (fun μ' R sd sk => ⟨rfl, h.d R sd (CacheR_m h.2.2.2.2 sd sk (Am_module S))⟩)
theorem t_reads (hω : ω.2.2.2 = ab_SH) (h : LI S μ) (x y : Int32) : ab_CI l ω mX10_reads [.ref 0, .int x, .int y] μ (fun r μ' => r = a_reads S x y ∧ LM S (o_reads S x y) μ') :=
  x_reads hω h.2.1.1 h.1.1.1 (fun μ' M' sx => ⟨rfl, h.1, Iv_reads h.1 x y, RepC_m h.2.1 M' sx (Am_reads S x y), sx.kc.rr h.2.2.1, sx.kc.cr h.2.2.2⟩)
theorem u_reads (hω : ω.2.2.2 = ab_SH) {x y : Int32} (h : LM S (o_reads S x y) μ) : ab_CI l ω mX11_reads [.ref 43, .int x, .int y] μ (fun r μ' => r = a_reads S x y ∧ LI (o_reads S x y) μ') :=
  r_reads hω h.2.2.2.1 h.1.1.1 (fun μ' R sd sk => ⟨rfl, h.d R sd (CacheR_m h.2.2.2.2 sd sk (Am_reads S x y))⟩)
theorem t_pack (hω : ω.2.2.2 = ab_SH) (h : LI S μ) (x : Int32) : ab_CI l ω mX10_pack [.ref 0, .int x] μ (fun r μ' => r = a_pack S x ∧ LM S (o_pack S x) μ') :=
  x_pack hω h.2.1.1 h.1.1.1 (fun μ' M' sx => ⟨rfl, h.1, Iv_pack h.1 x, RepC_m h.2.1 M' sx (Am_pack S x), sx.kc.rr h.2.2.1, sx.kc.cr h.2.2.2⟩)
theorem u_pack (hω : ω.2.2.2 = ab_SH) {x : Int32} (h : LM S (o_pack S x) μ) : ab_CI l ω mX11_pack [.ref 43, .int x] μ (fun r μ' => r = a_pack S x ∧ LI (o_pack S x) μ') :=
  r_pack hω h.2.2.2.1 h.1.1.1 (fun μ' R sd sk => ⟨rfl, h.d R sd (CacheR_m h.2.2.2.2 sd sk (Am_pack S x))⟩)
theorem t_export (hω : ω.2.2.2 = ab_SH) (h : LI S μ) (x y : Int32) : ab_CI l ω mX10_export [.ref 0, .int x, .int y] μ (fun r μ' => r = a_export S x y ∧ LM S (o_export S x y) μ') :=
  x_export hω h.2.1.1 h.1.1.1 (fun μ' M' sx => ⟨rfl, h.1, Iv_export h.1 x y, RepC_m h.2.1 M' sx (Am_export S x y), sx.kc.rr h.2.2.1, sx.kc.cr h.2.2.2⟩)
theorem u_export (hω : ω.2.2.2 = ab_SH) {x y : Int32} (h : LM S (o_export S x y) μ) : ab_CI l ω mX11_export [.ref 43, .int x, .int y] μ (fun r μ' => r = a_export S x y ∧ LI (o_export S x y) μ') :=
  r_export hω h.2.2.2.1 h.1.1.1 (fun μ' R sd sk => ⟨rfl, h.d R sd (CacheR_m h.2.2.2.2 sd sk (Am_export S x y))⟩)
theorem t_type (hω : ω.2.2.2 = ab_SH) (h : LI S μ) (x y z v w : Int32) : ab_CI l ω mX10_type [.ref 0, .int x, .int y, .int z, .int v, .int w] μ (fun r μ' => r = a_type S x y z v w ∧ LM S (o_type S x y z v w) μ') :=
  x_type hω h.2.1 h.1 (fun μ' C k => ⟨rfl, h.1, Iv_type h.1 x y z v w, C, k.rr h.2.2.1, k.cr h.2.2.2⟩)
theorem u_type (hω : ω.2.2.2 = ab_SH) {x y z v w : Int32} (h : LM S (o_type S x y z v w) μ) : ab_CI l ω mX11_type [.ref 43, .int x, .int y, .int z, .int v, .int w] μ (fun r μ' => r = a_type S x y z v w ∧ LI (o_type S x y z v w) μ') :=
  r_type hω h.2.2.2.1 h.1.1.1 (fun μ' R sd sk => ⟨rfl, h.d R sd (CacheR_o h.2.2.2.2 sd sk)⟩)
theorem t_parent (hω : ω.2.2.2 = ab_SH) (h : LI S μ) (x y : Int32) : ab_CI l ω mX10_parent [.ref 0, .int x, .int y] μ (fun r μ' => r = a_parent S x y ∧ LM S (o_parent S x y) μ') :=
  x_parent hω h.2.1 h.1.1 (fun μ' C k => ⟨rfl, h.1, Iv_parent h.1 x y, C, k.rr h.2.2.1, k.cr h.2.2.2⟩)
theorem u_parent (hω : ω.2.2.2 = ab_SH) {x y : Int32} (h : LM S (o_parent S x y) μ) : ab_CI l ω mX11_parent [.ref 43, .int x, .int y] μ (fun r μ' => r = a_parent S x y ∧ LI (o_parent S x y) μ') :=
  r_parent hω h.2.2.2.1 h.1.1.1 (fun μ' R sd sk => ⟨rfl, h.d R sd (CacheR_o h.2.2.2.2 sd sk)⟩)
theorem t_face (hω : ω.2.2.2 = ab_SH) (h : LI S μ) (x y : Int32) : ab_CI l ω mX10_face [.ref 0, .int x, .int y] μ (fun r μ' => r = a_face S x y ∧ LM S (o_face S x y) μ') :=
  x_face hω h.2.1 h.1.1 (Iv_face h.1 x y).1 (fun μ' C k => ⟨rfl, h.1, Iv_face h.1 x y, C, k.rr h.2.2.1, k.cr h.2.2.2⟩)
theorem u_face (hω : ω.2.2.2 = ab_SH) {x y : Int32} (h : LM S (o_face S x y) μ) : ab_CI l ω mX11_face [.ref 43, .int x, .int y] μ (fun r μ' => r = a_face S x y ∧ LI (o_face S x y) μ') :=
  r_face hω h.2.2.2.1 h.1.1.1 (fun μ' R sd sk => ⟨rfl, h.d R sd (CacheR_o h.2.2.2.2 sd sk)⟩)
theorem t_member (hω : ω.2.2.2 = ab_SH) (h : LI S μ) (x y z v w : Int32) : ab_CI l ω mX10_member [.ref 0, .int x, .int y, .int z, .int v, .int w] μ (fun r μ' => r = a_member S x y z v w ∧ LM S (o_member S x y z v w) μ') :=
  x_member hω h.2.1 h.1.1 (fun μ' C k => ⟨rfl, h.1, Iv_member h.1 x y z v w, C, k.rr h.2.2.1, k.cr h.2.2.2⟩)
theorem u_member (hω : ω.2.2.2 = ab_SH) {x y z v w : Int32} (h : LM S (o_member S x y z v w) μ) : ab_CI l ω mX11_member [.ref 43, .int x, .int y, .int z, .int v, .int w] μ (fun r μ' => r = a_member S x y z v w ∧ LI (o_member S x y z v w) μ') :=
  r_member hω h.2.2.2.1 h.1.1.1 (fun μ' R sd sk => ⟨rfl, h.d R sd (CacheR_o h.2.2.2.2 sd sk)⟩)
-- the calls that ask
theorem t_count (hω : ω.2.2.2 = ab_SH) (h : LI S μ) (x : Int32) : ab_CI l ω mX10_count [.ref 0, .int x] μ (fun r μ' => r = a_count S x ∧ LI S μ') :=
  x_count hω h.2.1.1 h.2.1.2.1 h.2.1.2.2.1 ⟨rfl, h⟩
theorem u_count (hω : ω.2.2.2 = ab_SH) (h : LI S μ) (x : Int32) : ab_CI l ω mX11_count [.ref 43, .int x] μ (fun r μ' => r = a_count S x ∧ LI S μ') :=
  r_count hω h.2.2.1 ⟨rfl, h⟩
theorem t_about (hω : ω.2.2.2 = ab_SH) (h : LI S μ) (x y : Int32) : ab_CI l ω mX10_about [.ref 0, .int x, .int y] μ (fun r μ' => r = a_about S x y ∧ LI S μ') := by
  obtain ⟨ρ, hR⟩ := h.rk
  exact x_about hω h.2.1 h.1.1 hR (fun μ' C sq => ⟨rfl, h.q C sq⟩)
theorem u_about (hω : ω.2.2.2 = ab_SH) (h : LI S μ) (x y : Int32) : ab_CI l ω mX11_about [.ref 43, .int x, .int y] μ (fun r μ' => r = a_about S x y ∧ LI S μ') := by
  obtain ⟨ρ, hR⟩ := h.rk
  exact r_about hω h.2.2.1 h.1.1.1 hR h.2.2.2 (fun μ' R sc K => ⟨rfl, h.r R sc K⟩)
theorem t_below (hω : ω.2.2.2 = ab_SH) (h : LI S μ) (x y : Int32) : ab_CI l ω mX10_below [.ref 0, .int x, .int y] μ (fun r μ' => r = a_below S x y ∧ LI S μ') :=
  x_below hω h.2.1.2.1 h.1.1.1 ⟨rfl, h⟩
theorem u_below (hω : ω.2.2.2 = ab_SH) (h : LI S μ) (x y : Int32) : ab_CI l ω mX11_below [.ref 43, .int x, .int y] μ (fun r μ' => r = a_below S x y ∧ LI S μ') :=
  r_below hω h.2.2.1 h.1.1.1 ⟨rfl, h⟩
theorem t_open (hω : ω.2.2.2 = ab_SH) (h : LI S μ) (x y : Int32) : ab_CI l ω mX10_open [.ref 0, .int x, .int y] μ (fun r μ' => r = a_open S x y ∧ LI S μ') :=
  x_open hω h.2.1.1 h.2.1.2.1 h.1.1 ⟨rfl, h⟩
theorem u_open (hω : ω.2.2.2 = ab_SH) (h : LI S μ) (x y : Int32) : ab_CI l ω mX11_open [.ref 43, .int x, .int y] μ (fun r μ' => r = a_open S x y ∧ LI S μ') :=
  r_open hω h.2.2.1 h.1.1.1 ⟨rfl, h⟩
theorem t_of (hω : ω.2.2.2 = ab_SH) (h : LI S μ) (x y : Int32) : ab_CI l ω mX10_of [.ref 0, .int x, .int y] μ (fun r μ' => r = a_of S x y ∧ LI S μ') := by
  obtain ⟨ρ, hR⟩ := h.rk
  exact x_of hω h.2.1 h.1.1 hR (fun μ' C sq => ⟨rfl, h.q C sq⟩)
theorem u_of (hω : ω.2.2.2 = ab_SH) (h : LI S μ) (x y : Int32) : ab_CI l ω mX11_of [.ref 43, .int x, .int y] μ (fun r μ' => r = a_of S x y ∧ LI S μ') := by
  obtain ⟨ρ, hR⟩ := h.rk
  exact r_of hω h.2.2.1 h.1.1.1 hR h.2.2.2 (fun μ' R sc K => ⟨rfl, h.r R sc K⟩)
theorem t_use (hω : ω.2.2.2 = ab_SH) (h : LI S μ) (x y z v w : Int32) : ab_CI l ω mX10_use [.ref 0, .int x, .int y, .int z, .int v, .int w] μ (fun r μ' => r = a_use S x y z v w ∧ LI S μ') := by
  obtain ⟨ρ, hR⟩ := h.rk
  exact x_use hω h.2.1 h.1.1 hR (fun μ' C sq => ⟨rfl, h.q C sq⟩)
theorem u_use (hω : ω.2.2.2 = ab_SH) (h : LI S μ) (x y z v w : Int32) : ab_CI l ω mX11_use [.ref 43, .int x, .int y, .int z, .int v, .int w] μ (fun r μ' => r = a_use S x y z v w ∧ LI S μ') := by
  obtain ⟨ρ, hR⟩ := h.rk
  exact r_use hω h.2.2.1 h.1.1.1 hR h.2.2.2 (fun μ' R sc K => ⟨rfl, h.r R sc K⟩)
theorem t_make (hω : ω.2.2.2 = ab_SH) (h : LI S μ) (x y z v : Int32) : ab_CI l ω mX10_make [.ref 0, .int x, .int y, .int z, .int v] μ (fun r μ' => r = a_make S x y z v ∧ LI S μ') :=
  x_make hω h.2.1 h.1.1 ⟨rfl, h⟩
theorem u_make (hω : ω.2.2.2 = ab_SH) (h : LI S μ) (x y z v : Int32) : ab_CI l ω mX11_make [.ref 43, .int x, .int y, .int z, .int v] μ (fun r μ' => r = a_make S x y z v ∧ LI S μ') :=
  r_make hω h.2.2.1 h.1.1.1 ⟨rfl, h⟩
theorem t_overrides (hω : ω.2.2.2 = ab_SH) (h : LI S μ) (x y : Int32) : ab_CI l ω mX10_overrides [.ref 0, .int x, .int y] μ (fun r μ' => r = a_over S x y ∧ LI S μ') := by
  obtain ⟨ρ, hR⟩ := h.rk
  exact x_overrides hω h.2.1 h.1.1 hR (fun μ' C sq => ⟨rfl, h.q C sq⟩)
theorem u_overrides (hω : ω.2.2.2 = ab_SH) (h : LI S μ) (x y : Int32) : ab_CI l ω mX11_overrides [.ref 43, .int x, .int y] μ (fun r μ' => r = a_over S x y ∧ LI S μ') := by
  obtain ⟨ρ, hR⟩ := h.rk
  exact r_overrides hω h.2.2.1 h.1.1.1 hR h.2.2.2 (fun μ' R sc K => ⟨rfl, h.r R sc K⟩)
theorem t_choose (hω : ω.2.2.2 = ab_SH) (h : LI S μ) (x y : Int32) : ab_CI l ω mX10_choose [.ref 0, .int x, .int y] μ (fun r μ' => r = a_choose S x y ∧ LI S μ') := by
  obtain ⟨ρ, hR⟩ := h.rk
  exact x_choose hω h.2.1 h.1.1 hR (fun μ' C sq => ⟨rfl, h.q C sq⟩)
theorem u_choose (hω : ω.2.2.2 = ab_SH) (h : LI S μ) (x y : Int32) : ab_CI l ω mX11_choose [.ref 43, .int x, .int y] μ (fun r μ' => r = a_choose S x y ∧ LI S μ') := by
  obtain ⟨ρ, hR⟩ := h.rk
  exact r_choose hω h.2.2.1 h.1.1.1 hR h.2.2.2 (fun μ' R sc K => ⟨rfl, h.r R sc K⟩)
theorem t_check (hω : ω.2.2.2 = ab_SH) (h : LI S μ) (x : Int32) : ab_CI l ω mX10_check [.ref 0, .int x] μ (fun r μ' => r = a_check S x ∧ LI S μ') := by
  obtain ⟨ρ, hR⟩ := h.rk
  exact x_check hω h.2.1 h.1.1 hR (fun μ' C sq => ⟨rfl, h.q C sq⟩)
theorem u_check (hω : ω.2.2.2 = ab_SH) (h : LI S μ) (x : Int32) : ab_CI l ω mX11_check [.ref 43, .int x] μ (fun r μ' => r = a_check S x ∧ LI S μ') := by
  obtain ⟨ρ, hR⟩ := h.rk
  exact r_check hω h.2.2.1 h.1.1.1 hR h.2.2.2 (fun μ' R sc K => ⟨rfl, h.r R sc K⟩)
theorem t_fault (hω : ω.2.2.2 = ab_SH) (h : LI S μ) (x y z : Int32) : ab_CI l ω mX10_fault [.ref 0, .int x, .int y, .int z] μ (fun r μ' => r = a_fault S x y z ∧ LI S μ') := by
  obtain ⟨ρ, hR⟩ := h.rk
  exact x_fault hω h.2.1 h.1.1 hR (fun μ' C sq => ⟨rfl, h.q C sq⟩)
theorem u_fault (hω : ω.2.2.2 = ab_SH) (h : LI S μ) (x y z : Int32) : ab_CI l ω mX11_fault [.ref 43, .int x, .int y, .int z] μ (fun r μ' => r = a_fault S x y z ∧ LI S μ') := by
  obtain ⟨ρ, hR⟩ := h.rk
  exact r_fault hω h.2.2.1 h.1.1.1 hR h.2.2.2 (fun μ' R sc K => ⟨rfl, h.r R sc K⟩)
end KL2
