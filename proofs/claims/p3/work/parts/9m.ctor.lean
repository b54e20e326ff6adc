/-! constructors: worlds that grow -/
abbrev aoL : List String := ["TriColourMachine$Cell", "TriColourMachine$Instruction", "TriColourMachine$Coroutine"]
def aos (U : State) : Prop := ∀ C ∈ aoL, va_AO C U
theorem aos.moved {u U : State} (hvm : u.vm.Alike U.vm) (h : aos u) : aos U := fun C hC => (h C hC).moved hvm
def cPn (D : va_G) (cl : List vw_C) (tys : List (ClassId × FieldType)) (nl : List (String × Nat × MethodName × String)) (N : Nat) (ad : Nat → Nat) (σ : Nat → va_E) (sz : Nat) (As : List Value) : Array Value → State → Prop := va_Pc As (fun U => (U.heap.size = sz ∧ va_P D cl (gl N ad σ) U.heap ∧ EX D cl tys nl (va_A (gl N ad σ) sz) U U.heap ∧ va_D (fun _ => True) (gl N ad σ)) ∧ aos U)
def cQn (D : va_G) (cl : List vw_C) (N N2 : Nat) (ad : Nat → Nat) (A : Nat → Prop) (Rr : (Nat → Nat) → (Nat → va_E) → Prop) : Array Value → State → Outcome → State → Prop := fun _ st oc t => (∃ (ad2 : Nat → Nat) (σ2 : Nat → va_E), oc = .returned none ∧ (∀ k, k < N → ad2 k = ad k) ∧ Rr ad2 σ2 ∧ va_P D cl (gl N2 ad2 σ2) t.heap ∧ va_D A (gl N2 ad2 σ2)) ∧ va_F A st t
/-- the contract of a constructor: from N cells to N2 -/
def Ctn (l : Launch) (D : va_G) (cl : List vw_C) (tys : List (ClassId × FieldType)) (nl : List (String × Nat × MethodName × String)) (N N2 : Nat) (ad : Nat → Nat) (y : MethodName) (ws : List Cond) (rm : Room) (As : List Value) (σ : Nat → va_E) (mc ms : Nat) (Rr : (Nat → Nat) → (Nat → va_E) → Prop) : Prop :=
  ∀ sz : Nat, Met l y ws rm (cPn D cl tys nl N ad σ sz As) (cQn D cl N N2 ad (va_A (gl N ad σ) sz) Rr) mc ms (va_A (gl N ad σ) sz)
def Rn (Γ : GT) (N N2 : Nat) (ad : Nat → Nat) (Rr : (Nat → Nat) → (Nat → va_E) → Prop) (mc ms : Nat) : Prop :=
  (gM Γ).sig.returnType = none ∧ (gM Γ).locks = false ∧ gZ Γ = MQ (gb Γ) (cQn (gD Γ) (gC Γ) N N2 ad (gA Γ) Rr) (ga Γ) (gs Γ) mc ms (gA Γ)
theorem ctn_of {l : Launch} {D : va_G} {cl : List vw_C} {tys : List (ClassId × FieldType)} {nl : List (String × Nat × MethodName × String)} {N N2 : Nat} {ad : Nat → Nat} {y : MethodName} {TB : List Cond} {rm : Room} {As : List Value} {σ : Nat → va_E} {Rr : (Nat → Nat) → (Nat → va_E) → Prop} {cc : ByteArray} {n mc ms : Nat}
    (hy : plainName y.cls = true) (hn : (lg_sl As).length ≤ n)
    (body : ∀ Γ : GT, gL Γ = l → gD Γ = D → gN Γ = n → Cx Γ cc y.cls rm TB cl tys nl → Rn Γ N N2 ad Rr mc ms → aos (gs Γ) → (gM Γ).name = y.name → G Γ 0 0 N ad σ 0 (inL As n) []) : Ctn l D cl tys nl N N2 ad y (.code y cc n none :: TB) rm As σ mc ms Rr := by
  intro sz
  refine Met.ofW (cc := cc) (maxL := n) (ret := none) hy rfl ?_
  intro p e s m args below meth c s₁ B hml hv
  obtain ⟨rfl, ⟨hsz, hP, hK, hD0⟩, hao⟩ := hv
  have hts := atoms_spec (ws := .code y cc n none :: TB) B.pre
  have hown : s.vm.findClass y.cls = some m.cls := findClass_of_methodNamed B.named
  have hin : meth.name = y.name := (name_of_methodNamed B.named B.method).1
  subst hsz
  have hD := hD0.self (sz := s.heap.size)
  rw [lg_entry_eq]
  exact body (p, l, e, rm, s, m, As.toArray, below, meth, c, MQ below (cQn D cl N N2 ad (va_A (gl N ad σ) s.heap.size) Rr) As.toArray s mc ms (va_A (gl N ad σ) s.heap.size), D, cl, va_A (gl N ad σ) s.heap.size, n) rfl rfl rfl
    ⟨B.exec, B.bytes, hml, hown, rfl, fun w hw => hts w (List.mem_cons_of_mem _ hw), rfl, hK, fun q h => Or.inr h⟩ ⟨B.returns, B.notSynchronized, rfl⟩ hao hin s.heap [] _ hP hD va_S.rf (inL_has hn)
section CtorRows
variable {Γ : GT} {cc : ByteArray} {own : String} {rm : Room} {Ts : List Cond} {cl : List vw_C} {tys : List (ClassId × FieldType)} {nl : List (String × Nat × MethodName × String)} {kc ks N N2 pc : Nat} {ad : Nat → Nat} {σ : Nat → va_E} {L : List (Option Value)} {st rest : List Value}
variable {y : MethodName} {bytes : ByteArray} {maxL n index mc ms : Nat} {rmY : Room} {As : List Value}
theorem g_vretN {N0 : Nat} {ad0 : Nat → Nat} {Rr : (Nat → Nat) → (Nat → va_E) → Prop} (h : Cx Γ cc own rm Ts cl tys nl) (r : Rn Γ N0 N ad0 Rr kc ks) (hd : decode cc pc = .ok (.return_, 1)) (ha : ∀ k, k < N0 → ad k = ad0 k) (hv : Rr ad σ) : G Γ kc ks N ad σ pc L [] := fun H locs ls hP hD hS hl => by
  unfold gW
  rw [r.2.2]
  exact W.vret h.x h.b r.1 (fun t ht hW => ⟨⟨ad, σ, rfl, ha, hv, by rw [ht]; exact hP, hD⟩, hS.F ht⟩) hS.2.2 hd r.2.1
theorem g_new (h : Cx Γ cc own rm Ts cl tys nl) {C : String} {T : u_T} {nf ci : Nat} {fs : List Value} (hin : ∀ w ∈ u_ws C T nf, w ∈ Ts) (ty : Nat → FieldType) (hty : ∀ k, k < nf → parseFieldDescriptor (T k).2.2.1 = some (ty k)) (hcl : Cond.classLink own index C ∈ Ts) (hinst : Cond.instantiable C nf ∈ Ts) (hini : Cond.initialized C ∈ Ts) (hc : cl[ci]? = some (C, T, nf)) (hfs : ∀ j, j < nf → defaultValue (ty j) = vp_V fs j) (hr : kc + 1 ≤ rm.cells ∧ ks + nf ≤ rm.slots) (hd : decode cc pc = .ok (.new index, 3))
    (k : ∀ q : Nat, G Γ (kc + 1) (ks + nf) (N + 1) (va_up ad N q) (va_up σ N (.inr (ci, fs))) (pc + 3) L (.ref q :: st)) : G Γ kc ks N ad σ pc L st := fun H locs ls hP hD hS hl =>
  va_new (ci := ci) h.x h.b h.ts hin ty hty h.ow (h.ts _ hcl) (h.ts _ hinst) (h.ts _ hini) h.K hP hD hS h.A (by rw [h.cL]; exact hc) hfs (by rw [h.R]; exact hr.1) (by rw [h.R]; exact hr.2) hd (fun q H1 hP1 hD1 hS1 => by
    rw [gl_push] at hP1 hD1
    exact k q H1 locs ls hP1 hD1 hS1 hl)
theorem g_newl (h : Cx Γ cc own rm Ts cl tys nl) {cT : ClassId} (t0 : Nat) (ht : tys[t0]? = some (cT, .long)) (harr : Cond.arrayClass .long ∈ Ts) {x : Int32} {m : Nat} (hx : ¬ x < 0) (hm : x.toNatClampNeg = m) (hb : m * 8 ≤ 536870912) (hr : kc + 1 ≤ rm.cells ∧ ks + m ≤ rm.slots) (hd : decode cc pc = .ok (.newarray .long, 2))
    (k : ∀ q : Nat, G Γ (kc + 1) (ks + m) (N + 1) (va_up ad N q) (va_up σ N (.inl (cT, m, .inr (.inl (fun _ => 0))))) (pc + 2) L (.ref q :: st)) : G Γ kc ks N ad σ pc L (.int x :: st) := fun H locs ls hP hD hS hl =>
  va_newa (atype := .long) (ty := .long) (a0 := (m, .inr (.inl (fun _ => 0)))) h.x h.b (h.ts _ harr) rfl h.K hP hD hS h.A (fun _ => rfl) hx hm hb (by rw [h.R]; exact hr.1) (by rw [h.R]; exact hr.2) hd (fun q cA H1 hK1 hP1 hD1 hS1 => by
    have e1 : (gs Γ).vm.findClass _ = some cA := (hK1.2 tys.length (cA, .long) (by simp)).2
    have e2 : (gs Γ).vm.findClass _ = some cT := (h.K.2 t0 _ ht).2
    cases e1.symm.trans e2
    rw [gl_push] at hP1 hD1
    exact k q H1 locs ls hP1 hD1 hS1 hl)
theorem g_newi (h : Cx Γ cc own rm Ts cl tys nl) {cT : ClassId} (t0 : Nat) (ht : tys[t0]? = some (cT, .int)) (harr : Cond.arrayClass .int ∈ Ts) {x : Int32} {m : Nat} (hx : ¬ x < 0) (hm : x.toNatClampNeg = m) (hb : m * 4 ≤ 536870912) (hr : kc + 1 ≤ rm.cells ∧ ks + m ≤ rm.slots) (hd : decode cc pc = .ok (.newarray .int, 2))
    (k : ∀ q : Nat, G Γ (kc + 1) (ks + m) (N + 1) (va_up ad N q) (va_up σ N (.inl (cT, m, .inl (fun _ => 0)))) (pc + 2) L (.ref q :: st)) : G Γ kc ks N ad σ pc L (.int x :: st) := fun H locs ls hP hD hS hl =>
  va_newa (atype := .int) (ty := .int) (a0 := (m, .inl (fun _ => 0))) h.x h.b (h.ts _ harr) rfl h.K hP hD hS h.A (fun _ => rfl) hx hm hb (by rw [h.R]; exact hr.1) (by rw [h.R]; exact hr.2) hd (fun q cA H1 hK1 hP1 hD1 hS1 => by
    have e1 : (gs Γ).vm.findClass _ = some cA := (hK1.2 tys.length (cA, .int) (by simp)).2
    have e2 : (gs Γ).vm.findClass _ = some cT := (h.K.2 t0 _ ht).2
    cases e1.symm.trans e2
    rw [gl_push] at hP1 hD1
    exact k q H1 locs ls hP1 hD1 hS1 hl)
theorem g_newq (h : Cx Γ cc own rm Ts cl tys nl) {cT : ClassId} {C : String} (t0 : Nat) (ht : tys[t0]? = some (cT, .object C)) (hcl : Cond.classLink own index C ∈ Ts) (hao : va_AO C (gs Γ)) {x : Int32} {m : Nat} (hx : ¬ x < 0) (hm : x.toNatClampNeg = m) (hb : m * 4 ≤ 536870912) (hr : kc + 1 ≤ rm.cells ∧ ks + m ≤ rm.slots) (hd : decode cc pc = .ok (.anewarray index, 3))
    (k : ∀ q : Nat, G Γ (kc + 1) (ks + m) (N + 1) (va_up ad N q) (va_up σ N (.inl (cT, m, .inr (.inr (.inr (.inr (fun _ => none))))))) (pc + 3) L (.ref q :: st)) : G Γ kc ks N ad σ pc L (.int x :: st) := fun H locs ls hP hD hS hl =>
  va_newq h.x h.b h.ow (h.ts _ hcl) hao h.K hP hD hS h.A hx hm hb (by rw [h.R]; exact hr.1) (by rw [h.R]; exact hr.2) hd (fun q cA H1 hK1 hP1 hD1 hS1 => by
    obtain ⟨_, _, -, -, -, e1⟩ : va_RA (gs Γ) cA (.object C) := (hK1.2 tys.length (cA, .object C) (by simp)).2
    obtain ⟨_, _, -, -, -, e2⟩ : va_RA (gs Γ) cT (.object C) := (h.K.2 t0 _ ht).2
    cases e1.symm.trans e2
    rw [gl_push] at hP1 hD1
    exact k q H1 locs ls hP1 hD1 hS1 hl)
theorem g_objInit (h : Cx Γ cc own rm Ts cl tys nl) (h1 : Cond.methodLink own index Lib.objectInit ∈ Ts) (h2 : Cond.instanceMethod Lib.objectInit ∈ Ts) (h3 : Cond.code Lib.objectInit ⟨#[0xb1]⟩ 1 none ∈ Ts) {x : Nat} (hr : 1 ≤ rm.frames ∧ 20 ≤ rm.locals) (hrest : (st.map fun v => v.category).sum ≤ 8) (hd : decode cc pc = .ok (.invokespecial index, 3)) (k : G Γ kc ks N ad σ (pc + 3) L st) : G Γ kc ks N ad σ pc L (.ref x :: st) := fun H locs ls hP hD hS hl => by
  have hm : 2 * (F0 (gm Γ) pc ls (.ref x :: st)).monitorRoom + (st.map fun v => v.category).sum ≤ 8 := lv_room hrest
  exact W.objInit h.x h.b h.ow (h.ts _ h1) (h.ts _ h2) (h.ts _ h3) rfl (hl.1.trans h.ml.symm) rfl hd (by rw [h.R]; exact hr.1) (by rw [h.R]; omega) (k H locs ls hP hD hS hl)
theorem cn_blind {D : va_G} {sz : Nat} : FrameBlind (cPn D cl tys nl N ad σ sz As) := fun a U g mk q => by
  obtain ⟨q0, ⟨q1, qP, qK, qD⟩, qn⟩ := q
  exact ⟨q0, ⟨q1, qP, EX.blind qK, qD⟩, aos.moved (u := U) (U := U.calling g mk a) (Vm.Alike.refl U.vm) qn⟩
def adj (q : Nat) (a b : Nat → Nat) : Nat → Nat := fun k => if k < q then a k else b (k - q)
def sgj (q : Nat) (a b : Nat → va_E) : Nat → va_E := fun k => if k < q then a k else b (k - q)
/-- invokespecial of a constructor, for the cell that was made last -/
theorem g_init (h : Cx Γ cc own rm Ts cl tys nl) (hG : GoodIn Ts Ts) (hao : aos (gs Γ)) {q : Nat} {Rr : (Nat → Nat) → (Nat → va_E) → Prop} (hM : Ctn (gL Γ) (gD Γ) cl tys nl 1 N2 (fun j => ad (q + j)) y (.code y bytes maxL none :: Ts) rmY (.ref (ad q) :: As) (fun j => σ (q + j)) mc ms Rr)
    (hw : Cond.methodLink own index y ∈ Ts ∧ Cond.instanceMethod y ∈ Ts ∧ Cond.initialized y.cls ∈ Ts ∧ Cond.code y bytes maxL none ∈ Ts) (hy : y.name = "<init>") (hd0 : cNm y y.cls n) (hn : As.length = n) (hroom : rmY.cells = mc ∧ rmY.slots = ms ∧ rmY.frames + 1 ≤ rm.frames ∧ 8 + (maxL + 11) + rmY.locals ≤ rm.locals ∧ kc + mc ≤ rm.cells ∧ ks + ms ≤ rm.slots) (hst : st = As.reverse ++ .ref (ad q) :: rest) (hrest : (rest.map fun v => v.category).sum ≤ 8) (hd : decode cc pc = .ok (.invokespecial index, 3))
    (k : ∀ (ad2 : Nat → Nat) (σ2 : Nat → va_E), ad2 0 = ad q → Rr ad2 σ2 → G Γ (kc + mc) (ks + ms) (q + N2) (adj q ad ad2) (sgj q σ σ2) (pc + 3) L rest) : G Γ kc ks (q + 1) ad σ pc L st := by
  intro H locs ls hP hD hS hl T0 hT X
  have hcl := h.cL
  have hE := h.E
  rw [hcl] at hP hE
  have hg1 : ∀ (j : Nat) (x : Nat × va_E), (gl 1 (fun j => ad (q + j)) (fun j => σ (q + j)))[j]? = some x → (gl (q + 1) ad σ)[q]? = some x := fun j x hx => by
    obtain ⟨g1, g2⟩ := gl_out hx
    have : j = 0 := by omega
    subst this
    subst g2
    exact gl_at (by omega)
  have hP1 : va_P (gD Γ) cl (gl 1 (fun j => ad (q + j)) (fun j => σ (q + j))) H := fun j x hx => hP q x (hg1 j x hx)
  have hD1 : va_D (gA Γ) (gl 1 (fun j => ad (q + j)) (fun j => σ (q + j))) := ⟨fun i j x y hx hy _ => by
    have := (gl_out hx).1
    have := (gl_out hy).1
    omega, fun j x hx => hD.2 q x (hg1 j x hx)⟩
  have hF := c_in h hD1 hS
  have hrun := va_runI (locs := locs) (cells := kc) (slots := ks) (below := gb Γ) (meth := gM Γ) (e := ge Γ) (As := As) (rest := rest) (b := ad q) (n := n) (g := F0 (gm Γ) pc ls st) ⟨h.x, h.b, h.ml, h.ow, h.ts⟩ (hM H.size) (cwI (R := gR Γ) n h.ts (c_good hG hw.2.2.2) rfl hroom.1 hroom.2.1 (h.ts _ hw.2.2.1) (h.ts _ hw.1) (h.ts _ hw.2.1) hy hd0.2 (by rw [h.R]; exact ⟨hroom.2.2.1, hroom.2.2.2.1⟩))
    ⟨cn_blind, fun U hU hW => ⟨rfl, ⟨by rw [hU], by rw [hU]; exact hP1, EX.next hE hW hS hF hU, hD1.weaken (fun _ _ _ _ => trivial)⟩, aos.moved hW.alike hao⟩⟩ rfl hn hl.1 hst (lv_room hrest) hd (by rw [h.R]; exact ⟨hroom.2.2.2.2.1, hroom.2.2.2.2.2⟩)
  obtain ⟨v, st₀, t, T', L2, h0, X', hL2, e1, e2, ⟨⟨ad2, σ2, hv, ha0, hp, hb, hb3⟩, hz, hk⟩, go⟩ := hrun T0 hT X
  cases hv
  rw [h0] at hz hk
  have ha : ad2 0 = ad q := ha0 0 (by omega)
  have apart : ∀ i, i < q → ad i < H.size ∧ ¬ va_A (gl 1 (fun j => ad (q + j)) (fun j => σ (q + j))) H.size (ad i) := fun i hi => by
    have hlt : ad i < H.size := (hP i _ (gl_at (show i < q + 1 by omega))).lt
    refine ⟨hlt, ?_⟩
    rintro (⟨j, e, hj⟩ | hj)
    · have hj' := hg1 j _ hj
      have := hD.1 i q _ _ (gl_at (show i < q + 1 by omega)) hj' rfl
      omega
    · exact absurd hlt (Nat.not_lt.mpr hj)
  have hPm : va_P (gD Γ) (gC Γ) (gl (q + N2) (adj q ad ad2) (sgj q σ σ2)) T'.heap := by
    rw [hcl, e1]
    intro j x hx
    obtain ⟨g1, g2⟩ := gl_out hx
    subst g2
    unfold adj sgj
    by_cases z : j < q
    · rw [if_pos z, if_pos z]
      have hp0 := hP j _ (gl_at (show j < q + 1 by omega))
      exact hp0.kept (hk _ (apart j z).1 (apart j z).2)
    · rw [if_neg z, if_neg z]
      exact hb (j - q) _ (gl_at (by omega))
  have hDm : va_D (gA Γ) (gl (q + N2) (adj q ad ad2) (sgj q σ σ2)) := by
    have in2 : ∀ j, ¬ j < q → j < q + N2 → va_A (gl 1 (fun j => ad (q + j)) (fun j => σ (q + j))) H.size (ad2 (j - q)) := fun j z1 z2 => hb3.2 (j - q) (ad2 (j - q), σ2 (j - q)) (gl_at (by omega))
    refine ⟨fun i j x y hx hy hxy => ?_, fun j x hx => ?_⟩
    · obtain ⟨g1, g2⟩ := gl_out hx
      obtain ⟨g3, g4⟩ := gl_out hy
      subst g2; subst g4
      have hxy : adj q ad ad2 i = adj q ad ad2 j := hxy
      unfold adj at hxy
      by_cases zi : i < q
      · by_cases zj : j < q
        · rw [if_pos zi, if_pos zj] at hxy
          exact hD.1 i j (ad i, σ i) (ad j, σ j) (gl_at (by omega)) (gl_at (by omega)) hxy
        · rw [if_pos zi, if_neg zj] at hxy
          exact ((apart i zi).2 (by rw [hxy]; exact in2 j zj g3)).elim
      · by_cases zj : j < q
        · rw [if_neg zi, if_pos zj] at hxy
          exact ((apart j zj).2 (by rw [← hxy]; exact in2 i zi g1)).elim
        · rw [if_neg zi, if_neg zj] at hxy
          have := hb3.1 (i - q) (j - q) (ad2 (i - q), σ2 (i - q)) (ad2 (j - q), σ2 (j - q)) (gl_at (by omega)) (gl_at (by omega)) hxy
          omega
    · obtain ⟨g1, g2⟩ := gl_out hx
      subst g2
      unfold adj
      by_cases z : j < q
      · show gA Γ (if j < q then ad j else _)
        rw [if_pos z]
        exact hD.2 j (ad j, σ j) (gl_at (by omega))
      · show gA Γ (if j < q then ad j else _)
        rw [if_neg z]
        exact hF _ (in2 j z g1)
  obtain ⟨t2, a1, b1⟩ := k ad2 σ2 ha hp T'.heap (locs ++ L2) ls hPm hDm
    ⟨Nat.le_trans hS.1 (by rw [e1]; exact hz), fun x h1 h2 => by
      rw [e1, hk x (Nat.lt_of_lt_of_le h1 hS.1) (fun z => h2 (hF x z))]
      exact hS.2.1 x h1 h2, fun x hx => by
      rcases List.mem_append.mp hx with z | z
      · exact hS.2.2 x z
      · exact hF _ (hL2 x z)⟩ hl T' rfl X'
  exact ⟨t2, go t2 a1, b1⟩
/-- invokespecial of a constructor, of a nest mate's, for the cell that was made last -/
theorem g_initN {host : String} (h : Cx Γ cc own rm Ts cl tys nl) (hG : GoodIn Ts Ts) (hao : aos (gs Γ)) {q : Nat} {Rr : (Nat → Nat) → (Nat → va_E) → Prop} (hM : Ctn (gL Γ) (gD Γ) cl tys nl 1 N2 (fun j => ad (q + j)) y (.code y bytes maxL none :: Ts) rmY (.ref (ad q) :: As) (fun j => σ (q + j)) mc ms Rr)
    (hnl : (own, index, y, host) ∈ nl) (hw : Cond.instanceMethod y ∈ Ts ∧ Cond.initialized y.cls ∈ Ts ∧ Cond.code y bytes maxL none ∈ Ts) (hy : y.name = "<init>") (hd0 : cNm y y.cls n) (hn : As.length = n) (hroom : rmY.cells = mc ∧ rmY.slots = ms ∧ rmY.frames + 1 ≤ rm.frames ∧ 8 + (maxL + 11) + rmY.locals ≤ rm.locals ∧ kc + mc ≤ rm.cells ∧ ks + ms ≤ rm.slots) (hst : st = As.reverse ++ .ref (ad q) :: rest) (hrest : (rest.map fun v => v.category).sum ≤ 8) (hd : decode cc pc = .ok (.invokespecial index, 3))
    (k : ∀ (ad2 : Nat → Nat) (σ2 : Nat → va_E), ad2 0 = ad q → Rr ad2 σ2 → G Γ (kc + mc) (ks + ms) (q + N2) (adj q ad ad2) (sgj q σ σ2) (pc + 3) L rest) : G Γ kc ks (q + 1) ad σ pc L st := by
  intro H locs ls hP hD hS hl T0 hT X
  have hcl := h.cL
  have hE := h.E
  rw [hcl] at hP hE
  have hg1 : ∀ (j : Nat) (x : Nat × va_E), (gl 1 (fun j => ad (q + j)) (fun j => σ (q + j)))[j]? = some x → (gl (q + 1) ad σ)[q]? = some x := fun j x hx => by
    obtain ⟨g1, g2⟩ := gl_out hx
    have : j = 0 := by omega
    subst this
    subst g2
    exact gl_at (by omega)
  have hP1 : va_P (gD Γ) cl (gl 1 (fun j => ad (q + j)) (fun j => σ (q + j))) H := fun j x hx => hP q x (hg1 j x hx)
  have hD1 : va_D (gA Γ) (gl 1 (fun j => ad (q + j)) (fun j => σ (q + j))) := ⟨fun i j x y hx hy _ => by
    have := (gl_out hx).1
    have := (gl_out hy).1
    omega, fun j x hx => hD.2 q x (hg1 j x hx)⟩
  have hF := c_in h hD1 hS
  have hrun := va_runIN (locs := locs) (cells := kc) (slots := ks) (below := gb Γ) (meth := gM Γ) (e := ge Γ) (R := gR Γ) (As := As) (rest := rest) (b := ad q) (n := n) (g := F0 (gm Γ) pc ls st) ⟨h.x, h.b, h.ml, h.ow, h.ts⟩ (hM H.size) ⟨va_cnB n h.ts (c_good hG hw.2.2) rfl hroom.1 hroom.2.1 (hE.2.1 _ hnl) (h.ts _ hw.2.1) hd0.2 (by rw [h.R]; exact ⟨hroom.2.2.1, hroom.2.2.2.1⟩), hy, h.ts _ hw.1⟩
    ⟨cn_blind, fun U hU hW => ⟨rfl, ⟨by rw [hU], by rw [hU]; exact hP1, EX.next hE hW hS hF hU, hD1.weaken (fun _ _ _ _ => trivial)⟩, aos.moved hW.alike hao⟩⟩ rfl hn hl.1 hst (lv_room hrest) hd (by rw [h.R]; exact ⟨hroom.2.2.2.2.1, hroom.2.2.2.2.2⟩)
  obtain ⟨v, st₀, t, T', L2, h0, X', hL2, e1, e2, ⟨⟨ad2, σ2, hv, ha0, hp, hb, hb3⟩, hz, hk⟩, go⟩ := hrun T0 hT X
  cases hv
  rw [h0] at hz hk
  have ha : ad2 0 = ad q := ha0 0 (by omega)
  have apart : ∀ i, i < q → ad i < H.size ∧ ¬ va_A (gl 1 (fun j => ad (q + j)) (fun j => σ (q + j))) H.size (ad i) := fun i hi => by
    have hlt : ad i < H.size := (hP i _ (gl_at (show i < q + 1 by omega))).lt
    refine ⟨hlt, ?_⟩
    rintro (⟨j, e, hj⟩ | hj)
    · have hj' := hg1 j _ hj
      have := hD.1 i q _ _ (gl_at (show i < q + 1 by omega)) hj' rfl
      omega
    · exact absurd hlt (Nat.not_lt.mpr hj)
  have hPm : va_P (gD Γ) (gC Γ) (gl (q + N2) (adj q ad ad2) (sgj q σ σ2)) T'.heap := by
    rw [hcl, e1]
    intro j x hx
    obtain ⟨g1, g2⟩ := gl_out hx
    subst g2
    unfold adj sgj
    by_cases z : j < q
    · rw [if_pos z, if_pos z]
      have hp0 := hP j _ (gl_at (show j < q + 1 by omega))
      exact hp0.kept (hk _ (apart j z).1 (apart j z).2)
    · rw [if_neg z, if_neg z]
      exact hb (j - q) _ (gl_at (by omega))
  have hDm : va_D (gA Γ) (gl (q + N2) (adj q ad ad2) (sgj q σ σ2)) := by
    have in2 : ∀ j, ¬ j < q → j < q + N2 → va_A (gl 1 (fun j => ad (q + j)) (fun j => σ (q + j))) H.size (ad2 (j - q)) := fun j z1 z2 => hb3.2 (j - q) (ad2 (j - q), σ2 (j - q)) (gl_at (by omega))
    refine ⟨fun i j x y hx hy hxy => ?_, fun j x hx => ?_⟩
    · obtain ⟨g1, g2⟩ := gl_out hx
      obtain ⟨g3, g4⟩ := gl_out hy
      subst g2; subst g4
      have hxy : adj q ad ad2 i = adj q ad ad2 j := hxy
      unfold adj at hxy
      by_cases zi : i < q
      · by_cases zj : j < q
        · rw [if_pos zi, if_pos zj] at hxy
          exact hD.1 i j (ad i, σ i) (ad j, σ j) (gl_at (by omega)) (gl_at (by omega)) hxy
        · rw [if_pos zi, if_neg zj] at hxy
          exact ((apart i zi).2 (by rw [hxy]; exact in2 j zj g3)).elim
      · by_cases zj : j < q
        · rw [if_neg zi, if_pos zj] at hxy
          exact ((apart j zj).2 (by rw [← hxy]; exact in2 i zi g1)).elim
        · rw [if_neg zi, if_neg zj] at hxy
          have := hb3.1 (i - q) (j - q) (ad2 (i - q), σ2 (i - q)) (ad2 (j - q), σ2 (j - q)) (gl_at (by omega)) (gl_at (by omega)) hxy
          omega
    · obtain ⟨g1, g2⟩ := gl_out hx
      subst g2
      unfold adj
      by_cases z : j < q
      · show gA Γ (if j < q then ad j else _)
        rw [if_pos z]
        exact hD.2 j (ad j, σ j) (gl_at (by omega))
      · show gA Γ (if j < q then ad j else _)
        rw [if_neg z]
        exact hF _ (in2 j z g1)
  obtain ⟨t2, a1, b1⟩ := k ad2 σ2 ha hp T'.heap (locs ++ L2) ls hPm hDm
    ⟨Nat.le_trans hS.1 (by rw [e1]; exact hz), fun x h1 h2 => by
      rw [e1, hk x (Nat.lt_of_lt_of_le h1 hS.1) (fun z => h2 (hF x z))]
      exact hS.2.1 x h1 h2, fun x hx => by
      rcases List.mem_append.mp hx with z | z
      · exact hS.2.2 x z
      · exact hF _ (hL2 x z)⟩ hl T' rfl X'
  exact ⟨t2, go t2 a1, b1⟩
end CtorRows
