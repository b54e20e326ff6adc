/-! THROWING: contracts of methods that throw, a throw, a call that throws through -/
def FEx (st : State) (o : Outcome) (t : State) (L : List Loc) (k n : Nat) : Prop := (∃ x, o = .threw x) ∧ st.WarmedH t.vm ∧ st.sameButNew ({ t with vm := st.vm } : State) L k n
def MetX (l : Launch) (y : MethodName) (ws : List Cond) (rm : Room) (Pc : Array Value → State → Prop) (Qc : Array Value → State → Outcome → State → Prop) (mc ms : Nat) (free : Addr → Prop) : Prop :=
  MetFree l y (headSpec ws rm) Pc (fun _ _ _ _ _ => True) (fun a st o t => Qc a st o t ∧ ∃ L, FEx st o t L mc ms ∧ ∀ q ∈ L, free q.base)
def MQX (below : List Frame) (Qc : Array Value → State → Outcome → State → Prop) (a : Array Value) (s : State) (mc ms : Nat) (free : Addr → Prop) : State → Prop := fun t =>
  ∃ o, t.status = .running ∧ Ended t below o ∧ Qc a s o t ∧ ∃ L, FEx s o t L mc ms ∧ ∀ q ∈ L, free q.base
theorem metX_of {l : Launch} {y : MethodName} {ws ws' : List Cond} {rm : Room} {Pc : Array Value → State → Prop} {Qc : Array Value → State → Outcome → State → Prop} {mc ms : Nat} {free : Addr → Prop} {cc : ByteArray} {maxL : Nat} {ret : Option FieldType}
    (hy : plainName y.cls = true) (hw : ws = Cond.code y cc maxL ret :: ws')
    (body : ∀ p e s m args below meth c s₁, BodyLoose p l y (headSpec ws rm) cc maxL ret e s m args below meth c s₁ → c.maxLocals = maxL → Pc args s →
      W p l e (headSpec ws rm).room s m args below meth c s.heap [] 0 0 (MQX below Qc args s mc ms free) (entryFrame m args maxL)) : MetX l y ws rm Pc Qc mc ms free := by
  refine MetFree.of_bodyS (code := cc) (maxLocals := maxL) (ret := ret) hy ?_ ?_
  · intro args s m h hn
    obtain ⟨meth, c, h1, h2, h3, h4, h5, h6, -, -⟩ := Cond.code_spec hn (atoms_spec (ws := ws) h _ (by rw [hw]; exact List.mem_cons_self))
    exact ⟨meth, c, h1, h2, h3, h4, h5, h6⟩
  · intro p e s m args below meth c s₁ B hml hP _
    obtain ⟨t, a1, o, b1, b2, b3⟩ := body p e s m args below meth c s₁ B hml hP s₁ (by rw [B.state]; rfl) (Stand.of_body B)
    exact ⟨t, o, a1, b1, b2, ⟨b3.1, b3.2⟩⟩
/-- the exception: an object of the class X -/
def exc (s : State) (X : String) (H : Heap) (x : Nat) : Prop := ∃ (c : ClassId) (ce : Cell), s.vm.findClass X = some c ∧ H[x]? = some ce ∧ ce.cls = c ∧ ce.vm = .none
def cQx (D : va_G) (cl : List vw_C) (N : Nat) (ad : Nat → Nat) (A : Nat → Prop) (Rr : String → (Nat → va_E) → Prop) : Array Value → State → Outcome → State → Prop := fun _ st oc t => (∃ (x : Nat) (X : String) (σ2 : Nat → va_E), oc = .threw x ∧ Rr X σ2 ∧ va_P D cl (gl N ad σ2) t.heap ∧ va_D A (gl N ad σ2) ∧ exc st X t.heap x) ∧ va_F A st t
/-- the contract of a method that throws (and makes the exception alone) -/
def CtX (l : Launch) (D : va_G) (cl : List vw_C) (tys : List (ClassId × FieldType)) (nl : List (String × Nat × MethodName × String)) (N : Nat) (ad : Nat → Nat) (y : MethodName) (ws : List Cond) (rm : Room) (As : List Value) (σ : Nat → va_E) (Rr : String → (Nat → va_E) → Prop) : Prop :=
  ∀ sz : Nat, MetX l y ws rm (cPc D cl tys nl N ad σ sz As) (cQx D cl N ad (va_A (gl N ad σ) sz) Rr) 1 6 (va_A (gl N ad σ) sz)
def RX (Γ : GT) (N : Nat) (ad : Nat → Nat) (Rr : String → (Nat → va_E) → Prop) : Prop :=
  (gM Γ).locks = false ∧ (gc Γ).exceptionTable.toList = [] ∧ gZ Γ = MQX (gb Γ) (cQx (gD Γ) (gC Γ) N ad (gA Γ) Rr) (ga Γ) (gs Γ) 1 6 (gA Γ)
/-- a walk that has written nothing yet -/
def GP (Γ : GT) (pc : Nat) (L : List (Option Value)) (st : List Value) : Prop := ∀ ls : Array Slot, hasL ls (gN Γ) L → gW Γ (gs Γ).heap [] 0 0 (F0 (gm Γ) pc ls st)
def PW (Γ : GT) (N : Nat) (ad : Nat → Nat) (σ : Nat → va_E) : Prop := va_P (gD Γ) (gC Γ) (gl N ad σ) (gs Γ).heap ∧ va_D (gA Γ) (gl N ad σ)
theorem gp_g {Γ : GT} {N pc : Nat} {ad : Nat → Nat} {σ : Nat → va_E} {L : List (Option Value)} {st : List Value} (pw : PW Γ N ad σ) (k : G Γ 0 0 N ad σ pc L st) : GP Γ pc L st := fun ls hl => k _ [] ls pw.1 pw.2 va_S.rf hl
theorem ctX_of {l : Launch} {D : va_G} {cl : List vw_C} {tys : List (ClassId × FieldType)} {nl : List (String × Nat × MethodName × String)} {N : Nat} {ad : Nat → Nat} {y : MethodName} {TB : List Cond} {rm : Room} {As : List Value} {σ : Nat → va_E} {Rr : String → (Nat → va_E) → Prop} {cc : ByteArray} {n : Nat} {ret : Option FieldType}
    (hy : plainName y.cls = true) (hn : (lg_sl As).length ≤ n)
    (body : ∀ Γ : GT, gL Γ = l → gD Γ = D → gN Γ = n → Cx Γ cc y.cls rm TB cl tys nl → RX Γ N ad Rr → PW Γ N ad σ → GP Γ 0 (inL As n) []) : CtX l D cl tys nl N ad y (.code y cc n ret :: TB) rm As σ Rr := by
  intro sz
  refine metX_of (cc := cc) (maxL := n) (ret := ret) hy rfl ?_
  intro p e s m args below meth c s₁ B hml hv
  obtain ⟨rfl, hsz, hP, hK, hD0⟩ := hv
  have hts := atoms_spec (ws := .code y cc n ret :: TB) B.pre
  have hown : s.vm.findClass y.cls = some m.cls := findClass_of_methodNamed B.named
  subst hsz
  have hD := hD0.self (sz := s.heap.size)
  have hex : c.exceptionTable.toList = [] := by
    obtain ⟨meth', c', hm', hc', -, -, -, -, hem, -⟩ := Cond.code_spec B.named (hts _ List.mem_cons_self)
    have e1 := B.method.symm.trans hm'
    cases e1
    have hc2 : meth.code = some c := by
      have h1 := B.here.code
      have h2 := B.state
      rw [h2] at h1
      have h3 : s.code? m = some c := h1
      rw [State.code?_eq, B.method] at h3
      exact h3
    rw [hc2] at hc'
    cases hc'
    have h0 : c.exceptionTable.size = 0 := by simpa [Array.isEmpty] using hem
    exact List.eq_nil_of_length_eq_zero (by simpa using h0)
  rw [lg_entry_eq]
  exact body (p, l, e, rm, s, m, As.toArray, below, meth, c, MQX below (cQx D cl N ad (va_A (gl N ad σ) s.heap.size) Rr) As.toArray s 1 6 (va_A (gl N ad σ) s.heap.size), D, cl, va_A (gl N ad σ) s.heap.size, n) rfl rfl rfl
    ⟨B.exec, B.bytes, hml, hown, rfl, fun w hw => hts w (List.mem_cons_of_mem _ hw), rfl, hK, fun q h => Or.inr h⟩ ⟨B.notSynchronized, hex, rfl⟩ ⟨hP, hD⟩ _ (inL_has hn)
/-- nothing old has changed where nothing was written -/
theorem same_old {s U : State} {k n : Nat} (h : s.sameButNew ({ U with vm := s.vm } : State) [] k n) : ∀ q, q < s.heap.size → U.heap[q]? = s.heap[q]? := by
  intro q hq
  obtain ⟨c', h1, h2, h3, h4⟩ := h.2.2.2.2.2 q s.heap[q] (Array.getElem?_eq_some_iff.mpr ⟨hq, rfl⟩)
  have e : c' = s.heap[q] := by
    rw [h2]
    have : c'.slots = s.heap[q].slots := Array.ext_getElem? (fun i => h4 i (by simp))
    rw [this]
  rw [Array.getElem?_eq_some_iff.mpr ⟨hq, rfl⟩, ← e]
  exact h1
theorem isRef_zq {C n d : String} {A : Nat → Prop} {s : State} {args : Array Value} (h : va_Zq C n d A s s.heap) : (Cond.isRef (.static C n d)).before args s = true := by
  rcases h with h | ⟨t, h⟩
  · obtain ⟨cf, kf, fi, f, a, cell, h1, h2, h3, h4, h5, h6, h7, h8⟩ := h
    simp [Cond.before, Cond.holds, Cond.value, Term.eval, State.fieldNamed?, h1, h2, h4, h5, h6, h7]
  · obtain ⟨cf, kf, fi, f, a, cell, h1, h2, h3, h4, h5, h6, h7, h8⟩ := h
    simp [Cond.before, Cond.holds, Cond.value, Term.eval, State.fieldNamed?, h1, h2, h4, h5, h6, h7]
theorem lays_zL {C n d : String} {A : Nat → Prop} {s : State} {args : Array Value} (h : zL C n d A s s.heap) : (Cond.laysStatic C n d).before args s = true := by
  obtain ⟨c, k, i, f, a, cell, ⟨h1, h2, h3, h4, h5⟩, h6, ⟨h7, h8, h9⟩, h10⟩ := h
  simp [Cond.before, Cond.holds, Cond.value, h1, h2, h3, h4, h5, h6, h7, h8, h9]
/-- the four words that speak of Throwable's two statics -/
abbrev xS : List Cond := [.isRef (.static Bundle.tN "UNASSIGNED_STACK" Bundle.steD), .isRef (.static Bundle.tN "SUPPRESSED_SENTINEL" Bundle.listD), .laysStatic Bundle.tN "UNASSIGNED_STACK" Bundle.steD, .laysStatic Bundle.tN "SUPPRESSED_SENTINEL" Bundle.listD]
theorem decl_of {y : MethodName} {b : ByteArray} {n : Nat} {ret : Option FieldType} {s : State} {args : Array Value} (hi : (Cond.instanceMethod y).before args s = true) (hc : (Cond.code y b n ret).before args s = true) : (Cond.declares y).before args s = true := by
  obtain ⟨mk, meth, hn, hm, hst, -⟩ := Cond.instanceMethod_spec hi
  obtain ⟨meth', c, hm', -, -, -, -, -, -, hsig⟩ := Cond.code_spec hn hc
  cases hm.symm.trans hm'
  simp [Cond.before, Cond.holds, Cond.value, hn, hm, hst, hsig]
theorem cast_self {X : String} {n : Nat} {s : State} {args : Array Value} (hi : (Cond.instantiable X n).before args s = true) : (Cond.castable X X).before args s = true := by
  obtain ⟨c, k, h1, -⟩ := Cond.instantiable_spec hi
  have hA : s.vm.assignable c c = true := by
    show s.vm.assignableAux (255 + 1) c c = true
    rw [Vm.assignableAux]
    simp only [beq_self_eq_true, Bool.true_or]
  simp [Cond.before, Cond.holds, Cond.value, h1, hA]
/-- a word of an exception's: one of the tables', one of Throwable's statics, or one that follows from these -/
def xOk (Ts : List Cond) (X : String) (w : Cond) : Prop := w ∈ Ts ∨ w ∈ xS ∨ w = .castable X X ∨ ∃ y b n ret, w = .declares y ∧ Cond.instanceMethod y ∈ Ts ∧ Cond.code y b n ret ∈ Ts
section PureRows
variable {Γ : GT} {cc : ByteArray} {own : String} {rm : Room} {Ts : List Cond} {cl : List vw_C} {tys : List (ClassId × FieldType)} {nl : List (String × Nat × MethodName × String)} {pc : Nat} {L : List (Option Value)} {st : List Value}
theorem p_at {pc' : Nat} {L' : List (Option Value)} {st' : List Value} (e1 : pc = pc') (e2 : L = L') (e3 : st = st') (k : GP Γ pc' L' st') : GP Γ pc L st := by subst e1; subst e2; subst e3; exact k
theorem p_iconst (h : Cx Γ cc own rm Ts cl tys nl) {n : Int} {v : Int32} (hd : decode cc pc = .ok (.iconst n, 1)) (hv : Int32.ofInt n = v) (k : GP Γ (pc + 1) L (.int v :: st)) : GP Γ pc L (st) := fun ls hl => lv_iconst h.x h.b hd hv (k ls hl)
theorem p_bipush (h : Cx Γ cc own rm Ts cl tys nl) {n : Int} {v : Int32} (hd : decode cc pc = .ok (.bipush n, 2)) (hv : (Int8.ofInt n).toInt32 = v) (k : GP Γ (pc + 2) L (.int v :: st)) : GP Γ pc L (st) := fun ls hl => lv_bipush h.x h.b hd hv (k ls hl)
theorem p_iload_n (h : Cx Γ cc own rm Ts cl tys nl) {k4 : Fin 4} {i : Nat} {x : Int32} (hd : decode cc pc = .ok (.iload_n k4, 1)) (hi : (k4 : Nat) = i) (hx : L[i]? = some (some (.int x))) (k : GP Γ (pc + 1) L (.int x :: st)) : GP Γ pc L (st) := fun ls hl => lv_iload_n h.x h.b hd hi (hl.2.2 _ _ hx) (k ls hl)
theorem p_icmp_lt (h : Cx Γ cc own rm Ts cl tys nl) {x y : Int32} {off : Int} {tgt : Nat} (hd : decode cc pc = .ok (.if_icmp .lt off, 3)) (ht : (pc : Int) + off = (tgt : Int)) (kt : x < y → GP Γ tgt L st) (kf : ¬ x < y → GP Γ (pc + 3) L st) : GP Γ pc L (.int y :: .int x :: st) := fun ls hl => lv_icmp_lt h.x h.b hd ht (fun q => kt q ls hl) (fun q => kf q ls hl)
theorem p_icmp_le (h : Cx Γ cc own rm Ts cl tys nl) {x y : Int32} {off : Int} {tgt : Nat} (hd : decode cc pc = .ok (.if_icmp .le off, 3)) (ht : (pc : Int) + off = (tgt : Int)) (kt : x ≤ y → GP Γ tgt L st) (kf : ¬ x ≤ y → GP Γ (pc + 3) L st) : GP Γ pc L (.int y :: .int x :: st) := fun ls hl => lv_icmp_le h.x h.b hd ht (fun q => kt q ls hl) (fun q => kf q ls hl)
theorem p_icmp_ne (h : Cx Γ cc own rm Ts cl tys nl) {x y : Int32} {off : Int} {tgt : Nat} (hd : decode cc pc = .ok (.if_icmp .ne off, 3)) (ht : (pc : Int) + off = (tgt : Int)) (kt : ¬ x = y → GP Γ tgt L st) (kf : x = y → GP Γ (pc + 3) L st) : GP Γ pc L (.int y :: .int x :: st) := fun ls hl => lv_icmp_ne h.x h.b hd ht (fun q => kt q ls hl) (fun q => kf q ls hl)
theorem p_if_eq (h : Cx Γ cc own rm Ts cl tys nl) {x : Int32} {off : Int} {tgt : Nat} (hd : decode cc pc = .ok (.ifCond .eq off, 3)) (ht : (pc : Int) + off = (tgt : Int)) (kt : x = 0 → GP Γ tgt L st) (kf : ¬ x = 0 → GP Γ (pc + 3) L st) : GP Γ pc L (.int x :: st) := fun ls hl => lv_if_eq h.x h.b hd ht (fun q => kt q ls hl) (fun q => kf q ls hl)
/-- throw new X() -/
theorem p_throw (h : Cx Γ cc own rm Ts cl tys nl) {N : Nat} {ad : Nat → Nat} {σ : Nat → va_E} {Rr : String → (Nat → va_E) → Prop} (r : RX Γ N ad Rr) (pw : PW Γ N ad σ) (htr : (gL Γ).stackTraces = false) {X : String} {names : List String} {ic ix : Nat}
    (hfit : Bundle.fit X = true) (hnames : ∀ n ∈ names, Bundle.fit n = true) (hwords : ∀ w ∈ Bundle.ownAtoms0 own ic X names, xOk Ts X w)
    (hcl : Cond.classLink own ix X ∈ Ts) (hins : Cond.instantiable X 6 ∈ Ts) (hini : Cond.initialized X ∈ Ts)
    (hroom : names.length + 3 < rm.frames ∧ 8 + (13 * (names.length + 1) + 41) ≤ rm.locals ∧ 1 ≤ rm.cells ∧ 6 ≤ rm.slots) (hst : (st.map fun v => v.category).sum ≤ 7) (hv : Rr X σ)
    (hd0 : decode cc pc = .ok (.new ix, 3)) (hd3 : decode cc (pc + 3) = .ok (.dup, 1)) (hd4 : decode cc (pc + 3 + 1) = .ok (.invokespecial ic, 3)) (hd7 : decode cc (pc + 3 + 1 + 3) = .ok (.athrow, 1)) : GP Γ pc L st := by
  intro ls hl
  unfold gW
  rw [r.2.2]
  obtain ⟨cX, kX, hfX, hkX, -⟩ := Cond.instantiable_spec (h.ts _ hins)
  refine W.newcK h.x h.b h.ow (h.ts _ hcl) (h.ts _ hins) (h.ts _ hini) rfl hd0 (by rw [h.R]; exact hroom.2.2.1) (by rw [h.R]; exact hroom.2.2.2) hfX rfl (fun H1 kC hkC e1 z1 o1 => ?_)
  refine lv_dup h.x h.b hd3 rfl ?_
  intro T hT S
  have htr' : (ge Γ).platform.stackTraces = false := by
    have := S.admits.2.2.2.2.1
    rw [this]
    exact htr
  have hcell : T.heap[(gs Γ).heap.size]? = some (freshCell cX kC) := by rw [hT]; exact e1
  have hat : ∀ w ∈ Bundle.ownAtoms0 own ic X names, w.before (ga Γ) (gs Γ) = true := fun w hw => by
    rcases hwords w hw with z | z | z | ⟨y, b, n, ret, z, z1, z2⟩
    · exact h.ts w z
    rotate_left
    · rw [z]; exact cast_self (h.ts _ hins)
    · rw [z]; exact decl_of (h.ts _ z1) (h.ts _ z2)
    · simp only [xS, List.mem_cons, List.not_mem_nil, or_false] at z
      rcases z with z | z | z | z
      · rw [z]; exact isRef_zq h.E.2.2.1.1
      · rw [z]; exact isRef_zq h.E.2.2.2.1
      · rw [z]; exact lays_zL h.E.2.2.1.2
      · rw [z]; exact lays_zL h.E.2.2.2.2
  obtain ⟨U, st1, hrun, hend, hW, hsame, ce, hce, hown⟩ := S.ctorThrow0 (a := (gs Γ).heap.size) (g := F0 (gm Γ) (pc + 3 + 1) ls (Value.ref (gs Γ).heap.size :: Value.ref (gs Γ).heap.size :: st)) h.x htr' h.ow hfit hnames hat (fun x hx => absurd hx List.not_mem_nil) hfX hkC hcell (Nat.le_refl _) rfl (hl.1.trans h.ml.symm) rfl rfl (rest := st) rfl (by rw [h.b]; exact hd4) (by rw [h.b]; exact hd7) (fun x hx => by rw [r.2.1] at hx; exact absurd hx List.not_mem_nil) (by rw [h.R]; exact hroom.1) (by
      rw [h.R]
      have e0 : (Value.ref (gs Γ).heap.size).category = 1 := rfl
      have : (((Value.ref (gs Γ).heap.size) :: st).map fun v => v.category).sum ≤ 8 := by
        rw [List.map_cons, List.sum_cons, e0]; omega
      have m0 : 2 * (F0 (gm Γ) (pc + 3 + 1) ls (.ref (gs Γ).heap.size :: .ref (gs Γ).heap.size :: st)).monitorRoom = 0 := rfl
      have := hroom.2.1
      omega) r.1
  have hold := same_old hsame
  refine ⟨U, st1, .threw _, hrun, hend, ⟨⟨_, X, σ, rfl, hv, pw.1.kept (fun k q hq => hold q.1 (pw.1 k q hq).lt), pw.2, ?_⟩, ?_⟩, [], ⟨⟨_, rfl⟩, hW, hsame⟩, fun q hq => absurd hq List.not_mem_nil⟩
  · exact ⟨ce.cls, ce, hown.cls, hce, rfl, hown.vm⟩
  · exact ⟨hsame.2.1, fun q hq _ => hold q hq⟩
end PureRows
