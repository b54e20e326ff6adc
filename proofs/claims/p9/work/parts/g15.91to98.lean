-- part 91.throw
section
/-! THROWING: contracts of methods that throw, a throw, a call that throws through -/
def FEx (st : State) (o : Outcome) (t : State) (L : List Loc) (k n : Nat) : Prop := (∃ x, o = .threw x) ∧ st.WarmedH t.vm ∧ st.sameButNew ({ t with vm := st.vm } : State) L k n
def MetX (l : Launch) (y : MethodName) (ws : List Cond) (rm : Room) (Pc : Array Value → State → Prop) (Qc : Array Value → State → Outcome → State → Prop) (mc ms : Nat) (free : Addr → Prop) : Prop :=
  MetFree l y (headSpec ws rm) Pc (fun _ _ _ _ _ => True) (fun a st o t => Qc a st o t ∧ ∃ L, FEx st o t L mc ms ∧ ∀ q ∈ L, free q.base)
def MQX (below : List Frame) (Qc : Array Value → State → Outcome → State → Prop) (a : Array Value) (s : State) (mc ms : Nat) (free : Addr → Prop) : State → Prop := fun t =>
  ∃ o, t.status = .running ∧ Ended t below o ∧ Qc a s o t ∧ ∃ L, FEx s o t L mc ms ∧ ∀ q ∈ L, free q.base
theorem metX_of {l : Launch} {y : MethodName} {ws ws' : List Cond} {rm : Room} {Pc : Array Value → State → Prop} {Qc : Array Value → State → Outcome → State → Prop} {mc ms : Nat} {free : Addr → Prop} {cc : ByteArray} {maxL : Nat} {ret : Option FieldType}
    (hy : plainName y.cls = true) (hw : ws = Cond.code y cc maxL ret :: ws')
    (body : ∀ p e s m args below meth c s₁, BodyLoose p l y (headSpec ws rm) cc maxL ret e s m args below meth c s₁ → c.maxLocals = maxL → Pc args s →
      W p l e (headSpec ws rm).room s m args below meth c s.heap [] 0 0 (MQX below Qc args s mc ms free) (entryFrame m args maxL)) : MetX l y ws rm Pc Qc mc ms free := by
  refine MetFree.of_bodyS (code := cc) (maxLocals := maxL) (ret := ret) hy ?_ ?_
  · intro args s m h hn
    obtain ⟨meth, c, h1, h2, h3, h4, h5, h6, -, -⟩ := Cond.code_spec hn (atoms_spec (ws := ws) h _ (by rw [hw]; exact List.mem_cons_self))
    exact ⟨meth, c, h1, h2, h3, h4, h5, h6⟩
  · intro p e s m args below meth c s₁ B hml hP _
    obtain ⟨t, a1, o, b1, b2, b3⟩ := body p e s m args below meth c s₁ B hml hP s₁ (by rw [B.state]; rfl) (Stand.of_body B)
    exact ⟨t, o, a1, b1, b2, ⟨b3.1, b3.2⟩⟩
/-- the exception: an object of the class X -/
def exc (s : State) (X : String) (H : Heap) (x : Nat) : Prop := ∃ (c : ClassId) (ce : Cell), s.vm.findClass X = some c ∧ H[x]? = some ce ∧ ce.cls = c ∧ ce.vm = .none
def cQx (D : va_G) (cl : List vw_C) (N : Nat) (ad : Nat → Nat) (A : Nat → Prop) (Rr : String → (Nat → va_E) → Prop) : Array Value → State → Outcome → State → Prop := fun _ st oc t => (∃ (x : Nat) (X : String) (σ2 : Nat → va_E), oc = .threw x ∧ Rr X σ2 ∧ va_P D cl (gl N ad σ2) t.heap ∧ va_D A (gl N ad σ2) ∧ exc st X t.heap x) ∧ va_F A st t
/-- the contract of a method that throws (and makes the exception alone) -/
def CtX (l : Launch) (D : va_G) (cl : List vw_C) (tys : List (ClassId × FieldType)) (nl : List (String × Nat × MethodName × String)) (N : Nat) (ad : Nat → Nat) (y : MethodName) (ws : List Cond) (rm : Room) (As : List Value) (σ : Nat → va_E) (Rr : String → (Nat → va_E) → Prop) : Prop :=
  ∀ sz : Nat, MetX l y ws rm (cPc D cl tys nl N ad σ sz As) (cQx D cl N ad (va_A (gl N ad σ) sz) Rr) 1 6 (va_A (gl N ad σ) sz)
def RX (Γ : GT) (N : Nat) (ad : Nat → Nat) (Rr : String → (Nat → va_E) → Prop) : Prop :=
  (gM Γ).locks = false ∧ (gc Γ).exceptionTable.toList = [] ∧ gZ Γ = MQX (gb Γ) (cQx (gD Γ) (gC Γ) N ad (gA Γ) Rr) (ga Γ) (gs Γ) 1 6 (gA Γ)
/-- a walk that has written nothing yet -/
def GP (Γ : GT) (pc : Nat) (L : List (Option Value)) (st : List Value) : Prop := ∀ ls : Array Slot, hasL ls (gN Γ) L → gW Γ (gs Γ).heap [] 0 0 (F0 (gm Γ) pc ls st)
def PW (Γ : GT) (N : Nat) (ad : Nat → Nat) (σ : Nat → va_E) : Prop := va_P (gD Γ) (gC Γ) (gl N ad σ) (gs Γ).heap ∧ va_D (gA Γ) (gl N ad σ)
theorem gp_g {Γ : GT} {N pc : Nat} {ad : Nat → Nat} {σ : Nat → va_E} {L : List (Option Value)} {st : List Value} (pw : PW Γ N ad σ) (k : G Γ 0 0 N ad σ pc L st) : GP Γ pc L st := fun ls hl => k _ [] ls pw.1 pw.2 va_S.rf hl
theorem ctX_of {l : Launch} {D : va_G} {cl : List vw_C} {tys : List (ClassId × FieldType)} {nl : List (String × Nat × MethodName × String)} {N : Nat} {ad : Nat → Nat} {y : MethodName} {TB : List Cond} {rm : Room} {As : List Value} {σ : Nat → va_E} {Rr : String → (Nat → va_E) → Prop} {cc : ByteArray} {n : Nat} {ret : Option FieldType}
    (hy : plainName y.cls = true) (hn : (lg_sl As).length ≤ n)
    (body : ∀ Γ : GT, gL Γ = l → gD Γ = D → gN Γ = n → Cx Γ cc y.cls rm TB cl tys nl → RX Γ N ad Rr → PW Γ N ad σ → GP Γ 0 (inL As n) []) : CtX l D cl tys nl N ad y (.code y cc n ret :: TB) rm As σ Rr := by
  intro sz
  refine metX_of (cc := cc) (maxL := n) (ret := ret) hy rfl ?_
  intro p e s m args below meth c s₁ B hml hv
  obtain ⟨rfl, hsz, hP, hK, hD0⟩ := hv
  have hts := atoms_spec (ws := .code y cc n ret :: TB) B.pre
  have hown : s.vm.findClass y.cls = some m.cls := findClass_of_methodNamed B.named
  subst hsz
  have hD := hD0.self (sz := s.heap.size)
  have hex : c.exceptionTable.toList = [] := by
    obtain ⟨meth', c', hm', hc', -, -, -, -, hem, -⟩ := Cond.code_spec B.named (hts _ List.mem_cons_self)
    have e1 := B.method.symm.trans hm'
    cases e1
    have hc2 : meth.code = some c := by
      have h1 := B.here.code
      have h2 := B.state
      rw [h2] at h1
      have h3 : s.code? m = some c := h1
      rw [State.code?_eq, B.method] at h3
      exact h3
    rw [hc2] at hc'
    cases hc'
    have h0 : c.exceptionTable.size = 0 := by simpa [Array.isEmpty] using hem
    exact List.eq_nil_of_length_eq_zero (by simpa using h0)
  rw [lg_entry_eq]
  exact body (p, l, e, rm, s, m, As.toArray, below, meth, c, MQX below (cQx D cl N ad (va_A (gl N ad σ) s.heap.size) Rr) As.toArray s 1 6 (va_A (gl N ad σ) s.heap.size), D, cl, va_A (gl N ad σ) s.heap.size, n) rfl rfl rfl
    ⟨B.exec, B.bytes, hml, hown, rfl, fun w hw => hts w (List.mem_cons_of_mem _ hw), rfl, hK, fun q h => Or.inr h⟩ ⟨B.notSynchronized, hex, rfl⟩ ⟨hP, hD⟩ _ (inL_has hn)
/-- nothing old has changed where nothing was written -/
theorem same_old {s U : State} {k n : Nat} (h : s.sameButNew ({ U with vm := s.vm } : State) [] k n) : ∀ q, q < s.heap.size → U.heap[q]? = s.heap[q]? := by
  intro q hq
  obtain ⟨c', h1, h2, h3, h4⟩ := h.2.2.2.2.2 q s.heap[q] (Array.getElem?_eq_some_iff.mpr ⟨hq, rfl⟩)
  have e : c' = s.heap[q] := by
    rw [h2]
    have : c'.slots = s.heap[q].slots := Array.ext_getElem? (fun i => h4 i (by simp))
    rw [this]
  rw [Array.getElem?_eq_some_iff.mpr ⟨hq, rfl⟩, ← e]
  exact h1
theorem isRef_zq {C n d : String} {A : Nat → Prop} {s : State} {args : Array Value} (h : va_Zq C n d A s s.heap) : (Cond.isRef (.static C n d)).before args s = true := by
  rcases h with h | ⟨t, h⟩
  · obtain ⟨cf, kf, fi, f, a, cell, h1, h2, h3, h4, h5, h6, h7, h8⟩ := h
    simp [Cond.before, Cond.holds, Cond.value, Term.eval, State.fieldNamed?, h1, h2, h4, h5, h6, h7]
  · obtain ⟨cf, kf, fi, f, a, cell, h1, h2, h3, h4, h5, h6, h7, h8⟩ := h
    simp [Cond.before, Cond.holds, Cond.value, Term.eval, State.fieldNamed?, h1, h2, h4, h5, h6, h7]
theorem lays_zL {C n d : String} {A : Nat → Prop} {s : State} {args : Array Value} (h : zL C n d A s s.heap) : (Cond.laysStatic C n d).before args s = true := by
  obtain ⟨c, k, i, f, a, cell, ⟨h1, h2, h3, h4, h5⟩, h6, ⟨h7, h8, h9⟩, h10⟩ := h
  simp [Cond.before, Cond.holds, Cond.value, h1, h2, h3, h4, h5, h6, h7, h8, h9]
/-- the four words that speak of Throwable's two statics -/
abbrev xS : List Cond := [.isRef (.static Bundle.tN "UNASSIGNED_STACK" Bundle.steD), .isRef (.static Bundle.tN "SUPPRESSED_SENTINEL" Bundle.listD), .laysStatic Bundle.tN "UNASSIGNED_STACK" Bundle.steD, .laysStatic Bundle.tN "SUPPRESSED_SENTINEL" Bundle.listD]
theorem decl_of {y : MethodName} {b : ByteArray} {n : Nat} {ret : Option FieldType} {s : State} {args : Array Value} (hi : (Cond.instanceMethod y).before args s = true) (hc : (Cond.code y b n ret).before args s = true) : (Cond.declares y).before args s = true := by
  obtain ⟨mk, meth, hn, hm, hst, -⟩ := Cond.instanceMethod_spec hi
  obtain ⟨meth', c, hm', -, -, -, -, -, -, hsig⟩ := Cond.code_spec hn hc
  cases hm.symm.trans hm'
  simp [Cond.before, Cond.holds, Cond.value, hn, hm, hst, hsig]
theorem cast_self {X : String} {n : Nat} {s : State} {args : Array Value} (hi : (Cond.instantiable X n).before args s = true) : (Cond.castable X X).before args s = true := by
  obtain ⟨c, k, h1, -⟩ := Cond.instantiable_spec hi
  have hA : s.vm.assignable c c = true := by
    show s.vm.assignableAux (255 + 1) c c = true
    rw [Vm.assignableAux]
    simp only [beq_self_eq_true, Bool.true_or]
  simp [Cond.before, Cond.holds, Cond.value, h1, hA]
/-- a word of an exception's: one of the tables', one of Throwable's statics, or one that follows from these -/
def xOk (Ts : List Cond) (X : String) (w : Cond) : Prop := w ∈ Ts ∨ w ∈ xS ∨ w = .castable X X ∨ ∃ y b n ret, w = .declares y ∧ Cond.instanceMethod y ∈ Ts ∧ Cond.code y b n ret ∈ Ts
section PureRows
variable {Γ : GT} {cc : ByteArray} {own : String} {rm : Room} {Ts : List Cond} {cl : List vw_C} {tys : List (ClassId × FieldType)} {nl : List (String × Nat × MethodName × String)} {pc : Nat} {L : List (Option Value)} {st : List Value}
theorem p_at {pc' : Nat} {L' : List (Option Value)} {st' : List Value} (e1 : pc = pc') (e2 : L = L') (e3 : st = st') (k : GP Γ pc' L' st') : GP Γ pc L st := by subst e1; subst e2; subst e3; exact k
theorem p_iconst (h : Cx Γ cc own rm Ts cl tys nl) {n : Int} {v : Int32} (hd : decode cc pc = .ok (.iconst n, 1)) (hv : Int32.ofInt n = v) (k : GP Γ (pc + 1) L (.int v :: st)) : GP Γ pc L (st) := fun ls hl => lv_iconst h.x h.b hd hv (k ls hl)
theorem p_bipush (h : Cx Γ cc own rm Ts cl tys nl) {n : Int} {v : Int32} (hd : decode cc pc = .ok (.bipush n, 2)) (hv : (Int8.ofInt n).toInt32 = v) (k : GP Γ (pc + 2) L (.int v :: st)) : GP Γ pc L (st) := fun ls hl => lv_bipush h.x h.b hd hv (k ls hl)
theorem p_iload_n (h : Cx Γ cc own rm Ts cl tys nl) {k4 : Fin 4} {i : Nat} {x : Int32} (hd : decode cc pc = .ok (.iload_n k4, 1)) (hi : (k4 : Nat) = i) (hx : L[i]? = some (some (.int x))) (k : GP Γ (pc + 1) L (.int x :: st)) : GP Γ pc L (st) := fun ls hl => lv_iload_n h.x h.b hd hi (hl.2.2 _ _ hx) (k ls hl)
theorem p_icmp_lt (h : Cx Γ cc own rm Ts cl tys nl) {x y : Int32} {off : Int} {tgt : Nat} (hd : decode cc pc = .ok (.if_icmp .lt off, 3)) (ht : (pc : Int) + off = (tgt : Int)) (kt : x < y → GP Γ tgt L st) (kf : ¬ x < y → GP Γ (pc + 3) L st) : GP Γ pc L (.int y :: .int x :: st) := fun ls hl => lv_icmp_lt h.x h.b hd ht (fun q => kt q ls hl) (fun q => kf q ls hl)
theorem p_icmp_le (h : Cx Γ cc own rm Ts cl tys nl) {x y : Int32} {off : Int} {tgt : Nat} (hd : decode cc pc = .ok (.if_icmp .le off, 3)) (ht : (pc : Int) + off = (tgt : Int)) (kt : x ≤ y → GP Γ tgt L st) (kf : ¬ x ≤ y → GP Γ (pc + 3) L st) : GP Γ pc L (.int y :: .int x :: st) := fun ls hl => lv_icmp_le h.x h.b hd ht (fun q => kt q ls hl) (fun q => kf q ls hl)
theorem p_icmp_ne (h : Cx Γ cc own rm Ts cl tys nl) {x y : Int32} {off : Int} {tgt : Nat} (hd : decode cc pc = .ok (.if_icmp .ne off, 3)) (ht : (pc : Int) + off = (tgt : Int)) (kt : ¬ x = y → GP Γ tgt L st) (kf : x = y → GP Γ (pc + 3) L st) : GP Γ pc L (.int y :: .int x :: st) := fun ls hl => lv_icmp_ne h.x h.b hd ht (fun q => kt q ls hl) (fun q => kf q ls hl)
theorem p_if_eq (h : Cx Γ cc own rm Ts cl tys nl) {x : Int32} {off : Int} {tgt : Nat} (hd : decode cc pc = .ok (.ifCond .eq off, 3)) (ht : (pc : Int) + off = (tgt : Int)) (kt : x = 0 → GP Γ tgt L st) (kf : ¬ x = 0 → GP Γ (pc + 3) L st) : GP Γ pc L (.int x :: st) := fun ls hl => lv_if_eq h.x h.b hd ht (fun q => kt q ls hl) (fun q => kf q ls hl)
/-- throw new X() -/
theorem p_throw (h : Cx Γ cc own rm Ts cl tys nl) {N : Nat} {ad : Nat → Nat} {σ : Nat → va_E} {Rr : String → (Nat → va_E) → Prop} (r : RX Γ N ad Rr) (pw : PW Γ N ad σ) (htr : (gL Γ).stackTraces = false) {X : String} {names : List String} {ic ix : Nat}
    (hfit : Bundle.fit X = true) (hnames : ∀ n ∈ names, Bundle.fit n = true) (hwords : ∀ w ∈ Bundle.ownAtoms0 own ic X names, xOk Ts X w)
    (hcl : Cond.classLink own ix X ∈ Ts) (hins : Cond.instantiable X 6 ∈ Ts) (hini : Cond.initialized X ∈ Ts)
    (hroom : names.length + 3 < rm.frames ∧ 8 + (13 * (names.length + 1) + 41) ≤ rm.locals ∧ 1 ≤ rm.cells ∧ 6 ≤ rm.slots) (hst : (st.map fun v => v.category).sum ≤ 7) (hv : Rr X σ)
    (hd0 : decode cc pc = .ok (.new ix, 3)) (hd3 : decode cc (pc + 3) = .ok (.dup, 1)) (hd4 : decode cc (pc + 3 + 1) = .ok (.invokespecial ic, 3)) (hd7 : decode cc (pc + 3 + 1 + 3) = .ok (.athrow, 1)) : GP Γ pc L st := by
  intro ls hl
  unfold gW
  rw [r.2.2]
  obtain ⟨cX, kX, hfX, hkX, -⟩ := Cond.instantiable_spec (h.ts _ hins)
  refine W.newcK h.x h.b h.ow (h.ts _ hcl) (h.ts _ hins) (h.ts _ hini) rfl hd0 (by rw [h.R]; exact hroom.2.2.1) (by rw [h.R]; exact hroom.2.2.2) hfX rfl (fun H1 kC hkC e1 z1 o1 => ?_)
  refine lv_dup h.x h.b hd3 rfl ?_
  intro T hT S
  have htr' : (ge Γ).platform.stackTraces = false := by
    have := S.admits.2.2.2.2.1
    rw [this]
    exact htr
  have hcell : T.heap[(gs Γ).heap.size]? = some (freshCell cX kC) := by rw [hT]; exact e1
  have hat : ∀ w ∈ Bundle.ownAtoms0 own ic X names, w.before (ga Γ) (gs Γ) = true := fun w hw => by
    rcases hwords w hw with z | z | z | ⟨y, b, n, ret, z, z1, z2⟩
    · exact h.ts w z
    rotate_left
    · rw [z]; exact cast_self (h.ts _ hins)
    · rw [z]; exact decl_of (h.ts _ z1) (h.ts _ z2)
    · simp only [xS, List.mem_cons, List.not_mem_nil, or_false] at z
      rcases z with z | z | z | z
      · rw [z]; exact isRef_zq h.E.2.2.1.1
      · rw [z]; exact isRef_zq h.E.2.2.2.1
      · rw [z]; exact lays_zL h.E.2.2.1.2
      · rw [z]; exact lays_zL h.E.2.2.2.2
  obtain ⟨U, st1, hrun, hend, hW, hsame, ce, hce, hown⟩ := S.ctorThrow0 (a := (gs Γ).heap.size) (g := F0 (gm Γ) (pc + 3 + 1) ls (Value.ref (gs Γ).heap.size :: Value.ref (gs Γ).heap.size :: st)) h.x htr' h.ow hfit hnames hat (fun x hx => absurd hx List.not_mem_nil) hfX hkC hcell (Nat.le_refl _) rfl (hl.1.trans h.ml.symm) rfl rfl (rest := st) rfl (by rw [h.b]; exact hd4) (by rw [h.b]; exact hd7) (fun x hx => by rw [r.2.1] at hx; exact absurd hx List.not_mem_nil) (by rw [h.R]; exact hroom.1) (by
      rw [h.R]
      have e0 : (Value.ref (gs Γ).heap.size).category = 1 := rfl
      have : (((Value.ref (gs Γ).heap.size) :: st).map fun v => v.category).sum ≤ 8 := by
        rw [List.map_cons, List.sum_cons, e0]; omega
      have m0 : 2 * (F0 (gm Γ) (pc + 3 + 1) ls (.ref (gs Γ).heap.size :: .ref (gs Γ).heap.size :: st)).monitorRoom = 0 := rfl
      have := hroom.2.1
      omega) r.1
  have hold := same_old hsame
  refine ⟨U, st1, .threw _, hrun, hend, ⟨⟨_, X, σ, rfl, hv, pw.1.kept (fun k q hq => hold q.1 (pw.1 k q hq).lt), pw.2, ?_⟩, ?_⟩, [], ⟨⟨_, rfl⟩, hW, hsame⟩, fun q hq => absurd hq List.not_mem_nil⟩
  · exact ⟨ce.cls, ce, hown.cls, hce, rfl, hown.vm⟩
  · exact ⟨hsame.2.1, fun q hq _ => hold q hq⟩
end PureRows
end

-- part 92.thru
section
/-! a call of a method that throws -/
section ThruRun
variable {p : Program} {l : Launch} {e : Env} {R : Room} {s : State} {m : MethodId} {args : Array Value} {below : List Frame} {meth : Method} {c : Code} {T : State} {locs : List Loc} {cells slots : Nat}
variable {y : MethodName} {bytes : ByteArray} {maxL mc ms n index : Nat} {ret : Option FieldType} {ws : List Cond} {rm : Room} {Pc : Array Value → State → Prop} {Qc : Array Value → State → Outcome → State → Prop} {free : Addr → Prop} {own : String}
theorem back_x (cb : CallB R s args own index y bytes maxL ret ws rm mc ms n) (hM : MetX l y ws rm Pc Qc mc ms free) (hbl : FrameBlind Pc)
    (X : Stand p l e R s m args below meth c T locs cells slots) {g : JFrame} {ig : Instr} {mk : MethodId} {a : Array Value} (hg : g.method = m) (hsize : g.locals.size = c.maxLocals) (hdg : decode c.code g.pc = .ok (ig, 3)) (hW : 2 * g.monitorRoom + (g.stack.map fun v => v.category).sum ≤ 8) (hn : T.methodNamed? y = some mk) (h4 : cells + mc ≤ R.cells) (h5 : slots + ms ≤ R.slots) (hp : Pc a T) :
    ∃ (x : Addr) (T' t : State) (L : List Loc), Stand p l e R s m args below meth c T' (locs ++ L) (cells + mc) (slots + ms) ∧ T'.heap = t.heap ∧ Qc a (T.calling g mk a) (.threw x) t ∧ (∀ q ∈ L, free q.base) ∧ Steps p.tables e below (doInvoke e (T.setTop g) [] mk a).1 ((T'.setTop g).pushFrame (.throwing x)) := by
  obtain ⟨hrc, hrs, hfr, hlo, hws, hcw, -, hini, -⟩ := cb
  have h2 : (Cond.code y bytes maxL ret).before a T = true := hws _ hcw _ _ X.warmed
  have h3 : (Cond.initialized y.cls).before a T = true := word_at X.warmed (Or.inl (by first | rfl | simp [Cond.onTables, Cond.keeps, Cond.steady])) hini
  have h1 : (headSpec ws rm).pre.before a T = true := atoms_intro fun w hw => hws w hw _ _ X.warmed
  obtain ⟨methY, cY, hmY, hcY, -, hlY, -, -, -, -⟩ := Cond.code_spec hn h2
  obtain ⟨kY, hkY, -⟩ := className_of_methodNamed hn
  have hinitY : kY.init = .initialized := Cond.initialized_spec (findClass_of_methodNamed hn) hkY h3
  have h : At T g.method c below := by rw [hg]; exact X.here
  have happ : (headSpec ws rm).appliesLoose y e.platform (T.calling g mk a) = true :=
    Spec.appliesLoose_calling (g := g) h hdg hn hkY hinitY (X.room_calling (g := g) (R' := (headSpec ws rm).room) hsize hmY hcY hfr (by rw [hlY]; show 2 * g.monitorRoom + (g.stack.map fun v => v.category).sum + (maxL + 11) + rm.locals ≤ R.locals; omega) (by show cells + rm.cells ≤ R.cells; omega) (by show slots + rm.slots ≤ R.slots; omega)) h1
  obtain ⟨mid, hmid⟩ := h.above
  have hfr2 : (T.setTop g).frames = (.java g :: mid) ++ below := by rw [State.frames_setTop' g h.top, hmid]; rfl
  obtain ⟨o, s₂, hsteps, -, hend, hq⟩ := Steps.callFree hM p X.admits X.cas X.clock (acts := []) hfr2 happ (hbl _ _ _ _ hp) trivial
  obtain ⟨hq1, L, ⟨⟨x, rfl⟩, hW₂, hsame⟩, hfree⟩ := hq
  rw [State.frames_setTop' g h.top, X.tail] at hend
  obtain ⟨T', X', -, -, ht⟩ := X.outOfThrown hg (mk := mk) (a := a) hend hW₂ hsame
  refine ⟨x, T', s₂, L, X', by rw [ht]; exact (Stand.throwing_heap T' g x).symm, hq1, hfree, ?_⟩
  rw [← ht]
  exact hsteps
theorem callSX (X : Stand p l e R s m args below meth c T locs cells slots) (hexec : p.tables.exec = Jvm.exec) (hown : s.vm.findClass own = some m.cls) (cb : CallB R s args own index y bytes maxL ret ws rm mc ms n ∧ (Cond.static y).before args s = true) (hM : MetX l y ws rm Pc Qc mc ms free) (hbl : FrameBlind Pc)
    {g : JFrame} (hg : g.method = m) (hsize : g.locals.size = c.maxLocals) {argsL rest : List Value} (hlen : argsL.length = n) (hstack : g.stack = argsL.reverse ++ rest) (hW : 2 * g.monitorRoom + (rest.map fun v => v.category).sum ≤ 8) (hdg : decode c.code g.pc = .ok (.invokestatic index, 3)) (h4 : cells + mc ≤ R.cells) (h5 : slots + ms ≤ R.slots)
    (hpre : ∀ U : State, U.heap = T.heap → s.WarmedH U.vm → Pc argsL.toArray U) :
    ∃ (x : Addr) (st₀ T' t : State) (L : List Loc), st₀.heap = T.heap ∧ s.WarmedH st₀.vm ∧ Stand p l e R s m args below meth c T' (locs ++ L) (cells + mc) (slots + ms) ∧ T'.heap = t.heap ∧ Qc argsL.toArray st₀ (.threw x) t ∧ (∀ q ∈ L, free q.base) ∧ Steps p.tables e below (T.setTop g) ((T'.setTop { g with stack := rest }).pushFrame (.throwing x)) := by
  have cb' := cb.1
  obtain ⟨⟨-, -, -, -, -, -, hcode, hinit, hy, hlens, hlink⟩, hstat⟩ := cb
  obtain ⟨mk, hnamed⟩ := Cond.code_named hcode
  obtain ⟨methM, cM, hmethM, -, -, -, -, -, -, hsigM⟩ := Cond.code_spec hnamed hcode
  have hstatic : methM.isStatic = true := Cond.static_spec hnamed hmethM hstat
  obtain ⟨kP, hkP, -⟩ := className_of_methodNamed hnamed
  have hinitP : kP.init = .initialized := Cond.initialized_spec (findClass_of_methodNamed hnamed) hkP hinit
  obtain ⟨vm₁, X₁, hstep₁⟩ := X.invokestatic hexec hown hlink hnamed hmethM hstatic hkP hinitP hy (g := g) hg (argsL := argsL) (rest := rest) (hlen.trans (hlens _ hsigM)) hstack hdg
  obtain ⟨x, T', t, L, X', e1, hq, hL, hst⟩ := back_x cb' hM hbl X₁ (g := { g with stack := rest }) (ig := .invokestatic index) (mk := mk) (a := argsL.toArray) hg hsize hdg hW (X₁.named hnamed) h4 h5 (hpre (T.setVm vm₁) rfl X₁.warmed)
  exact ⟨x, (T.setVm vm₁).calling { g with stack := rest } mk argsL.toArray, T', t, L, rfl, X₁.warmed, X', e1, hq, hL, hstep₁ _ fun acts => by rw [doInvoke_state]; exact hst⟩
theorem callVX (X : Stand p l e R s m args below meth c T locs cells slots) (hexec : p.tables.exec = Jvm.exec) (hown : s.vm.findClass own = some m.cls) {C : String} (cw : CallW R s args own C index y bytes maxL ret ws rm mc ms n) (hM : MetX l y ws rm Pc Qc mc ms free) (hbl : FrameBlind Pc)
    {b : Addr} {cellB : Cell} (hcell : T.heap[b]? = some cellB) (hobj : cellB.vm.isStatics = false) (hcls : s.vm.findClass C = some cellB.cls)
    {g : JFrame} (hg : g.method = m) (hsize : g.locals.size = c.maxLocals) {argsL rest : List Value} (hlen : argsL.length = n) (hstack : g.stack = argsL.reverse ++ .ref b :: rest) (hW : 2 * g.monitorRoom + (rest.map fun v => v.category).sum ≤ 8) (hdg : decode c.code g.pc = .ok (.invokevirtual index, 3)) (h4 : cells + mc ≤ R.cells) (h5 : slots + ms ≤ R.slots)
    (hpre : ∀ U : State, U.heap = T.heap → s.WarmedH U.vm → Pc (Value.ref b :: argsL).toArray U) :
    ∃ (x : Addr) (st₀ T' t : State) (L : List Loc), st₀.heap = T.heap ∧ s.WarmedH st₀.vm ∧ Stand p l e R s m args below meth c T' (locs ++ L) (cells + mc) (slots + ms) ∧ T'.heap = t.heap ∧ Qc (Value.ref b :: argsL).toArray st₀ (.threw x) t ∧ (∀ q ∈ L, free q.base) ∧ Steps p.tables e below (T.setTop g) ((T'.setTop { g with stack := rest }).pushFrame (.throwing x)) := by
  have cb' := cw.1
  obtain ⟨⟨-, -, -, -, -, -, hcode, -, hy, hlens, hlink⟩, hinst, hsel⟩ := cw
  obtain ⟨mk, methM, hnamed, hmethM, hstM, habM⟩ := Cond.instanceMethod_spec hinst
  obtain ⟨methM', cM, hmethM', -, -, -, -, -, -, hsigM⟩ := Cond.code_spec hnamed hcode
  cases hmethM.symm.trans hmethM'
  obtain ⟨c2, r2, m2, q1, q2, q3, q4, kP, hkP, hkPi⟩ := Cond.selects_spec hsel
  cases hcls.symm.trans q1
  cases (State.methodFound?_of_named hnamed hy).symm.trans q2
  cases hnamed.symm.trans q3
  have hselP : selectMethod e.platform s.vm cellB.cls mk = .method mk := by rw [Launch.admits_selectMethod X.admits]; exact q4
  obtain ⟨vm₁, X₁, hstep₁⟩ := X.invokevirtual hexec hown hlink hnamed hmethM hstM hkP hkPi hy (a := b) (cell := cellB) hcell
    (fun z h => by rw [h] at hobj; cases hobj) hselP hmethM habM hkP hkPi (g := g) hg (argsL := argsL) (rest := rest) (hlen.trans (hlens _ hsigM)) hstack hdg
  obtain ⟨x, T', t, L, X', e1, hq, hL, hst⟩ := back_x cb' hM hbl X₁ (g := { g with stack := rest }) (ig := .invokevirtual index) (mk := mk) (a := (Value.ref b :: argsL).toArray) hg hsize hdg hW (X₁.named hnamed) h4 h5 (hpre (T.setVm vm₁) rfl X₁.warmed)
  exact ⟨x, (T.setVm vm₁).calling { g with stack := rest } mk (Value.ref b :: argsL).toArray, T', t, L, rfl, X₁.warmed, X', e1, hq, hL, hstep₁ _ fun acts => by rw [doInvoke_state]; exact hst⟩
end ThruRun
section ThruRows
variable {Γ : GT} {cc : ByteArray} {own : String} {rm : Room} {Ts : List Cond} {cl : List vw_C} {tys : List (ClassId × FieldType)} {nl : List (String × Nat × MethodName × String)} {kc ks N pc : Nat} {ad : Nat → Nat} {σ : Nat → va_E} {L : List (Option Value)} {st rest : List Value} {Rr : String → (Nat → va_E) → Prop}
variable {y : MethodName} {bytes : ByteArray} {maxL n index : Nat} {ret : Option FieldType} {rmY : Room} {As : List Value}
def cRx (rmY rm : Room) (maxL : Nat) : Prop := rmY.cells = 1 ∧ rmY.slots = 6 ∧ rmY.frames + 1 ≤ rm.frames ∧ 8 + (maxL + 11) + rmY.locals ≤ rm.locals ∧ 1 ≤ rm.cells ∧ 6 ≤ rm.slots
/-- invokestatic of a method that throws: it comes out of this one -/
theorem g_thruS (h : Cx Γ cc own rm Ts cl tys nl) (r : RX Γ N ad Rr) (hG : GoodIn Ts Ts) (hM : CtX (gL Γ) (gD Γ) cl tys nl N ad y (.code y bytes maxL ret :: Ts) rmY As σ Rr)
    (hw : ∀ w ∈ cwsS own index y bytes maxL ret, w ∈ Ts) (hd0 : cNm y y.cls n) (hn : As.length = n) (hroom : cRx rmY rm maxL) (hst : st = As.reverse ++ rest) (hrest : (rest.map fun v => v.category).sum ≤ 8) (hd : decode cc pc = .ok (.invokestatic index, 3)) : G Γ 0 0 N ad σ pc L st := by
  have hcd : Cond.code y bytes maxL ret ∈ Ts := hw _ (by simp [cwsS, va_wsS])
  intro H locs ls hP hD hS hl T hT X
  rw [r.2.2]
  have hE := h.E
  have hF := c_in h hD hS
  have hcl := h.cL
  rw [hcl] at hP hE ⊢
  have hmon : 2 * (F0 (gm Γ) pc ls st).monitorRoom + (rest.map fun v => v.category).sum ≤ 8 := lv_room hrest
  have cw := va_cwS (index := index) n h.ts (fun w hw2 => by
    unfold va_wsS at hw2
    rcases List.mem_append.mp hw2 with z | z
    · exact hG _ (hw _ (by unfold cwsS va_wsS; exact List.mem_append_left _ z))
    · exact c_good hG hcd _ z) rfl hroom.1 hroom.2.1 hd0.2 (R := gR Γ) (by rw [h.R]; exact ⟨hroom.2.2.1, hroom.2.2.2.1⟩)
  obtain ⟨x, st₀, T', t, L2, e0, hW0, X', e1, ⟨⟨x', Xc, σ2, hx, hr, hp1, hd1, c, ce, q1, q2, q3, q4⟩, hf1, hf2⟩, hL2, hsteps⟩ := callSX X h.x h.ow cw (hM H.size) c_blind (g := F0 (gm Γ) pc ls st) rfl (hl.1.trans h.ml.symm) (argsL := As) (rest := rest) hn hst hmon (by rw [h.b]; exact hd) (by rw [h.R]; exact hroom.2.2.2.2.1) (by rw [h.R]; exact hroom.2.2.2.2.2)
    (fun U hU hW => ⟨rfl, by rw [hU, hT], by rw [hU, hT]; exact hP, EX.next hE hW hS hF (by rw [hU, hT]), hD.weaken (fun _ _ _ _ => trivial)⟩)
  cases hx
  obtain ⟨hs2, hrun, hend, hW2, hsame⟩ := X'.leaveThrown x (g := { F0 (gm Γ) pc ls st with stack := rest }) rfl rfl rfl (fun z hz => by rw [r.2.1] at hz; exact absurd hz List.not_mem_nil) r.1
  rw [e0, hT] at hf1 hf2
  have hheap : (T'.setFrames (.throwing x :: gb Γ)).heap = t.heap := e1
  refine ⟨_, hsteps.trans hs2, .threw x, hrun, hend, ⟨⟨x, Xc, σ2, rfl, hr, by rw [hheap]; exact hp1, hd1.weaken (fun _ q _ z => hF q.1 z), c, ce, ?_, by rw [hheap]; exact q2, q3, q4⟩, ?_⟩, locs ++ L2, ⟨⟨x, rfl⟩, hW2, hsame⟩, fun q hq => ?_⟩
  · rw [← hW0.alike.findClass]; exact q1
  · refine ⟨?_, fun q hq1 hq2 => ?_⟩
    · rw [hheap]; exact Nat.le_trans hS.1 hf1
    · rw [hheap, hf2 q (Nat.lt_of_lt_of_le hq1 hS.1) (fun z => hq2 (hF q z))]
      exact hS.2.1 q hq1 hq2
  · rcases List.mem_append.mp hq with z | z
    · exact hS.2.2 q z
    · exact hF _ (hL2 q z)
end ThruRows
end

-- part 93.words
section
/-! the exceptions' words -/
def isIR : Cond → Bool
  | .isRef _ => true
  | .laysStatic _ _ _ => true
  | .castable _ _ => true
  | .declares _ => true
  | _ => false
abbrev xY : List MethodName := [⟨"java/lang/RuntimeException", "<init>", "()V"⟩, ⟨"java/lang/Exception", "<init>", "()V"⟩, ⟨"java/lang/Throwable", "<init>", "()V"⟩]
def isDc (ys : List MethodName) : Cond → Bool
  | .declares y => decide (y ∈ ys)
  | _ => false
theorem xY_ok : ∀ y ∈ xY, ∃ b n ret, Cond.instanceMethod y ∈ TB ∧ Cond.code y b n ret ∈ TB := by
  intro y hy
  simp only [xY, List.mem_cons, List.not_mem_nil, or_false] at hy
  rcases hy with rfl | rfl | rfl
  · exact ⟨prog_14_method_1_code, 1, none, tb_mem 386 (by decide +kernel) (by decide +kernel), tb_mem 387 (by decide +kernel) (by decide +kernel)⟩
  · exact ⟨prog_10_method_1_code, 1, none, tb_mem 389 (by decide +kernel) (by decide +kernel), tb_mem 390 (by decide +kernel) (by decide +kernel)⟩
  · exact ⟨prog_16_method_1_code, 1, none, tb_mem 363 (by decide +kernel) (by decide +kernel), tb_mem 364 (by decide +kernel) (by decide +kernel)⟩
theorem own_words {ws : List Cond} {X : String} (ps : List Nat) (h : ws.filter (fun w => !isIR w) = ps.filterMap (fun i => lw_tbl[i]?)) (hg : (ws.filter (fun w => !isIR w)).all goodWord = true) (hi : (ws.filter isIR).all (fun w => decide (w ∈ xS) || (decide (w = .castable X X) || isDc xY w)) = true) : ∀ w ∈ ws, xOk TB X w := fun w hw => by
  by_cases z : isIR w = true
  · have q := List.all_eq_true.mp hi w (List.mem_filter.mpr ⟨hw, z⟩)
    simp only [Bool.or_eq_true, decide_eq_true_eq] at q
    rcases q with q | q | q
    · exact .inr (.inl q)
    · exact .inr (.inr (.inl q))
    · unfold isDc at q
      split at q
      · rename_i y
        obtain ⟨b, n, ret, q1, q2⟩ := xY_ok y (of_decide_eq_true q)
        exact .inr (.inr (.inr ⟨y, b, n, ret, rfl, q1, q2⟩))
      · cases q
  · exact .inl (tb_all ps h hg w (List.mem_filter.mpr ⟨hw, by simp [z]⟩))
abbrev xN : List String := ["java/lang/RuntimeException", "java/lang/Exception"]
theorem xN_fit : ∀ n ∈ xN, Bundle.fit n = true := by decide +kernel
abbrev X_IAE : String := "java/lang/IllegalArgumentException"
theorem xw_IAE : ∀ w ∈ Bundle.ownAtoms0 "TriColourMachine" 140 X_IAE xN, xOk TB X_IAE w := own_words [52, 362, 371, 376, 379, 381, 363, 364, 67, 68, 365, 370, 377, 393, 352, 394, 354, 395, 356, 366, 368, 358, 383, 384, 385, 386, 386, 387, 388, 389, 389, 390, 391, 363, 382, 341, 349, 350, 351, 353, 355, 357, 361, 360, 359] (by decide +kernel) (by decide +kernel) (by decide +kernel)
theorem xcl_IAE : Cond.classLink "TriColourMachine" 138 X_IAE ∈ TB := tb_mem 340 (by decide +kernel) (by decide +kernel)
theorem xin_IAE : Cond.instantiable X_IAE 6 ∈ TB := tb_mem 341 (by decide +kernel) (by decide +kernel)
theorem xii_IAE : Cond.initialized X_IAE ∈ TB := tb_mem 55 (by decide +kernel) (by decide +kernel)
abbrev X_UOE : String := "java/lang/UnsupportedOperationException"
theorem xw_UOE : ∀ w ∈ Bundle.ownAtoms0 "TriColourMachine" 178 X_UOE xN, xOk TB X_UOE w := own_words [52, 362, 371, 376, 379, 381, 363, 364, 67, 68, 365, 370, 377, 393, 352, 394, 354, 395, 356, 366, 368, 358, 470, 471, 472, 386, 386, 387, 388, 389, 389, 390, 391, 363, 469, 461, 463, 374, 464, 465, 466, 467, 361, 360, 468] (by decide +kernel) (by decide +kernel) (by decide +kernel)
theorem xcl_UOE : Cond.classLink "TriColourMachine" 176 X_UOE ∈ TB := tb_mem 460 (by decide +kernel) (by decide +kernel)
theorem xin_UOE : Cond.instantiable X_UOE 6 ∈ TB := tb_mem 461 (by decide +kernel) (by decide +kernel)
theorem xii_UOE : Cond.initialized X_UOE ∈ TB := tb_mem 56 (by decide +kernel) (by decide +kernel)
abbrev X_ISE : String := "java/lang/IllegalStateException"
theorem xw_ISE : ∀ w ∈ Bundle.ownAtoms0 "TriColourMachine" 181 X_ISE xN, xOk TB X_ISE w := own_words [52, 362, 371, 376, 379, 381, 363, 364, 67, 68, 365, 370, 377, 393, 352, 394, 354, 395, 356, 366, 368, 358, 485, 486, 487, 386, 386, 387, 388, 389, 389, 390, 391, 363, 484, 476, 478, 373, 479, 480, 481, 482, 361, 360, 483] (by decide +kernel) (by decide +kernel) (by decide +kernel)
theorem xcl_ISE : Cond.classLink "TriColourMachine" 179 X_ISE ∈ TB := tb_mem 475 (by decide +kernel) (by decide +kernel)
theorem xin_ISE : Cond.instantiable X_ISE 6 ∈ TB := tb_mem 476 (by decide +kernel) (by decide +kernel)
theorem xii_ISE : Cond.initialized X_ISE ∈ TB := tb_mem 57 (by decide +kernel) (by decide +kernel)
abbrev X_NSE : String := "java/util/NoSuchElementException"
theorem xw_NSE : ∀ w ∈ Bundle.ownAtoms0 "TriColourMachine" 110 X_NSE xN, xOk TB X_NSE w := own_words [52, 362, 371, 376, 379, 381, 363, 364, 67, 68, 365, 370, 377, 393, 352, 394, 354, 395, 356, 366, 368, 358, 659, 660, 661, 386, 386, 387, 388, 389, 389, 390, 391, 363, 658, 650, 652, 375, 653, 654, 655, 656, 361, 360, 657] (by decide +kernel) (by decide +kernel) (by decide +kernel)
theorem xcl_NSE : Cond.classLink "TriColourMachine" 108 X_NSE ∈ TB := tb_mem 649 (by decide +kernel) (by decide +kernel)
theorem xin_NSE : Cond.instantiable X_NSE 6 ∈ TB := tb_mem 650 (by decide +kernel) (by decide +kernel)
theorem xii_NSE : Cond.initialized X_NSE ∈ TB := tb_mem 60 (by decide +kernel) (by decide +kernel)
end

-- part 94.check
section
/-! checkRange, checkGlobal, raise: they return, or they throw -/
abbrev Ce (l : Launch) (D : va_G) (t : Nat → ClassId) (ad : Nat → Nat) (y : MethodName) (b : ByteArray) (n : Nat) (ret : Option FieldType) (rm : Room) (As : List Value) (C : CS) (X : String) (C2 : CS) : Prop := CtX l D CL (tyc t) NL 171 ad y (.code y b n ret :: TB) rm As (wc ad t C) (fun X' σ2 => X' = X ∧ σ2 = wc ad t C2)
section Checks
variable {l : Launch} {D : va_G} {t : Nat → ClassId} {ad : Nat → Nat} {C : CS}
theorem c_TCM_checkRange {n a b : Int32} (h1 : ¬ n < a) (h2 : ¬ b < n) : Cd l D t ad y_TCM_checkRange b_TCM_checkRange 3 none { frames := 0, cells := 0, slots := 0, locals := 0 } [.int n, .int a, .int b] C none C := by
  refine ct_of (by decide) (Nat.le_of_ble_eq_true rfl) ?_
  intro Γ _ _ hN h r
  refine g_at (L' := [some (.int n), some (.int a), some (.int b)]) rfl rfl rfl ?_
  refine g_iload_n h d_TCM_checkRange_0 rfl rfl ?_
  refine g_iload_n h d_TCM_checkRange_1 rfl rfl ?_
  refine g_icmp_lt (tgt := 10) h d_TCM_checkRange_2 (by decide) (fun c => absurd c h1) (fun _ => ?_)
  refine g_iload_n h d_TCM_checkRange_5 rfl rfl ?_
  refine g_iload_n h d_TCM_checkRange_6 rfl rfl ?_
  refine g_icmp_le (tgt := 18) h d_TCM_checkRange_7 (by decide) (fun _ => ?_) (fun c => absurd (Int32.not_lt.mp h2) c)
  exact g_vret h r d_TCM_checkRange_18 ⟨rfl, rfl⟩
theorem x_TCM_checkRange {n a b : Int32} (htr : l.stackTraces = false) (hbad : n < a ∨ b < n) : Ce l D t ad y_TCM_checkRange b_TCM_checkRange 3 none { frames := 6, cells := 1, slots := 6, locals := 88 } [.int n, .int a, .int b] C X_IAE C := by
  refine ctX_of (by decide) (Nat.le_of_ble_eq_true rfl) ?_
  intro Γ hL _ hN h r pw
  refine p_at (L' := [some (.int n), some (.int a), some (.int b)]) rfl rfl rfl ?_
  have thr : GP Γ 10 [some (.int n), some (.int a), some (.int b)] [] := p_throw h r pw (by rw [hL]; exact htr) (X := X_IAE) (names := xN) (by decide +kernel) xN_fit xw_IAE xcl_IAE xin_IAE xii_IAE ⟨by decide, by decide, by decide, by decide⟩ (by decide) ⟨rfl, rfl⟩ d_TCM_checkRange_10 d_TCM_checkRange_13 d_TCM_checkRange_14 d_TCM_checkRange_17
  refine p_iload_n h d_TCM_checkRange_0 rfl rfl ?_
  refine p_iload_n h d_TCM_checkRange_1 rfl rfl ?_
  refine p_icmp_lt (tgt := 10) h d_TCM_checkRange_2 (by decide) (fun _ => thr) (fun c2 => ?_)
  refine p_iload_n h d_TCM_checkRange_5 rfl rfl ?_
  refine p_iload_n h d_TCM_checkRange_6 rfl rfl ?_
  exact p_icmp_le (tgt := 18) h d_TCM_checkRange_7 (by decide) (fun c7 => absurd (hbad.resolve_left c2) (Int32.not_lt.mpr c7)) (fun _ => thr)
theorem c_TCM_checkGlobal {g : Int32} (hg : ¬ (g < 0 ∨ 5 < g)) : Cd l D t ad y_TCM_checkGlobal b_TCM_checkGlobal 1 none { frames := 1, cells := 0, slots := 0, locals := 22 } [.int g] C none C := by
  refine ct_of (by decide) (Nat.le_of_ble_eq_true rfl) ?_
  intro Γ _ _ hN h r
  refine g_at (L' := [some (.int g)]) rfl rfl rfl ?_
  refine g_iload_n h d_TCM_checkGlobal_0 rfl rfl ?_
  refine g_iconst (v := 0) h d_TCM_checkGlobal_1 (by decide) ?_
  refine g_iconst (v := 5) h d_TCM_checkGlobal_2 (by decide) ?_
  refine g_dSv h tb_good (c_TCM_checkRange (fun z => hg (.inl z)) (fun z => hg (.inr z))) v_TCM_25 nm_TCM_checkRange rfl ⟨rfl, rfl, Nat.le_of_ble_eq_true rfl, Nat.le_of_ble_eq_true rfl, Nat.zero_le _, Nat.zero_le _⟩ rfl (Nat.le_of_ble_eq_true rfl) d_TCM_checkGlobal_3 ?_
  exact g_vret h r d_TCM_checkGlobal_6 ⟨rfl, rfl⟩
theorem x_TCM_checkGlobal {g : Int32} (htr : l.stackTraces = false) (hg : g < 0 ∨ 5 < g) : Ce l D t ad y_TCM_checkGlobal b_TCM_checkGlobal 1 none { frames := 7, cells := 1, slots := 6, locals := 110 } [.int g] C X_IAE C := by
  refine ctX_of (by decide) (Nat.le_of_ble_eq_true rfl) ?_
  intro Γ hL hDD hN h r pw
  refine gp_g pw ?_
  refine g_at (L' := [some (.int g)]) rfl rfl rfl ?_
  refine g_iload_n h d_TCM_checkGlobal_0 rfl rfl ?_
  refine g_iconst (v := 0) h d_TCM_checkGlobal_1 (by decide) ?_
  refine g_iconst (v := 5) h d_TCM_checkGlobal_2 (by decide) ?_
  exact g_thruS h r tb_good (by rw [hL, hDD]; exact x_TCM_checkRange htr hg) v_TCM_25 nm_TCM_checkRange rfl ⟨rfl, rfl, Nat.le_of_ble_eq_true rfl, Nat.le_of_ble_eq_true rfl, Nat.le_of_ble_eq_true rfl, Nat.le_of_ble_eq_true rfl⟩ rfl (Nat.le_of_ble_eq_true rfl) d_TCM_checkGlobal_3
theorem c_TCM_raise : Cd l D t ad y_TCM_raise b_TCM_raise 1 none { frames := 0, cells := 0, slots := 0, locals := 0 } [.int 0] C none C := by
  refine ct_of (by decide) (Nat.le_of_ble_eq_true rfl) ?_
  intro Γ _ _ hN h r
  refine g_at (L' := [some (.int 0)]) rfl rfl rfl ?_
  refine g_iload_n h d_TCM_raise_0 rfl rfl ?_
  refine g_iconst (v := 1) h d_TCM_raise_1 (by decide) ?_
  refine g_icmp_ne (tgt := 13) h d_TCM_raise_2 (by decide) (fun _ => ?_) (fun c => absurd c (by decide))
  refine g_iload_n h d_TCM_raise_13 rfl rfl ?_
  refine g_if_eq (tgt := 25) h d_TCM_raise_14 (by decide) (fun _ => ?_) (fun c => absurd rfl c)
  exact g_vret h r d_TCM_raise_25 ⟨rfl, rfl⟩
def xRaise (tr : Int32) : String := if tr = 1 then X_UOE else X_ISE
theorem x_TCM_raise {tr : Int32} (htr : l.stackTraces = false) (h0 : ¬ tr = 0) : Ce l D t ad y_TCM_raise b_TCM_raise 1 none { frames := 6, cells := 1, slots := 6, locals := 88 } [.int tr] C (xRaise tr) C := by
  refine ctX_of (by decide) (Nat.le_of_ble_eq_true rfl) ?_
  intro Γ hL _ hN h r pw
  refine p_at (L' := [some (.int tr)]) rfl rfl rfl ?_
  refine p_iload_n h d_TCM_raise_0 rfl rfl ?_
  refine p_iconst (v := 1) h d_TCM_raise_1 (by decide) ?_
  refine p_icmp_ne (tgt := 13) h d_TCM_raise_2 (by decide) (fun c2 => ?_) (fun c2 => ?_)
  · refine p_iload_n h d_TCM_raise_13 rfl rfl ?_
    refine p_if_eq (tgt := 25) h d_TCM_raise_14 (by decide) (fun c => absurd c h0) (fun _ => ?_)
    exact p_throw h r pw (by rw [hL]; exact htr) (X := X_ISE) (names := xN) (by decide +kernel) xN_fit xw_ISE xcl_ISE xin_ISE xii_ISE ⟨by decide, by decide, by decide, by decide⟩ (by decide) ⟨by unfold xRaise; rw [if_neg c2], rfl⟩ d_TCM_raise_17 d_TCM_raise_20 d_TCM_raise_21 d_TCM_raise_24
  · exact p_throw h r pw (by rw [hL]; exact htr) (X := X_UOE) (names := xN) (by decide +kernel) xN_fit xw_UOE xcl_UOE xin_UOE xii_UOE ⟨by decide, by decide, by decide, by decide⟩ (by decide) ⟨by unfold xRaise; rw [if_pos c2], rfl⟩ d_TCM_raise_5 d_TCM_raise_8 d_TCM_raise_9 d_TCM_raise_12
end Checks
theorem KK_okC {tr : Int32} {X : CS} (h : ∃ M, KK tr X M) : okC X := by
  obtain ⟨M, d, a, h, -⟩ := h
  exact h.1
theorem KK_cpreE {X : CS} (h : ∃ M, KK 0 X M) (hd : 0 < X.1 19 0) : cpre X := by
  obtain ⟨M, h⟩ := h
  exact KK_cpre h hd
theorem KK_stepE {X : CS} (h : ∃ M, KK 0 X M) (hd : 0 < X.1 19 0) : ∃ M, KK (cstep X).1 (cstep X).2 M := by
  obtain ⟨M, h⟩ := h
  exact ⟨_, step_all h hd⟩
theorem start_KN {C M : CS} {a b : Nat} (h : RR C M) (ha : a < 6) (hb : b < 6) : KK (center C (C.2.1 0 0 a) (C.2.1 0 0 b)).1 (center C (C.2.1 0 0 a) (C.2.1 0 0 b)).2 (mres0 M (nI a) (nI b)) := by
  have ea : (nI a).toNatClampNeg = a := nI_clamp (by omega)
  have eb : (nI b).toNatClampNeg = b := nI_clamp (by omega)
  have := start_KK (g := nI a) (v := nI b) h (by rw [ea]; exact ha) (by rw [eb]; exact hb)
  rw [ea, eb] at this
  exact this
end

-- part 95.faces
section
theorem gi_ok {g : Nat} (h : g < 6) : ¬ (nI g < 0 ∨ 5 < nI g) := fun z => z.elim (nI_pos (by omega)) (fun y => absurd y (nI_nlt (a := 5) (b := g) (by omega) (by decide)))
theorem rg_lo {g : Nat} (h : g < 2 ^ 31) : ¬ nI g < 0 := nI_pos h
theorem rg_m1 {g : Nat} (h : g < 2 ^ 31) : ¬ nI g < -1 := fun z => nI_pos h (Int32.lt_trans z (by decide))
theorem rg_hi {g m : Nat} (h : g ≤ m) (hm : m < 2 ^ 31) : ¬ nI m < nI g := nI_nlt h hm
set_option maxHeartbeats 4000000 in
set_option maxRecDepth 100000 in
theorem c_TCM_number {l : Launch} {D : va_G} {t : Nat → ClassId} {ad : Nat → Nat} {C : CS} {g : Nat} {v : Int32} (hg : g < 6) : Cd l D t ad y_TCM_number b_TCM_number 3 none { frames := 2, cells := 0, slots := 0, locals := 42 } [.ref (ad (ix 0 0)), .int (nI g), .int v] (C) (none) (sJ C 0 0 g v.toInt64) := by
  refine ct_of (by decide) (Nat.le_of_ble_eq_true rfl) ?_
  intro Γ _ _ hN h r
  refine g_at (L' := [some (.ref (ad (ix 0 0))), some (.int (nI g)), some (.int v)]) rfl rfl rfl ?_
  refine g_iload_n h d_TCM_number_0 rfl rfl ?_
  refine g_dSv h tb_good (c_TCM_checkGlobal (gi_ok hg)) v_TCM_48 nm_TCM_checkGlobal rfl ⟨rfl, rfl, Nat.le_of_ble_eq_true rfl, Nat.le_of_ble_eq_true rfl, Nat.zero_le _, Nat.zero_le _⟩ rfl (Nat.le_of_ble_eq_true rfl) d_TCM_number_1 ?_
  refine g_aload_n h d_TCM_number_4 rfl rfl ?_
  refine gf_TCM_heap h f_TCM_12 d_TCM_number_5 ?_
  refine gf_Heap_globals h f_TCM_52 d_TCM_number_8 ?_
  refine g_iload_n h d_TCM_number_11 rfl rfl ?_
  refine g_iload_n h d_TCM_number_12 rfl rfl ?_
  refine g_i2l h d_TCM_number_13 ?_
  refine pa_glo h rfl hg d_TCM_number_14 ?_
  exact g_vret h r d_TCM_number_15 (⟨rfl, rfl⟩)
set_option maxHeartbeats 4000000 in
set_option maxRecDepth 100000 in
theorem c_TCM_move {l : Launch} {D : va_G} {t : Nat → ClassId} {ad : Nat → Nat} {C : CS} {g : Nat} {k : Option Nat} (hg : g < 6) (hk : ∀ j, k = some j → j < 6) : Cd l D t ad y_TCM_move b_TCM_move 3 none { frames := 2, cells := 0, slots := 0, locals := 42 } [.ref (ad (ix 0 0)), .int (nI g), .int (enc k)] (C) (none) (sJ C 0 0 g (match k with | none => -1000000000000 | some j => C.2.1 0 0 j)) := by
  refine ct_of (by decide) (Nat.le_of_ble_eq_true rfl) ?_
  intro Γ _ _ hN h r
  rcases k with _ | k
  · refine g_at (L' := [some (.ref (ad (ix 0 0))), some (.int (nI g)), some (.int (-1))]) rfl rfl rfl ?_
    refine g_iload_n h d_TCM_move_0 rfl rfl ?_
    refine g_dSv h tb_good (c_TCM_checkGlobal (gi_ok hg)) v_TCM_48 nm_TCM_checkGlobal rfl ⟨rfl, rfl, Nat.le_of_ble_eq_true rfl, Nat.le_of_ble_eq_true rfl, Nat.zero_le _, Nat.zero_le _⟩ rfl (Nat.le_of_ble_eq_true rfl) d_TCM_move_1 ?_
    refine g_iload_n h d_TCM_move_4 rfl rfl ?_
    refine g_iconst (v := -1) h d_TCM_move_5 (by decide) ?_
    refine g_iconst (v := 5) h d_TCM_move_6 (by decide) ?_
    refine g_dSv h tb_good (c_TCM_checkRange (by decide) (by decide)) v_TCM_25 nm_TCM_checkRange rfl ⟨rfl, rfl, Nat.le_of_ble_eq_true rfl, Nat.le_of_ble_eq_true rfl, Nat.zero_le _, Nat.zero_le _⟩ rfl (Nat.le_of_ble_eq_true rfl) d_TCM_move_7 ?_
    refine g_aload_n h d_TCM_move_10 rfl rfl ?_
    refine gf_TCM_heap h f_TCM_12 d_TCM_move_11 ?_
    refine gf_Heap_globals h f_TCM_52 d_TCM_move_14 ?_
    refine g_iload_n h d_TCM_move_17 rfl rfl ?_
    refine g_iload_n h d_TCM_move_18 rfl rfl ?_
    refine g_if_ge (tgt := 28) h d_TCM_move_19 (by decide) (fun c_19 => ?_) (fun c_19 => ?_)
    · exact absurd c_19 (by decide)
    · refine g_ldc2 (v := -1000000000000) h d_TCM_move_22 k_TCM_56 ?_
      refine g_goto (tgt := 37) h d_TCM_move_25 (by decide) ?_
      refine pa_glo h rfl hg d_TCM_move_37 ?_
      exact g_vret h r d_TCM_move_38 (⟨rfl, rfl⟩)
  · have hk := hk k rfl
    refine g_at (L' := [some (.ref (ad (ix 0 0))), some (.int (nI g)), some (.int (nI k))]) rfl rfl rfl ?_
    refine g_iload_n h d_TCM_move_0 rfl rfl ?_
    refine g_dSv h tb_good (c_TCM_checkGlobal (gi_ok hg)) v_TCM_48 nm_TCM_checkGlobal rfl ⟨rfl, rfl, Nat.le_of_ble_eq_true rfl, Nat.le_of_ble_eq_true rfl, Nat.zero_le _, Nat.zero_le _⟩ rfl (Nat.le_of_ble_eq_true rfl) d_TCM_move_1 ?_
    refine g_iload_n h d_TCM_move_4 rfl rfl ?_
    refine g_iconst (v := -1) h d_TCM_move_5 (by decide) ?_
    refine g_iconst (v := 5) h d_TCM_move_6 (by decide) ?_
    refine g_dSv h tb_good (c_TCM_checkRange (rg_m1 (by omega)) (rg_hi (m := 5) (by omega) (by decide))) v_TCM_25 nm_TCM_checkRange rfl ⟨rfl, rfl, Nat.le_of_ble_eq_true rfl, Nat.le_of_ble_eq_true rfl, Nat.zero_le _, Nat.zero_le _⟩ rfl (Nat.le_of_ble_eq_true rfl) d_TCM_move_7 ?_
    refine g_aload_n h d_TCM_move_10 rfl rfl ?_
    refine gf_TCM_heap h f_TCM_12 d_TCM_move_11 ?_
    refine gf_Heap_globals h f_TCM_52 d_TCM_move_14 ?_
    refine g_iload_n h d_TCM_move_17 rfl rfl ?_
    refine g_iload_n h d_TCM_move_18 rfl rfl ?_
    refine g_if_ge (tgt := 28) h d_TCM_move_19 (by decide) (fun c_19 => ?_) (fun c_19 => ?_)
    · refine g_aload_n h d_TCM_move_28 rfl rfl ?_
      refine gf_TCM_heap h f_TCM_12 d_TCM_move_29 ?_
      refine gf_Heap_globals h f_TCM_52 d_TCM_move_32 ?_
      refine g_iload_n h d_TCM_move_35 rfl rfl ?_
      refine ga_glo h rfl hk d_TCM_move_36 ?_
      refine pa_glo h rfl hg d_TCM_move_37 ?_
      exact g_vret h r d_TCM_move_38 (⟨rfl, rfl⟩)
    · exact absurd (nI_pos' (by omega)) c_19
set_option maxHeartbeats 4000000 in
set_option maxRecDepth 100000 in
theorem c_TCM_make {l : Launch} {D : va_G} {t : Nat → ClassId} {ad : Nat → Nat} {C : CS} {g : Nat} {f : Option Nat} (hok : okC C) (hg : g < 6) (hf : ∀ j, f = some j → j < 4) (hcr : (ccreate C (match f with | none => 1 | some _ => 2) (enc f)).1 = 0) : Cd l D t ad y_TCM_make b_TCM_make 3 (some .int) { frames := 5, cells := 0, slots := 0, locals := 114 } [.ref (ad (ix 0 0)), .int (nI g), .int (enc f)] (C) (some (.int ((ccreate C (match f with | none => 1 | some _ => 2) (enc f)).2.2.1 4 0 0 - 10000000000).toInt32)) (sJ (ccreate C (match f with | none => 1 | some _ => 2) (enc f)).2 0 0 g ((ccreate C (match f with | none => 1 | some _ => 2) (enc f)).2.2.1 4 0 0)) := by
  refine ct_of (by decide) (Nat.le_of_ble_eq_true rfl) ?_
  intro Γ _ _ hN h r
  rcases f with _ | f
  · simp only [enc] at hcr
    refine g_at (L' := [some (.ref (ad (ix 0 0))), some (.int (nI g)), some (.int (-1))]) rfl rfl rfl ?_
    refine g_iload_n h d_TCM_make_0 rfl rfl ?_
    refine g_dSv h tb_good (c_TCM_checkGlobal (gi_ok hg)) v_TCM_48 nm_TCM_checkGlobal rfl ⟨rfl, rfl, Nat.le_of_ble_eq_true rfl, Nat.le_of_ble_eq_true rfl, Nat.zero_le _, Nat.zero_le _⟩ rfl (Nat.le_of_ble_eq_true rfl) d_TCM_make_1 ?_
    refine g_iload_n h d_TCM_make_4 rfl rfl ?_
    refine g_iconst (v := -1) h d_TCM_make_5 (by decide) ?_
    refine g_iconst (v := 3) h d_TCM_make_6 (by decide) ?_
    refine g_dSv h tb_good (c_TCM_checkRange (by decide) (by decide)) v_TCM_25 nm_TCM_checkRange rfl ⟨rfl, rfl, Nat.le_of_ble_eq_true rfl, Nat.le_of_ble_eq_true rfl, Nat.zero_le _, Nat.zero_le _⟩ rfl (Nat.le_of_ble_eq_true rfl) d_TCM_make_7 ?_
    refine g_aload_n h d_TCM_make_10 rfl rfl ?_
    refine gf_TCM_heap h f_TCM_12 d_TCM_make_11 ?_
    refine g_iload_n h d_TCM_make_14 rfl rfl ?_
    refine g_if_ge (tgt := 22) h d_TCM_make_15 (by decide) (fun c_15 => ?_) (fun c_15 => ?_)
    · exact absurd c_15 (by decide)
    · refine g_iconst (v := 1) h d_TCM_make_18 (by decide) ?_
      refine g_goto (tgt := 23) h d_TCM_make_19 (by decide) ?_
      refine g_iload_n h d_TCM_make_23 rfl rfl ?_
      refine g_dVi h tb_good (c_Heap_create hok) (ix_lt 1 (by decide) _ (by decide)) (wc_at (by decide) (by decide)) rfl v_TCM_58 nm_Heap_create rfl ⟨rfl, rfl, Nat.le_of_ble_eq_true rfl, Nat.le_of_ble_eq_true rfl, Nat.zero_le _, Nat.zero_le _⟩ rfl (Nat.le_of_ble_eq_true rfl) d_TCM_make_24 ?_
      rw [hcr]
      refine g_dSv h tb_good (c_TCM_raise) v_TCM_62 nm_TCM_raise rfl ⟨rfl, rfl, Nat.le_of_ble_eq_true rfl, Nat.le_of_ble_eq_true rfl, Nat.zero_le _, Nat.zero_le _⟩ rfl (Nat.le_of_ble_eq_true rfl) d_TCM_make_27 ?_
      refine g_aload_n h d_TCM_make_30 rfl rfl ?_
      refine gf_TCM_heap h f_TCM_12 d_TCM_make_31 ?_
      refine gf_Heap_globals h f_TCM_52 d_TCM_make_34 ?_
      refine g_iload_n h d_TCM_make_37 rfl rfl ?_
      refine g_aload_n h d_TCM_make_38 rfl rfl ?_
      refine gf_TCM_heap h f_TCM_12 d_TCM_make_39 ?_
      refine gf_Heap_found h f_TCM_65 d_TCM_make_42 ?_
      refine pa_glo h rfl hg d_TCM_make_45 ?_
      refine g_aload_n h d_TCM_make_46 rfl rfl ?_
      refine gf_TCM_heap h f_TCM_12 d_TCM_make_47 ?_
      refine gf_Heap_found h f_TCM_65 d_TCM_make_50 ?_
      simp only [sI_1, sI_2, sJ_1, sJ_2, sJ_3, sR_1, sR_2, sR_3, Nat.reduceEqDiff, Nat.zero_ne_one, Nat.one_ne_zero, Nat.succ_ne_zero, reduceCtorEq, false_and, if_false, true_and, and_self, if_true, and_true, and_false, reduceIte]
      refine g_dSi h tb_good (c_TCM_numberOf) v_TCM_69 nm_TCM_numberOf rfl ⟨rfl, rfl, Nat.le_of_ble_eq_true rfl, Nat.le_of_ble_eq_true rfl, Nat.zero_le _, Nat.zero_le _⟩ rfl (Nat.le_of_ble_eq_true rfl) d_TCM_make_53 ?_
      exact g_iret h r d_TCM_make_56 (⟨rfl, rfl⟩)
  · have hf := hf f rfl
    simp only [enc] at hcr
    refine g_at (L' := [some (.ref (ad (ix 0 0))), some (.int (nI g)), some (.int (nI f))]) rfl rfl rfl ?_
    refine g_iload_n h d_TCM_make_0 rfl rfl ?_
    refine g_dSv h tb_good (c_TCM_checkGlobal (gi_ok hg)) v_TCM_48 nm_TCM_checkGlobal rfl ⟨rfl, rfl, Nat.le_of_ble_eq_true rfl, Nat.le_of_ble_eq_true rfl, Nat.zero_le _, Nat.zero_le _⟩ rfl (Nat.le_of_ble_eq_true rfl) d_TCM_make_1 ?_
    refine g_iload_n h d_TCM_make_4 rfl rfl ?_
    refine g_iconst (v := -1) h d_TCM_make_5 (by decide) ?_
    refine g_iconst (v := 3) h d_TCM_make_6 (by decide) ?_
    refine g_dSv h tb_good (c_TCM_checkRange (rg_m1 (by omega)) (rg_hi (m := 3) (by omega) (by decide))) v_TCM_25 nm_TCM_checkRange rfl ⟨rfl, rfl, Nat.le_of_ble_eq_true rfl, Nat.le_of_ble_eq_true rfl, Nat.zero_le _, Nat.zero_le _⟩ rfl (Nat.le_of_ble_eq_true rfl) d_TCM_make_7 ?_
    refine g_aload_n h d_TCM_make_10 rfl rfl ?_
    refine gf_TCM_heap h f_TCM_12 d_TCM_make_11 ?_
    refine g_iload_n h d_TCM_make_14 rfl rfl ?_
    refine g_if_ge (tgt := 22) h d_TCM_make_15 (by decide) (fun c_15 => ?_) (fun c_15 => ?_)
    · refine g_iconst (v := 2) h d_TCM_make_22 (by decide) ?_
      refine g_iload_n h d_TCM_make_23 rfl rfl ?_
      refine g_dVi h tb_good (c_Heap_create hok) (ix_lt 1 (by decide) _ (by decide)) (wc_at (by decide) (by decide)) rfl v_TCM_58 nm_Heap_create rfl ⟨rfl, rfl, Nat.le_of_ble_eq_true rfl, Nat.le_of_ble_eq_true rfl, Nat.zero_le _, Nat.zero_le _⟩ rfl (Nat.le_of_ble_eq_true rfl) d_TCM_make_24 ?_
      rw [hcr]
      refine g_dSv h tb_good (c_TCM_raise) v_TCM_62 nm_TCM_raise rfl ⟨rfl, rfl, Nat.le_of_ble_eq_true rfl, Nat.le_of_ble_eq_true rfl, Nat.zero_le _, Nat.zero_le _⟩ rfl (Nat.le_of_ble_eq_true rfl) d_TCM_make_27 ?_
      refine g_aload_n h d_TCM_make_30 rfl rfl ?_
      refine gf_TCM_heap h f_TCM_12 d_TCM_make_31 ?_
      refine gf_Heap_globals h f_TCM_52 d_TCM_make_34 ?_
      refine g_iload_n h d_TCM_make_37 rfl rfl ?_
      refine g_aload_n h d_TCM_make_38 rfl rfl ?_
      refine gf_TCM_heap h f_TCM_12 d_TCM_make_39 ?_
      refine gf_Heap_found h f_TCM_65 d_TCM_make_42 ?_
      refine pa_glo h rfl hg d_TCM_make_45 ?_
      refine g_aload_n h d_TCM_make_46 rfl rfl ?_
      refine gf_TCM_heap h f_TCM_12 d_TCM_make_47 ?_
      refine gf_Heap_found h f_TCM_65 d_TCM_make_50 ?_
      simp only [sI_1, sI_2, sJ_1, sJ_2, sJ_3, sR_1, sR_2, sR_3, Nat.reduceEqDiff, Nat.zero_ne_one, Nat.one_ne_zero, Nat.succ_ne_zero, reduceCtorEq, false_and, if_false, true_and, and_self, if_true, and_true, and_false, reduceIte]
      refine g_dSi h tb_good (c_TCM_numberOf) v_TCM_69 nm_TCM_numberOf rfl ⟨rfl, rfl, Nat.le_of_ble_eq_true rfl, Nat.le_of_ble_eq_true rfl, Nat.zero_le _, Nat.zero_le _⟩ rfl (Nat.le_of_ble_eq_true rfl) d_TCM_make_53 ?_
      exact g_iret h r d_TCM_make_56 (⟨rfl, rfl⟩)
    · exact absurd (nI_pos' (by omega)) c_15
set_option maxHeartbeats 4000000 in
set_option maxRecDepth 100000 in
theorem c_TCM_set {l : Launch} {D : va_G} {t : Nat → ClassId} {ad : Nat → Nat} {C : CS} {a b c : Nat} (hok : okC C) (ha : a < 6) (hb : b < 6) (hc : c < 6) (hz : (csetting C (C.2.1 0 0 a) (C.2.1 0 0 b) (C.2.1 0 0 c)).1 = 0) : Cd l D t ad y_TCM_set b_TCM_set 4 none { frames := 5, cells := 0, slots := 0, locals := 127 } [.ref (ad (ix 0 0)), .int (nI a), .int (nI b), .int (nI c)] (C) (none) ((csetting C (C.2.1 0 0 a) (C.2.1 0 0 b) (C.2.1 0 0 c)).2) := by
  refine ct_of (by decide) (Nat.le_of_ble_eq_true rfl) ?_
  intro Γ _ _ hN h r
  refine g_at (L' := [some (.ref (ad (ix 0 0))), some (.int (nI a)), some (.int (nI b)), some (.int (nI c))]) rfl rfl rfl ?_
  refine g_iload_n h d_TCM_set_0 rfl rfl ?_
  refine g_dSv h tb_good (c_TCM_checkGlobal (gi_ok ha)) v_TCM_48 nm_TCM_checkGlobal rfl ⟨rfl, rfl, Nat.le_of_ble_eq_true rfl, Nat.le_of_ble_eq_true rfl, Nat.zero_le _, Nat.zero_le _⟩ rfl (Nat.le_of_ble_eq_true rfl) d_TCM_set_1 ?_
  refine g_iload_n h d_TCM_set_4 rfl rfl ?_
  refine g_dSv h tb_good (c_TCM_checkGlobal (gi_ok hb)) v_TCM_48 nm_TCM_checkGlobal rfl ⟨rfl, rfl, Nat.le_of_ble_eq_true rfl, Nat.le_of_ble_eq_true rfl, Nat.zero_le _, Nat.zero_le _⟩ rfl (Nat.le_of_ble_eq_true rfl) d_TCM_set_5 ?_
  refine g_iload_n h d_TCM_set_8 rfl rfl ?_
  refine g_dSv h tb_good (c_TCM_checkGlobal (gi_ok hc)) v_TCM_48 nm_TCM_checkGlobal rfl ⟨rfl, rfl, Nat.le_of_ble_eq_true rfl, Nat.le_of_ble_eq_true rfl, Nat.zero_le _, Nat.zero_le _⟩ rfl (Nat.le_of_ble_eq_true rfl) d_TCM_set_9 ?_
  refine g_aload_n h d_TCM_set_12 rfl rfl ?_
  refine gf_TCM_heap h f_TCM_12 d_TCM_set_13 ?_
  refine g_aload_n h d_TCM_set_16 rfl rfl ?_
  refine gf_TCM_heap h f_TCM_12 d_TCM_set_17 ?_
  refine gf_Heap_globals h f_TCM_52 d_TCM_set_20 ?_
  refine g_iload_n h d_TCM_set_23 rfl rfl ?_
  refine ga_glo h rfl ha d_TCM_set_24 ?_
  refine g_aload_n h d_TCM_set_25 rfl rfl ?_
  refine gf_TCM_heap h f_TCM_12 d_TCM_set_26 ?_
  refine gf_Heap_globals h f_TCM_52 d_TCM_set_29 ?_
  refine g_iload_n h d_TCM_set_32 rfl rfl ?_
  refine ga_glo h rfl hb d_TCM_set_33 ?_
  refine g_aload_n h d_TCM_set_34 rfl rfl ?_
  refine gf_TCM_heap h f_TCM_12 d_TCM_set_35 ?_
  refine gf_Heap_globals h f_TCM_52 d_TCM_set_38 ?_
  refine g_iload_n h d_TCM_set_41 rfl rfl ?_
  refine ga_glo h rfl hc d_TCM_set_42 ?_
  refine g_dVi h tb_good (c_Heap_setting hok (hok.2.1 _ _ _)) (ix_lt 1 (by decide) _ (by decide)) (wc_at (by decide) (by decide)) rfl v_TCM_73 nm_Heap_setting rfl ⟨rfl, rfl, Nat.le_of_ble_eq_true rfl, Nat.le_of_ble_eq_true rfl, Nat.zero_le _, Nat.zero_le _⟩ rfl (Nat.le_of_ble_eq_true rfl) d_TCM_set_43 ?_
  rw [hz]
  refine g_dSv h tb_good (c_TCM_raise) v_TCM_62 nm_TCM_raise rfl ⟨rfl, rfl, Nat.le_of_ble_eq_true rfl, Nat.le_of_ble_eq_true rfl, Nat.zero_le _, Nat.zero_le _⟩ rfl (Nat.le_of_ble_eq_true rfl) d_TCM_set_46 ?_
  exact g_vret h r d_TCM_set_49 (⟨rfl, rfl⟩)
set_option maxHeartbeats 4000000 in
set_option maxRecDepth 100000 in
theorem c_TCM_get {l : Launch} {D : va_G} {t : Nat → ClassId} {ad : Nat → Nat} {C : CS} {a b c : Nat} (hok : okC C) (ha : a < 6) (hb : b < 6) (hc : c < 6) (hz : (cgetting C (C.2.1 0 0 a) (C.2.1 0 0 b)).1 = 0) : Cd l D t ad y_TCM_get b_TCM_get 4 (some .long) { frames := 5, cells := 0, slots := 0, locals := 125 } [.ref (ad (ix 0 0)), .int (nI a), .int (nI b), .int (nI c)] (C) (some (.long ((cgetting C (C.2.1 0 0 a) (C.2.1 0 0 b)).2.2.1 4 0 0))) (sJ (cgetting C (C.2.1 0 0 a) (C.2.1 0 0 b)).2 0 0 c ((cgetting C (C.2.1 0 0 a) (C.2.1 0 0 b)).2.2.1 4 0 0)) := by
  refine ct_of (by decide) (Nat.le_of_ble_eq_true rfl) ?_
  intro Γ _ _ hN h r
  refine g_at (L' := [some (.ref (ad (ix 0 0))), some (.int (nI a)), some (.int (nI b)), some (.int (nI c))]) rfl rfl rfl ?_
  refine g_iload_n h d_TCM_get_0 rfl rfl ?_
  refine g_dSv h tb_good (c_TCM_checkGlobal (gi_ok ha)) v_TCM_48 nm_TCM_checkGlobal rfl ⟨rfl, rfl, Nat.le_of_ble_eq_true rfl, Nat.le_of_ble_eq_true rfl, Nat.zero_le _, Nat.zero_le _⟩ rfl (Nat.le_of_ble_eq_true rfl) d_TCM_get_1 ?_
  refine g_iload_n h d_TCM_get_4 rfl rfl ?_
  refine g_dSv h tb_good (c_TCM_checkGlobal (gi_ok hb)) v_TCM_48 nm_TCM_checkGlobal rfl ⟨rfl, rfl, Nat.le_of_ble_eq_true rfl, Nat.le_of_ble_eq_true rfl, Nat.zero_le _, Nat.zero_le _⟩ rfl (Nat.le_of_ble_eq_true rfl) d_TCM_get_5 ?_
  refine g_iload_n h d_TCM_get_8 rfl rfl ?_
  refine g_dSv h tb_good (c_TCM_checkGlobal (gi_ok hc)) v_TCM_48 nm_TCM_checkGlobal rfl ⟨rfl, rfl, Nat.le_of_ble_eq_true rfl, Nat.le_of_ble_eq_true rfl, Nat.zero_le _, Nat.zero_le _⟩ rfl (Nat.le_of_ble_eq_true rfl) d_TCM_get_9 ?_
  refine g_aload_n h d_TCM_get_12 rfl rfl ?_
  refine gf_TCM_heap h f_TCM_12 d_TCM_get_13 ?_
  refine g_aload_n h d_TCM_get_16 rfl rfl ?_
  refine gf_TCM_heap h f_TCM_12 d_TCM_get_17 ?_
  refine gf_Heap_globals h f_TCM_52 d_TCM_get_20 ?_
  refine g_iload_n h d_TCM_get_23 rfl rfl ?_
  refine ga_glo h rfl ha d_TCM_get_24 ?_
  refine g_aload_n h d_TCM_get_25 rfl rfl ?_
  refine gf_TCM_heap h f_TCM_12 d_TCM_get_26 ?_
  refine gf_Heap_globals h f_TCM_52 d_TCM_get_29 ?_
  refine g_iload_n h d_TCM_get_32 rfl rfl ?_
  refine ga_glo h rfl hb d_TCM_get_33 ?_
  refine g_dVi h tb_good (c_Heap_getting hok (hok.2.1 _ _ _)) (ix_lt 1 (by decide) _ (by decide)) (wc_at (by decide) (by decide)) rfl v_TCM_77 nm_Heap_getting rfl ⟨rfl, rfl, Nat.le_of_ble_eq_true rfl, Nat.le_of_ble_eq_true rfl, Nat.zero_le _, Nat.zero_le _⟩ rfl (Nat.le_of_ble_eq_true rfl) d_TCM_get_34 ?_
  rw [hz]
  refine g_dSv h tb_good (c_TCM_raise) v_TCM_62 nm_TCM_raise rfl ⟨rfl, rfl, Nat.le_of_ble_eq_true rfl, Nat.le_of_ble_eq_true rfl, Nat.zero_le _, Nat.zero_le _⟩ rfl (Nat.le_of_ble_eq_true rfl) d_TCM_get_37 ?_
  refine g_aload_n h d_TCM_get_40 rfl rfl ?_
  refine gf_TCM_heap h f_TCM_12 d_TCM_get_41 ?_
  refine gf_Heap_globals h f_TCM_52 d_TCM_get_44 ?_
  refine g_iload_n h d_TCM_get_47 rfl rfl ?_
  refine g_aload_n h d_TCM_get_48 rfl rfl ?_
  refine gf_TCM_heap h f_TCM_12 d_TCM_get_49 ?_
  refine gf_Heap_found h f_TCM_65 d_TCM_get_52 ?_
  refine pa_glo h rfl hc d_TCM_get_55 ?_
  refine g_aload_n h d_TCM_get_56 rfl rfl ?_
  refine gf_TCM_heap h f_TCM_12 d_TCM_get_57 ?_
  refine gf_Heap_found h f_TCM_65 d_TCM_get_60 ?_
  simp only [sI_1, sI_2, sJ_1, sJ_2, sJ_3, sR_1, sR_2, sR_3, Nat.reduceEqDiff, Nat.zero_ne_one, Nat.one_ne_zero, Nat.succ_ne_zero, reduceCtorEq, false_and, if_false, true_and, and_self, if_true, and_true, and_false, reduceIte]
  exact g_lret h r d_TCM_get_63 (⟨rfl, rfl⟩)
set_option maxHeartbeats 4000000 in
set_option maxRecDepth 100000 in
theorem c_TCM_meta {l : Launch} {D : va_G} {t : Nat → ClassId} {ad : Nat → Nat} {C : CS} {a b : Nat} (hok : okC C) (ha : a < 6) (hb : b < 6) (hz : (csetMeta C (C.2.1 0 0 a) (C.2.1 0 0 b)).1 = 0) : Cd l D t ad y_TCM_meta b_TCM_meta 3 none { frames := 3, cells := 0, slots := 0, locals := 69 } [.ref (ad (ix 0 0)), .int (nI a), .int (nI b)] (C) (none) ((csetMeta C (C.2.1 0 0 a) (C.2.1 0 0 b)).2) := by
  refine ct_of (by decide) (Nat.le_of_ble_eq_true rfl) ?_
  intro Γ _ _ hN h r
  refine g_at (L' := [some (.ref (ad (ix 0 0))), some (.int (nI a)), some (.int (nI b))]) rfl rfl rfl ?_
  refine g_iload_n h d_TCM_meta_0 rfl rfl ?_
  refine g_dSv h tb_good (c_TCM_checkGlobal (gi_ok ha)) v_TCM_48 nm_TCM_checkGlobal rfl ⟨rfl, rfl, Nat.le_of_ble_eq_true rfl, Nat.le_of_ble_eq_true rfl, Nat.zero_le _, Nat.zero_le _⟩ rfl (Nat.le_of_ble_eq_true rfl) d_TCM_meta_1 ?_
  refine g_iload_n h d_TCM_meta_4 rfl rfl ?_
  refine g_dSv h tb_good (c_TCM_checkGlobal (gi_ok hb)) v_TCM_48 nm_TCM_checkGlobal rfl ⟨rfl, rfl, Nat.le_of_ble_eq_true rfl, Nat.le_of_ble_eq_true rfl, Nat.zero_le _, Nat.zero_le _⟩ rfl (Nat.le_of_ble_eq_true rfl) d_TCM_meta_5 ?_
  refine g_aload_n h d_TCM_meta_8 rfl rfl ?_
  refine gf_TCM_heap h f_TCM_12 d_TCM_meta_9 ?_
  refine g_aload_n h d_TCM_meta_12 rfl rfl ?_
  refine gf_TCM_heap h f_TCM_12 d_TCM_meta_13 ?_
  refine gf_Heap_globals h f_TCM_52 d_TCM_meta_16 ?_
  refine g_iload_n h d_TCM_meta_19 rfl rfl ?_
  refine ga_glo h rfl ha d_TCM_meta_20 ?_
  refine g_aload_n h d_TCM_meta_21 rfl rfl ?_
  refine gf_TCM_heap h f_TCM_12 d_TCM_meta_22 ?_
  refine gf_Heap_globals h f_TCM_52 d_TCM_meta_25 ?_
  refine g_iload_n h d_TCM_meta_28 rfl rfl ?_
  refine ga_glo h rfl hb d_TCM_meta_29 ?_
  refine g_dVi h tb_good (c_Heap_settingMeta hok (hok.2.1 _ _ _) (hok.2.1 _ _ _)) (ix_lt 1 (by decide) _ (by decide)) (wc_at (by decide) (by decide)) rfl v_TCM_81 nm_Heap_settingMeta rfl ⟨rfl, rfl, Nat.le_of_ble_eq_true rfl, Nat.le_of_ble_eq_true rfl, Nat.zero_le _, Nat.zero_le _⟩ rfl (Nat.le_of_ble_eq_true rfl) d_TCM_meta_30 ?_
  rw [hz]
  refine g_dSv h tb_good (c_TCM_raise) v_TCM_62 nm_TCM_raise rfl ⟨rfl, rfl, Nat.le_of_ble_eq_true rfl, Nat.le_of_ble_eq_true rfl, Nat.zero_le _, Nat.zero_le _⟩ rfl (Nat.le_of_ble_eq_true rfl) d_TCM_meta_33 ?_
  exact g_vret h r d_TCM_meta_36 (⟨rfl, rfl⟩)
set_option maxHeartbeats 4000000 in
set_option maxRecDepth 100000 in
theorem c_TCM_resume {l : Launch} {D : va_G} {t : Nat → ClassId} {ad : Nat → Nat} {C : CS} {a b c : Nat} {M : CS} (hR : RR C M) (ha : a < 6) (hb : b < 6) (hc : c < 6) (hz : (crunT C (C.2.1 0 0 a) (C.2.1 0 0 b)).1 = 0) : Cd l D t ad y_TCM_resume b_TCM_resume 4 (some .long) { frames := 7, cells := 0, slots := 0, locals := 180 } [.ref (ad (ix 0 0)), .int (nI a), .int (nI b), .int (nI c)] (C) (some (.long ((crunT C (C.2.1 0 0 a) (C.2.1 0 0 b)).2.2.1 5 0 0))) (sJ (crunT C (C.2.1 0 0 a) (C.2.1 0 0 b)).2 0 0 c ((crunT C (C.2.1 0 0 a) (C.2.1 0 0 b)).2.2.1 5 0 0)) := by
  refine ct_of (by decide) (Nat.le_of_ble_eq_true rfl) ?_
  intro Γ _ _ hN h r
  refine g_at (L' := [some (.ref (ad (ix 0 0))), some (.int (nI a)), some (.int (nI b)), some (.int (nI c))]) rfl rfl rfl ?_
  refine g_iload_n h d_TCM_resume_0 rfl rfl ?_
  refine g_dSv h tb_good (c_TCM_checkGlobal (gi_ok ha)) v_TCM_48 nm_TCM_checkGlobal rfl ⟨rfl, rfl, Nat.le_of_ble_eq_true rfl, Nat.le_of_ble_eq_true rfl, Nat.zero_le _, Nat.zero_le _⟩ rfl (Nat.le_of_ble_eq_true rfl) d_TCM_resume_1 ?_
  refine g_iload_n h d_TCM_resume_4 rfl rfl ?_
  refine g_dSv h tb_good (c_TCM_checkGlobal (gi_ok hb)) v_TCM_48 nm_TCM_checkGlobal rfl ⟨rfl, rfl, Nat.le_of_ble_eq_true rfl, Nat.le_of_ble_eq_true rfl, Nat.zero_le _, Nat.zero_le _⟩ rfl (Nat.le_of_ble_eq_true rfl) d_TCM_resume_5 ?_
  refine g_iload_n h d_TCM_resume_8 rfl rfl ?_
  refine g_dSv h tb_good (c_TCM_checkGlobal (gi_ok hc)) v_TCM_48 nm_TCM_checkGlobal rfl ⟨rfl, rfl, Nat.le_of_ble_eq_true rfl, Nat.le_of_ble_eq_true rfl, Nat.zero_le _, Nat.zero_le _⟩ rfl (Nat.le_of_ble_eq_true rfl) d_TCM_resume_9 ?_
  refine g_aload_n h d_TCM_resume_12 rfl rfl ?_
  refine gf_TCM_processor h f_TCM_21 d_TCM_resume_13 ?_
  refine g_aload_n h d_TCM_resume_16 rfl rfl ?_
  refine gf_TCM_heap h f_TCM_12 d_TCM_resume_17 ?_
  refine gf_Heap_globals h f_TCM_52 d_TCM_resume_20 ?_
  refine g_iload_n h d_TCM_resume_23 rfl rfl ?_
  refine ga_glo h rfl ha d_TCM_resume_24 ?_
  refine g_aload_n h d_TCM_resume_25 rfl rfl ?_
  refine gf_TCM_heap h f_TCM_12 d_TCM_resume_26 ?_
  refine gf_Heap_globals h f_TCM_52 d_TCM_resume_29 ?_
  refine g_iload_n h d_TCM_resume_32 rfl rfl ?_
  refine ga_glo h rfl hb d_TCM_resume_33 ?_
  refine g_dVi h tb_good (c_Pro_run (I := fun tr X => ∃ M, KK tr X M) hR.1.1 (hR.1.1.2.1 _ _ _) (fun _ _ z => KK_okC z) (fun _ z w => KK_cpreE z w) (fun _ z w => KK_stepE z w) ⟨_, start_KN hR ha hb⟩) (ix_lt 10 (by decide) _ (by decide)) (wc_at (by decide) (by decide)) rfl v_TCM_84 nm_Pro_run rfl ⟨rfl, rfl, Nat.le_of_ble_eq_true rfl, Nat.le_of_ble_eq_true rfl, Nat.zero_le _, Nat.zero_le _⟩ rfl (Nat.le_of_ble_eq_true rfl) d_TCM_resume_34 ?_
  rw [hz]
  refine g_dSv h tb_good (c_TCM_raise) v_TCM_62 nm_TCM_raise rfl ⟨rfl, rfl, Nat.le_of_ble_eq_true rfl, Nat.le_of_ble_eq_true rfl, Nat.zero_le _, Nat.zero_le _⟩ rfl (Nat.le_of_ble_eq_true rfl) d_TCM_resume_37 ?_
  refine g_aload_n h d_TCM_resume_40 rfl rfl ?_
  refine gf_TCM_heap h f_TCM_12 d_TCM_resume_41 ?_
  refine gf_Heap_globals h f_TCM_52 d_TCM_resume_44 ?_
  refine g_iload_n h d_TCM_resume_47 rfl rfl ?_
  refine g_aload_n h d_TCM_resume_48 rfl rfl ?_
  refine gf_TCM_processor h f_TCM_21 d_TCM_resume_49 ?_
  refine gf_Pro_outcome h f_TCM_87 d_TCM_resume_52 ?_
  refine pa_glo h rfl hc d_TCM_resume_55 ?_
  refine g_aload_n h d_TCM_resume_56 rfl rfl ?_
  refine gf_TCM_processor h f_TCM_21 d_TCM_resume_57 ?_
  refine gf_Pro_outcome h f_TCM_87 d_TCM_resume_60 ?_
  simp only [sI_1, sI_2, sJ_1, sJ_2, sJ_3, sR_1, sR_2, sR_3, Nat.reduceEqDiff, Nat.zero_ne_one, Nat.one_ne_zero, Nat.succ_ne_zero, reduceCtorEq, false_and, if_false, true_and, and_self, if_true, and_true, and_false, reduceIte]
  exact g_lret h r d_TCM_resume_63 (⟨rfl, rfl⟩)
def ccoll : Nat → CS → CS
  | 0, C => C
  | c + 1, C => ccoll c (cunit C)
set_option maxHeartbeats 4000000 in
set_option maxRecDepth 100000 in
theorem c_TCM_collect {l : Launch} {D : va_G} {t : Nat → ClassId} {ad : Nat → Nat} {C : CS} {n : Nat} (hok : okC C) (h1 : 1 ≤ n) (h2 : n ≤ 100) : Cd l D t ad y_TCM_collect b_TCM_collect 4 (some .int) { frames := 3, cells := 0, slots := 0, locals := 69 } [.ref (ad (ix 0 0)), .int (nI n)] (C) (some (.int ((ccoll n C).1 16 0 - C.1 16 0))) (ccoll n C) := by
  refine ct_of (by decide) (Nat.le_of_ble_eq_true rfl) ?_
  intro Γ _ _ hN h r
  have loop : ∀ (c i : Nat) (X : CS), i + c = n → okC X → ccoll c X = ccoll n C → G Γ 0 0 171 ad (wc ad t X) 17 [some (.ref (ad (ix 0 0))), some (.int (nI n)), some (.int (C.1 16 0)), some (.int (nI i))] [] := by
    intro c
    induction c with
    | zero =>
      intro i X hi hX he
      refine g_iload_n h d_TCM_collect_17 rfl rfl ?_
      refine g_iload_n h d_TCM_collect_18 rfl rfl ?_
      refine g_icmp_ge (tgt := 35) h d_TCM_collect_19 (by decide) (fun c_19 => ?_) (fun c_19 => ?_)
      · refine g_aload_n h d_TCM_collect_35 rfl rfl ?_
        refine gf_TCM_heap h f_TCM_12 d_TCM_collect_36 ?_
        refine gf_Heap_gone h f_TCM_90 d_TCM_collect_39 ?_
        refine g_iload_n h d_TCM_collect_42 rfl rfl ?_
        refine g_isub h d_TCM_collect_43 ?_
        exact g_iret h r d_TCM_collect_44 (⟨by rw [← he]; rfl, by rw [← he]; rfl⟩)
      · exact absurd (nI_le (a := n) (b := i) (by omega) (by omega)) c_19
    | succ c ih =>
      intro i X hi hX he
      refine g_iload_n h d_TCM_collect_17 rfl rfl ?_
      refine g_iload_n h d_TCM_collect_18 rfl rfl ?_
      refine g_icmp_ge (tgt := 35) h d_TCM_collect_19 (by decide) (fun c_19 => ?_) (fun c_19 => ?_)
      · exact absurd c_19 (nI_ge (b := n) (by omega) (by omega))
      · refine g_aload_n h d_TCM_collect_22 rfl rfl ?_
        refine gf_TCM_heap h f_TCM_12 d_TCM_collect_23 ?_
        refine g_dVv h tb_good (c_Heap_unit hX) (ix_lt 1 (by decide) _ (by decide)) (wc_at (by decide) (by decide)) rfl v_TCM_93 nm_Heap_unit rfl ⟨rfl, rfl, Nat.le_of_ble_eq_true rfl, Nat.le_of_ble_eq_true rfl, Nat.zero_le _, Nat.zero_le _⟩ rfl (Nat.le_of_ble_eq_true rfl) d_TCM_collect_26 ?_
        refine g_iinc (v := nI (i + 1)) h d_TCM_collect_29 rfl (by rw [nI_succ]; rfl) rfl (by rw [hN]; decide) ?_
        refine g_goto (tgt := 17) h d_TCM_collect_32 (by decide) ?_
        exact ih (i + 1) _ (by omega) (okC_unit hX) (by rw [← he]; rfl)
  refine g_at (L' := [some (.ref (ad (ix 0 0))), some (.int (nI n)), none, none]) rfl rfl rfl ?_
  refine g_iload_n h d_TCM_collect_0 rfl rfl ?_
  refine g_iconst (v := 1) h d_TCM_collect_1 (by decide) ?_
  refine g_bipush (v := 100) h d_TCM_collect_2 (by decide) ?_
  refine g_dSv h tb_good (c_TCM_checkRange (a := 1) (b := 100) (fun z => absurd (show nI 1 ≤ nI n from nI_le h1 (by omega)) (Int32.not_le.mpr z)) (rg_hi (m := 100) h2 (by decide))) v_TCM_25 nm_TCM_checkRange rfl ⟨rfl, rfl, Nat.le_of_ble_eq_true rfl, Nat.le_of_ble_eq_true rfl, Nat.zero_le _, Nat.zero_le _⟩ rfl (Nat.le_of_ble_eq_true rfl) d_TCM_collect_4 ?_
  refine g_aload_n h d_TCM_collect_7 rfl rfl ?_
  refine gf_TCM_heap h f_TCM_12 d_TCM_collect_8 ?_
  refine gf_Heap_gone h f_TCM_90 d_TCM_collect_11 ?_
  refine g_istore_n h d_TCM_collect_14 rfl rfl (by rw [hN]; decide) ?_
  refine g_iconst (v := 0) h d_TCM_collect_15 (by decide) ?_
  refine g_istore_n h d_TCM_collect_16 rfl rfl (by rw [hN]; decide) ?_
  exact loop n 0 C (by omega) hok rfl
set_option maxHeartbeats 4000000 in
set_option maxRecDepth 100000 in
theorem c_TCM_full {l : Launch} {D : va_G} {t : Nat → ClassId} {ad : Nat → Nat} {C : CS} (hok : okC C) : Cd l D t ad y_TCM_full b_TCM_full 2 (some .int) { frames := 4, cells := 0, slots := 0, locals := 90 } [.ref (ad (ix 0 0))] (C) (some (.int ((cfull C).1 16 0 - C.1 16 0))) (cfull C) := by
  refine ct_of (by decide) (Nat.le_of_ble_eq_true rfl) ?_
  intro Γ _ _ hN h r
  refine g_at (L' := [some (.ref (ad (ix 0 0))), none]) rfl rfl rfl ?_
  refine g_aload_n h d_TCM_full_0 rfl rfl ?_
  refine gf_TCM_heap h f_TCM_12 d_TCM_full_1 ?_
  refine gf_Heap_gone h f_TCM_90 d_TCM_full_4 ?_
  refine g_istore_n h d_TCM_full_7 rfl rfl (by rw [hN]; decide) ?_
  refine g_aload_n h d_TCM_full_8 rfl rfl ?_
  refine gf_TCM_heap h f_TCM_12 d_TCM_full_9 ?_
  refine g_dVv h tb_good (c_Heap_fullCollection hok) (ix_lt 1 (by decide) _ (by decide)) (wc_at (by decide) (by decide)) rfl v_TCM_96 nm_Heap_fullCollection rfl ⟨rfl, rfl, Nat.le_of_ble_eq_true rfl, Nat.le_of_ble_eq_true rfl, Nat.zero_le _, Nat.zero_le _⟩ rfl (Nat.le_of_ble_eq_true rfl) d_TCM_full_12 ?_
  refine g_aload_n h d_TCM_full_15 rfl rfl ?_
  refine gf_TCM_heap h f_TCM_12 d_TCM_full_16 ?_
  refine gf_Heap_gone h f_TCM_90 d_TCM_full_19 ?_
  refine g_iload_n h d_TCM_full_22 rfl rfl ?_
  refine g_isub h d_TCM_full_23 ?_
  exact g_iret h r d_TCM_full_24 (⟨rfl, rfl⟩)
set_option maxHeartbeats 4000000 in
set_option maxRecDepth 100000 in
theorem c_TCM_global {l : Launch} {D : va_G} {t : Nat → ClassId} {ad : Nat → Nat} {C : CS} {g : Nat} (hg : g < 6) : Cd l D t ad y_TCM_global b_TCM_global 2 (some .long) { frames := 2, cells := 0, slots := 0, locals := 42 } [.ref (ad (ix 0 0)), .int (nI g)] (C) (some (.long (C.2.1 0 0 g))) (C) := by
  refine ct_of (by decide) (Nat.le_of_ble_eq_true rfl) ?_
  intro Γ _ _ hN h r
  refine g_at (L' := [some (.ref (ad (ix 0 0))), some (.int (nI g))]) rfl rfl rfl ?_
  refine g_iload_n h d_TCM_global_0 rfl rfl ?_
  refine g_dSv h tb_good (c_TCM_checkGlobal (gi_ok hg)) v_TCM_48 nm_TCM_checkGlobal rfl ⟨rfl, rfl, Nat.le_of_ble_eq_true rfl, Nat.le_of_ble_eq_true rfl, Nat.zero_le _, Nat.zero_le _⟩ rfl (Nat.le_of_ble_eq_true rfl) d_TCM_global_1 ?_
  refine g_aload_n h d_TCM_global_4 rfl rfl ?_
  refine gf_TCM_heap h f_TCM_12 d_TCM_global_5 ?_
  refine gf_Heap_globals h f_TCM_52 d_TCM_global_8 ?_
  refine g_iload_n h d_TCM_global_11 rfl rfl ?_
  refine ga_glo h rfl hg d_TCM_global_12 ?_
  exact g_lret h r d_TCM_global_13 (⟨rfl, rfl⟩)
set_option maxHeartbeats 4000000 in
set_option maxRecDepth 100000 in
theorem c_TCM_code {l : Launch} {D : va_G} {t : Nat → ClassId} {ad : Nat → Nat} {C : CS} {f i : Nat} {op a b c : Int32} (hf : f < 4) (hi : i < 16) (ho : ¬ op < -1) (ho2 : ¬ 21 < op) : Cd l D t ad y_TCM_code b_TCM_code 8 none { frames := 1, cells := 0, slots := 0, locals := 22 } [.ref (ad (ix 0 0)), .int (nI f), .int (nI i), .int op, .int a, .int b, .int c] (C) (none) (sI (sI (sI (sI C 9 (f * 17 + i) op) 10 (f * 17 + i) a) 11 (f * 17 + i) b) 12 (f * 17 + i) c) := by
  refine ct_of (by decide) (Nat.le_of_ble_eq_true rfl) ?_
  intro Γ _ _ hN h r
  refine g_at (L' := [some (.ref (ad (ix 0 0))), some (.int (nI f)), some (.int (nI i)), some (.int op), some (.int a), some (.int b), some (.int c), none]) rfl rfl rfl ?_
  refine g_iload_n h d_TCM_code_0 rfl rfl ?_
  refine g_iconst (v := 0) h d_TCM_code_1 (by decide) ?_
  refine g_iconst (v := 3) h d_TCM_code_2 (by decide) ?_
  refine g_dSv h tb_good (c_TCM_checkRange (rg_lo (by omega)) (rg_hi (m := 3) (by omega) (by decide))) v_TCM_25 nm_TCM_checkRange rfl ⟨rfl, rfl, Nat.le_of_ble_eq_true rfl, Nat.le_of_ble_eq_true rfl, Nat.zero_le _, Nat.zero_le _⟩ rfl (Nat.le_of_ble_eq_true rfl) d_TCM_code_3 ?_
  refine g_iload_n h d_TCM_code_6 rfl rfl ?_
  refine g_iconst (v := 0) h d_TCM_code_7 (by decide) ?_
  refine g_bipush (v := 15) h d_TCM_code_8 (by decide) ?_
  refine g_dSv h tb_good (c_TCM_checkRange (rg_lo (by omega)) (rg_hi (m := 15) (by omega) (by decide))) v_TCM_25 nm_TCM_checkRange rfl ⟨rfl, rfl, Nat.le_of_ble_eq_true rfl, Nat.le_of_ble_eq_true rfl, Nat.zero_le _, Nat.zero_le _⟩ rfl (Nat.le_of_ble_eq_true rfl) d_TCM_code_10 ?_
  refine g_iload_n h d_TCM_code_13 rfl rfl ?_
  refine g_iconst (v := -1) h d_TCM_code_14 (by decide) ?_
  refine g_bipush (v := 21) h d_TCM_code_15 (by decide) ?_
  refine g_dSv h tb_good (c_TCM_checkRange ho ho2) v_TCM_25 nm_TCM_checkRange rfl ⟨rfl, rfl, Nat.le_of_ble_eq_true rfl, Nat.le_of_ble_eq_true rfl, Nat.zero_le _, Nat.zero_le _⟩ rfl (Nat.le_of_ble_eq_true rfl) d_TCM_code_17 ?_
  refine g_aload_n h d_TCM_code_20 rfl rfl ?_
  refine gf_TCM_processor h f_TCM_21 d_TCM_code_21 ?_
  refine g_iload_n h d_TCM_code_24 rfl rfl ?_
  refine g_iload_n h d_TCM_code_25 rfl rfl ?_
  refine g_dVr h tb_good (c_Pro_instructionAt hf (by omega)) (ix_lt 10 (by decide) _ (by decide)) (wc_at (by decide) (by decide)) rfl v_TCM_29 nm_Pro_instructionAt rfl ⟨rfl, rfl, Nat.le_of_ble_eq_true rfl, Nat.le_of_ble_eq_true rfl, Nat.zero_le _, Nat.zero_le _⟩ rfl (Nat.le_of_ble_eq_true rfl) d_TCM_code_26 ?_
  refine g_astore h d_TCM_code_29 rfl (by rw [hN]; decide) ?_
  refine g_aload h d_TCM_code_31 rfl ?_
  refine g_iload_n h d_TCM_code_33 rfl rfl ?_
  refine pf_Ins_op h f_TCM_33 (by first | assumption | (show _ < 68; omega) | omega) d_TCM_code_34 ?_
  refine g_aload h d_TCM_code_37 rfl ?_
  refine g_iload h d_TCM_code_39 rfl ?_
  refine pf_Ins_a h f_TCM_39 (by first | assumption | (show _ < 68; omega) | omega) d_TCM_code_41 ?_
  refine g_aload h d_TCM_code_44 rfl ?_
  refine g_iload h d_TCM_code_46 rfl ?_
  refine pf_Ins_b h f_TCM_42 (by first | assumption | (show _ < 68; omega) | omega) d_TCM_code_48 ?_
  refine g_aload h d_TCM_code_51 rfl ?_
  refine g_iload h d_TCM_code_53 rfl ?_
  refine pf_Ins_c h f_TCM_45 (by first | assumption | (show _ < 68; omega) | omega) d_TCM_code_55 ?_
  exact g_vret h r d_TCM_code_58 (⟨rfl, rfl⟩)
end

-- part 96.faces2
section
def cobj (C : CS) (n : Nat) (w : Int32) : Int32 := if w = 0 then C.1 0 n else if w = 1 then C.1 1 n else if C.1 0 n = 1 then (if w = 2 then C.1 2 n else C.1 3 n) else (if w = 2 then C.1 5 n else C.1 6 n)
set_option maxHeartbeats 4000000 in
set_option maxRecDepth 100000 in
theorem c_TCM_object {l : Launch} {D : va_G} {t : Nat → ClassId} {ad : Nat → Nat} {C : CS} {n : Nat} {w : Int32} (hn : n < 16) (hw1 : ¬ w < 0) (hw2 : ¬ 3 < w) (hz : w = 0 ∨ ¬ C.1 0 n = 0) : Cd l D t ad y_TCM_object b_TCM_object 4 (some .int) { frames := 1, cells := 0, slots := 0, locals := 22 } [.ref (ad (ix 0 0)), .int (nI n), .int w] (C) (some (.int (cobj C n w))) (C) := by
  refine ct_of (by decide) (Nat.le_of_ble_eq_true rfl) ?_
  intro Γ _ _ hN h r
  refine g_at (L' := [some (.ref (ad (ix 0 0))), some (.int (nI n)), some (.int w), none]) rfl rfl rfl ?_
  refine g_iload_n h d_TCM_object_0 rfl rfl ?_
  refine g_iconst (v := 0) h d_TCM_object_1 (by decide) ?_
  refine g_bipush (v := 15) h d_TCM_object_2 (by decide) ?_
  refine g_dSv h tb_good (c_TCM_checkRange (rg_lo (by omega)) (rg_hi (m := 15) (by omega) (by decide))) v_TCM_25 nm_TCM_checkRange rfl ⟨rfl, rfl, Nat.le_of_ble_eq_true rfl, Nat.le_of_ble_eq_true rfl, Nat.zero_le _, Nat.zero_le _⟩ rfl (Nat.le_of_ble_eq_true rfl) d_TCM_object_4 ?_
  refine g_iload_n h d_TCM_object_7 rfl rfl ?_
  refine g_iconst (v := 0) h d_TCM_object_8 (by decide) ?_
  refine g_iconst (v := 3) h d_TCM_object_9 (by decide) ?_
  refine g_dSv h tb_good (c_TCM_checkRange hw1 hw2) v_TCM_25 nm_TCM_checkRange rfl ⟨rfl, rfl, Nat.le_of_ble_eq_true rfl, Nat.le_of_ble_eq_true rfl, Nat.zero_le _, Nat.zero_le _⟩ rfl (Nat.le_of_ble_eq_true rfl) d_TCM_object_10 ?_
  refine g_aload_n h d_TCM_object_13 rfl rfl ?_
  refine gf_TCM_heap h f_TCM_12 d_TCM_object_14 ?_
  refine gf_Heap_cells h f_TCM_99 d_TCM_object_17 ?_
  refine g_iload_n h d_TCM_object_20 rfl rfl ?_
  refine ga_cells h rfl hn d_TCM_object_21 ?_
  refine g_astore_n h d_TCM_object_22 rfl rfl (by rw [hN]; decide) ?_
  refine g_iload_n h d_TCM_object_23 rfl rfl ?_
  refine g_if_ne (tgt := 32) h d_TCM_object_24 (by decide) (fun c_24 => ?_) (fun c_24 => ?_)
  · refine g_aload_n h d_TCM_object_32 rfl rfl ?_
    refine gf_Cell_kind h f_TCM_103 (by first | assumption | omega | (show _ < 16; omega)) d_TCM_object_33 ?_
    refine g_if_ne (tgt := 47) h d_TCM_object_36 (by decide) (fun c_36 => ?_) (fun c_36 => ?_)
    · refine g_iload_n h d_TCM_object_47 rfl rfl ?_
      refine g_iconst (v := 1) h d_TCM_object_48 (by decide) ?_
      refine g_icmp_ne (tgt := 57) h d_TCM_object_49 (by decide) (fun c_49 => ?_) (fun c_49 => ?_)
      · refine g_aload_n h d_TCM_object_57 rfl rfl ?_
        refine gf_Cell_kind h f_TCM_103 (by first | assumption | omega | (show _ < 16; omega)) d_TCM_object_58 ?_
        refine g_iconst (v := 1) h d_TCM_object_61 (by decide) ?_
        refine g_icmp_ne (tgt := 88) h d_TCM_object_62 (by decide) (fun c_62 => ?_) (fun c_62 => ?_)
        · refine g_iload_n h d_TCM_object_88 rfl rfl ?_
          refine g_iconst (v := 2) h d_TCM_object_89 (by decide) ?_
          refine g_icmp_ne (tgt := 103) h d_TCM_object_90 (by decide) (fun c_90 => ?_) (fun c_90 => ?_)
          · refine g_aload_n h d_TCM_object_103 rfl rfl ?_
            refine gf_Cell_coroutine h f_TCM_126 (by first | assumption | omega | (show _ < 16; omega)) d_TCM_object_104 ?_
            refine gf_Cor_state h f_TCM_135 (by first | assumption | omega | (show _ < 16; omega)) d_TCM_object_107 ?_
            exact g_iret h r d_TCM_object_110 (⟨by unfold cobj; simp [c_24, c_49, c_62, c_90], rfl⟩)
          · refine g_aload_n h d_TCM_object_93 rfl rfl ?_
            refine gf_Cell_coroutine h f_TCM_126 (by first | assumption | omega | (show _ < 16; omega)) d_TCM_object_94 ?_
            refine gf_Cor_place h f_TCM_130 (by first | assumption | omega | (show _ < 16; omega)) d_TCM_object_97 ?_
            refine g_goto (tgt := 110) h d_TCM_object_100 (by decide) ?_
            exact g_iret h r d_TCM_object_110 (⟨by unfold cobj; simp [c_24, c_49, c_62, c_90], rfl⟩)
        · refine g_iload_n h d_TCM_object_65 rfl rfl ?_
          refine g_iconst (v := 2) h d_TCM_object_66 (by decide) ?_
          refine g_icmp_ne (tgt := 80) h d_TCM_object_67 (by decide) (fun c_67 => ?_) (fun c_67 => ?_)
          · refine g_aload_n h d_TCM_object_80 rfl rfl ?_
            refine gf_Cell_table h f_TCM_114 (by first | assumption | omega | (show _ < 16; omega)) d_TCM_object_81 ?_
            refine gf_Tab_meta h f_TCM_123 (by first | assumption | omega | (show _ < 16; omega)) d_TCM_object_84 ?_
            exact g_iret h r d_TCM_object_87 (⟨by unfold cobj; simp [c_24, c_49, c_62, c_67], rfl⟩)
          · refine g_aload_n h d_TCM_object_70 rfl rfl ?_
            refine gf_Cell_table h f_TCM_114 (by first | assumption | omega | (show _ < 16; omega)) d_TCM_object_71 ?_
            refine gf_Tab_pairs h f_TCM_118 (by first | assumption | omega | (show _ < 16; omega)) d_TCM_object_74 ?_
            refine g_goto (tgt := 87) h d_TCM_object_77 (by decide) ?_
            exact g_iret h r d_TCM_object_87 (⟨by unfold cobj; simp [c_24, c_49, c_62, c_67], rfl⟩)
      · refine g_aload_n h d_TCM_object_52 rfl rfl ?_
        refine gf_Cell_colour h f_TCM_111 (by first | assumption | omega | (show _ < 16; omega)) d_TCM_object_53 ?_
        exact g_iret h r d_TCM_object_56 (⟨by unfold cobj; simp [c_24, c_49], rfl⟩)
    · exact (hz.elim c_24 (fun z => z c_36)).elim
  · refine g_aload_n h d_TCM_object_27 rfl rfl ?_
    refine gf_Cell_kind h f_TCM_103 (by first | assumption | omega | (show _ < 16; omega)) d_TCM_object_28 ?_
    exact g_iret h r d_TCM_object_31 (⟨by unfold cobj; simp [c_24], rfl⟩)
def crows (C : CS) (n : Nat) (b : Int32) : Int32 := if C.1 0 n = 1 then C.1 2 n else if C.1 0 n = 2 ∧ b = 0 then 4 else 0
def cins (C : CS) (n i : Nat) (b : Int32) : Int64 := if C.1 0 n = 2 then C.2.1 3 n i else if b = 0 then C.2.1 1 n i else C.2.1 2 n i
set_option maxHeartbeats 4000000 in
set_option maxRecDepth 100000 in
theorem c_TCM_inside {l : Launch} {D : va_G} {t : Nat → ClassId} {ad : Nat → Nat} {C : CS} {n i : Nat} {b : Int32} (hok : okC C) (hn : n < 16) (hi : i < 2 ^ 31) (hlt : nI i < crows C n b) : Cd l D t ad y_TCM_inside b_TCM_inside 5 (some .long) { frames := 1, cells := 0, slots := 0, locals := 22 } [.ref (ad (ix 0 0)), .int (nI n), .int (nI i), .int b] (C) (some (.long (cins C n i b))) (C) := by
  refine ct_of (by decide) (Nat.le_of_ble_eq_true rfl) ?_
  intro Γ _ _ hN h r
  have h6 : i < 6 := by
    obtain ⟨⟨P, hP, hP2⟩, -⟩ := hok.1 n hn
    unfold crows at hlt
    split at hlt
    · rw [hP2] at hlt
      have := (nI_ltI hi (by omega)).1 hlt
      omega
    · split at hlt
      · have := (nI_ltI (b := 4) hi (by omega)).1 hlt
        omega
      · have := (nI_ltI (b := 0) hi (by omega)).1 hlt
        omega
  have h4 : C.1 0 n = 2 → i < 4 := by
    intro z
    unfold crows at hlt
    rw [if_neg (by rw [z]; decide)] at hlt
    split at hlt
    · have := (nI_ltI (b := 4) hi (by omega)).1 hlt
      omega
    · have := (nI_ltI (b := 0) hi (by omega)).1 hlt
      omega
  refine g_at (L' := [some (.ref (ad (ix 0 0))), some (.int (nI n)), some (.int (nI i)), some (.int b), none]) rfl rfl rfl ?_
  refine g_iload_n h d_TCM_inside_0 rfl rfl ?_
  refine g_iconst (v := 0) h d_TCM_inside_1 (by decide) ?_
  refine g_bipush (v := 15) h d_TCM_inside_2 (by decide) ?_
  refine g_dSv h tb_good (c_TCM_checkRange (rg_lo (by omega)) (rg_hi (m := 15) (by omega) (by decide))) v_TCM_25 nm_TCM_checkRange rfl ⟨rfl, rfl, Nat.le_of_ble_eq_true rfl, Nat.le_of_ble_eq_true rfl, Nat.zero_le _, Nat.zero_le _⟩ rfl (Nat.le_of_ble_eq_true rfl) d_TCM_inside_4 ?_
  refine g_iload_n h d_TCM_inside_7 rfl rfl ?_
  refine g_if_ge (tgt := 19) h d_TCM_inside_8 (by decide) (fun c_8 => ?_) (fun c_8 => ?_)
  · refine g_aload_n h d_TCM_inside_19 rfl rfl ?_
    refine gf_TCM_heap h f_TCM_12 d_TCM_inside_20 ?_
    refine gf_Heap_cells h f_TCM_99 d_TCM_inside_23 ?_
    refine g_iload_n h d_TCM_inside_26 rfl rfl ?_
    refine ga_cells h rfl hn d_TCM_inside_27 ?_
    refine g_astore h d_TCM_inside_28 rfl (by rw [hN]; decide) ?_
    refine g_iload_n h d_TCM_inside_30 rfl rfl ?_
    refine g_aload h d_TCM_inside_31 rfl ?_
    refine g_iload_n h d_TCM_inside_33 rfl rfl ?_
    refine g_dVi h tb_good (c_Cell_rows hn) (ix_lt 4 (by decide) _ (by first | assumption | omega | (show _ < 16; omega))) (wc_at (by decide) (by first | assumption | omega | (show _ < 16; omega))) rfl v_TCM_141 nm_Cell_rows rfl ⟨rfl, rfl, Nat.le_of_ble_eq_true rfl, Nat.le_of_ble_eq_true rfl, Nat.zero_le _, Nat.zero_le _⟩ rfl (Nat.le_of_ble_eq_true rfl) d_TCM_inside_34 ?_
    refine g_icmp_lt (tgt := 48) h d_TCM_inside_37 (by decide) (fun c_37 => ?_) (fun c_37 => ?_)
    · refine g_aload h d_TCM_inside_48 rfl ?_
      refine gf_Cell_kind h f_TCM_103 (by first | assumption | omega | (show _ < 16; omega)) d_TCM_inside_50 ?_
      refine g_iconst (v := 2) h d_TCM_inside_53 (by decide) ?_
      refine g_icmp_ne (tgt := 68) h d_TCM_inside_54 (by decide) (fun c_54 => ?_) (fun c_54 => ?_)
      · refine g_iload_n h d_TCM_inside_68 rfl rfl ?_
        refine g_if_eq (tgt := 85) h d_TCM_inside_69 (by decide) (fun c_69 => ?_) (fun c_69 => ?_)
        · refine g_aload h d_TCM_inside_85 rfl ?_
          refine gf_Cell_table h f_TCM_114 (by first | assumption | omega | (show _ < 16; omega)) d_TCM_inside_87 ?_
          refine gf_Tab_keys h f_TCM_151 (by first | assumption | omega | (show _ < 16; omega)) d_TCM_inside_90 ?_
          refine g_iload_n h d_TCM_inside_93 rfl rfl ?_
          refine ga_keys h hn rfl h6 d_TCM_inside_94 ?_
          exact g_lret h r d_TCM_inside_95 (⟨by unfold cins; simp [c_54, c_69], rfl⟩)
        · refine g_aload h d_TCM_inside_72 rfl ?_
          refine gf_Cell_table h f_TCM_114 (by first | assumption | omega | (show _ < 16; omega)) d_TCM_inside_74 ?_
          refine gf_Tab_values h f_TCM_148 (by first | assumption | omega | (show _ < 16; omega)) d_TCM_inside_77 ?_
          refine g_iload_n h d_TCM_inside_80 rfl rfl ?_
          refine ga_vals h hn rfl h6 d_TCM_inside_81 ?_
          refine g_goto (tgt := 95) h d_TCM_inside_82 (by decide) ?_
          exact g_lret h r d_TCM_inside_95 (⟨by unfold cins; simp [c_54, c_69], rfl⟩)
      · refine g_aload h d_TCM_inside_57 rfl ?_
        refine gf_Cell_coroutine h f_TCM_126 (by first | assumption | omega | (show _ < 16; omega)) d_TCM_inside_59 ?_
        refine gf_Cor_registers h f_TCM_145 (by first | assumption | omega | (show _ < 16; omega)) d_TCM_inside_62 ?_
        refine g_iload_n h d_TCM_inside_65 rfl rfl ?_
        refine ga_regs h hn rfl (h4 c_54) d_TCM_inside_66 ?_
        exact g_lret h r d_TCM_inside_67 (⟨by unfold cins; simp [c_54], rfl⟩)
    · exact absurd hlt c_37
  · exact absurd (nI_pos' hi) c_8
def ccntO (C : CS) : Nat → Int32
  | 0 => C.1 15 0 - C.1 16 0
  | 1 => C.1 13 0
  | 2 => C.1 14 0
  | 3 => C.1 15 0
  | 4 => C.1 16 0
  | 5 => C.1 20 0
  | 6 => cgrays C 16 0 0
  | 7 => C.1 17 0
  | 8 => C.1 18 0
  | _ => -1
def ccount (C : CS) (w : Int32) : Int32 := if w.toInt < 0 ∨ 8 < w.toInt then -1 else ccntO C w.toInt.toNat
set_option maxHeartbeats 4000000 in
set_option maxRecDepth 100000 in
theorem c_TCM_count {l : Launch} {D : va_G} {t : Nat → ClassId} {ad : Nat → Nat} {C : CS} {w : Int32} : Cd l D t ad y_TCM_count b_TCM_count 2 (some .int) { frames := 1, cells := 0, slots := 0, locals := 22 } [.ref (ad (ix 0 0)), .int w] (C) (some (.int (ccount C w))) (C) := by
  refine ct_of (by decide) (Nat.le_of_ble_eq_true rfl) ?_
  intro Γ _ _ hN h r
  by_cases hw : w.toInt < 0 ∨ 8 < w.toInt
  · refine g_at (L' := [some (.ref (ad (ix 0 0))), some (.int w)]) rfl rfl rfl ?_
    refine g_iload_n h d_TCM_count_0 rfl rfl ?_
    refine g_tableOut (tgt := 132) h d_TCM_count_1 hw (by decide) ?_
    refine g_iconst (v := -1) h d_TCM_count_132 (by decide) ?_
    exact g_iret h r d_TCM_count_133 (⟨by unfold ccount; rw [if_pos hw], rfl⟩)
  · rcases i32_cases hw with rfl | rfl | rfl | rfl | rfl | rfl | rfl | rfl | rfl
    · refine g_at (L' := [some (.ref (ad (ix 0 0))), some (.int 0)]) rfl rfl rfl ?_
      refine g_iload_n h d_TCM_count_0 rfl rfl ?_
      refine g_tableIn (off := 51) (tgt := 52) h d_TCM_count_1 (by decide) (by decide) (by decide) (by decide) ?_
      refine g_aload_n h d_TCM_count_52 rfl rfl ?_
      refine gf_TCM_heap h f_TCM_12 d_TCM_count_53 ?_
      refine gf_Heap_made h f_TCM_154 d_TCM_count_56 ?_
      refine g_aload_n h d_TCM_count_59 rfl rfl ?_
      refine gf_TCM_heap h f_TCM_12 d_TCM_count_60 ?_
      refine gf_Heap_gone h f_TCM_90 d_TCM_count_63 ?_
      refine g_isub h d_TCM_count_66 ?_
      exact g_iret h r d_TCM_count_67 (⟨rfl, rfl⟩)
    · refine g_at (L' := [some (.ref (ad (ix 0 0))), some (.int 1)]) rfl rfl rfl ?_
      refine g_iload_n h d_TCM_count_0 rfl rfl ?_
      refine g_tableIn (off := 67) (tgt := 68) h d_TCM_count_1 (by decide) (by decide) (by decide) (by decide) ?_
      refine g_aload_n h d_TCM_count_68 rfl rfl ?_
      refine gf_TCM_heap h f_TCM_12 d_TCM_count_69 ?_
      refine gf_Heap_phase h f_TCM_157 d_TCM_count_72 ?_
      exact g_iret h r d_TCM_count_75 (⟨rfl, rfl⟩)
    · refine g_at (L' := [some (.ref (ad (ix 0 0))), some (.int 2)]) rfl rfl rfl ?_
      refine g_iload_n h d_TCM_count_0 rfl rfl ?_
      refine g_tableIn (off := 75) (tgt := 76) h d_TCM_count_1 (by decide) (by decide) (by decide) (by decide) ?_
      refine g_aload_n h d_TCM_count_76 rfl rfl ?_
      refine gf_TCM_heap h f_TCM_12 d_TCM_count_77 ?_
      refine gf_Heap_sweepFrom h f_TCM_160 d_TCM_count_80 ?_
      exact g_iret h r d_TCM_count_83 (⟨rfl, rfl⟩)
    · refine g_at (L' := [some (.ref (ad (ix 0 0))), some (.int 3)]) rfl rfl rfl ?_
      refine g_iload_n h d_TCM_count_0 rfl rfl ?_
      refine g_tableIn (off := 83) (tgt := 84) h d_TCM_count_1 (by decide) (by decide) (by decide) (by decide) ?_
      refine g_aload_n h d_TCM_count_84 rfl rfl ?_
      refine gf_TCM_heap h f_TCM_12 d_TCM_count_85 ?_
      refine gf_Heap_made h f_TCM_154 d_TCM_count_88 ?_
      exact g_iret h r d_TCM_count_91 (⟨rfl, rfl⟩)
    · refine g_at (L' := [some (.ref (ad (ix 0 0))), some (.int 4)]) rfl rfl rfl ?_
      refine g_iload_n h d_TCM_count_0 rfl rfl ?_
      refine g_tableIn (off := 91) (tgt := 92) h d_TCM_count_1 (by decide) (by decide) (by decide) (by decide) ?_
      refine g_aload_n h d_TCM_count_92 rfl rfl ?_
      refine gf_TCM_heap h f_TCM_12 d_TCM_count_93 ?_
      refine gf_Heap_gone h f_TCM_90 d_TCM_count_96 ?_
      exact g_iret h r d_TCM_count_99 (⟨rfl, rfl⟩)
    · refine g_at (L' := [some (.ref (ad (ix 0 0))), some (.int 5)]) rfl rfl rfl ?_
      refine g_iload_n h d_TCM_count_0 rfl rfl ?_
      refine g_tableIn (off := 99) (tgt := 100) h d_TCM_count_1 (by decide) (by decide) (by decide) (by decide) ?_
      refine g_aload_n h d_TCM_count_100 rfl rfl ?_
      refine gf_TCM_processor h f_TCM_21 d_TCM_count_101 ?_
      refine gf_Pro_begun h f_TCM_163 d_TCM_count_104 ?_
      exact g_iret h r d_TCM_count_107 (⟨rfl, rfl⟩)
    · refine g_at (L' := [some (.ref (ad (ix 0 0))), some (.int 6)]) rfl rfl rfl ?_
      refine g_iload_n h d_TCM_count_0 rfl rfl ?_
      refine g_tableIn (off := 107) (tgt := 108) h d_TCM_count_1 (by decide) (by decide) (by decide) (by decide) ?_
      refine g_aload_n h d_TCM_count_108 rfl rfl ?_
      refine gf_TCM_heap h f_TCM_12 d_TCM_count_109 ?_
      refine g_dVi h tb_good (c_Heap_grayOnes) (ix_lt 1 (by decide) _ (by decide)) (wc_at (by decide) (by decide)) rfl v_TCM_166 nm_Heap_grayOnes rfl ⟨rfl, rfl, Nat.le_of_ble_eq_true rfl, Nat.le_of_ble_eq_true rfl, Nat.zero_le _, Nat.zero_le _⟩ rfl (Nat.le_of_ble_eq_true rfl) d_TCM_count_112 ?_
      exact g_iret h r d_TCM_count_115 (⟨rfl, rfl⟩)
    · refine g_at (L' := [some (.ref (ad (ix 0 0))), some (.int 7)]) rfl rfl rfl ?_
      refine g_iload_n h d_TCM_count_0 rfl rfl ?_
      refine g_tableIn (off := 115) (tgt := 116) h d_TCM_count_1 (by decide) (by decide) (by decide) (by decide) ?_
      refine g_aload_n h d_TCM_count_116 rfl rfl ?_
      refine gf_TCM_heap h f_TCM_12 d_TCM_count_117 ?_
      refine gf_Heap_units h f_TCM_170 d_TCM_count_120 ?_
      exact g_iret h r d_TCM_count_123 (⟨rfl, rfl⟩)
    · refine g_at (L' := [some (.ref (ad (ix 0 0))), some (.int 8)]) rfl rfl rfl ?_
      refine g_iload_n h d_TCM_count_0 rfl rfl ?_
      refine g_tableIn (off := 123) (tgt := 124) h d_TCM_count_1 (by decide) (by decide) (by decide) (by decide) ?_
      refine g_aload_n h d_TCM_count_124 rfl rfl ?_
      refine gf_TCM_heap h f_TCM_12 d_TCM_count_125 ?_
      refine gf_Heap_fullCollections h f_TCM_173 d_TCM_count_128 ?_
      exact g_iret h r d_TCM_count_131 (⟨rfl, rfl⟩)
end

-- part 97.facesX
section
set_option maxHeartbeats 4000000 in
set_option maxRecDepth 100000 in
theorem x_TCM_number {l : Launch} {D : va_G} {t : Nat → ClassId} {ad : Nat → Nat} {C : CS} (htr : l.stackTraces = false) {g v : Int32} (hg : g < 0 ∨ 5 < g) : Ce l D t ad y_TCM_number b_TCM_number 3 none { frames := 8, cells := 1, slots := 6, locals := 130 } [.ref (ad (ix 0 0)), .int g, .int v] (C) (X_IAE) (C) := by
  refine ctX_of (by decide) (Nat.le_of_ble_eq_true rfl) ?_
  intro Γ hL hDD hN h r pw
  refine gp_g pw ?_
  refine g_at (L' := [some (.ref (ad (ix 0 0))), some (.int g), some (.int v)]) rfl rfl rfl ?_
  refine g_iload_n h d_TCM_number_0 rfl rfl ?_
  exact g_thruS h r tb_good (by rw [hL, hDD]; exact x_TCM_checkGlobal htr hg) v_TCM_48 nm_TCM_checkGlobal rfl ⟨rfl, rfl, Nat.le_of_ble_eq_true rfl, Nat.le_of_ble_eq_true rfl, Nat.le_of_ble_eq_true rfl, Nat.le_of_ble_eq_true rfl⟩ rfl (Nat.le_of_ble_eq_true rfl) d_TCM_number_1
set_option maxHeartbeats 4000000 in
set_option maxRecDepth 100000 in
theorem x_TCM_global {l : Launch} {D : va_G} {t : Nat → ClassId} {ad : Nat → Nat} {C : CS} (htr : l.stackTraces = false) {g : Int32} (hg : g < 0 ∨ 5 < g) : Ce l D t ad y_TCM_global b_TCM_global 2 (some .long) { frames := 8, cells := 1, slots := 6, locals := 130 } [.ref (ad (ix 0 0)), .int g] (C) (X_IAE) (C) := by
  refine ctX_of (by decide) (Nat.le_of_ble_eq_true rfl) ?_
  intro Γ hL hDD hN h r pw
  refine gp_g pw ?_
  refine g_at (L' := [some (.ref (ad (ix 0 0))), some (.int g)]) rfl rfl rfl ?_
  refine g_iload_n h d_TCM_global_0 rfl rfl ?_
  exact g_thruS h r tb_good (by rw [hL, hDD]; exact x_TCM_checkGlobal htr hg) v_TCM_48 nm_TCM_checkGlobal rfl ⟨rfl, rfl, Nat.le_of_ble_eq_true rfl, Nat.le_of_ble_eq_true rfl, Nat.le_of_ble_eq_true rfl, Nat.le_of_ble_eq_true rfl⟩ rfl (Nat.le_of_ble_eq_true rfl) d_TCM_global_1
set_option maxHeartbeats 4000000 in
set_option maxRecDepth 100000 in
theorem x_TCM_move1 {l : Launch} {D : va_G} {t : Nat → ClassId} {ad : Nat → Nat} {C : CS} (htr : l.stackTraces = false) {g k : Int32} (hg : g < 0 ∨ 5 < g) : Ce l D t ad y_TCM_move b_TCM_move 3 none { frames := 8, cells := 1, slots := 6, locals := 130 } [.ref (ad (ix 0 0)), .int g, .int k] (C) (X_IAE) (C) := by
  refine ctX_of (by decide) (Nat.le_of_ble_eq_true rfl) ?_
  intro Γ hL hDD hN h r pw
  refine gp_g pw ?_
  refine g_at (L' := [some (.ref (ad (ix 0 0))), some (.int g), some (.int k)]) rfl rfl rfl ?_
  refine g_iload_n h d_TCM_move_0 rfl rfl ?_
  exact g_thruS h r tb_good (by rw [hL, hDD]; exact x_TCM_checkGlobal htr hg) v_TCM_48 nm_TCM_checkGlobal rfl ⟨rfl, rfl, Nat.le_of_ble_eq_true rfl, Nat.le_of_ble_eq_true rfl, Nat.le_of_ble_eq_true rfl, Nat.le_of_ble_eq_true rfl⟩ rfl (Nat.le_of_ble_eq_true rfl) d_TCM_move_1
set_option maxHeartbeats 4000000 in
set_option maxRecDepth 100000 in
theorem x_TCM_move2 {l : Launch} {D : va_G} {t : Nat → ClassId} {ad : Nat → Nat} {C : CS} (htr : l.stackTraces = false) {g k : Int32} (hg : ¬ (g < 0 ∨ 5 < g)) (hk : k < -1 ∨ 5 < k) : Ce l D t ad y_TCM_move b_TCM_move 3 none { frames := 8, cells := 1, slots := 6, locals := 130 } [.ref (ad (ix 0 0)), .int g, .int k] (C) (X_IAE) (C) := by
  refine ctX_of (by decide) (Nat.le_of_ble_eq_true rfl) ?_
  intro Γ hL hDD hN h r pw
  refine gp_g pw ?_
  refine g_at (L' := [some (.ref (ad (ix 0 0))), some (.int g), some (.int k)]) rfl rfl rfl ?_
  refine g_iload_n h d_TCM_move_0 rfl rfl ?_
  refine g_dSv h tb_good (c_TCM_checkGlobal hg) v_TCM_48 nm_TCM_checkGlobal rfl ⟨rfl, rfl, Nat.le_of_ble_eq_true rfl, Nat.le_of_ble_eq_true rfl, Nat.zero_le _, Nat.zero_le _⟩ rfl (Nat.le_of_ble_eq_true rfl) d_TCM_move_1 ?_
  refine g_iload_n h d_TCM_move_4 rfl rfl ?_
  refine g_iconst (v := -1) h d_TCM_move_5 (by decide) ?_
  refine g_iconst (v := 5) h d_TCM_move_6 (by decide) ?_
  exact g_thruS h r tb_good (by rw [hL, hDD]; exact x_TCM_checkRange htr hk) v_TCM_25 nm_TCM_checkRange rfl ⟨rfl, rfl, Nat.le_of_ble_eq_true rfl, Nat.le_of_ble_eq_true rfl, Nat.le_of_ble_eq_true rfl, Nat.le_of_ble_eq_true rfl⟩ rfl (Nat.le_of_ble_eq_true rfl) d_TCM_move_7
set_option maxHeartbeats 4000000 in
set_option maxRecDepth 100000 in
theorem x_TCM_make1 {l : Launch} {D : va_G} {t : Nat → ClassId} {ad : Nat → Nat} {C : CS} (htr : l.stackTraces = false) {g f : Int32} (hg : g < 0 ∨ 5 < g) : Ce l D t ad y_TCM_make b_TCM_make 3 (some .int) { frames := 8, cells := 1, slots := 6, locals := 130 } [.ref (ad (ix 0 0)), .int g, .int f] (C) (X_IAE) (C) := by
  refine ctX_of (by decide) (Nat.le_of_ble_eq_true rfl) ?_
  intro Γ hL hDD hN h r pw
  refine gp_g pw ?_
  refine g_at (L' := [some (.ref (ad (ix 0 0))), some (.int g), some (.int f)]) rfl rfl rfl ?_
  refine g_iload_n h d_TCM_make_0 rfl rfl ?_
  exact g_thruS h r tb_good (by rw [hL, hDD]; exact x_TCM_checkGlobal htr hg) v_TCM_48 nm_TCM_checkGlobal rfl ⟨rfl, rfl, Nat.le_of_ble_eq_true rfl, Nat.le_of_ble_eq_true rfl, Nat.le_of_ble_eq_true rfl, Nat.le_of_ble_eq_true rfl⟩ rfl (Nat.le_of_ble_eq_true rfl) d_TCM_make_1
set_option maxHeartbeats 4000000 in
set_option maxRecDepth 100000 in
theorem x_TCM_make2 {l : Launch} {D : va_G} {t : Nat → ClassId} {ad : Nat → Nat} {C : CS} (htr : l.stackTraces = false) {g f : Int32} (hg : ¬ (g < 0 ∨ 5 < g)) (hf : f < -1 ∨ 3 < f) : Ce l D t ad y_TCM_make b_TCM_make 3 (some .int) { frames := 8, cells := 1, slots := 6, locals := 130 } [.ref (ad (ix 0 0)), .int g, .int f] (C) (X_IAE) (C) := by
  refine ctX_of (by decide) (Nat.le_of_ble_eq_true rfl) ?_
  intro Γ hL hDD hN h r pw
  refine gp_g pw ?_
  refine g_at (L' := [some (.ref (ad (ix 0 0))), some (.int g), some (.int f)]) rfl rfl rfl ?_
  refine g_iload_n h d_TCM_make_0 rfl rfl ?_
  refine g_dSv h tb_good (c_TCM_checkGlobal hg) v_TCM_48 nm_TCM_checkGlobal rfl ⟨rfl, rfl, Nat.le_of_ble_eq_true rfl, Nat.le_of_ble_eq_true rfl, Nat.zero_le _, Nat.zero_le _⟩ rfl (Nat.le_of_ble_eq_true rfl) d_TCM_make_1 ?_
  refine g_iload_n h d_TCM_make_4 rfl rfl ?_
  refine g_iconst (v := -1) h d_TCM_make_5 (by decide) ?_
  refine g_iconst (v := 3) h d_TCM_make_6 (by decide) ?_
  exact g_thruS h r tb_good (by rw [hL, hDD]; exact x_TCM_checkRange htr hf) v_TCM_25 nm_TCM_checkRange rfl ⟨rfl, rfl, Nat.le_of_ble_eq_true rfl, Nat.le_of_ble_eq_true rfl, Nat.le_of_ble_eq_true rfl, Nat.le_of_ble_eq_true rfl⟩ rfl (Nat.le_of_ble_eq_true rfl) d_TCM_make_7
set_option maxHeartbeats 4000000 in
set_option maxRecDepth 100000 in
theorem x_TCM_set1 {l : Launch} {D : va_G} {t : Nat → ClassId} {ad : Nat → Nat} {C : CS} (htr : l.stackTraces = false) {a b c : Int32} (ha : a < 0 ∨ 5 < a) : Ce l D t ad y_TCM_set b_TCM_set 4 none { frames := 8, cells := 1, slots := 6, locals := 130 } [.ref (ad (ix 0 0)), .int a, .int b, .int c] (C) (X_IAE) (C) := by
  refine ctX_of (by decide) (Nat.le_of_ble_eq_true rfl) ?_
  intro Γ hL hDD hN h r pw
  refine gp_g pw ?_
  refine g_at (L' := [some (.ref (ad (ix 0 0))), some (.int a), some (.int b), some (.int c)]) rfl rfl rfl ?_
  refine g_iload_n h d_TCM_set_0 rfl rfl ?_
  exact g_thruS h r tb_good (by rw [hL, hDD]; exact x_TCM_checkGlobal htr ha) v_TCM_48 nm_TCM_checkGlobal rfl ⟨rfl, rfl, Nat.le_of_ble_eq_true rfl, Nat.le_of_ble_eq_true rfl, Nat.le_of_ble_eq_true rfl, Nat.le_of_ble_eq_true rfl⟩ rfl (Nat.le_of_ble_eq_true rfl) d_TCM_set_1
set_option maxHeartbeats 4000000 in
set_option maxRecDepth 100000 in
theorem x_TCM_set2 {l : Launch} {D : va_G} {t : Nat → ClassId} {ad : Nat → Nat} {C : CS} (htr : l.stackTraces = false) {a b c : Int32} (ha : ¬ (a < 0 ∨ 5 < a)) (hb : b < 0 ∨ 5 < b) : Ce l D t ad y_TCM_set b_TCM_set 4 none { frames := 8, cells := 1, slots := 6, locals := 130 } [.ref (ad (ix 0 0)), .int a, .int b, .int c] (C) (X_IAE) (C) := by
  refine ctX_of (by decide) (Nat.le_of_ble_eq_true rfl) ?_
  intro Γ hL hDD hN h r pw
  refine gp_g pw ?_
  refine g_at (L' := [some (.ref (ad (ix 0 0))), some (.int a), some (.int b), some (.int c)]) rfl rfl rfl ?_
  refine g_iload_n h d_TCM_set_0 rfl rfl ?_
  refine g_dSv h tb_good (c_TCM_checkGlobal ha) v_TCM_48 nm_TCM_checkGlobal rfl ⟨rfl, rfl, Nat.le_of_ble_eq_true rfl, Nat.le_of_ble_eq_true rfl, Nat.zero_le _, Nat.zero_le _⟩ rfl (Nat.le_of_ble_eq_true rfl) d_TCM_set_1 ?_
  refine g_iload_n h d_TCM_set_4 rfl rfl ?_
  exact g_thruS h r tb_good (by rw [hL, hDD]; exact x_TCM_checkGlobal htr hb) v_TCM_48 nm_TCM_checkGlobal rfl ⟨rfl, rfl, Nat.le_of_ble_eq_true rfl, Nat.le_of_ble_eq_true rfl, Nat.le_of_ble_eq_true rfl, Nat.le_of_ble_eq_true rfl⟩ rfl (Nat.le_of_ble_eq_true rfl) d_TCM_set_5
set_option maxHeartbeats 4000000 in
set_option maxRecDepth 100000 in
theorem x_TCM_set3 {l : Launch} {D : va_G} {t : Nat → ClassId} {ad : Nat → Nat} {C : CS} (htr : l.stackTraces = false) {a b c : Int32} (ha : ¬ (a < 0 ∨ 5 < a)) (hb : ¬ (b < 0 ∨ 5 < b)) (hc : c < 0 ∨ 5 < c) : Ce l D t ad y_TCM_set b_TCM_set 4 none { frames := 8, cells := 1, slots := 6, locals := 130 } [.ref (ad (ix 0 0)), .int a, .int b, .int c] (C) (X_IAE) (C) := by
  refine ctX_of (by decide) (Nat.le_of_ble_eq_true rfl) ?_
  intro Γ hL hDD hN h r pw
  refine gp_g pw ?_
  refine g_at (L' := [some (.ref (ad (ix 0 0))), some (.int a), some (.int b), some (.int c)]) rfl rfl rfl ?_
  refine g_iload_n h d_TCM_set_0 rfl rfl ?_
  refine g_dSv h tb_good (c_TCM_checkGlobal ha) v_TCM_48 nm_TCM_checkGlobal rfl ⟨rfl, rfl, Nat.le_of_ble_eq_true rfl, Nat.le_of_ble_eq_true rfl, Nat.zero_le _, Nat.zero_le _⟩ rfl (Nat.le_of_ble_eq_true rfl) d_TCM_set_1 ?_
  refine g_iload_n h d_TCM_set_4 rfl rfl ?_
  refine g_dSv h tb_good (c_TCM_checkGlobal hb) v_TCM_48 nm_TCM_checkGlobal rfl ⟨rfl, rfl, Nat.le_of_ble_eq_true rfl, Nat.le_of_ble_eq_true rfl, Nat.zero_le _, Nat.zero_le _⟩ rfl (Nat.le_of_ble_eq_true rfl) d_TCM_set_5 ?_
  refine g_iload_n h d_TCM_set_8 rfl rfl ?_
  exact g_thruS h r tb_good (by rw [hL, hDD]; exact x_TCM_checkGlobal htr hc) v_TCM_48 nm_TCM_checkGlobal rfl ⟨rfl, rfl, Nat.le_of_ble_eq_true rfl, Nat.le_of_ble_eq_true rfl, Nat.le_of_ble_eq_true rfl, Nat.le_of_ble_eq_true rfl⟩ rfl (Nat.le_of_ble_eq_true rfl) d_TCM_set_9
set_option maxHeartbeats 4000000 in
set_option maxRecDepth 100000 in
theorem x_TCM_get1 {l : Launch} {D : va_G} {t : Nat → ClassId} {ad : Nat → Nat} {C : CS} (htr : l.stackTraces = false) {a b c : Int32} (ha : a < 0 ∨ 5 < a) : Ce l D t ad y_TCM_get b_TCM_get 4 (some .long) { frames := 8, cells := 1, slots := 6, locals := 130 } [.ref (ad (ix 0 0)), .int a, .int b, .int c] (C) (X_IAE) (C) := by
  refine ctX_of (by decide) (Nat.le_of_ble_eq_true rfl) ?_
  intro Γ hL hDD hN h r pw
  refine gp_g pw ?_
  refine g_at (L' := [some (.ref (ad (ix 0 0))), some (.int a), some (.int b), some (.int c)]) rfl rfl rfl ?_
  refine g_iload_n h d_TCM_get_0 rfl rfl ?_
  exact g_thruS h r tb_good (by rw [hL, hDD]; exact x_TCM_checkGlobal htr ha) v_TCM_48 nm_TCM_checkGlobal rfl ⟨rfl, rfl, Nat.le_of_ble_eq_true rfl, Nat.le_of_ble_eq_true rfl, Nat.le_of_ble_eq_true rfl, Nat.le_of_ble_eq_true rfl⟩ rfl (Nat.le_of_ble_eq_true rfl) d_TCM_get_1
set_option maxHeartbeats 4000000 in
set_option maxRecDepth 100000 in
theorem x_TCM_get2 {l : Launch} {D : va_G} {t : Nat → ClassId} {ad : Nat → Nat} {C : CS} (htr : l.stackTraces = false) {a b c : Int32} (ha : ¬ (a < 0 ∨ 5 < a)) (hb : b < 0 ∨ 5 < b) : Ce l D t ad y_TCM_get b_TCM_get 4 (some .long) { frames := 8, cells := 1, slots := 6, locals := 130 } [.ref (ad (ix 0 0)), .int a, .int b, .int c] (C) (X_IAE) (C) := by
  refine ctX_of (by decide) (Nat.le_of_ble_eq_true rfl) ?_
  intro Γ hL hDD hN h r pw
  refine gp_g pw ?_
  refine g_at (L' := [some (.ref (ad (ix 0 0))), some (.int a), some (.int b), some (.int c)]) rfl rfl rfl ?_
  refine g_iload_n h d_TCM_get_0 rfl rfl ?_
  refine g_dSv h tb_good (c_TCM_checkGlobal ha) v_TCM_48 nm_TCM_checkGlobal rfl ⟨rfl, rfl, Nat.le_of_ble_eq_true rfl, Nat.le_of_ble_eq_true rfl, Nat.zero_le _, Nat.zero_le _⟩ rfl (Nat.le_of_ble_eq_true rfl) d_TCM_get_1 ?_
  refine g_iload_n h d_TCM_get_4 rfl rfl ?_
  exact g_thruS h r tb_good (by rw [hL, hDD]; exact x_TCM_checkGlobal htr hb) v_TCM_48 nm_TCM_checkGlobal rfl ⟨rfl, rfl, Nat.le_of_ble_eq_true rfl, Nat.le_of_ble_eq_true rfl, Nat.le_of_ble_eq_true rfl, Nat.le_of_ble_eq_true rfl⟩ rfl (Nat.le_of_ble_eq_true rfl) d_TCM_get_5
set_option maxHeartbeats 4000000 in
set_option maxRecDepth 100000 in
theorem x_TCM_get3 {l : Launch} {D : va_G} {t : Nat → ClassId} {ad : Nat → Nat} {C : CS} (htr : l.stackTraces = false) {a b c : Int32} (ha : ¬ (a < 0 ∨ 5 < a)) (hb : ¬ (b < 0 ∨ 5 < b)) (hc : c < 0 ∨ 5 < c) : Ce l D t ad y_TCM_get b_TCM_get 4 (some .long) { frames := 8, cells := 1, slots := 6, locals := 130 } [.ref (ad (ix 0 0)), .int a, .int b, .int c] (C) (X_IAE) (C) := by
  refine ctX_of (by decide) (Nat.le_of_ble_eq_true rfl) ?_
  intro Γ hL hDD hN h r pw
  refine gp_g pw ?_
  refine g_at (L' := [some (.ref (ad (ix 0 0))), some (.int a), some (.int b), some (.int c)]) rfl rfl rfl ?_
  refine g_iload_n h d_TCM_get_0 rfl rfl ?_
  refine g_dSv h tb_good (c_TCM_checkGlobal ha) v_TCM_48 nm_TCM_checkGlobal rfl ⟨rfl, rfl, Nat.le_of_ble_eq_true rfl, Nat.le_of_ble_eq_true rfl, Nat.zero_le _, Nat.zero_le _⟩ rfl (Nat.le_of_ble_eq_true rfl) d_TCM_get_1 ?_
  refine g_iload_n h d_TCM_get_4 rfl rfl ?_
  refine g_dSv h tb_good (c_TCM_checkGlobal hb) v_TCM_48 nm_TCM_checkGlobal rfl ⟨rfl, rfl, Nat.le_of_ble_eq_true rfl, Nat.le_of_ble_eq_true rfl, Nat.zero_le _, Nat.zero_le _⟩ rfl (Nat.le_of_ble_eq_true rfl) d_TCM_get_5 ?_
  refine g_iload_n h d_TCM_get_8 rfl rfl ?_
  exact g_thruS h r tb_good (by rw [hL, hDD]; exact x_TCM_checkGlobal htr hc) v_TCM_48 nm_TCM_checkGlobal rfl ⟨rfl, rfl, Nat.le_of_ble_eq_true rfl, Nat.le_of_ble_eq_true rfl, Nat.le_of_ble_eq_true rfl, Nat.le_of_ble_eq_true rfl⟩ rfl (Nat.le_of_ble_eq_true rfl) d_TCM_get_9
set_option maxHeartbeats 4000000 in
set_option maxRecDepth 100000 in
theorem x_TCM_resume1 {l : Launch} {D : va_G} {t : Nat → ClassId} {ad : Nat → Nat} {C : CS} (htr : l.stackTraces = false) {a b c : Int32} (ha : a < 0 ∨ 5 < a) : Ce l D t ad y_TCM_resume b_TCM_resume 4 (some .long) { frames := 8, cells := 1, slots := 6, locals := 180 } [.ref (ad (ix 0 0)), .int a, .int b, .int c] (C) (X_IAE) (C) := by
  refine ctX_of (by decide) (Nat.le_of_ble_eq_true rfl) ?_
  intro Γ hL hDD hN h r pw
  refine gp_g pw ?_
  refine g_at (L' := [some (.ref (ad (ix 0 0))), some (.int a), some (.int b), some (.int c)]) rfl rfl rfl ?_
  refine g_iload_n h d_TCM_resume_0 rfl rfl ?_
  exact g_thruS h r tb_good (by rw [hL, hDD]; exact x_TCM_checkGlobal htr ha) v_TCM_48 nm_TCM_checkGlobal rfl ⟨rfl, rfl, Nat.le_of_ble_eq_true rfl, Nat.le_of_ble_eq_true rfl, Nat.le_of_ble_eq_true rfl, Nat.le_of_ble_eq_true rfl⟩ rfl (Nat.le_of_ble_eq_true rfl) d_TCM_resume_1
set_option maxHeartbeats 4000000 in
set_option maxRecDepth 100000 in
theorem x_TCM_resume2 {l : Launch} {D : va_G} {t : Nat → ClassId} {ad : Nat → Nat} {C : CS} (htr : l.stackTraces = false) {a b c : Int32} (ha : ¬ (a < 0 ∨ 5 < a)) (hb : b < 0 ∨ 5 < b) : Ce l D t ad y_TCM_resume b_TCM_resume 4 (some .long) { frames := 8, cells := 1, slots := 6, locals := 180 } [.ref (ad (ix 0 0)), .int a, .int b, .int c] (C) (X_IAE) (C) := by
  refine ctX_of (by decide) (Nat.le_of_ble_eq_true rfl) ?_
  intro Γ hL hDD hN h r pw
  refine gp_g pw ?_
  refine g_at (L' := [some (.ref (ad (ix 0 0))), some (.int a), some (.int b), some (.int c)]) rfl rfl rfl ?_
  refine g_iload_n h d_TCM_resume_0 rfl rfl ?_
  refine g_dSv h tb_good (c_TCM_checkGlobal ha) v_TCM_48 nm_TCM_checkGlobal rfl ⟨rfl, rfl, Nat.le_of_ble_eq_true rfl, Nat.le_of_ble_eq_true rfl, Nat.zero_le _, Nat.zero_le _⟩ rfl (Nat.le_of_ble_eq_true rfl) d_TCM_resume_1 ?_
  refine g_iload_n h d_TCM_resume_4 rfl rfl ?_
  exact g_thruS h r tb_good (by rw [hL, hDD]; exact x_TCM_checkGlobal htr hb) v_TCM_48 nm_TCM_checkGlobal rfl ⟨rfl, rfl, Nat.le_of_ble_eq_true rfl, Nat.le_of_ble_eq_true rfl, Nat.le_of_ble_eq_true rfl, Nat.le_of_ble_eq_true rfl⟩ rfl (Nat.le_of_ble_eq_true rfl) d_TCM_resume_5
set_option maxHeartbeats 4000000 in
set_option maxRecDepth 100000 in
theorem x_TCM_resume3 {l : Launch} {D : va_G} {t : Nat → ClassId} {ad : Nat → Nat} {C : CS} (htr : l.stackTraces = false) {a b c : Int32} (ha : ¬ (a < 0 ∨ 5 < a)) (hb : ¬ (b < 0 ∨ 5 < b)) (hc : c < 0 ∨ 5 < c) : Ce l D t ad y_TCM_resume b_TCM_resume 4 (some .long) { frames := 8, cells := 1, slots := 6, locals := 180 } [.ref (ad (ix 0 0)), .int a, .int b, .int c] (C) (X_IAE) (C) := by
  refine ctX_of (by decide) (Nat.le_of_ble_eq_true rfl) ?_
  intro Γ hL hDD hN h r pw
  refine gp_g pw ?_
  refine g_at (L' := [some (.ref (ad (ix 0 0))), some (.int a), some (.int b), some (.int c)]) rfl rfl rfl ?_
  refine g_iload_n h d_TCM_resume_0 rfl rfl ?_
  refine g_dSv h tb_good (c_TCM_checkGlobal ha) v_TCM_48 nm_TCM_checkGlobal rfl ⟨rfl, rfl, Nat.le_of_ble_eq_true rfl, Nat.le_of_ble_eq_true rfl, Nat.zero_le _, Nat.zero_le _⟩ rfl (Nat.le_of_ble_eq_true rfl) d_TCM_resume_1 ?_
  refine g_iload_n h d_TCM_resume_4 rfl rfl ?_
  refine g_dSv h tb_good (c_TCM_checkGlobal hb) v_TCM_48 nm_TCM_checkGlobal rfl ⟨rfl, rfl, Nat.le_of_ble_eq_true rfl, Nat.le_of_ble_eq_true rfl, Nat.zero_le _, Nat.zero_le _⟩ rfl (Nat.le_of_ble_eq_true rfl) d_TCM_resume_5 ?_
  refine g_iload_n h d_TCM_resume_8 rfl rfl ?_
  exact g_thruS h r tb_good (by rw [hL, hDD]; exact x_TCM_checkGlobal htr hc) v_TCM_48 nm_TCM_checkGlobal rfl ⟨rfl, rfl, Nat.le_of_ble_eq_true rfl, Nat.le_of_ble_eq_true rfl, Nat.le_of_ble_eq_true rfl, Nat.le_of_ble_eq_true rfl⟩ rfl (Nat.le_of_ble_eq_true rfl) d_TCM_resume_9
set_option maxHeartbeats 4000000 in
set_option maxRecDepth 100000 in
theorem x_TCM_meta1 {l : Launch} {D : va_G} {t : Nat → ClassId} {ad : Nat → Nat} {C : CS} (htr : l.stackTraces = false) {a b : Int32} (ha : a < 0 ∨ 5 < a) : Ce l D t ad y_TCM_meta b_TCM_meta 3 none { frames := 8, cells := 1, slots := 6, locals := 130 } [.ref (ad (ix 0 0)), .int a, .int b] (C) (X_IAE) (C) := by
  refine ctX_of (by decide) (Nat.le_of_ble_eq_true rfl) ?_
  intro Γ hL hDD hN h r pw
  refine gp_g pw ?_
  refine g_at (L' := [some (.ref (ad (ix 0 0))), some (.int a), some (.int b)]) rfl rfl rfl ?_
  refine g_iload_n h d_TCM_meta_0 rfl rfl ?_
  exact g_thruS h r tb_good (by rw [hL, hDD]; exact x_TCM_checkGlobal htr ha) v_TCM_48 nm_TCM_checkGlobal rfl ⟨rfl, rfl, Nat.le_of_ble_eq_true rfl, Nat.le_of_ble_eq_true rfl, Nat.le_of_ble_eq_true rfl, Nat.le_of_ble_eq_true rfl⟩ rfl (Nat.le_of_ble_eq_true rfl) d_TCM_meta_1
set_option maxHeartbeats 4000000 in
set_option maxRecDepth 100000 in
theorem x_TCM_meta2 {l : Launch} {D : va_G} {t : Nat → ClassId} {ad : Nat → Nat} {C : CS} (htr : l.stackTraces = false) {a b : Int32} (ha : ¬ (a < 0 ∨ 5 < a)) (hb : b < 0 ∨ 5 < b) : Ce l D t ad y_TCM_meta b_TCM_meta 3 none { frames := 8, cells := 1, slots := 6, locals := 130 } [.ref (ad (ix 0 0)), .int a, .int b] (C) (X_IAE) (C) := by
  refine ctX_of (by decide) (Nat.le_of_ble_eq_true rfl) ?_
  intro Γ hL hDD hN h r pw
  refine gp_g pw ?_
  refine g_at (L' := [some (.ref (ad (ix 0 0))), some (.int a), some (.int b)]) rfl rfl rfl ?_
  refine g_iload_n h d_TCM_meta_0 rfl rfl ?_
  refine g_dSv h tb_good (c_TCM_checkGlobal ha) v_TCM_48 nm_TCM_checkGlobal rfl ⟨rfl, rfl, Nat.le_of_ble_eq_true rfl, Nat.le_of_ble_eq_true rfl, Nat.zero_le _, Nat.zero_le _⟩ rfl (Nat.le_of_ble_eq_true rfl) d_TCM_meta_1 ?_
  refine g_iload_n h d_TCM_meta_4 rfl rfl ?_
  exact g_thruS h r tb_good (by rw [hL, hDD]; exact x_TCM_checkGlobal htr hb) v_TCM_48 nm_TCM_checkGlobal rfl ⟨rfl, rfl, Nat.le_of_ble_eq_true rfl, Nat.le_of_ble_eq_true rfl, Nat.le_of_ble_eq_true rfl, Nat.le_of_ble_eq_true rfl⟩ rfl (Nat.le_of_ble_eq_true rfl) d_TCM_meta_5
set_option maxHeartbeats 4000000 in
set_option maxRecDepth 100000 in
theorem x_TCM_collect {l : Launch} {D : va_G} {t : Nat → ClassId} {ad : Nat → Nat} {C : CS} (htr : l.stackTraces = false) {n : Int32} (hn : n < 1 ∨ 100 < n) : Ce l D t ad y_TCM_collect b_TCM_collect 4 (some .int) { frames := 7, cells := 1, slots := 6, locals := 110 } [.ref (ad (ix 0 0)), .int n] (C) (X_IAE) (C) := by
  refine ctX_of (by decide) (Nat.le_of_ble_eq_true rfl) ?_
  intro Γ hL hDD hN h r pw
  refine gp_g pw ?_
  refine g_at (L' := [some (.ref (ad (ix 0 0))), some (.int n), none, none]) rfl rfl rfl ?_
  refine g_iload_n h d_TCM_collect_0 rfl rfl ?_
  refine g_iconst (v := 1) h d_TCM_collect_1 (by decide) ?_
  refine g_bipush (v := 100) h d_TCM_collect_2 (by decide) ?_
  exact g_thruS h r tb_good (by rw [hL, hDD]; exact x_TCM_checkRange htr hn) v_TCM_25 nm_TCM_checkRange rfl ⟨rfl, rfl, Nat.le_of_ble_eq_true rfl, Nat.le_of_ble_eq_true rfl, Nat.le_of_ble_eq_true rfl, Nat.le_of_ble_eq_true rfl⟩ rfl (Nat.le_of_ble_eq_true rfl) d_TCM_collect_4
set_option maxHeartbeats 4000000 in
set_option maxRecDepth 100000 in
theorem x_TCM_object1 {l : Launch} {D : va_G} {t : Nat → ClassId} {ad : Nat → Nat} {C : CS} (htr : l.stackTraces = false) {n w : Int32} (hn : n < 0 ∨ 15 < n) : Ce l D t ad y_TCM_object b_TCM_object 4 (some .int) { frames := 7, cells := 1, slots := 6, locals := 110 } [.ref (ad (ix 0 0)), .int n, .int w] (C) (X_IAE) (C) := by
  refine ctX_of (by decide) (Nat.le_of_ble_eq_true rfl) ?_
  intro Γ hL hDD hN h r pw
  refine gp_g pw ?_
  refine g_at (L' := [some (.ref (ad (ix 0 0))), some (.int n), some (.int w), none]) rfl rfl rfl ?_
  refine g_iload_n h d_TCM_object_0 rfl rfl ?_
  refine g_iconst (v := 0) h d_TCM_object_1 (by decide) ?_
  refine g_bipush (v := 15) h d_TCM_object_2 (by decide) ?_
  exact g_thruS h r tb_good (by rw [hL, hDD]; exact x_TCM_checkRange htr hn) v_TCM_25 nm_TCM_checkRange rfl ⟨rfl, rfl, Nat.le_of_ble_eq_true rfl, Nat.le_of_ble_eq_true rfl, Nat.le_of_ble_eq_true rfl, Nat.le_of_ble_eq_true rfl⟩ rfl (Nat.le_of_ble_eq_true rfl) d_TCM_object_4
set_option maxHeartbeats 4000000 in
set_option maxRecDepth 100000 in
theorem x_TCM_object2 {l : Launch} {D : va_G} {t : Nat → ClassId} {ad : Nat → Nat} {C : CS} (htr : l.stackTraces = false) {n w : Int32} (h1 : ¬ n < 0) (h2 : ¬ 15 < n) (hw : w < 0 ∨ 3 < w) : Ce l D t ad y_TCM_object b_TCM_object 4 (some .int) { frames := 7, cells := 1, slots := 6, locals := 110 } [.ref (ad (ix 0 0)), .int n, .int w] (C) (X_IAE) (C) := by
  refine ctX_of (by decide) (Nat.le_of_ble_eq_true rfl) ?_
  intro Γ hL hDD hN h r pw
  refine gp_g pw ?_
  refine g_at (L' := [some (.ref (ad (ix 0 0))), some (.int n), some (.int w), none]) rfl rfl rfl ?_
  refine g_iload_n h d_TCM_object_0 rfl rfl ?_
  refine g_iconst (v := 0) h d_TCM_object_1 (by decide) ?_
  refine g_bipush (v := 15) h d_TCM_object_2 (by decide) ?_
  refine g_dSv h tb_good (c_TCM_checkRange h1 h2) v_TCM_25 nm_TCM_checkRange rfl ⟨rfl, rfl, Nat.le_of_ble_eq_true rfl, Nat.le_of_ble_eq_true rfl, Nat.zero_le _, Nat.zero_le _⟩ rfl (Nat.le_of_ble_eq_true rfl) d_TCM_object_4 ?_
  refine g_iload_n h d_TCM_object_7 rfl rfl ?_
  refine g_iconst (v := 0) h d_TCM_object_8 (by decide) ?_
  refine g_iconst (v := 3) h d_TCM_object_9 (by decide) ?_
  exact g_thruS h r tb_good (by rw [hL, hDD]; exact x_TCM_checkRange htr hw) v_TCM_25 nm_TCM_checkRange rfl ⟨rfl, rfl, Nat.le_of_ble_eq_true rfl, Nat.le_of_ble_eq_true rfl, Nat.le_of_ble_eq_true rfl, Nat.le_of_ble_eq_true rfl⟩ rfl (Nat.le_of_ble_eq_true rfl) d_TCM_object_10
set_option maxHeartbeats 4000000 in
set_option maxRecDepth 100000 in
theorem x_TCM_inside1 {l : Launch} {D : va_G} {t : Nat → ClassId} {ad : Nat → Nat} {C : CS} (htr : l.stackTraces = false) {n i b : Int32} (hn : n < 0 ∨ 15 < n) : Ce l D t ad y_TCM_inside b_TCM_inside 5 (some .long) { frames := 7, cells := 1, slots := 6, locals := 110 } [.ref (ad (ix 0 0)), .int n, .int i, .int b] (C) (X_IAE) (C) := by
  refine ctX_of (by decide) (Nat.le_of_ble_eq_true rfl) ?_
  intro Γ hL hDD hN h r pw
  refine gp_g pw ?_
  refine g_at (L' := [some (.ref (ad (ix 0 0))), some (.int n), some (.int i), some (.int b), none]) rfl rfl rfl ?_
  refine g_iload_n h d_TCM_inside_0 rfl rfl ?_
  refine g_iconst (v := 0) h d_TCM_inside_1 (by decide) ?_
  refine g_bipush (v := 15) h d_TCM_inside_2 (by decide) ?_
  exact g_thruS h r tb_good (by rw [hL, hDD]; exact x_TCM_checkRange htr hn) v_TCM_25 nm_TCM_checkRange rfl ⟨rfl, rfl, Nat.le_of_ble_eq_true rfl, Nat.le_of_ble_eq_true rfl, Nat.le_of_ble_eq_true rfl, Nat.le_of_ble_eq_true rfl⟩ rfl (Nat.le_of_ble_eq_true rfl) d_TCM_inside_4
set_option maxHeartbeats 4000000 in
set_option maxRecDepth 100000 in
theorem x_TCM_code1 {l : Launch} {D : va_G} {t : Nat → ClassId} {ad : Nat → Nat} {C : CS} (htr : l.stackTraces = false) {f i op a b c : Int32} (hf : f < 0 ∨ 3 < f) : Ce l D t ad y_TCM_code b_TCM_code 8 none { frames := 7, cells := 1, slots := 6, locals := 110 } [.ref (ad (ix 0 0)), .int f, .int i, .int op, .int a, .int b, .int c] (C) (X_IAE) (C) := by
  refine ctX_of (by decide) (Nat.le_of_ble_eq_true rfl) ?_
  intro Γ hL hDD hN h r pw
  refine gp_g pw ?_
  refine g_at (L' := [some (.ref (ad (ix 0 0))), some (.int f), some (.int i), some (.int op), some (.int a), some (.int b), some (.int c), none]) rfl rfl rfl ?_
  refine g_iload_n h d_TCM_code_0 rfl rfl ?_
  refine g_iconst (v := 0) h d_TCM_code_1 (by decide) ?_
  refine g_iconst (v := 3) h d_TCM_code_2 (by decide) ?_
  exact g_thruS h r tb_good (by rw [hL, hDD]; exact x_TCM_checkRange htr hf) v_TCM_25 nm_TCM_checkRange rfl ⟨rfl, rfl, Nat.le_of_ble_eq_true rfl, Nat.le_of_ble_eq_true rfl, Nat.le_of_ble_eq_true rfl, Nat.le_of_ble_eq_true rfl⟩ rfl (Nat.le_of_ble_eq_true rfl) d_TCM_code_3
set_option maxHeartbeats 4000000 in
set_option maxRecDepth 100000 in
theorem x_TCM_code2 {l : Launch} {D : va_G} {t : Nat → ClassId} {ad : Nat → Nat} {C : CS} (htr : l.stackTraces = false) {f i op a b c : Int32} (h1 : ¬ f < 0) (h2 : ¬ 3 < f) (hi : i < 0 ∨ 15 < i) : Ce l D t ad y_TCM_code b_TCM_code 8 none { frames := 7, cells := 1, slots := 6, locals := 110 } [.ref (ad (ix 0 0)), .int f, .int i, .int op, .int a, .int b, .int c] (C) (X_IAE) (C) := by
  refine ctX_of (by decide) (Nat.le_of_ble_eq_true rfl) ?_
  intro Γ hL hDD hN h r pw
  refine gp_g pw ?_
  refine g_at (L' := [some (.ref (ad (ix 0 0))), some (.int f), some (.int i), some (.int op), some (.int a), some (.int b), some (.int c), none]) rfl rfl rfl ?_
  refine g_iload_n h d_TCM_code_0 rfl rfl ?_
  refine g_iconst (v := 0) h d_TCM_code_1 (by decide) ?_
  refine g_iconst (v := 3) h d_TCM_code_2 (by decide) ?_
  refine g_dSv h tb_good (c_TCM_checkRange h1 h2) v_TCM_25 nm_TCM_checkRange rfl ⟨rfl, rfl, Nat.le_of_ble_eq_true rfl, Nat.le_of_ble_eq_true rfl, Nat.zero_le _, Nat.zero_le _⟩ rfl (Nat.le_of_ble_eq_true rfl) d_TCM_code_3 ?_
  refine g_iload_n h d_TCM_code_6 rfl rfl ?_
  refine g_iconst (v := 0) h d_TCM_code_7 (by decide) ?_
  refine g_bipush (v := 15) h d_TCM_code_8 (by decide) ?_
  exact g_thruS h r tb_good (by rw [hL, hDD]; exact x_TCM_checkRange htr hi) v_TCM_25 nm_TCM_checkRange rfl ⟨rfl, rfl, Nat.le_of_ble_eq_true rfl, Nat.le_of_ble_eq_true rfl, Nat.le_of_ble_eq_true rfl, Nat.le_of_ble_eq_true rfl⟩ rfl (Nat.le_of_ble_eq_true rfl) d_TCM_code_10
set_option maxHeartbeats 4000000 in
set_option maxRecDepth 100000 in
theorem x_TCM_code3 {l : Launch} {D : va_G} {t : Nat → ClassId} {ad : Nat → Nat} {C : CS} (htr : l.stackTraces = false) {f i op a b c : Int32} (h1 : ¬ f < 0) (h2 : ¬ 3 < f) (h3 : ¬ i < 0) (h4 : ¬ 15 < i) (ho : op < -1 ∨ 21 < op) : Ce l D t ad y_TCM_code b_TCM_code 8 none { frames := 7, cells := 1, slots := 6, locals := 110 } [.ref (ad (ix 0 0)), .int f, .int i, .int op, .int a, .int b, .int c] (C) (X_IAE) (C) := by
  refine ctX_of (by decide) (Nat.le_of_ble_eq_true rfl) ?_
  intro Γ hL hDD hN h r pw
  refine gp_g pw ?_
  refine g_at (L' := [some (.ref (ad (ix 0 0))), some (.int f), some (.int i), some (.int op), some (.int a), some (.int b), some (.int c), none]) rfl rfl rfl ?_
  refine g_iload_n h d_TCM_code_0 rfl rfl ?_
  refine g_iconst (v := 0) h d_TCM_code_1 (by decide) ?_
  refine g_iconst (v := 3) h d_TCM_code_2 (by decide) ?_
  refine g_dSv h tb_good (c_TCM_checkRange h1 h2) v_TCM_25 nm_TCM_checkRange rfl ⟨rfl, rfl, Nat.le_of_ble_eq_true rfl, Nat.le_of_ble_eq_true rfl, Nat.zero_le _, Nat.zero_le _⟩ rfl (Nat.le_of_ble_eq_true rfl) d_TCM_code_3 ?_
  refine g_iload_n h d_TCM_code_6 rfl rfl ?_
  refine g_iconst (v := 0) h d_TCM_code_7 (by decide) ?_
  refine g_bipush (v := 15) h d_TCM_code_8 (by decide) ?_
  refine g_dSv h tb_good (c_TCM_checkRange h3 h4) v_TCM_25 nm_TCM_checkRange rfl ⟨rfl, rfl, Nat.le_of_ble_eq_true rfl, Nat.le_of_ble_eq_true rfl, Nat.zero_le _, Nat.zero_le _⟩ rfl (Nat.le_of_ble_eq_true rfl) d_TCM_code_10 ?_
  refine g_iload_n h d_TCM_code_13 rfl rfl ?_
  refine g_iconst (v := -1) h d_TCM_code_14 (by decide) ?_
  refine g_bipush (v := 21) h d_TCM_code_15 (by decide) ?_
  exact g_thruS h r tb_good (by rw [hL, hDD]; exact x_TCM_checkRange htr ho) v_TCM_25 nm_TCM_checkRange rfl ⟨rfl, rfl, Nat.le_of_ble_eq_true rfl, Nat.le_of_ble_eq_true rfl, Nat.le_of_ble_eq_true rfl, Nat.le_of_ble_eq_true rfl⟩ rfl (Nat.le_of_ble_eq_true rfl) d_TCM_code_17
set_option maxHeartbeats 4000000 in
set_option maxRecDepth 100000 in
theorem x_TCM_setR {l : Launch} {D : va_G} {t : Nat → ClassId} {ad : Nat → Nat} {C : CS} (htr : l.stackTraces = false) {a b c : Nat} (hok : okC C) (ha : a < 6) (hb : b < 6) (hc : c < 6) (hz : ¬ (csetting C (C.2.1 0 0 a) (C.2.1 0 0 b) (C.2.1 0 0 c)).1 = 0) : Ce l D t ad y_TCM_set b_TCM_set 4 none { frames := 8, cells := 1, slots := 6, locals := 130 } [.ref (ad (ix 0 0)), .int (nI a), .int (nI b), .int (nI c)] (C) (xRaise (csetting C (C.2.1 0 0 a) (C.2.1 0 0 b) (C.2.1 0 0 c)).1) ((csetting C (C.2.1 0 0 a) (C.2.1 0 0 b) (C.2.1 0 0 c)).2) := by
  refine ctX_of (by decide) (Nat.le_of_ble_eq_true rfl) ?_
  intro Γ hL hDD hN h r pw
  refine gp_g pw ?_
  refine g_at (L' := [some (.ref (ad (ix 0 0))), some (.int (nI a)), some (.int (nI b)), some (.int (nI c))]) rfl rfl rfl ?_
  refine g_iload_n h d_TCM_set_0 rfl rfl ?_
  refine g_dSv h tb_good (c_TCM_checkGlobal (gi_ok ha)) v_TCM_48 nm_TCM_checkGlobal rfl ⟨rfl, rfl, Nat.le_of_ble_eq_true rfl, Nat.le_of_ble_eq_true rfl, Nat.zero_le _, Nat.zero_le _⟩ rfl (Nat.le_of_ble_eq_true rfl) d_TCM_set_1 ?_
  refine g_iload_n h d_TCM_set_4 rfl rfl ?_
  refine g_dSv h tb_good (c_TCM_checkGlobal (gi_ok hb)) v_TCM_48 nm_TCM_checkGlobal rfl ⟨rfl, rfl, Nat.le_of_ble_eq_true rfl, Nat.le_of_ble_eq_true rfl, Nat.zero_le _, Nat.zero_le _⟩ rfl (Nat.le_of_ble_eq_true rfl) d_TCM_set_5 ?_
  refine g_iload_n h d_TCM_set_8 rfl rfl ?_
  refine g_dSv h tb_good (c_TCM_checkGlobal (gi_ok hc)) v_TCM_48 nm_TCM_checkGlobal rfl ⟨rfl, rfl, Nat.le_of_ble_eq_true rfl, Nat.le_of_ble_eq_true rfl, Nat.zero_le _, Nat.zero_le _⟩ rfl (Nat.le_of_ble_eq_true rfl) d_TCM_set_9 ?_
  refine g_aload_n h d_TCM_set_12 rfl rfl ?_
  refine gf_TCM_heap h f_TCM_12 d_TCM_set_13 ?_
  refine g_aload_n h d_TCM_set_16 rfl rfl ?_
  refine gf_TCM_heap h f_TCM_12 d_TCM_set_17 ?_
  refine gf_Heap_globals h f_TCM_52 d_TCM_set_20 ?_
  refine g_iload_n h d_TCM_set_23 rfl rfl ?_
  refine ga_glo h rfl ha d_TCM_set_24 ?_
  refine g_aload_n h d_TCM_set_25 rfl rfl ?_
  refine gf_TCM_heap h f_TCM_12 d_TCM_set_26 ?_
  refine gf_Heap_globals h f_TCM_52 d_TCM_set_29 ?_
  refine g_iload_n h d_TCM_set_32 rfl rfl ?_
  refine ga_glo h rfl hb d_TCM_set_33 ?_
  refine g_aload_n h d_TCM_set_34 rfl rfl ?_
  refine gf_TCM_heap h f_TCM_12 d_TCM_set_35 ?_
  refine gf_Heap_globals h f_TCM_52 d_TCM_set_38 ?_
  refine g_iload_n h d_TCM_set_41 rfl rfl ?_
  refine ga_glo h rfl hc d_TCM_set_42 ?_
  refine g_dVi h tb_good (c_Heap_setting hok (hok.2.1 _ _ _)) (ix_lt 1 (by decide) _ (by decide)) (wc_at (by decide) (by decide)) rfl v_TCM_73 nm_Heap_setting rfl ⟨rfl, rfl, Nat.le_of_ble_eq_true rfl, Nat.le_of_ble_eq_true rfl, Nat.zero_le _, Nat.zero_le _⟩ rfl (Nat.le_of_ble_eq_true rfl) d_TCM_set_43 ?_
  exact g_thruS h r tb_good (by rw [hL, hDD]; exact x_TCM_raise htr hz) v_TCM_62 nm_TCM_raise rfl ⟨rfl, rfl, Nat.le_of_ble_eq_true rfl, Nat.le_of_ble_eq_true rfl, Nat.le_of_ble_eq_true rfl, Nat.le_of_ble_eq_true rfl⟩ rfl (Nat.le_of_ble_eq_true rfl) d_TCM_set_46
set_option maxHeartbeats 4000000 in
set_option maxRecDepth 100000 in
theorem x_TCM_getR {l : Launch} {D : va_G} {t : Nat → ClassId} {ad : Nat → Nat} {C : CS} (htr : l.stackTraces = false) {a b c : Nat} (hok : okC C) (ha : a < 6) (hb : b < 6) (hc : c < 6) (hz : ¬ (cgetting C (C.2.1 0 0 a) (C.2.1 0 0 b)).1 = 0) : Ce l D t ad y_TCM_get b_TCM_get 4 (some .long) { frames := 8, cells := 1, slots := 6, locals := 130 } [.ref (ad (ix 0 0)), .int (nI a), .int (nI b), .int (nI c)] (C) (xRaise (cgetting C (C.2.1 0 0 a) (C.2.1 0 0 b)).1) ((cgetting C (C.2.1 0 0 a) (C.2.1 0 0 b)).2) := by
  refine ctX_of (by decide) (Nat.le_of_ble_eq_true rfl) ?_
  intro Γ hL hDD hN h r pw
  refine gp_g pw ?_
  refine g_at (L' := [some (.ref (ad (ix 0 0))), some (.int (nI a)), some (.int (nI b)), some (.int (nI c))]) rfl rfl rfl ?_
  refine g_iload_n h d_TCM_get_0 rfl rfl ?_
  refine g_dSv h tb_good (c_TCM_checkGlobal (gi_ok ha)) v_TCM_48 nm_TCM_checkGlobal rfl ⟨rfl, rfl, Nat.le_of_ble_eq_true rfl, Nat.le_of_ble_eq_true rfl, Nat.zero_le _, Nat.zero_le _⟩ rfl (Nat.le_of_ble_eq_true rfl) d_TCM_get_1 ?_
  refine g_iload_n h d_TCM_get_4 rfl rfl ?_
  refine g_dSv h tb_good (c_TCM_checkGlobal (gi_ok hb)) v_TCM_48 nm_TCM_checkGlobal rfl ⟨rfl, rfl, Nat.le_of_ble_eq_true rfl, Nat.le_of_ble_eq_true rfl, Nat.zero_le _, Nat.zero_le _⟩ rfl (Nat.le_of_ble_eq_true rfl) d_TCM_get_5 ?_
  refine g_iload_n h d_TCM_get_8 rfl rfl ?_
  refine g_dSv h tb_good (c_TCM_checkGlobal (gi_ok hc)) v_TCM_48 nm_TCM_checkGlobal rfl ⟨rfl, rfl, Nat.le_of_ble_eq_true rfl, Nat.le_of_ble_eq_true rfl, Nat.zero_le _, Nat.zero_le _⟩ rfl (Nat.le_of_ble_eq_true rfl) d_TCM_get_9 ?_
  refine g_aload_n h d_TCM_get_12 rfl rfl ?_
  refine gf_TCM_heap h f_TCM_12 d_TCM_get_13 ?_
  refine g_aload_n h d_TCM_get_16 rfl rfl ?_
  refine gf_TCM_heap h f_TCM_12 d_TCM_get_17 ?_
  refine gf_Heap_globals h f_TCM_52 d_TCM_get_20 ?_
  refine g_iload_n h d_TCM_get_23 rfl rfl ?_
  refine ga_glo h rfl ha d_TCM_get_24 ?_
  refine g_aload_n h d_TCM_get_25 rfl rfl ?_
  refine gf_TCM_heap h f_TCM_12 d_TCM_get_26 ?_
  refine gf_Heap_globals h f_TCM_52 d_TCM_get_29 ?_
  refine g_iload_n h d_TCM_get_32 rfl rfl ?_
  refine ga_glo h rfl hb d_TCM_get_33 ?_
  refine g_dVi h tb_good (c_Heap_getting hok (hok.2.1 _ _ _)) (ix_lt 1 (by decide) _ (by decide)) (wc_at (by decide) (by decide)) rfl v_TCM_77 nm_Heap_getting rfl ⟨rfl, rfl, Nat.le_of_ble_eq_true rfl, Nat.le_of_ble_eq_true rfl, Nat.zero_le _, Nat.zero_le _⟩ rfl (Nat.le_of_ble_eq_true rfl) d_TCM_get_34 ?_
  exact g_thruS h r tb_good (by rw [hL, hDD]; exact x_TCM_raise htr hz) v_TCM_62 nm_TCM_raise rfl ⟨rfl, rfl, Nat.le_of_ble_eq_true rfl, Nat.le_of_ble_eq_true rfl, Nat.le_of_ble_eq_true rfl, Nat.le_of_ble_eq_true rfl⟩ rfl (Nat.le_of_ble_eq_true rfl) d_TCM_get_37
set_option maxHeartbeats 4000000 in
set_option maxRecDepth 100000 in
theorem x_TCM_metaR {l : Launch} {D : va_G} {t : Nat → ClassId} {ad : Nat → Nat} {C : CS} (htr : l.stackTraces = false) {a b : Nat} (hok : okC C) (ha : a < 6) (hb : b < 6) (hz : ¬ (csetMeta C (C.2.1 0 0 a) (C.2.1 0 0 b)).1 = 0) : Ce l D t ad y_TCM_meta b_TCM_meta 3 none { frames := 8, cells := 1, slots := 6, locals := 130 } [.ref (ad (ix 0 0)), .int (nI a), .int (nI b)] (C) (xRaise (csetMeta C (C.2.1 0 0 a) (C.2.1 0 0 b)).1) ((csetMeta C (C.2.1 0 0 a) (C.2.1 0 0 b)).2) := by
  refine ctX_of (by decide) (Nat.le_of_ble_eq_true rfl) ?_
  intro Γ hL hDD hN h r pw
  refine gp_g pw ?_
  refine g_at (L' := [some (.ref (ad (ix 0 0))), some (.int (nI a)), some (.int (nI b))]) rfl rfl rfl ?_
  refine g_iload_n h d_TCM_meta_0 rfl rfl ?_
  refine g_dSv h tb_good (c_TCM_checkGlobal (gi_ok ha)) v_TCM_48 nm_TCM_checkGlobal rfl ⟨rfl, rfl, Nat.le_of_ble_eq_true rfl, Nat.le_of_ble_eq_true rfl, Nat.zero_le _, Nat.zero_le _⟩ rfl (Nat.le_of_ble_eq_true rfl) d_TCM_meta_1 ?_
  refine g_iload_n h d_TCM_meta_4 rfl rfl ?_
  refine g_dSv h tb_good (c_TCM_checkGlobal (gi_ok hb)) v_TCM_48 nm_TCM_checkGlobal rfl ⟨rfl, rfl, Nat.le_of_ble_eq_true rfl, Nat.le_of_ble_eq_true rfl, Nat.zero_le _, Nat.zero_le _⟩ rfl (Nat.le_of_ble_eq_true rfl) d_TCM_meta_5 ?_
  refine g_aload_n h d_TCM_meta_8 rfl rfl ?_
  refine gf_TCM_heap h f_TCM_12 d_TCM_meta_9 ?_
  refine g_aload_n h d_TCM_meta_12 rfl rfl ?_
  refine gf_TCM_heap h f_TCM_12 d_TCM_meta_13 ?_
  refine gf_Heap_globals h f_TCM_52 d_TCM_meta_16 ?_
  refine g_iload_n h d_TCM_meta_19 rfl rfl ?_
  refine ga_glo h rfl ha d_TCM_meta_20 ?_
  refine g_aload_n h d_TCM_meta_21 rfl rfl ?_
  refine gf_TCM_heap h f_TCM_12 d_TCM_meta_22 ?_
  refine gf_Heap_globals h f_TCM_52 d_TCM_meta_25 ?_
  refine g_iload_n h d_TCM_meta_28 rfl rfl ?_
  refine ga_glo h rfl hb d_TCM_meta_29 ?_
  refine g_dVi h tb_good (c_Heap_settingMeta hok (hok.2.1 _ _ _) (hok.2.1 _ _ _)) (ix_lt 1 (by decide) _ (by decide)) (wc_at (by decide) (by decide)) rfl v_TCM_81 nm_Heap_settingMeta rfl ⟨rfl, rfl, Nat.le_of_ble_eq_true rfl, Nat.le_of_ble_eq_true rfl, Nat.zero_le _, Nat.zero_le _⟩ rfl (Nat.le_of_ble_eq_true rfl) d_TCM_meta_30 ?_
  exact g_thruS h r tb_good (by rw [hL, hDD]; exact x_TCM_raise htr hz) v_TCM_62 nm_TCM_raise rfl ⟨rfl, rfl, Nat.le_of_ble_eq_true rfl, Nat.le_of_ble_eq_true rfl, Nat.le_of_ble_eq_true rfl, Nat.le_of_ble_eq_true rfl⟩ rfl (Nat.le_of_ble_eq_true rfl) d_TCM_meta_33
set_option maxHeartbeats 4000000 in
set_option maxRecDepth 100000 in
theorem x_TCM_resumeR {l : Launch} {D : va_G} {t : Nat → ClassId} {ad : Nat → Nat} {C : CS} (htr : l.stackTraces = false) {a b c : Nat} {M : CS} (hR : RR C M) (ha : a < 6) (hb : b < 6) (hc : c < 6) (hz : ¬ (crunT C (C.2.1 0 0 a) (C.2.1 0 0 b)).1 = 0) : Ce l D t ad y_TCM_resume b_TCM_resume 4 (some .long) { frames := 8, cells := 1, slots := 6, locals := 180 } [.ref (ad (ix 0 0)), .int (nI a), .int (nI b), .int (nI c)] (C) (xRaise (crunT C (C.2.1 0 0 a) (C.2.1 0 0 b)).1) ((crunT C (C.2.1 0 0 a) (C.2.1 0 0 b)).2) := by
  refine ctX_of (by decide) (Nat.le_of_ble_eq_true rfl) ?_
  intro Γ hL hDD hN h r pw
  refine gp_g pw ?_
  refine g_at (L' := [some (.ref (ad (ix 0 0))), some (.int (nI a)), some (.int (nI b)), some (.int (nI c))]) rfl rfl rfl ?_
  refine g_iload_n h d_TCM_resume_0 rfl rfl ?_
  refine g_dSv h tb_good (c_TCM_checkGlobal (gi_ok ha)) v_TCM_48 nm_TCM_checkGlobal rfl ⟨rfl, rfl, Nat.le_of_ble_eq_true rfl, Nat.le_of_ble_eq_true rfl, Nat.zero_le _, Nat.zero_le _⟩ rfl (Nat.le_of_ble_eq_true rfl) d_TCM_resume_1 ?_
  refine g_iload_n h d_TCM_resume_4 rfl rfl ?_
  refine g_dSv h tb_good (c_TCM_checkGlobal (gi_ok hb)) v_TCM_48 nm_TCM_checkGlobal rfl ⟨rfl, rfl, Nat.le_of_ble_eq_true rfl, Nat.le_of_ble_eq_true rfl, Nat.zero_le _, Nat.zero_le _⟩ rfl (Nat.le_of_ble_eq_true rfl) d_TCM_resume_5 ?_
  refine g_iload_n h d_TCM_resume_8 rfl rfl ?_
  refine g_dSv h tb_good (c_TCM_checkGlobal (gi_ok hc)) v_TCM_48 nm_TCM_checkGlobal rfl ⟨rfl, rfl, Nat.le_of_ble_eq_true rfl, Nat.le_of_ble_eq_true rfl, Nat.zero_le _, Nat.zero_le _⟩ rfl (Nat.le_of_ble_eq_true rfl) d_TCM_resume_9 ?_
  refine g_aload_n h d_TCM_resume_12 rfl rfl ?_
  refine gf_TCM_processor h f_TCM_21 d_TCM_resume_13 ?_
  refine g_aload_n h d_TCM_resume_16 rfl rfl ?_
  refine gf_TCM_heap h f_TCM_12 d_TCM_resume_17 ?_
  refine gf_Heap_globals h f_TCM_52 d_TCM_resume_20 ?_
  refine g_iload_n h d_TCM_resume_23 rfl rfl ?_
  refine ga_glo h rfl ha d_TCM_resume_24 ?_
  refine g_aload_n h d_TCM_resume_25 rfl rfl ?_
  refine gf_TCM_heap h f_TCM_12 d_TCM_resume_26 ?_
  refine gf_Heap_globals h f_TCM_52 d_TCM_resume_29 ?_
  refine g_iload_n h d_TCM_resume_32 rfl rfl ?_
  refine ga_glo h rfl hb d_TCM_resume_33 ?_
  refine g_dVi h tb_good (c_Pro_run (I := fun tr X => ∃ M, KK tr X M) hR.1.1 (hR.1.1.2.1 _ _ _) (fun _ _ z => KK_okC z) (fun _ z w => KK_cpreE z w) (fun _ z w => KK_stepE z w) ⟨_, start_KN hR ha hb⟩) (ix_lt 10 (by decide) _ (by decide)) (wc_at (by decide) (by decide)) rfl v_TCM_84 nm_Pro_run rfl ⟨rfl, rfl, Nat.le_of_ble_eq_true rfl, Nat.le_of_ble_eq_true rfl, Nat.zero_le _, Nat.zero_le _⟩ rfl (Nat.le_of_ble_eq_true rfl) d_TCM_resume_34 ?_
  exact g_thruS h r tb_good (by rw [hL, hDD]; exact x_TCM_raise htr hz) v_TCM_62 nm_TCM_raise rfl ⟨rfl, rfl, Nat.le_of_ble_eq_true rfl, Nat.le_of_ble_eq_true rfl, Nat.le_of_ble_eq_true rfl, Nat.le_of_ble_eq_true rfl⟩ rfl (Nat.le_of_ble_eq_true rfl) d_TCM_resume_37
set_option maxHeartbeats 4000000 in
set_option maxRecDepth 100000 in
theorem x_TCM_makeR {l : Launch} {D : va_G} {t : Nat → ClassId} {ad : Nat → Nat} {C : CS} (htr : l.stackTraces = false) {g : Nat} {f : Option Nat} (hok : okC C) (hg : g < 6) (hf : ∀ j, f = some j → j < 4) (hz : ¬ (ccreate C (match f with | none => 1 | some _ => 2) (enc f)).1 = 0) : Ce l D t ad y_TCM_make b_TCM_make 3 (some .int) { frames := 8, cells := 1, slots := 6, locals := 130 } [.ref (ad (ix 0 0)), .int (nI g), .int (enc f)] (C) (xRaise (ccreate C (match f with | none => 1 | some _ => 2) (enc f)).1) ((ccreate C (match f with | none => 1 | some _ => 2) (enc f)).2) := by
  refine ctX_of (by decide) (Nat.le_of_ble_eq_true rfl) ?_
  intro Γ hL hDD hN h r pw
  refine gp_g pw ?_
  rcases f with _ | f
  · simp only [enc] at hz
    refine g_at (L' := [some (.ref (ad (ix 0 0))), some (.int (nI g)), some (.int (-1))]) rfl rfl rfl ?_
    refine g_iload_n h d_TCM_make_0 rfl rfl ?_
    refine g_dSv h tb_good (c_TCM_checkGlobal (gi_ok hg)) v_TCM_48 nm_TCM_checkGlobal rfl ⟨rfl, rfl, Nat.le_of_ble_eq_true rfl, Nat.le_of_ble_eq_true rfl, Nat.zero_le _, Nat.zero_le _⟩ rfl (Nat.le_of_ble_eq_true rfl) d_TCM_make_1 ?_
    refine g_iload_n h d_TCM_make_4 rfl rfl ?_
    refine g_iconst (v := -1) h d_TCM_make_5 (by decide) ?_
    refine g_iconst (v := 3) h d_TCM_make_6 (by decide) ?_
    refine g_dSv h tb_good (c_TCM_checkRange (by decide) (by decide)) v_TCM_25 nm_TCM_checkRange rfl ⟨rfl, rfl, Nat.le_of_ble_eq_true rfl, Nat.le_of_ble_eq_true rfl, Nat.zero_le _, Nat.zero_le _⟩ rfl (Nat.le_of_ble_eq_true rfl) d_TCM_make_7 ?_
    refine g_aload_n h d_TCM_make_10 rfl rfl ?_
    refine gf_TCM_heap h f_TCM_12 d_TCM_make_11 ?_
    refine g_iload_n h d_TCM_make_14 rfl rfl ?_
    refine g_if_ge (tgt := 22) h d_TCM_make_15 (by decide) (fun c_15 => ?_) (fun c_15 => ?_)
    · exact absurd c_15 (by decide)
    · refine g_iconst (v := 1) h d_TCM_make_18 (by decide) ?_
      refine g_goto (tgt := 23) h d_TCM_make_19 (by decide) ?_
      refine g_iload_n h d_TCM_make_23 rfl rfl ?_
      refine g_dVi h tb_good (c_Heap_create hok) (ix_lt 1 (by decide) _ (by decide)) (wc_at (by decide) (by decide)) rfl v_TCM_58 nm_Heap_create rfl ⟨rfl, rfl, Nat.le_of_ble_eq_true rfl, Nat.le_of_ble_eq_true rfl, Nat.zero_le _, Nat.zero_le _⟩ rfl (Nat.le_of_ble_eq_true rfl) d_TCM_make_24 ?_
      exact g_thruS h r tb_good (by rw [hL, hDD]; exact x_TCM_raise htr hz) v_TCM_62 nm_TCM_raise rfl ⟨rfl, rfl, Nat.le_of_ble_eq_true rfl, Nat.le_of_ble_eq_true rfl, Nat.le_of_ble_eq_true rfl, Nat.le_of_ble_eq_true rfl⟩ rfl (Nat.le_of_ble_eq_true rfl) d_TCM_make_27
  · have hf := hf f rfl
    simp only [enc] at hz
    refine g_at (L' := [some (.ref (ad (ix 0 0))), some (.int (nI g)), some (.int (nI f))]) rfl rfl rfl ?_
    refine g_iload_n h d_TCM_make_0 rfl rfl ?_
    refine g_dSv h tb_good (c_TCM_checkGlobal (gi_ok hg)) v_TCM_48 nm_TCM_checkGlobal rfl ⟨rfl, rfl, Nat.le_of_ble_eq_true rfl, Nat.le_of_ble_eq_true rfl, Nat.zero_le _, Nat.zero_le _⟩ rfl (Nat.le_of_ble_eq_true rfl) d_TCM_make_1 ?_
    refine g_iload_n h d_TCM_make_4 rfl rfl ?_
    refine g_iconst (v := -1) h d_TCM_make_5 (by decide) ?_
    refine g_iconst (v := 3) h d_TCM_make_6 (by decide) ?_
    refine g_dSv h tb_good (c_TCM_checkRange (rg_m1 (by omega)) (rg_hi (m := 3) (by omega) (by decide))) v_TCM_25 nm_TCM_checkRange rfl ⟨rfl, rfl, Nat.le_of_ble_eq_true rfl, Nat.le_of_ble_eq_true rfl, Nat.zero_le _, Nat.zero_le _⟩ rfl (Nat.le_of_ble_eq_true rfl) d_TCM_make_7 ?_
    refine g_aload_n h d_TCM_make_10 rfl rfl ?_
    refine gf_TCM_heap h f_TCM_12 d_TCM_make_11 ?_
    refine g_iload_n h d_TCM_make_14 rfl rfl ?_
    refine g_if_ge (tgt := 22) h d_TCM_make_15 (by decide) (fun c_15 => ?_) (fun c_15 => ?_)
    · refine g_iconst (v := 2) h d_TCM_make_22 (by decide) ?_
      refine g_iload_n h d_TCM_make_23 rfl rfl ?_
      refine g_dVi h tb_good (c_Heap_create hok) (ix_lt 1 (by decide) _ (by decide)) (wc_at (by decide) (by decide)) rfl v_TCM_58 nm_Heap_create rfl ⟨rfl, rfl, Nat.le_of_ble_eq_true rfl, Nat.le_of_ble_eq_true rfl, Nat.zero_le _, Nat.zero_le _⟩ rfl (Nat.le_of_ble_eq_true rfl) d_TCM_make_24 ?_
      exact g_thruS h r tb_good (by rw [hL, hDD]; exact x_TCM_raise htr hz) v_TCM_62 nm_TCM_raise rfl ⟨rfl, rfl, Nat.le_of_ble_eq_true rfl, Nat.le_of_ble_eq_true rfl, Nat.le_of_ble_eq_true rfl, Nat.le_of_ble_eq_true rfl⟩ rfl (Nat.le_of_ble_eq_true rfl) d_TCM_make_27
    · exact absurd (nI_pos' (by omega)) c_15
end

-- part 98.pure
section
/-! walks that write nothing, and calls that write nothing in them -/
def CtP (l : Launch) (D : va_G) (cl : List vw_C) (tys : List (ClassId × FieldType)) (nl : List (String × Nat × MethodName × String)) (N : Nat) (ad : Nat → Nat) (y : MethodName) (ws : List Cond) (rm : Room) (As : List Value) (σ : Nat → va_E) (v : Option Value) : Prop :=
  ∀ sz : Nat, Met l y ws rm (cPc D cl tys nl N ad σ sz As) (fun _ st oc t => oc = .returned v ∧ t.heap = st.heap) 0 0 (fun _ => False)
def RP (Γ : GT) (ret : Option FieldType) (v : Option Value) : Prop :=
  (gM Γ).sig.returnType = ret ∧ (gM Γ).locks = false ∧ gZ Γ = MQ (gb Γ) (fun _ st oc t => oc = .returned v ∧ t.heap = st.heap) (ga Γ) (gs Γ) 0 0 (fun _ => False)
theorem ctP_of {l : Launch} {D : va_G} {cl : List vw_C} {tys : List (ClassId × FieldType)} {nl : List (String × Nat × MethodName × String)} {N : Nat} {ad : Nat → Nat} {y : MethodName} {TB : List Cond} {rm : Room} {As : List Value} {σ : Nat → va_E} {v : Option Value} {cc : ByteArray} {n : Nat} {ret : Option FieldType}
    (hy : plainName y.cls = true) (hn : (lg_sl As).length ≤ n)
    (body : ∀ Γ : GT, gL Γ = l → gD Γ = D → gN Γ = n → Cx Γ cc y.cls rm TB cl tys nl → RP Γ ret v → PW Γ N ad σ → GP Γ 0 (inL As n) []) : CtP l D cl tys nl N ad y (.code y cc n ret :: TB) rm As σ v := by
  intro sz
  refine Met.ofW (cc := cc) (maxL := n) (ret := ret) hy rfl ?_
  intro p e s m args below meth c s₁ B hml hv
  obtain ⟨rfl, hsz, hP, hK, hD0⟩ := hv
  have hts := atoms_spec (ws := .code y cc n ret :: TB) B.pre
  have hown : s.vm.findClass y.cls = some m.cls := findClass_of_methodNamed B.named
  subst hsz
  have hD := hD0.self (sz := s.heap.size)
  rw [lg_entry_eq]
  exact body (p, l, e, rm, s, m, As.toArray, below, meth, c, MQ below (fun _ st oc t => oc = .returned v ∧ t.heap = st.heap) As.toArray s 0 0 (fun _ => False), D, cl, va_A (gl N ad σ) s.heap.size, n) rfl rfl rfl
    ⟨B.exec, B.bytes, hml, hown, rfl, fun w hw => hts w (List.mem_cons_of_mem _ hw), rfl, hK, fun q h => Or.inr h⟩ ⟨B.returns, B.notSynchronized, rfl⟩ ⟨hP, hD⟩ _ (inL_has hn)
section PureRows2
variable {Γ : GT} {cc : ByteArray} {own : String} {rm : Room} {Ts : List Cond} {cl : List vw_C} {tys : List (ClassId × FieldType)} {nl : List (String × Nat × MethodName × String)} {N pc : Nat} {ad : Nat → Nat} {σ : Nat → va_E} {L : List (Option Value)} {st : List Value}
theorem p_vret (h : Cx Γ cc own rm Ts cl tys nl) (r : RP Γ none none) (hd : decode cc pc = .ok (.return_, 1)) : GP Γ pc L [] := fun ls hl => by
  unfold gW
  rw [r.2.2]
  exact W.vret h.x h.b r.1 (fun t ht hW => ⟨rfl, ht⟩) (fun q hq => absurd hq List.not_mem_nil) hd r.2.1
theorem p_iret (h : Cx Γ cc own rm Ts cl tys nl) {v : Int32} (r : RP Γ (some .int) (some (.int v))) (hd : decode cc pc = .ok (.ireturn, 1)) : GP Γ pc L [.int v] := fun ls hl => by
  unfold gW
  rw [r.2.2]
  exact W.iret h.x h.b r.1 (fun t ht hW => ⟨rfl, ht⟩) (fun q hq => absurd hq List.not_mem_nil) hd r.2.1
theorem p_aload_n (h : Cx Γ cc own rm Ts cl tys nl) {k4 : Fin 4} {i : Nat} {x : Nat} (hd : decode cc pc = .ok (.aload_n k4, 1)) (hi : (k4 : Nat) = i) (hx : L[i]? = some (some (.ref x))) (k : GP Γ (pc + 1) L (.ref x :: st)) : GP Γ pc L (st) := fun ls hl => lv_aload_n h.x h.b hd hi (hl.2.2 _ _ hx) (k ls hl)
theorem p_aload (h : Cx Γ cc own rm Ts cl tys nl) {i : Nat} {x : Nat} (hd : decode cc pc = .ok (.aload i, 2)) (hx : L[i]? = some (some (.ref x))) (k : GP Γ (pc + 2) L (.ref x :: st)) : GP Γ pc L (st) := fun ls hl => lv_aload h.x h.b hd (hl.2.2 _ _ hx) (k ls hl)
theorem p_astore_n (h : Cx Γ cc own rm Ts cl tys nl) {k4 : Fin 4} {i : Nat} {x : Nat} (hd : decode cc pc = .ok (.astore_n k4, 1)) (hi : (k4 : Nat) = i) (ho : okS L i = true) (hn : i < gN Γ) (k : GP Γ (pc + 1) (L.set i (some (.ref x))) st) : GP Γ pc L (.ref x :: st) := fun ls hl => lv_astore_n h.x h.b hd hi hl.lv hn rfl (fun ls2 h2 => k ls2 (hasL_1 (ls := ls) ho h2))
theorem p_astore (h : Cx Γ cc own rm Ts cl tys nl) {i : Nat} {x : Nat} (hd : decode cc pc = .ok (.astore i, 2)) (ho : okS L i = true) (hn : i < gN Γ) (k : GP Γ (pc + 2) (L.set i (some (.ref x))) st) : GP Γ pc L (.ref x :: st) := fun ls hl => lv_astore h.x h.b hd hl.lv hn rfl (fun ls2 h2 => k ls2 (hasL_1 (ls := ls) ho h2))
theorem p_if_ne (h : Cx Γ cc own rm Ts cl tys nl) {x : Int32} {off : Int} {tgt : Nat} (hd : decode cc pc = .ok (.ifCond .ne off, 3)) (ht : (pc : Int) + off = (tgt : Int)) (kt : ¬ x = 0 → GP Γ tgt L st) (kf : x = 0 → GP Γ (pc + 3) L st) : GP Γ pc L (.int x :: st) := fun ls hl => lv_if_ne h.x h.b hd ht (fun q => kt q ls hl) (fun q => kf q ls hl)
theorem p_if_ge (h : Cx Γ cc own rm Ts cl tys nl) {x : Int32} {off : Int} {tgt : Nat} (hd : decode cc pc = .ok (.ifCond .ge off, 3)) (ht : (pc : Int) + off = (tgt : Int)) (kt : 0 ≤ x → GP Γ tgt L st) (kf : ¬ 0 ≤ x → GP Γ (pc + 3) L st) : GP Γ pc L (.int x :: st) := fun ls hl => lv_if_ge h.x h.b hd ht (fun q => kt q ls hl) (fun q => kf q ls hl)
theorem p_goto (h : Cx Γ cc own rm Ts cl tys nl) {off : Int} {tgt : Nat} (hd : decode cc pc = .ok (.goto off, 3)) (ht : (pc : Int) + off = (tgt : Int)) (k : GP Γ tgt L st) : GP Γ pc L st := fun ls hl => lv_goto h.x h.b hd ht (k ls hl)
theorem p_get (h : Cx Γ cc own rm Ts cl tys nl) (pw : PW Γ N ad σ) {C : String} {T : u_T} {n ci index : Nat} {fs : List Value} (hin : ∀ w ∈ u_ws C T n, w ∈ Ts) (q : Nat) (hq : q < N) (he : σ q = .inr (ci, fs)) (hc : cl[ci]? = some (C, T, n)) (j : Nat) (hj : j < n) (hlink : Cond.fieldLink own index (T j).1 (T j).2.1 (T j).2.2.1 ∈ Ts) {v : Value} (hv : fs[j]? = some v) (hd : decode cc pc = .ok (.getfield index, 3)) (k : GP Γ (pc + 3) L (v :: st)) : GP Γ pc L (.ref (ad q) :: st) := fun ls hl => va_get h.x h.b h.ts hin h.ow h.K pw.1 q (gl_he hq he) (by rw [h.cL]; exact hc) j hj (h.ts _ hlink) (fun _ z => z) hv hd (k ls hl)
theorem p_aaload (h : Cx Γ cc own rm Ts cl tys nl) (pw : PW Γ N ad σ) (q t0 : Nat) (hq : q < N) {cA : ClassId} {C : String} {n : Nat} {f : Nat → Option Nat} (he : σ q = .inl (cA, n, .inr (.inr (.inr (.inr f))))) (ht : tys[t0]? = some (cA, .object C)) {i : Int32} (hi : vp_in i n) (hd : decode cc pc = .ok (.aaload, 1)) (k : GP Γ (pc + 1) L (va_rf (f i.toNatClampNeg) :: st)) : GP Γ pc L (.int i :: .ref (ad q) :: st) := fun ls hl => va_aldq h.x h.b h.K pw.1 q t0 (gl_he hq he) ht hi hd (k ls hl)
variable {y : MethodName} {bytes : ByteArray} {maxL n index : Nat} {ret : Option FieldType} {rmY : Room} {As rest : List Value} {v : Option Value}
theorem p_callS (h : Cx Γ cc own rm Ts cl tys nl) (pw : PW Γ N ad σ) (hG : GoodIn Ts Ts) (hM : CtP (gL Γ) (gD Γ) cl tys nl N ad y (.code y bytes maxL ret :: Ts) rmY As σ v)
    (hw : ∀ w ∈ cwsS own index y bytes maxL ret, w ∈ Ts) (hd0 : cNm y y.cls n) (hn : As.length = n) (hroom : cRm rmY rm maxL 0 0) (hst : st = As.reverse ++ rest) (hrest : (rest.map fun v => v.category).sum ≤ 8) (hd : decode cc pc = .ok (.invokestatic index, 3))
    (k : GP Γ (pc + 3) L (v.toList ++ rest)) : GP Γ pc L st := by
  have hcd : Cond.code y bytes maxL ret ∈ Ts := hw _ (by simp [cwsS, va_wsS])
  intro ls hl T hT X
  obtain ⟨hP, hD⟩ := pw
  have hE := h.E
  have hS : va_S (gA Γ) (gs Γ).heap (gs Γ).heap [] := va_S.rf
  have hF := c_in h hD hS
  have hcl := h.cL
  rw [hcl] at hP hE
  have hrun := va_runS (locs := []) (cells := 0) (slots := 0) (below := gb Γ) (meth := gM Γ) (e := ge Γ) (As := As) (rest := rest) (n := n) (g := F0 (gm Γ) pc ls st) ⟨h.x, h.b, h.ml, h.ow, h.ts⟩ (hM (gs Γ).heap.size) (va_cwS (index := index) n h.ts (fun w hw2 => by
    unfold va_wsS at hw2
    rcases List.mem_append.mp hw2 with z | z
    · exact hG _ (hw _ (by unfold cwsS va_wsS; exact List.mem_append_left _ z))
    · exact c_good hG hcd _ z) rfl hroom.1 hroom.2.1 hd0.2 (R := gR Γ) (by rw [h.R]; exact ⟨hroom.2.2.1, hroom.2.2.2.1⟩)) ⟨c_blind, fun U hU hW => ⟨rfl, by rw [hU], by rw [hU]; exact hP, EX.next hE hW hS hF hU, hD.weaken (fun _ _ _ _ => trivial)⟩⟩ rfl hn hl.1 hst (lv_room hrest) hd (by rw [h.R]; exact ⟨hroom.2.2.2.2.1, hroom.2.2.2.2.2⟩)
  obtain ⟨v', st₀, t, T', L2, h0, X', hL2, e1, e2, ⟨hv, hh⟩, go⟩ := hrun T hT X
  cases hv
  have hnil : L2 = [] := List.eq_nil_iff_forall_not_mem.mpr (fun q hq => hL2 q hq)
  subst hnil
  obtain ⟨t2, a1, b1⟩ := k ls hl T' (by rw [e1, hh, h0]) X'
  exact ⟨t2, go t2 a1, b1⟩
theorem p_callV (h : Cx Γ cc own rm Ts cl tys nl) (pw : PW Γ N ad σ) (hG : GoodIn Ts Ts) {C : String} {T : u_T} {nf ci q : Nat} {fs : List Value} (hM : CtP (gL Γ) (gD Γ) cl tys nl N ad y (.code y bytes maxL ret :: Ts) rmY (.ref (ad q) :: As) σ v) (hq : q < N) (he : σ q = .inr (ci, fs)) (hc : cl[ci]? = some (C, T, nf))
    (hw : ∀ w ∈ cwsV own index C y bytes maxL ret, w ∈ Ts) (hd0 : cNm y C n) (hn : As.length = n) (hroom : cRm rmY rm maxL 0 0) (hst : st = As.reverse ++ .ref (ad q) :: rest) (hrest : (rest.map fun v => v.category).sum ≤ 8) (hd : decode cc pc = .ok (.invokevirtual index, 3))
    (k : GP Γ (pc + 3) L (v.toList ++ rest)) : GP Γ pc L st := by
  have hcd : Cond.code y bytes maxL ret ∈ Ts := hw _ (by simp [cwsV, wsV])
  intro ls hl T0 hT X
  obtain ⟨hP, hD⟩ := pw
  have hE := h.E
  have hS : va_S (gA Γ) (gs Γ).heap (gs Γ).heap [] := va_S.rf
  have hF := c_in h hD hS
  have hcl := h.cL
  rw [hcl] at hP hE
  have hrun := va_runV (locs := []) (cells := 0) (slots := 0) (below := gb Γ) (meth := gM Γ) (e := ge Γ) (As := As) (rest := rest) (b := ad q) (C := C) (n := n) (g := F0 (gm Γ) pc ls st) ⟨h.x, h.b, h.ml, h.ow, h.ts⟩ (hM (gs Γ).heap.size) (cwV (index := index) n h.ts (fun w hw2 => by
    unfold wsV at hw2
    rcases List.mem_append.mp hw2 with z | z
    · exact hG _ (hw _ (by unfold cwsV wsV; exact List.mem_append_left _ z))
    · exact c_good hG hcd _ z) rfl hroom.1 hroom.2.1 hd0 (R := gR Γ) (by rw [h.R]; exact ⟨hroom.2.2.1, hroom.2.2.2.1⟩)) ⟨c_blind, va_recv hE.1 hP hc (gl_he hq he), fun U hU hW => ⟨rfl, by rw [hU], by rw [hU]; exact hP, EX.next hE hW hS hF hU, hD.weaken (fun _ _ _ _ => trivial)⟩⟩ rfl hn hl.1 hst (lv_room hrest) hd (by rw [h.R]; exact ⟨hroom.2.2.2.2.1, hroom.2.2.2.2.2⟩)
  obtain ⟨v', st₀, t, T', L2, h0, X', hL2, e1, e2, ⟨hv, hh⟩, go⟩ := hrun T0 hT X
  cases hv
  have hnil : L2 = [] := List.eq_nil_iff_forall_not_mem.mpr (fun q hq => hL2 q hq)
  subst hnil
  obtain ⟨t2, a1, b1⟩ := k ls hl T' (by rw [e1, hh, h0]) X'
  exact ⟨t2, go t2 a1, b1⟩
end PureRows2
end
