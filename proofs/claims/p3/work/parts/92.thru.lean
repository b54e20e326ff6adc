/-! a call of a method that throws -/
section ThruRun
variable {p : Program} {l : Launch} {e : Env} {R : Room} {s : State} {m : MethodId} {args : Array Value} {below : List Frame} {meth : Method} {c : Code} {T : State} {locs : List Loc} {cells slots : Nat}
variable {y : MethodName} {bytes : ByteArray} {maxL mc ms n index : Nat} {ret : Option FieldType} {ws : List Cond} {rm : Room} {Pc : Array Value → State → Prop} {Qc : Array Value → State → Outcome → State → Prop} {free : Addr → Prop} {own : String}
theorem back_x (cb : CallB R s args own index y bytes maxL ret ws rm mc ms n) (hM : MetX l y ws rm Pc Qc mc ms free) (hbl : FrameBlind Pc)
    (X : Stand p l e R s m args below meth c T locs cells slots) {g : JFrame} {ig : Instr} {mk : MethodId} {a : Array Value} (hg : g.method = m) (hsize : g.locals.size = c.maxLocals) (hdg : decode c.code g.pc = .ok (ig, 3)) (hW : 2 * g.monitorRoom + (g.stack.map fun v => v.category).sum ≤ 8) (hn : T.methodNamed? y = some mk) (h4 : cells + mc ≤ R.cells) (h5 : slots + ms ≤ R.slots) (hp : Pc a T) :
    ∃ (x : Addr) (T' t : State) (L : List Loc), Stand p l e R s m args below meth c T' (locs ++ L) (cells + mc) (slots + ms) ∧ T'.heap = t.heap ∧ Qc a (T.calling g mk a) (.threw x) t ∧ (∀ q ∈ L, free q.base) ∧ Steps p.tables e below (doInvoke e (T.setTop g) [] mk a).1 ((T'.setTop g).pushFrame (.throwing x)) := by
  obtain ⟨hrc, hrs, hfr, hlo, hws, hcw, -, hini, -⟩ := cb
  have h2 : (Cond.code y bytes maxL ret).before a T = true := hws _ hcw _ _ X.warmed
  have h3 : (Cond.initialized y.cls).before a T = true := word_at X.warmed (Or.inl (by first | rfl | simp [Cond.onTables, Cond.keeps, Cond.steady])) hini
  have h1 : (headSpec ws rm).pre.before a T = true := atoms_intro fun w hw => hws w hw _ _ X.warmed
  obtain ⟨methY, cY, hmY, hcY, -, hlY, -, -, -, -⟩ := Cond.code_spec hn h2
  obtain ⟨kY, hkY, -⟩ := className_of_methodNamed hn
  have hinitY : kY.init = .initialized := Cond.initialized_spec (findClass_of_methodNamed hn) hkY h3
  have h : At T g.method c below := by rw [hg]; exact X.here
  have happ : (headSpec ws rm).appliesLoose y e.platform (T.calling g mk a) = true :=
    Spec.appliesLoose_calling (g := g) h hdg hn hkY hinitY (X.room_calling (g := g) (R' := (headSpec ws rm).room) hsize hmY hcY hfr (by rw [hlY]; show 2 * g.monitorRoom + (g.stack.map fun v => v.category).sum + (maxL + 11) + rm.locals ≤ R.locals; omega) (by show cells + rm.cells ≤ R.cells; omega) (by show slots + rm.slots ≤ R.slots; omega)) h1
  obtain ⟨mid, hmid⟩ := h.above
  have hfr2 : (T.setTop g).frames = (.java g :: mid) ++ below := by rw [State.frames_setTop' g h.top, hmid]; rfl
  obtain ⟨o, s₂, hsteps, -, hend, hq⟩ := Steps.callFree hM p X.admits X.cas X.clock (acts := []) hfr2 happ (hbl _ _ _ _ hp) trivial
  obtain ⟨hq1, L, ⟨⟨x, rfl⟩, hW₂, hsame⟩, hfree⟩ := hq
  rw [State.frames_setTop' g h.top, X.tail] at hend
  obtain ⟨T', X', -, -, ht⟩ := X.outOfThrown hg (mk := mk) (a := a) hend hW₂ hsame
  refine ⟨x, T', s₂, L, X', by rw [ht]; exact (Stand.throwing_heap T' g x).symm, hq1, hfree, ?_⟩
  rw [← ht]
  exact hsteps
theorem callSX (X : Stand p l e R s m args below meth c T locs cells slots) (hexec : p.tables.exec = Jvm.exec) (hown : s.vm.findClass own = some m.cls) (cb : CallB R s args own index y bytes maxL ret ws rm mc ms n ∧ (Cond.static y).before args s = true) (hM : MetX l y ws rm Pc Qc mc ms free) (hbl : FrameBlind Pc)
    {g : JFrame} (hg : g.method = m) (hsize : g.locals.size = c.maxLocals) {argsL rest : List Value} (hlen : argsL.length = n) (hstack : g.stack = argsL.reverse ++ rest) (hW : 2 * g.monitorRoom + (rest.map fun v => v.category).sum ≤ 8) (hdg : decode c.code g.pc = .ok (.invokestatic index, 3)) (h4 : cells + mc ≤ R.cells) (h5 : slots + ms ≤ R.slots)
    (hpre : ∀ U : State, U.heap = T.heap → s.WarmedH U.vm → Pc argsL.toArray U) :
    ∃ (x : Addr) (st₀ T' t : State) (L : List Loc), st₀.heap = T.heap ∧ s.WarmedH st₀.vm ∧ Stand p l e R s m args below meth c T' (locs ++ L) (cells + mc) (slots + ms) ∧ T'.heap = t.heap ∧ Qc argsL.toArray st₀ (.threw x) t ∧ (∀ q ∈ L, free q.base) ∧ Steps p.tables e below (T.setTop g) ((T'.setTop { g with stack := rest }).pushFrame (.throwing x)) := by
  have cb' := cb.1
  obtain ⟨⟨-, -, -, -, -, -, hcode, hinit, hy, hlens, hlink⟩, hstat⟩ := cb
  obtain ⟨mk, hnamed⟩ := Cond.code_named hcode
  obtain ⟨methM, cM, hmethM, -, -, -, -, -, -, hsigM⟩ := Cond.code_spec hnamed hcode
  have hstatic : methM.isStatic = true := Cond.static_spec hnamed hmethM hstat
  obtain ⟨kP, hkP, -⟩ := className_of_methodNamed hnamed
  have hinitP : kP.init = .initialized := Cond.initialized_spec (findClass_of_methodNamed hnamed) hkP hinit
  obtain ⟨vm₁, X₁, hstep₁⟩ := X.invokestatic hexec hown hlink hnamed hmethM hstatic hkP hinitP hy (g := g) hg (argsL := argsL) (rest := rest) (hlen.trans (hlens _ hsigM)) hstack hdg
  obtain ⟨x, T', t, L, X', e1, hq, hL, hst⟩ := back_x cb' hM hbl X₁ (g := { g with stack := rest }) (ig := .invokestatic index) (mk := mk) (a := argsL.toArray) hg hsize hdg hW (X₁.named hnamed) h4 h5 (hpre (T.setVm vm₁) rfl X₁.warmed)
  exact ⟨x, (T.setVm vm₁).calling { g with stack := rest } mk argsL.toArray, T', t, L, rfl, X₁.warmed, X', e1, hq, hL, hstep₁ _ fun acts => by rw [doInvoke_state]; exact hst⟩
theorem callVX (X : Stand p l e R s m args below meth c T locs cells slots) (hexec : p.tables.exec = Jvm.exec) (hown : s.vm.findClass own = some m.cls) {C : String} (cw : CallW R s args own C index y bytes maxL ret ws rm mc ms n) (hM : MetX l y ws rm Pc Qc mc ms free) (hbl : FrameBlind Pc)
    {b : Addr} {cellB : Cell} (hcell : T.heap[b]? = some cellB) (hobj : cellB.vm.isStatics = false) (hcls : s.vm.findClass C = some cellB.cls)
    {g : JFrame} (hg : g.method = m) (hsize : g.locals.size = c.maxLocals) {argsL rest : List Value} (hlen : argsL.length = n) (hstack : g.stack = argsL.reverse ++ .ref b :: rest) (hW : 2 * g.monitorRoom + (rest.map fun v => v.category).sum ≤ 8) (hdg : decode c.code g.pc = .ok (.invokevirtual index, 3)) (h4 : cells + mc ≤ R.cells) (h5 : slots + ms ≤ R.slots)
    (hpre : ∀ U : State, U.heap = T.heap → s.WarmedH U.vm → Pc (Value.ref b :: argsL).toArray U) :
    ∃ (x : Addr) (st₀ T' t : State) (L : List Loc), st₀.heap = T.heap ∧ s.WarmedH st₀.vm ∧ Stand p l e R s m args below meth c T' (locs ++ L) (cells + mc) (slots + ms) ∧ T'.heap = t.heap ∧ Qc (Value.ref b :: argsL).toArray st₀ (.threw x) t ∧ (∀ q ∈ L, free q.base) ∧ Steps p.tables e below (T.setTop g) ((T'.setTop { g with stack := rest }).pushFrame (.throwing x)) := by
  have cb' := cw.1
  obtain ⟨⟨-, -, -, -, -, -, hcode, -, hy, hlens, hlink⟩, hinst, hsel⟩ := cw
  obtain ⟨mk, methM, hnamed, hmethM, hstM, habM⟩ := Cond.instanceMethod_spec hinst
  obtain ⟨methM', cM, hmethM', -, -, -, -, -, -, hsigM⟩ := Cond.code_spec hnamed hcode
  cases hmethM.symm.trans hmethM'
  obtain ⟨c2, r2, m2, q1, q2, q3, q4, kP, hkP, hkPi⟩ := Cond.selects_spec hsel
  cases hcls.symm.trans q1
  cases (State.methodFound?_of_named hnamed hy).symm.trans q2
  cases hnamed.symm.trans q3
  have hselP : selectMethod e.platform s.vm cellB.cls mk = .method mk := by rw [Launch.admits_selectMethod X.admits]; exact q4
  obtain ⟨vm₁, X₁, hstep₁⟩ := X.invokevirtual hexec hown hlink hnamed hmethM hstM hkP hkPi hy (a := b) (cell := cellB) hcell
    (fun z h => by rw [h] at hobj; cases hobj) hselP hmethM habM hkP hkPi (g := g) hg (argsL := argsL) (rest := rest) (hlen.trans (hlens _ hsigM)) hstack hdg
  obtain ⟨x, T', t, L, X', e1, hq, hL, hst⟩ := back_x cb' hM hbl X₁ (g := { g with stack := rest }) (ig := .invokevirtual index) (mk := mk) (a := (Value.ref b :: argsL).toArray) hg hsize hdg hW (X₁.named hnamed) h4 h5 (hpre (T.setVm vm₁) rfl X₁.warmed)
  exact ⟨x, (T.setVm vm₁).calling { g with stack := rest } mk (Value.ref b :: argsL).toArray, T', t, L, rfl, X₁.warmed, X', e1, hq, hL, hstep₁ _ fun acts => by rw [doInvoke_state]; exact hst⟩
end ThruRun
section ThruRows
variable {Γ : GT} {cc : ByteArray} {own : String} {rm : Room} {Ts : List Cond} {cl : List vw_C} {tys : List (ClassId × FieldType)} {nl : List (String × Nat × MethodName × String)} {kc ks N pc : Nat} {ad : Nat → Nat} {σ : Nat → va_E} {L : List (Option Value)} {st rest : List Value} {Rr : String → (Nat → va_E) → Prop}
variable {y : MethodName} {bytes : ByteArray} {maxL n index : Nat} {ret : Option FieldType} {rmY : Room} {As : List Value}
def cRx (rmY rm : Room) (maxL : Nat) : Prop := rmY.cells = 1 ∧ rmY.slots = 6 ∧ rmY.frames + 1 ≤ rm.frames ∧ 8 + (maxL + 11) + rmY.locals ≤ rm.locals ∧ 1 ≤ rm.cells ∧ 6 ≤ rm.slots
/-- invokestatic of a method that throws: it comes out of this one -/
theorem g_thruS (h : Cx Γ cc own rm Ts cl tys nl) (r : RX Γ N ad Rr) (hG : GoodIn Ts Ts) (hM : CtX (gL Γ) (gD Γ) cl tys nl N ad y (.code y bytes maxL ret :: Ts) rmY As σ Rr)
    (hw : ∀ w ∈ cwsS own index y bytes maxL ret, w ∈ Ts) (hd0 : cNm y y.cls n) (hn : As.length = n) (hroom : cRx rmY rm maxL) (hst : st = As.reverse ++ rest) (hrest : (rest.map fun v => v.category).sum ≤ 8) (hd : decode cc pc = .ok (.invokestatic index, 3)) : G Γ 0 0 N ad σ pc L st := by
  have hcd : Cond.code y bytes maxL ret ∈ Ts := hw _ (by simp [cwsS, va_wsS])
  intro H locs ls hP hD hS hl T hT X
  rw [r.2.2]
  have hE := h.E
  have hF := c_in h hD hS
  have hcl := h.cL
  rw [hcl] at hP hE ⊢
  have hmon : 2 * (F0 (gm Γ) pc ls st).monitorRoom + (rest.map fun v => v.category).sum ≤ 8 := lv_room hrest
  have cw := va_cwS (index := index) n h.ts (fun w hw2 => by
    unfold va_wsS at hw2
    rcases List.mem_append.mp hw2 with z | z
    · exact hG _ (hw _ (by unfold cwsS va_wsS; exact List.mem_append_left _ z))
    · exact c_good hG hcd _ z) rfl hroom.1 hroom.2.1 hd0.2 (R := gR Γ) (by rw [h.R]; exact ⟨hroom.2.2.1, hroom.2.2.2.1⟩)
  obtain ⟨x, st₀, T', t, L2, e0, hW0, X', e1, ⟨⟨x', Xc, σ2, hx, hr, hp1, hd1, c, ce, q1, q2, q3, q4⟩, hf1, hf2⟩, hL2, hsteps⟩ := callSX X h.x h.ow cw (hM H.size) c_blind (g := F0 (gm Γ) pc ls st) rfl (hl.1.trans h.ml.symm) (argsL := As) (rest := rest) hn hst hmon (by rw [h.b]; exact hd) (by rw [h.R]; exact hroom.2.2.2.2.1) (by rw [h.R]; exact hroom.2.2.2.2.2)
    (fun U hU hW => ⟨rfl, by rw [hU, hT], by rw [hU, hT]; exact hP, EX.next hE hW hS hF (by rw [hU, hT]), hD.weaken (fun _ _ _ _ => trivial)⟩)
  cases hx
  obtain ⟨hs2, hrun, hend, hW2, hsame⟩ := X'.leaveThrown x (g := { F0 (gm Γ) pc ls st with stack := rest }) rfl rfl rfl (fun z hz => by rw [r.2.1] at hz; exact absurd hz List.not_mem_nil) r.1
  rw [e0, hT] at hf1 hf2
  have hheap : (T'.setFrames (.throwing x :: gb Γ)).heap = t.heap := e1
  refine ⟨_, hsteps.trans hs2, .threw x, hrun, hend, ⟨⟨x, Xc, σ2, rfl, hr, by rw [hheap]; exact hp1, hd1.weaken (fun _ q _ z => hF q.1 z), c, ce, ?_, by rw [hheap]; exact q2, q3, q4⟩, ?_⟩, locs ++ L2, ⟨⟨x, rfl⟩, hW2, hsame⟩, fun q hq => ?_⟩
  · rw [← hW0.alike.findClass]; exact q1
  · refine ⟨?_, fun q hq1 hq2 => ?_⟩
    · rw [hheap]; exact Nat.le_trans hS.1 hf1
    · rw [hheap, hf2 q (Nat.lt_of_lt_of_le hq1 hS.1) (fun z => hq2 (hF q z))]
      exact hS.2.1 q hq1 hq2
  · rcases List.mem_append.mp hq with z | z
    · exact hS.2.2 q z
    · exact hF _ (hL2 q z)
end ThruRows
