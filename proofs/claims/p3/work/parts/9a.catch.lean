/-! CATCHING: a handler is found though its class may not be resolved yet -/
theorem go_cold {e : Env} {s : State} {f : JFrame} {a : Addr} {x : ExceptionTableEntry} {t : List ExceptionTableEntry} {c : ClassId} {vm' : Vm} {Q : Handler → Pre} {E : CtlPost} {d : Bool} {acts : List Action} (hx : covers x f.pc = true) (h0 : x.catchType ≠ 0)
    (hg : (Jvm.resolveClass f.method.cls x.catchType).Gives e.toSetting s.vm (.ok c) vm') (hr : vm'.classReady f.method.cls x.catchType c) (hsz : vm'.classes.size ≤ s.vm.classes.size) :
    Sem.wp (findHandler.go f a (x :: t)) Q E e d acts s ↔ Sem.wp (findHandler.go f a (x :: t)) Q E e d acts (s.setVm vm') := by
  obtain ⟨ha, ht⟩ := hg.op (op := VmOp.resolveClass f.method.cls x.catchType) rfl
  obtain ⟨k, hkd, hres⟩ := hr
  simp only [covers] at hx
  have hvv : (s.setVm vm').setVm vm' = s.setVm vm' := rfl
  simp [findHandler.go, hx, h0, ha, ht, hsz, resolveClass_memo e hkd hres, hvv]
def FindsC (e : Env) (s : State) (f : JFrame) (a : Addr) (xs : List ExceptionTableEntry) (pc : Nat) (vm' : Vm) : Prop :=
  ∀ (Q : Handler → Pre) (E : CtlPost) (d : Bool) (acts : List Action), Sem.wp (findHandler.go f a xs) Q E e d acts s ↔ Q (.found pc) d acts (s.setVm vm')
/-- a row of the table that names a class, over this address; whether the exception is of it -/
def xRow (pl : Platform) (s : State) (own : ClassId) (pc : Nat) (ce : Cell) (b : Bool) (x : ExceptionTableEntry) : Prop :=
  covers x pc = true ∧ x.catchType ≠ 0 ∧ ∃ c, s.vm.ClassLinks pl own x.catchType c ∧ (∃ k, s.vm.classes[c]? = some k) ∧ s.vm.assignable ce.cls c = b
theorem find_rows {e : Env} {s : State} {g : JFrame} {a : Addr} {ce : Cell} (hob : ce.vm = .none) (hk : ∃ k, s.vm.classes[ce.cls]? = some k) {x : ExceptionTableEntry} {rest : List ExceptionTableEntry} (hx : xRow e.platform s g.method.cls g.pc ce true x) :
    ∀ (pre : List ExceptionTableEntry) (U : State), U.heap[a]? = some ce → s.WarmedH U.vm → (∀ y ∈ pre, xRow e.platform s g.method.cls g.pc ce false y) → ∃ vm', s.WarmedH vm' ∧ FindsC e U g a (pre ++ x :: rest) x.handlerPc vm'
  | [], U, hU, hW, _ => by
    obtain ⟨h1, h2, c, h3, ⟨kc, h4⟩, h5⟩ := hx
    obtain ⟨hg₁, hwarm₁, hready₁⟩ := State.classEntry (e := e) hW h3
    generalize U.vm.noted g.method.cls x.catchType (.cls c) = vm₁ at hg₁ hwarm₁ hready₁
    obtain ⟨k0, hk0⟩ := hk
    obtain ⟨k1, hk1, -⟩ := hwarm₁.alike.2.2 _ _ hk0
    obtain ⟨k2, hk2, -⟩ := hwarm₁.alike.2.2 _ _ h4
    have hsz : vm₁.classes.size ≤ U.vm.classes.size := (hW.alike.symm.trans hwarm₁.alike).size_le
    refine ⟨vm₁, hwarm₁, fun Q E d acts => ?_⟩
    show Sem.wp (findHandler.go g a (x :: rest)) Q E e d acts U ↔ _
    rw [go_cold h1 h2 hg₁ hready₁ hsz, Jvm.W.findHandler_go_class (s := U.setVm vm₁) (cell := ce) h1 h2 hready₁ hU (fun k => by rw [hob]; simp) ⟨k1, hk1⟩ ⟨k2, hk2⟩, if_pos (by show vm₁.assignable ce.cls c = true; rw [hwarm₁.alike.assignable]; exact h5)]
  | y :: pre, U, hU, hW, hp => by
    obtain ⟨h1, h2, c, h3, ⟨kc, h4⟩, h5⟩ := hp y List.mem_cons_self
    obtain ⟨hg₁, hwarm₁, hready₁⟩ := State.classEntry (e := e) hW h3
    generalize U.vm.noted g.method.cls y.catchType (.cls c) = vm₁ at hg₁ hwarm₁ hready₁
    have hk' := hk
    obtain ⟨k0, hk0⟩ := hk
    obtain ⟨k1, hk1, -⟩ := hwarm₁.alike.2.2 _ _ hk0
    obtain ⟨k2, hk2, -⟩ := hwarm₁.alike.2.2 _ _ h4
    have hsz : vm₁.classes.size ≤ U.vm.classes.size := (hW.alike.symm.trans hwarm₁.alike).size_le
    obtain ⟨vm', hw', hf'⟩ := find_rows hob hk' hx pre (U.setVm vm₁) hU hwarm₁ (fun z hz => hp z (List.mem_cons_of_mem _ hz))
    refine ⟨vm', hw', fun Q E d acts => ?_⟩
    show Sem.wp (findHandler.go g a (y :: (pre ++ x :: rest))) Q E e d acts U ↔ _
    rw [go_cold h1 h2 hg₁ hready₁ hsz, Jvm.W.findHandler_go_class (s := U.setVm vm₁) (cell := ce) h1 h2 hready₁ hU (fun k => by rw [hob]; simp) ⟨k1, hk1⟩ ⟨k2, hk2⟩, if_neg (by show ¬ vm₁.assignable ce.cls c = true; rw [hwarm₁.alike.assignable, h5]; decide)]
    exact hf' Q E d acts
theorem step_caught {e : Env} {s : State} {a : Addr} {f : JFrame} {r : List Frame} {pc : Nat} {vm' : Vm} (hfind : ∀ (Q : Handler → Pre) (E : CtlPost) (d : Bool) (acts : List Action), Sem.wp (findHandler f a) Q E e d acts s ↔ Q (.found pc) d acts (s.setVm vm')) :
    (stepThrowing e s a (.java f :: r)).Is ((s.setVm vm').setFrames (.java { f with pc := pc, stack := [.ref a] } :: r)) [] := by
  simp only [stepThrowing, searchFrame, vmDo]
  generalize hr : Sem.go _ e false [] s = res
  obtain ⟨as, rfl, ha⟩ := Sem.eq_ok_of hr (a := Handler.found pc) (s' := s.setVm vm') (acts' := []) (by simp [hfind _ _ _ _])
  exact ⟨rfl, ha⟩
theorem steps_caught {tb : Tables} {e : Env} {s target : State} {g : JFrame} {c : Code} {below : List Frame} {a : Addr} {meth : Method} {pc : Nat} {vm' : Vm} (h : At s g.method c below) (hm : s.vm.method? g.method = some meth) (hc : meth.code = some c)
    (hfind : FindsC e ((s.setTop g).pushFrame (.throwing a)) g a c.exceptionTable.toList pc vm') (hrest : Steps tb e below ((s.setVm vm').setTop { g with pc := pc, stack := [.ref a] }) target) :
    Steps tb e below ((s.setTop g).pushFrame (.throwing a)) target := by
  obtain ⟨hgo, hw⟩ := h.throwing a
  refine Steps.head hgo hw ?_
  have hf : ∀ (Q : Handler → Pre) (E : CtlPost) (d : Bool) (acts : List Action), Sem.wp (findHandler g a) Q E e d acts ((s.setTop g).pushFrame (.throwing a)) ↔ Q (.found pc) d acts (((s.setTop g).pushFrame (.throwing a)).setVm vm') := fun Q E d acts => by
    rw [Jvm.W.findHandler_eq (s := (s.setTop g).pushFrame (.throwing a)) (meth := meth) (code := c) (by rw [Stand.throwing_vm]; exact hm) hc]
    exact hfind Q E d acts
  rw [stepThread_throwing (frames_entered h.top _), (step_caught (s := (s.setTop g).pushFrame (.throwing a)) hf).1]
  obtain ⟨g₀, hg⟩ := Option.isSome_iff_exists.mp h.top
  obtain ⟨r, hr⟩ := State.topJava?_eq_some.mp hg
  have e1 : ((((s.setTop g).pushFrame (.throwing a)).setVm vm').setFrames (.java { g with pc := pc, stack := [.ref a] } :: s.frames.tail)) = (s.setVm vm').setTop { g with pc := pc, stack := [.ref a] } := by
    have hr' : (s.setVm vm').frames = .java g₀ :: r := hr
    rw [State.setTop_of_frames _ hr', hr]
    show (((s.setTop g).pushFrame (.throwing a)).setFrames _).setVm vm' = (s.setFrames _).setVm vm'
    rw [State.pushFrame, State.setFrames_setFrames, State.setTop_of_frames _ hr, State.setFrames_setFrames]
    rfl
  rw [e1]
  exact hrest
