/-! a callee that knows the first cells of the world alone; contracts that may make a cell; catching -/
def mrg (N1 : Nat) (τ σ : Nat → va_E) : Nat → va_E := fun k => if k < N1 then τ k else σ k
theorem pre_P {D : va_G} {cl : List vw_C} {N N1 : Nat} {ad : Nat → Nat} {σ : Nat → va_E} {H : Heap} (hN : N1 ≤ N) (hP : va_P D cl (gl N ad σ) H) : va_P D cl (gl N1 ad σ) H := fun k q hk => by
  obtain ⟨h1, h2⟩ := gl_out hk
  subst h2
  exact hP k _ (gl_at (by omega))
theorem pre_D {A : Nat → Prop} {N N1 : Nat} {ad : Nat → Nat} {σ : Nat → va_E} (hN : N1 ≤ N) (hD : va_D A (gl N ad σ)) : va_D A (gl N1 ad σ) := by
  refine ⟨fun i j x y hx hy hxy => ?_, fun k q hk => ?_⟩
  · obtain ⟨h1, h2⟩ := gl_out hx
    obtain ⟨h3, h4⟩ := gl_out hy
    subst h2; subst h4
    exact hD.1 i j _ _ (gl_at (by omega)) (gl_at (by omega)) hxy
  · obtain ⟨h1, h2⟩ := gl_out hk
    subst h2
    exact hD.2 k _ (gl_at (by omega))
theorem mrg_D {A : Nat → Prop} {N : Nat} {ad : Nat → Nat} {σ σ' : Nat → va_E} (hD : va_D A (gl N ad σ)) : va_D A (gl N ad σ') := by
  refine ⟨fun i j x y hx hy hxy => ?_, fun k q hk => ?_⟩
  · obtain ⟨h1, h2⟩ := gl_out hx
    obtain ⟨h3, h4⟩ := gl_out hy
    subst h2; subst h4
    exact hD.1 i j (ad i, σ i) (ad j, σ j) (gl_at h1) (gl_at h3) hxy
  · obtain ⟨h1, h2⟩ := gl_out hk
    subst h2
    exact hD.2 k (ad k, σ k) (gl_at h1)
theorem mrg_P {D : va_G} {cl : List vw_C} {A : Nat → Prop} {N N1 : Nat} {ad : Nat → Nat} {σ τ : Nat → va_E} {H H1 : Heap} (hP : va_P D cl (gl N ad σ) H) (hD : va_D A (gl N ad σ)) (hP1 : va_P D cl (gl N1 ad τ) H1) (hk : ∀ q : Nat, q < H.size → ¬ va_A (gl N1 ad σ) H.size q → H1[q]? = H[q]?) : va_P D cl (gl N ad (mrg N1 τ σ)) H1 := fun k q hq => by
  obtain ⟨h1, h2⟩ := gl_out hq
  subst h2
  unfold mrg
  by_cases z : k < N1
  · rw [if_pos z]
    exact hP1 k _ (gl_at z)
  · rw [if_neg z]
    have h0 := hP k _ (gl_at h1)
    refine h0.kept (hk _ h0.lt ?_)
    rintro (⟨j, e, hj⟩ | hj)
    · obtain ⟨h3, h4⟩ := gl_out hj
      have := hD.1 k j (ad k, σ k) (ad j, σ j) (gl_at h1) (gl_at (Nat.lt_of_lt_of_le h3 (by omega))) (show (ad k, σ k).1 = (ad j, σ j).1 from (Prod.mk.inj h4).1)
      omega
    · exact absurd h0.lt (Nat.not_lt.mpr hj)
/-- the classes that a catch must pass -/
def nc (A B : String) (U : State) : Prop := ∃ c d, U.vm.findClass A = some c ∧ U.vm.findClass B = some d ∧ (∃ k, U.vm.classes[d]? = some k) ∧ U.vm.assignable c d = false
theorem nc.moved {A B : String} {u U : State} (hvm : u.vm.Alike U.vm) (h : nc A B u) : nc A B U := by
  obtain ⟨c, d, h1, h2, ⟨k, h3⟩, h4⟩ := h
  obtain ⟨k', h5, -⟩ := hvm.2.2 _ _ h3
  exact ⟨c, d, by rw [hvm.findClass]; exact h1, by rw [hvm.findClass]; exact h2, ⟨k', h5⟩, by rw [hvm.assignable]; exact h4⟩
abbrev ncL : List (String × String) := [(X_ISE, X_IAE), (X_UOE, X_IAE), (X_NSE, X_IAE), (X_UOE, X_ISE)]
def ncs (U : State) : Prop := ∀ q ∈ ncL, nc q.1 q.2 U
theorem ncs.moved {u U : State} (hvm : u.vm.Alike U.vm) (h : ncs u) : ncs U := fun q hq => (h q hq).moved hvm
def cPk (D : va_G) (cl : List vw_C) (tys : List (ClassId × FieldType)) (nl : List (String × Nat × MethodName × String)) (N : Nat) (ad : Nat → Nat) (σ : Nat → va_E) (sz : Nat) (As : List Value) : Array Value → State → Prop := va_Pc As (fun U => (U.heap.size = sz ∧ va_P D cl (gl N ad σ) U.heap ∧ EX D cl tys nl (va_A (gl N ad σ) sz) U U.heap ∧ va_D (fun _ => True) (gl N ad σ)) ∧ ncs U)
/-- the contract of a method of the law's that may make one exception -/
def Ctk (l : Launch) (D : va_G) (cl : List vw_C) (tys : List (ClassId × FieldType)) (nl : List (String × Nat × MethodName × String)) (N : Nat) (ad : Nat → Nat) (y : MethodName) (ws : List Cond) (rm : Room) (As : List Value) (σ : Nat → va_E) (Rr : Option Value → (Nat → va_E) → Prop) : Prop :=
  ∀ sz : Nat, Met l y ws rm (cPk D cl tys nl N ad σ sz As) (cQc D cl N ad (va_A (gl N ad σ) sz) Rr) 1 6 (va_A (gl N ad σ) sz)
abbrev exF (h : ExceptionTableEntry) : Nat × Nat × Nat × Nat := (h.startPc, h.endPc, h.handlerPc, h.catchType)
theorem ctW_of {l : Launch} {D : va_G} {cl : List vw_C} {tys : List (ClassId × FieldType)} {nl : List (String × Nat × MethodName × String)} {N : Nat} {ad : Nat → Nat} {y : MethodName} {TB : List Cond} {rm : Room} {As : List Value} {σ : Nat → va_E} {Rr : Option Value → (Nat → va_E) → Prop} {cc : ByteArray} {n : Nat} {ret : Option FieldType} {hh : List (Nat × Nat × Nat × Nat)}
    (hy : plainName y.cls = true) (hn : (lg_sl As).length ≤ n)
    (body : ∀ Γ : GT, gL Γ = l → gD Γ = D → gN Γ = n → Cx Γ cc y.cls rm TB cl tys nl → Rx Γ N ad ret Rr 1 6 → (gc Γ).exceptionTable.toList.map exF = hh ∧ (gM Γ).code = some (gc Γ) ∧ (gs Γ).vm.method? (gm Γ) = some (gM Γ) ∧ ncs (gs Γ) → G Γ 0 0 N ad σ 0 (inL As n) []) : Ctk l D cl tys nl N ad y (.codeWith y cc n ret hh :: TB) rm As σ Rr := by
  intro sz
  refine va_MetW (cc := cc) (maxL := n) (ret := ret) (hh := hh) hy rfl ?_
  intro p e s m args below meth c s₁ B hml hv
  obtain ⟨rfl, ⟨hsz, hP, hK, hD0⟩, hnc⟩ := hv
  have hts := atoms_spec (ws := .codeWith y cc n ret hh :: TB) B.pre
  have hown : s.vm.findClass y.cls = some m.cls := findClass_of_methodNamed B.named
  subst hsz
  have hD := hD0.self (sz := s.heap.size)
  have hc2 : meth.code = some c := by
    have h1 := B.here.code
    have h2 := B.state
    rw [h2] at h1
    have h3 : s.code? m = some c := h1
    rw [State.code?_eq, B.method] at h3
    exact h3
  have hex : c.exceptionTable.toList.map exF = hh := by
    obtain ⟨m', meth', c', hm0, hm', hc', -, -, hem, -⟩ := Cond.codeWith_spec (hts _ List.mem_cons_self)
    cases B.named.symm.trans hm0
    cases B.method.symm.trans hm'
    rw [hc2] at hc'
    cases hc'
    exact hem
  rw [lg_entry_eq]
  exact body (p, l, e, rm, s, m, As.toArray, below, meth, c, MQ below (cQc D cl N ad (va_A (gl N ad σ) s.heap.size) Rr) As.toArray s 1 6 (va_A (gl N ad σ) s.heap.size), D, cl, va_A (gl N ad σ) s.heap.size, n) rfl rfl rfl
    ⟨B.exec, B.bytes, hml, hown, rfl, fun w hw => hts w (List.mem_cons_of_mem _ hw), rfl, hK, fun q h => Or.inr h⟩ ⟨B.returns, B.notSynchronized, rfl⟩ ⟨hex, hc2, B.method, hnc⟩ s.heap [] _ hP hD va_S.rf (inL_has hn)
theorem ex_split {xs : List ExceptionTableEntry} {p r : List (Nat × Nat × Nat × Nat)} {q : Nat × Nat × Nat × Nat} (h : xs.map exF = p ++ q :: r) : ∃ x1 x x2, xs = x1 ++ x :: x2 ∧ x1.map exF = p ∧ exF x = q := by
  obtain ⟨x1, y, h1, h2, h3⟩ := List.map_eq_append_iff.mp h
  obtain ⟨x, x2, h4, h5, -⟩ := List.map_eq_cons_iff.mp h3
  exact ⟨x1, x, x2, by rw [h1, h4], h2, h5⟩
