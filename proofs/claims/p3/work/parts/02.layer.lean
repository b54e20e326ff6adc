/-! THE LAYER: G, a walk over one world of N cells; a row an instruction; a contract a method (Ct), a row a call -/
abbrev GT : Type := Program × Launch × Env × Room × State × MethodId × Array Value × List Frame × Method × Code × (State → Prop) × va_G × List vw_C × (Nat → Prop) × Nat
def gp (Γ : GT) : Program := Γ.1
def gL (Γ : GT) : Launch := Γ.2.1
def ge (Γ : GT) : Env := Γ.2.2.1
def gR (Γ : GT) : Room := Γ.2.2.2.1
def gs (Γ : GT) : State := Γ.2.2.2.2.1
def gm (Γ : GT) : MethodId := Γ.2.2.2.2.2.1
def ga (Γ : GT) : Array Value := Γ.2.2.2.2.2.2.1
def gb (Γ : GT) : List Frame := Γ.2.2.2.2.2.2.2.1
def gM (Γ : GT) : Method := Γ.2.2.2.2.2.2.2.2.1
def gc (Γ : GT) : Code := Γ.2.2.2.2.2.2.2.2.2.1
def gZ (Γ : GT) : State → Prop := Γ.2.2.2.2.2.2.2.2.2.2.1
def gD (Γ : GT) : va_G := Γ.2.2.2.2.2.2.2.2.2.2.2.1
def gC (Γ : GT) : List vw_C := Γ.2.2.2.2.2.2.2.2.2.2.2.2.1
def gA (Γ : GT) : Nat → Prop := Γ.2.2.2.2.2.2.2.2.2.2.2.2.2.1
def gN (Γ : GT) : Nat := Γ.2.2.2.2.2.2.2.2.2.2.2.2.2.2
def gW (Γ : GT) (H : Heap) (locs : List Loc) (kc ks : Nat) (f : JFrame) : Prop := W (gp Γ) (gL Γ) (ge Γ) (gR Γ) (gs Γ) (gm Γ) (ga Γ) (gb Γ) (gM Γ) (gc Γ) H locs kc ks (gZ Γ) f
/-- a world of N cells: cell k at the address ad k, holding σ k -/
def gl (N : Nat) (ad : Nat → Nat) (σ : Nat → va_E) : va_W := (List.range N).map fun k => (ad k, σ k)
theorem gl_at {N : Nat} {ad : Nat → Nat} {σ : Nat → va_E} {k : Nat} (h : k < N) : (gl N ad σ)[k]? = some (ad k, σ k) := by
  simp [gl, List.getElem?_map, List.getElem?_range h]
theorem gl_out {N : Nat} {ad : Nat → Nat} {σ : Nat → va_E} {k : Nat} {q : Nat × va_E} (h : (gl N ad σ)[k]? = some q) : k < N ∧ q = (ad k, σ k) := by
  have hk : k < N := by
    have := (List.getElem?_eq_some_iff.mp h).1
    simpa [gl] using this
  exact ⟨hk, (Option.some.inj ((gl_at hk).symm.trans h)).symm⟩
theorem gl_len (N : Nat) (ad : Nat → Nat) (σ : Nat → va_E) : (gl N ad σ).length = N := by simp [gl]
theorem gl_set {N : Nat} {ad : Nat → Nat} {σ : Nat → va_E} {k : Nat} (h : k < N) (e : va_E) : (gl N ad σ).set k (ad k, e) = gl N ad (va_up σ k e) := by
  apply List.ext_getElem?
  intro i
  by_cases hi : i < N
  · rw [gl_at hi]
    by_cases hk : i = k
    · subst hk
      rw [List.getElem?_set_self (by rw [gl_len]; exact h)]
      simp [va_up]
    · rw [List.getElem?_set_ne (Ne.symm hk), gl_at hi]
      simp [va_up, hk]
  · rw [List.getElem?_eq_none (by rw [List.length_set, gl_len]; omega), List.getElem?_eq_none (by rw [gl_len]; omega)]
theorem gl_push {N : Nat} {ad : Nat → Nat} {σ : Nat → va_E} {q : Nat} {e : va_E} : gl N ad σ ++ [(q, e)] = gl (N + 1) (va_up ad N q) (va_up σ N e) := by
  apply List.ext_getElem?
  intro i
  by_cases hi : i < N
  · rw [List.getElem?_append_left (by rw [gl_len]; exact hi), gl_at hi, gl_at (show i < N + 1 by omega)]
    have : i ≠ N := by omega
    simp [va_up, this]
  · by_cases hn : i = N
    · subst hn
      rw [List.getElem?_append_right (by rw [gl_len]; exact Nat.le_refl _), gl_len, Nat.sub_self, gl_at (show i < i + 1 by omega)]
      simp [va_up]
    · rw [List.getElem?_eq_none (by simp [gl_len]; omega), List.getElem?_eq_none (by rw [gl_len]; omega)]
theorem gl_congr {N : Nat} {ad ad' : Nat → Nat} {σ σ' : Nat → va_E} (h : ∀ k, k < N → ad k = ad' k ∧ σ k = σ' k) : gl N ad σ = gl N ad' σ' := by
  apply List.ext_getElem?
  intro i
  by_cases hi : i < N
  · rw [gl_at hi, gl_at hi, (h i hi).1, (h i hi).2]
  · rw [List.getElem?_eq_none (by rw [gl_len]; omega), List.getElem?_eq_none (by rw [gl_len]; omega)]
/-- the locals: a list; none: not known -/
def hasL (ls : Array Slot) (nL : Nat) (L : List (Option Value)) : Prop := ls.size = nL ∧ lv_wf ls ∧ ∀ (i : Nat) (v : Value), L[i]? = some (some v) → ls[i]? = some (.val v)
def asL (L : List (Option Value)) : List (Nat × Value) := (List.range L.length).filterMap fun i => match L[i]? with
  | some (some v) => some (i, v)
  | _ => none
theorem asL_in {L : List (Option Value)} {i : Nat} {v : Value} : (i, v) ∈ asL L ↔ L[i]? = some (some v) := by
  unfold asL
  rw [List.mem_filterMap]
  constructor
  · rintro ⟨j, -, hj⟩
    split at hj
    · rename_i w hw
      cases hj
      exact hw
    · cases hj
  · intro h
    refine ⟨i, List.mem_range.mpr (List.getElem?_eq_some_iff.mp h).1, ?_⟩
    rw [h]
theorem hasL.lv {ls : Array Slot} {nL : Nat} {L : List (Option Value)} (h : hasL ls nL L) : lv_has ls nL (asL L) := ⟨h.1, h.2.1, fun q hq => h.2.2 q.1 q.2 (asL_in.mp hq)⟩
/-- place i can be stored to: no long begins just ahead of it -/
def okS (L : List (Option Value)) (i : Nat) : Bool := match i with
  | 0 => true
  | j + 1 => match L[j]? with
    | some (some v) => !(v.category == 2)
    | _ => true
theorem okS_ok {L : List (Option Value)} {i j : Nat} {v : Value} (h : okS L i = true) (hj : j + 1 = i) (hv : L[j]? = some (some v)) : (v.category == 2) = false := by
  subst hj
  simp only [okS, hv] at h
  simpa using h
theorem hasL_1 {ls ls' : Array Slot} {nL : Nat} {L : List (Option Value)} {i : Nat} {v : Value} (ho : okS L i = true)
    (h' : lv_has ls' nL ((i, v) :: (asL L).filter (fun q => !(q.1 == i) && !(q.1 + 1 == i && q.2.category == 2)))) : hasL ls' nL (L.set i (some v)) := by
  refine ⟨h'.1, h'.2.1, fun j w hj => ?_⟩
  by_cases hi : i = j
  · subst hi
    have hlt : i < L.length := by
      have := (List.getElem?_eq_some_iff.mp hj).1
      simpa using this
    rw [List.getElem?_set_self hlt] at hj
    cases hj
    exact h'.2.2 (i, v) List.mem_cons_self
  · rw [List.getElem?_set_ne hi] at hj
    refine h'.2.2 (j, w) (List.mem_cons_of_mem _ (List.mem_filter.mpr ⟨asL_in.mpr hj, ?_⟩))
    have e1 : (j == i) = false := by simpa using (Ne.symm hi)
    by_cases h2 : j + 1 = i
    · simp [e1, okS_ok ho h2 hj]
    · have e2 : (j + 1 == i) = false := by simpa using h2
      simp [e1, e2]
theorem hasL_2 {ls ls' : Array Slot} {nL : Nat} {L : List (Option Value)} {i : Nat} {v : Value} (ho : okS L i = true)
    (h' : lv_has ls' nL ((i, v) :: (asL L).filter (fun q => !(q.1 == i) && (!(q.1 == i + 1) && !(q.1 + 1 == i && q.2.category == 2))))) : hasL ls' nL ((L.set i (some v)).set (i + 1) none) := by
  refine ⟨h'.1, h'.2.1, fun j w hj => ?_⟩
  by_cases h1 : i + 1 = j
  · subst h1
    by_cases hlt : i + 1 < (L.set i (some v)).length
    · rw [List.getElem?_set_self hlt] at hj
      cases hj
    · rw [List.getElem?_eq_none (by rw [List.length_set]; omega)] at hj
      cases hj
  · rw [List.getElem?_set_ne h1] at hj
    by_cases hi : i = j
    · subst hi
      have hlt : i < L.length := by
        have := (List.getElem?_eq_some_iff.mp hj).1
        simpa using this
      rw [List.getElem?_set_self hlt] at hj
      cases hj
      exact h'.2.2 (i, v) List.mem_cons_self
    · rw [List.getElem?_set_ne hi] at hj
      refine h'.2.2 (j, w) (List.mem_cons_of_mem _ (List.mem_filter.mpr ⟨asL_in.mpr hj, ?_⟩))
      have e1 : (j == i) = false := by simpa using (Ne.symm hi)
      have e3 : (j == i + 1) = false := by simpa using (Ne.symm h1)
      by_cases h2 : j + 1 = i
      · simp [e1, e3, okS_ok ho h2 hj]
      · have e2 : (j + 1 == i) = false := by simpa using h2
        simp [e1, e2, e3]
/-- the walk from pc with the locals L, the stack st, over the world -/
def G (Γ : GT) (kc ks N : Nat) (ad : Nat → Nat) (σ : Nat → va_E) (pc : Nat) (L : List (Option Value)) (st : List Value) : Prop :=
  ∀ (H : Heap) (locs : List Loc) (ls : Array Slot), va_P (gD Γ) (gC Γ) (gl N ad σ) H → va_D (gA Γ) (gl N ad σ) → va_S (gA Γ) (gs Γ).heap H locs → hasL ls (gN Γ) L → gW Γ H locs kc ks (F0 (gm Γ) pc ls st)
/-- what a walk stands on: the code, the class of the method, the room, the tables' words, the classes and array classes -/
def zL (C n d : String) (A : Nat → Prop) (U : State) (H : Heap) : Prop := ∃ (c : ClassId) (k : Class) (i : Nat) (f : Field) (a : Nat) (cell : Cell), (U.vm.findClass C = some c ∧ U.fieldFound? C n d = some (c, k, i, f) ∧ f.isStatic = true ∧ k.statics = some a ∧ k.staticTypes[f.slot]? = some f.type) ∧ H[a]? = some cell ∧ (cell.vm.isStatics = true ∧ cell.cls = c ∧ f.slot < cell.slots.size) ∧ ¬ A a
/-- a static field of the JDK's that nobody writes: where it lies, and that it holds a reference or null -/
def zq (C n d : String) (A : Nat → Prop) (U : State) (H : Heap) : Prop := va_Zq C n d A U H ∧ zL C n d A U H
theorem zq.moved {C n d : String} {A : Nat → Prop} {u U : State} {H : Heap} (hvm : u.vm.Alike U.vm) (h : zq C n d A u H) : zq C n d A U H := by
  obtain ⟨h0, c, k, i, f, a, cell, ⟨h1, h2, h3, h4, h5⟩, h6⟩ := h
  obtain ⟨k', hi', he⟩ := State.fieldFound?_setVm hvm h2
  exact ⟨va_Zq.moved hvm h0, c, k', i, f, a, cell, ⟨by rw [hvm.findClass]; exact h1, hi', h3, by rw [he]; exact h4, by rw [he]; exact h5⟩, h6⟩
theorem zq.kept {C n d : String} {A : Nat → Prop} {U : State} {H H1 : Heap} (h : zq C n d A U H) (hq : ∀ a : Nat, a < H.size → ¬ A a → H1[a]? = H[a]?) : zq C n d A U H1 := by
  obtain ⟨h0, c, k, i, f, a, cell, h1, h2, h3, h4⟩ := h
  exact ⟨va_Zq.kept h0 hq, c, k, i, f, a, cell, h1, by rw [hq a (Array.getElem?_eq_some_iff.mp h2).1 h4]; exact h2, h3, h4⟩
theorem zq.narrow {C n d : String} {A B : Nat → Prop} {U : State} {H : Heap} (h : zq C n d A U H) (hAB : ∀ q, B q → A q) : zq C n d B U H := by
  obtain ⟨h0, c, k, i, f, a, cell, h1, h2, h3, h4⟩ := h
  exact ⟨va_Zq.narrow h0 hAB, c, k, i, f, a, cell, h1, h2, h3, fun z => h4 (hAB _ z)⟩
def EX (D : va_G) (cl : List vw_C) (tys : List (ClassId × FieldType)) (nl : List (String × Nat × MethodName × String)) (A : Nat → Prop) (U : State) (H : Heap) : Prop :=
  va_K D cl tys U ∧ (∀ q ∈ nl, va_Nw (.methodLinkNest q.1 q.2.1 q.2.2.1 q.2.2.2) U) ∧ zq Bundle.tN "UNASSIGNED_STACK" Bundle.steD A U H ∧ zq Bundle.tN "SUPPRESSED_SENTINEL" Bundle.listD A U H
def Cx (Γ : GT) (cc : ByteArray) (own : String) (rm : Room) (Ts : List Cond) (cl : List vw_C) (tys : List (ClassId × FieldType)) (nl : List (String × Nat × MethodName × String)) : Prop :=
  (gp Γ).tables.exec = Jvm.exec ∧ (gc Γ).code = cc ∧ (gc Γ).maxLocals = gN Γ ∧ (gs Γ).vm.findClass own = some (gm Γ).cls ∧ gR Γ = rm ∧ (∀ w ∈ Ts, w.before (ga Γ) (gs Γ) = true) ∧ gC Γ = cl ∧ EX (gD Γ) (gC Γ) tys nl (gA Γ) (gs Γ) (gs Γ).heap ∧ (∀ q, (gs Γ).heap.size ≤ q → gA Γ q)
section Rows
variable {Γ : GT} {cc : ByteArray} {own : String} {rm : Room} {Ts : List Cond} {cl : List vw_C} {tys : List (ClassId × FieldType)} {nl : List (String × Nat × MethodName × String)} {kc ks N pc : Nat} {ad : Nat → Nat} {σ : Nat → va_E} {L : List (Option Value)} {st : List Value}
theorem Cx.x (h : Cx Γ cc own rm Ts cl tys nl) : (gp Γ).tables.exec = Jvm.exec := h.1
theorem Cx.b (h : Cx Γ cc own rm Ts cl tys nl) : (gc Γ).code = cc := h.2.1
theorem Cx.ml (h : Cx Γ cc own rm Ts cl tys nl) : (gc Γ).maxLocals = gN Γ := h.2.2.1
theorem Cx.ow (h : Cx Γ cc own rm Ts cl tys nl) : (gs Γ).vm.findClass own = some (gm Γ).cls := h.2.2.2.1
theorem Cx.R (h : Cx Γ cc own rm Ts cl tys nl) : gR Γ = rm := h.2.2.2.2.1
theorem Cx.ts (h : Cx Γ cc own rm Ts cl tys nl) : ∀ w ∈ Ts, w.before (ga Γ) (gs Γ) = true := h.2.2.2.2.2.1
theorem Cx.cL (h : Cx Γ cc own rm Ts cl tys nl) : gC Γ = cl := h.2.2.2.2.2.2.1
theorem Cx.E (h : Cx Γ cc own rm Ts cl tys nl) : EX (gD Γ) (gC Γ) tys nl (gA Γ) (gs Γ) (gs Γ).heap := h.2.2.2.2.2.2.2.1
theorem Cx.K (h : Cx Γ cc own rm Ts cl tys nl) : va_K (gD Γ) (gC Γ) tys (gs Γ) := h.2.2.2.2.2.2.2.1.1
theorem Cx.A (h : Cx Γ cc own rm Ts cl tys nl) : ∀ q, (gs Γ).heap.size ≤ q → gA Γ q := h.2.2.2.2.2.2.2.2
/-- another spelling of the same point -/
theorem g_at {pc' : Nat} {L' : List (Option Value)} {st' : List Value} (e1 : pc = pc') (e2 : L = L') (e3 : st = st') (k : G Γ kc ks N ad σ pc' L' st') : G Γ kc ks N ad σ pc L st := by subst e1; subst e2; subst e3; exact k
theorem g_world {σ' : Nat → va_E} (e : ∀ k, k < N → σ k = σ' k) (k : G Γ kc ks N ad σ' pc L st) : G Γ kc ks N ad σ pc L st := fun H locs ls hP hD hS hl => by
  rw [gl_congr (fun j hj => ⟨rfl, e j hj⟩)] at hP hD
  exact k H locs ls hP hD hS hl
theorem g_widen {k2 n2 : Nat} (h1 : kc ≤ k2) (h2 : ks ≤ n2) (k : G Γ k2 n2 N ad σ pc L st) : G Γ kc ks N ad σ pc L st := fun H locs ls hP hD hS hl => W.widen h1 h2 (k H locs ls hP hD hS hl)
/-- fewer locals are known -/
theorem g_less {L' : List (Option Value)} (h : ∀ (i : Nat) (v : Value), L'[i]? = some (some v) → L[i]? = some (some v)) (k : G Γ kc ks N ad σ pc L' st) : G Γ kc ks N ad σ pc L st := fun H locs ls hP hD hS hl => k H locs ls hP hD hS ⟨hl.1, hl.2.1, fun i v hi => hl.2.2 i v (h i v hi)⟩
theorem g_iadd (h : Cx Γ cc own rm Ts cl tys nl) {x y : Int32} (hd : decode cc pc = .ok (.iadd, 1)) (k : G Γ kc ks N ad σ (pc + 1) L (.int (x + y) :: st)) : G Γ kc ks N ad σ pc L (.int y :: .int x :: st) := fun H locs ls hP hD hS hl => lv_iadd h.x h.b hd (k H locs ls hP hD hS hl)
theorem g_isub (h : Cx Γ cc own rm Ts cl tys nl) {x y : Int32} (hd : decode cc pc = .ok (.isub, 1)) (k : G Γ kc ks N ad σ (pc + 1) L (.int (x - y) :: st)) : G Γ kc ks N ad σ pc L (.int y :: .int x :: st) := fun H locs ls hP hD hS hl => lv_isub h.x h.b hd (k H locs ls hP hD hS hl)
theorem g_imul (h : Cx Γ cc own rm Ts cl tys nl) {x y : Int32} (hd : decode cc pc = .ok (.imul, 1)) (k : G Γ kc ks N ad σ (pc + 1) L (.int (x * y) :: st)) : G Γ kc ks N ad σ pc L (.int y :: .int x :: st) := fun H locs ls hP hD hS hl => lv_imul h.x h.b hd (k H locs ls hP hD hS hl)
theorem g_iand (h : Cx Γ cc own rm Ts cl tys nl) {x y : Int32} (hd : decode cc pc = .ok (.iand, 1)) (k : G Γ kc ks N ad σ (pc + 1) L (.int (x &&& y) :: st)) : G Γ kc ks N ad σ pc L (.int y :: .int x :: st) := fun H locs ls hP hD hS hl => lv_iand h.x h.b hd (k H locs ls hP hD hS hl)
theorem g_ior (h : Cx Γ cc own rm Ts cl tys nl) {x y : Int32} (hd : decode cc pc = .ok (.ior, 1)) (k : G Γ kc ks N ad σ (pc + 1) L (.int (x ||| y) :: st)) : G Γ kc ks N ad σ pc L (.int y :: .int x :: st) := fun H locs ls hP hD hS hl => lv_ior h.x h.b hd (k H locs ls hP hD hS hl)
theorem g_ixor (h : Cx Γ cc own rm Ts cl tys nl) {x y : Int32} (hd : decode cc pc = .ok (.ixor, 1)) (k : G Γ kc ks N ad σ (pc + 1) L (.int (x ^^^ y) :: st)) : G Γ kc ks N ad σ pc L (.int y :: .int x :: st) := fun H locs ls hP hD hS hl => lv_ixor h.x h.b hd (k H locs ls hP hD hS hl)
theorem g_ladd (h : Cx Γ cc own rm Ts cl tys nl) {x y : Int64} (hd : decode cc pc = .ok (.ladd, 1)) (k : G Γ kc ks N ad σ (pc + 1) L (.long (x + y) :: st)) : G Γ kc ks N ad σ pc L (.long y :: .long x :: st) := fun H locs ls hP hD hS hl => lv_ladd h.x h.b hd (k H locs ls hP hD hS hl)
theorem g_lsub (h : Cx Γ cc own rm Ts cl tys nl) {x y : Int64} (hd : decode cc pc = .ok (.lsub, 1)) (k : G Γ kc ks N ad σ (pc + 1) L (.long (x - y) :: st)) : G Γ kc ks N ad σ pc L (.long y :: .long x :: st) := fun H locs ls hP hD hS hl => lv_lsub h.x h.b hd (k H locs ls hP hD hS hl)
theorem g_lmul (h : Cx Γ cc own rm Ts cl tys nl) {x y : Int64} (hd : decode cc pc = .ok (.lmul, 1)) (k : G Γ kc ks N ad σ (pc + 1) L (.long (x * y) :: st)) : G Γ kc ks N ad σ pc L (.long y :: .long x :: st) := fun H locs ls hP hD hS hl => lv_lmul h.x h.b hd (k H locs ls hP hD hS hl)
theorem g_idiv (h : Cx Γ cc own rm Ts cl tys nl) {x y : Int32} (hd : decode cc pc = .ok (.idiv, 1)) (hne : ¬ y = 0) (k : G Γ kc ks N ad σ (pc + 1) L (.int (x / y) :: st)) : G Γ kc ks N ad σ pc L (.int y :: .int x :: st) := fun H locs ls hP hD hS hl => lv_idiv h.x h.b hd hne (k H locs ls hP hD hS hl)
theorem g_irem (h : Cx Γ cc own rm Ts cl tys nl) {x y : Int32} (hd : decode cc pc = .ok (.irem, 1)) (hne : ¬ y = 0) (k : G Γ kc ks N ad σ (pc + 1) L (.int (x - x / y * y) :: st)) : G Γ kc ks N ad σ pc L (.int y :: .int x :: st) := fun H locs ls hP hD hS hl => lv_irem h.x h.b hd hne (k H locs ls hP hD hS hl)
theorem g_ineg (h : Cx Γ cc own rm Ts cl tys nl) {x : Int32} (hd : decode cc pc = .ok (.ineg, 1)) (k : G Γ kc ks N ad σ (pc + 1) L (.int (-x) :: st)) : G Γ kc ks N ad σ pc L (.int x :: st) := fun H locs ls hP hD hS hl => lv_ineg h.x h.b hd (k H locs ls hP hD hS hl)
theorem g_i2l (h : Cx Γ cc own rm Ts cl tys nl) {x : Int32} (hd : decode cc pc = .ok (.i2l, 1)) (k : G Γ kc ks N ad σ (pc + 1) L (.long x.toInt64 :: st)) : G Γ kc ks N ad σ pc L (.int x :: st) := fun H locs ls hP hD hS hl => lv_i2l h.x h.b hd rfl (k H locs ls hP hD hS hl)
theorem g_l2i (h : Cx Γ cc own rm Ts cl tys nl) {x : Int64} (hd : decode cc pc = .ok (.l2i, 1)) (k : G Γ kc ks N ad σ (pc + 1) L (.int x.toInt32 :: st)) : G Γ kc ks N ad σ pc L (.long x :: st) := fun H locs ls hP hD hS hl => lv_l2i h.x h.b hd rfl (k H locs ls hP hD hS hl)
theorem g_iconst (h : Cx Γ cc own rm Ts cl tys nl) {n : Int} {v : Int32} (hd : decode cc pc = .ok (.iconst n, 1)) (hv : Int32.ofInt n = v) (k : G Γ kc ks N ad σ (pc + 1) L (.int v :: st)) : G Γ kc ks N ad σ pc L (st) := fun H locs ls hP hD hS hl => lv_iconst h.x h.b hd hv (k H locs ls hP hD hS hl)
theorem g_bipush (h : Cx Γ cc own rm Ts cl tys nl) {n : Int} {v : Int32} (hd : decode cc pc = .ok (.bipush n, 2)) (hv : (Int8.ofInt n).toInt32 = v) (k : G Γ kc ks N ad σ (pc + 2) L (.int v :: st)) : G Γ kc ks N ad σ pc L (st) := fun H locs ls hP hD hS hl => lv_bipush h.x h.b hd hv (k H locs ls hP hD hS hl)
theorem g_sipush (h : Cx Γ cc own rm Ts cl tys nl) {n : Int} {v : Int32} (hd : decode cc pc = .ok (.sipush n, 3)) (hv : (Int16.ofInt n).toInt32 = v) (k : G Γ kc ks N ad σ (pc + 3) L (.int v :: st)) : G Γ kc ks N ad σ pc L (st) := fun H locs ls hP hD hS hl => lv_sipush h.x h.b hd hv (k H locs ls hP hD hS hl)
theorem g_lconst (h : Cx Γ cc own rm Ts cl tys nl) {n : Fin 2} {v : Int64} (hd : decode cc pc = .ok (.lconst n, 1)) (hv : Int64.ofNat (n : Nat) = v) (k : G Γ kc ks N ad σ (pc + 1) L (.long v :: st)) : G Γ kc ks N ad σ pc L (st) := fun H locs ls hP hD hS hl => lv_lconst h.x h.b hd hv (k H locs ls hP hD hS hl)
theorem g_ldc (h : Cx Γ cc own rm Ts cl tys nl) {index : Nat} {v : Int32} (hd : decode cc pc = .ok (.ldc index, 2)) (hw : Jvm.Cond.constant own index v ∈ Ts) (k : G Γ kc ks N ad σ (pc + 2) L (.int v :: st)) : G Γ kc ks N ad σ pc L (st) := fun H locs ls hP hD hS hl => lv_ldc h.x h.b h.ow (h.ts _ hw) hd (k H locs ls hP hD hS hl)
theorem g_ldc2 (h : Cx Γ cc own rm Ts cl tys nl) {index : Nat} {v : Int64} (hd : decode cc pc = .ok (.ldc2_w index, 3)) (hw : Jvm.Cond.constantLong own index v ∈ Ts) (k : G Γ kc ks N ad σ (pc + 3) L (.long v :: st)) : G Γ kc ks N ad σ pc L (st) := fun H locs ls hP hD hS hl => lv_ldc2 h.x h.b h.ow (h.ts _ hw) hd (k H locs ls hP hD hS hl)
theorem g_null (h : Cx Γ cc own rm Ts cl tys nl) (hd : decode cc pc = .ok (.aconst_null, 1)) (k : G Γ kc ks N ad σ (pc + 1) L (.null :: st)) : G Γ kc ks N ad σ pc L (st) := fun H locs ls hP hD hS hl => lv_null h.x h.b hd (k H locs ls hP hD hS hl)
theorem g_iload_n (h : Cx Γ cc own rm Ts cl tys nl) {k4 : Fin 4} {i : Nat} {x : Int32} (hd : decode cc pc = .ok (.iload_n k4, 1)) (hi : (k4 : Nat) = i) (hx : L[i]? = some (some (.int x))) (k : G Γ kc ks N ad σ (pc + 1) L (.int x :: st)) : G Γ kc ks N ad σ pc L (st) := fun H locs ls hP hD hS hl => lv_iload_n h.x h.b hd hi (hl.2.2 _ _ hx) (k H locs ls hP hD hS hl)
theorem g_iload (h : Cx Γ cc own rm Ts cl tys nl) {i : Nat} {x : Int32} (hd : decode cc pc = .ok (.iload i, 2)) (hx : L[i]? = some (some (.int x))) (k : G Γ kc ks N ad σ (pc + 2) L (.int x :: st)) : G Γ kc ks N ad σ pc L (st) := fun H locs ls hP hD hS hl => lv_iload h.x h.b hd (hl.2.2 _ _ hx) (k H locs ls hP hD hS hl)
theorem g_istore_n (h : Cx Γ cc own rm Ts cl tys nl) {k4 : Fin 4} {i : Nat} {x : Int32} (hd : decode cc pc = .ok (.istore_n k4, 1)) (hi : (k4 : Nat) = i) (ho : okS L i = true) (hn : i < gN Γ) (k : G Γ kc ks N ad σ (pc + 1) (L.set i (some (.int x))) st) : G Γ kc ks N ad σ pc L (.int x :: st) := fun H locs ls hP hD hS hl => lv_istore_n h.x h.b hd hi hl.lv hn rfl (fun ls2 h2 => k H locs ls2 hP hD hS (hasL_1 (ls := ls) ho h2))
theorem g_istore (h : Cx Γ cc own rm Ts cl tys nl) {i : Nat} {x : Int32} (hd : decode cc pc = .ok (.istore i, 2)) (ho : okS L i = true) (hn : i < gN Γ) (k : G Γ kc ks N ad σ (pc + 2) (L.set i (some (.int x))) st) : G Γ kc ks N ad σ pc L (.int x :: st) := fun H locs ls hP hD hS hl => lv_istore h.x h.b hd hl.lv hn rfl (fun ls2 h2 => k H locs ls2 hP hD hS (hasL_1 (ls := ls) ho h2))
theorem g_lload_n (h : Cx Γ cc own rm Ts cl tys nl) {k4 : Fin 4} {i : Nat} {x : Int64} (hd : decode cc pc = .ok (.lload_n k4, 1)) (hi : (k4 : Nat) = i) (hx : L[i]? = some (some (.long x))) (k : G Γ kc ks N ad σ (pc + 1) L (.long x :: st)) : G Γ kc ks N ad σ pc L (st) := fun H locs ls hP hD hS hl => lv_lload_n h.x h.b hd hi (hl.2.2 _ _ hx) (k H locs ls hP hD hS hl)
theorem g_lload (h : Cx Γ cc own rm Ts cl tys nl) {i : Nat} {x : Int64} (hd : decode cc pc = .ok (.lload i, 2)) (hx : L[i]? = some (some (.long x))) (k : G Γ kc ks N ad σ (pc + 2) L (.long x :: st)) : G Γ kc ks N ad σ pc L (st) := fun H locs ls hP hD hS hl => lv_lload h.x h.b hd (hl.2.2 _ _ hx) (k H locs ls hP hD hS hl)
theorem g_lstore_n (h : Cx Γ cc own rm Ts cl tys nl) {k4 : Fin 4} {i : Nat} {x : Int64} (hd : decode cc pc = .ok (.lstore_n k4, 1)) (hi : (k4 : Nat) = i) (ho : okS L i = true) (hn : i + 1 < gN Γ) (k : G Γ kc ks N ad σ (pc + 1) ((L.set i (some (.long x))).set (i + 1) none) st) : G Γ kc ks N ad σ pc L (.long x :: st) := fun H locs ls hP hD hS hl => lv_lstore_n h.x h.b hd hi hl.lv hn rfl (fun ls2 h2 => k H locs ls2 hP hD hS (hasL_2 (ls := ls) ho h2))
theorem g_lstore (h : Cx Γ cc own rm Ts cl tys nl) {i : Nat} {x : Int64} (hd : decode cc pc = .ok (.lstore i, 2)) (ho : okS L i = true) (hn : i + 1 < gN Γ) (k : G Γ kc ks N ad σ (pc + 2) ((L.set i (some (.long x))).set (i + 1) none) st) : G Γ kc ks N ad σ pc L (.long x :: st) := fun H locs ls hP hD hS hl => lv_lstore h.x h.b hd hl.lv hn rfl (fun ls2 h2 => k H locs ls2 hP hD hS (hasL_2 (ls := ls) ho h2))
theorem g_aload_n (h : Cx Γ cc own rm Ts cl tys nl) {k4 : Fin 4} {i : Nat} {x : Nat} (hd : decode cc pc = .ok (.aload_n k4, 1)) (hi : (k4 : Nat) = i) (hx : L[i]? = some (some (.ref x))) (k : G Γ kc ks N ad σ (pc + 1) L (.ref x :: st)) : G Γ kc ks N ad σ pc L (st) := fun H locs ls hP hD hS hl => lv_aload_n h.x h.b hd hi (hl.2.2 _ _ hx) (k H locs ls hP hD hS hl)
theorem g_aload (h : Cx Γ cc own rm Ts cl tys nl) {i : Nat} {x : Nat} (hd : decode cc pc = .ok (.aload i, 2)) (hx : L[i]? = some (some (.ref x))) (k : G Γ kc ks N ad σ (pc + 2) L (.ref x :: st)) : G Γ kc ks N ad σ pc L (st) := fun H locs ls hP hD hS hl => lv_aload h.x h.b hd (hl.2.2 _ _ hx) (k H locs ls hP hD hS hl)
theorem g_astore_n (h : Cx Γ cc own rm Ts cl tys nl) {k4 : Fin 4} {i : Nat} {x : Nat} (hd : decode cc pc = .ok (.astore_n k4, 1)) (hi : (k4 : Nat) = i) (ho : okS L i = true) (hn : i < gN Γ) (k : G Γ kc ks N ad σ (pc + 1) (L.set i (some (.ref x))) st) : G Γ kc ks N ad σ pc L (.ref x :: st) := fun H locs ls hP hD hS hl => lv_astore_n h.x h.b hd hi hl.lv hn rfl (fun ls2 h2 => k H locs ls2 hP hD hS (hasL_1 (ls := ls) ho h2))
theorem g_astore (h : Cx Γ cc own rm Ts cl tys nl) {i : Nat} {x : Nat} (hd : decode cc pc = .ok (.astore i, 2)) (ho : okS L i = true) (hn : i < gN Γ) (k : G Γ kc ks N ad σ (pc + 2) (L.set i (some (.ref x))) st) : G Γ kc ks N ad σ pc L (.ref x :: st) := fun H locs ls hP hD hS hl => lv_astore h.x h.b hd hl.lv hn rfl (fun ls2 h2 => k H locs ls2 hP hD hS (hasL_1 (ls := ls) ho h2))
theorem g_iinc (h : Cx Γ cc own rm Ts cl tys nl) {i : Nat} {n : Int} {x v : Int32} (hd : decode cc pc = .ok (.iinc i n, 3)) (hx : L[i]? = some (some (.int x))) (hv : x + Int32.ofInt n = v) (ho : okS L i = true) (hn : i < gN Γ) (k : G Γ kc ks N ad σ (pc + 3) (L.set i (some (.int v))) st) : G Γ kc ks N ad σ pc L st := fun H locs ls hP hD hS hl => by
  obtain ⟨j, hj⟩ := List.getElem?_of_mem (asL_in.mpr hx)
  exact lv_iinc h.x h.b hd hl.lv (k := j) hj hv hn rfl (fun ls2 h2 => k H locs ls2 hP hD hS (hasL_1 (ls := ls) ho h2))
theorem g_dup (h : Cx Γ cc own rm Ts cl tys nl) {v : Value} (hd : decode cc pc = .ok (.dup, 1)) (hv : v.category = 1) (k : G Γ kc ks N ad σ (pc + 1) L (v :: v :: st)) : G Γ kc ks N ad σ pc L (v :: st) := fun H locs ls hP hD hS hl => lv_dup h.x h.b hd hv (k H locs ls hP hD hS hl)
theorem g_pop (h : Cx Γ cc own rm Ts cl tys nl) {v : Value} (hd : decode cc pc = .ok (.pop, 1)) (hv : v.category = 1) (k : G Γ kc ks N ad σ (pc + 1) L (st)) : G Γ kc ks N ad σ pc L (v :: st) := fun H locs ls hP hD hS hl => lv_pop h.x h.b hd hv (k H locs ls hP hD hS hl)
theorem g_pop2 (h : Cx Γ cc own rm Ts cl tys nl) {v : Value} (hd : decode cc pc = .ok (.pop2, 1)) (hv : v.category = 2) (k : G Γ kc ks N ad σ (pc + 1) L (st)) : G Γ kc ks N ad σ pc L (v :: st) := fun H locs ls hP hD hS hl => lv_pop2_2 h.x h.b hd hv (k H locs ls hP hD hS hl)
theorem g_dup_x1 (h : Cx Γ cc own rm Ts cl tys nl) {v u : Value} (hd : decode cc pc = .ok (.dup_x1, 1)) (hv : v.category = 1) (hu : u.category = 1) (k : G Γ kc ks N ad σ (pc + 1) L (v :: u :: v :: st)) : G Γ kc ks N ad σ pc L (v :: u :: st) := fun H locs ls hP hD hS hl => lv_dup_x1 h.x h.b hd hv hu (k H locs ls hP hD hS hl)
theorem g_dup2 (h : Cx Γ cc own rm Ts cl tys nl) {v u : Value} (hd : decode cc pc = .ok (.dup2, 1)) (hv : v.category = 1) (hu : u.category = 1) (k : G Γ kc ks N ad σ (pc + 1) L (v :: u :: v :: u :: st)) : G Γ kc ks N ad σ pc L (v :: u :: st) := fun H locs ls hP hD hS hl => lv_dup2_11 h.x h.b hd hv hu (k H locs ls hP hD hS hl)
theorem g_dup2l (h : Cx Γ cc own rm Ts cl tys nl) {v : Value} (hd : decode cc pc = .ok (.dup2, 1)) (hv : v.category = 2) (k : G Γ kc ks N ad σ (pc + 1) L (v :: v :: st)) : G Γ kc ks N ad σ pc L (v :: st) := fun H locs ls hP hD hS hl => lv_dup2_2 h.x h.b hd hv (k H locs ls hP hD hS hl)
theorem g_dup2_x1 (h : Cx Γ cc own rm Ts cl tys nl) {v u : Value} (hd : decode cc pc = .ok (.dup2_x1, 1)) (hv : v.category = 2) (hu : u.category = 1) (k : G Γ kc ks N ad σ (pc + 1) L (v :: u :: v :: st)) : G Γ kc ks N ad σ pc L (v :: u :: st) := fun H locs ls hP hD hS hl => lv_dup2_x1_2 h.x h.b hd hv hu (k H locs ls hP hD hS hl)
theorem g_if_eq (h : Cx Γ cc own rm Ts cl tys nl) {x : Int32} {off : Int} {tgt : Nat} (hd : decode cc pc = .ok (.ifCond .eq off, 3)) (ht : (pc : Int) + off = (tgt : Int)) (kt : x = 0 → G Γ kc ks N ad σ tgt L st) (kf : ¬ x = 0 → G Γ kc ks N ad σ (pc + 3) L st) : G Γ kc ks N ad σ pc L (.int x :: st) := fun H locs ls hP hD hS hl => lv_if_eq h.x h.b hd ht (fun q => kt q H locs ls hP hD hS hl) (fun q => kf (q) H locs ls hP hD hS hl)
theorem g_icmp_eq (h : Cx Γ cc own rm Ts cl tys nl) {x y : Int32} {off : Int} {tgt : Nat} (hd : decode cc pc = .ok (.if_icmp .eq off, 3)) (ht : (pc : Int) + off = (tgt : Int)) (kt : x = y → G Γ kc ks N ad σ tgt L st) (kf : ¬ x = y → G Γ kc ks N ad σ (pc + 3) L st) : G Γ kc ks N ad σ pc L (.int y :: .int x :: st) := fun H locs ls hP hD hS hl => lv_icmp_eq h.x h.b hd ht (fun q => kt q H locs ls hP hD hS hl) (fun q => kf (q) H locs ls hP hD hS hl)
theorem g_if_ne (h : Cx Γ cc own rm Ts cl tys nl) {x : Int32} {off : Int} {tgt : Nat} (hd : decode cc pc = .ok (.ifCond .ne off, 3)) (ht : (pc : Int) + off = (tgt : Int)) (kt : ¬ x = 0 → G Γ kc ks N ad σ tgt L st) (kf : x = 0 → G Γ kc ks N ad σ (pc + 3) L st) : G Γ kc ks N ad σ pc L (.int x :: st) := fun H locs ls hP hD hS hl => lv_if_ne h.x h.b hd ht (fun q => kt q H locs ls hP hD hS hl) (fun q => kf (q) H locs ls hP hD hS hl)
theorem g_icmp_ne (h : Cx Γ cc own rm Ts cl tys nl) {x y : Int32} {off : Int} {tgt : Nat} (hd : decode cc pc = .ok (.if_icmp .ne off, 3)) (ht : (pc : Int) + off = (tgt : Int)) (kt : ¬ x = y → G Γ kc ks N ad σ tgt L st) (kf : x = y → G Γ kc ks N ad σ (pc + 3) L st) : G Γ kc ks N ad σ pc L (.int y :: .int x :: st) := fun H locs ls hP hD hS hl => lv_icmp_ne h.x h.b hd ht (fun q => kt q H locs ls hP hD hS hl) (fun q => kf (q) H locs ls hP hD hS hl)
theorem g_if_lt (h : Cx Γ cc own rm Ts cl tys nl) {x : Int32} {off : Int} {tgt : Nat} (hd : decode cc pc = .ok (.ifCond .lt off, 3)) (ht : (pc : Int) + off = (tgt : Int)) (kt : x < 0 → G Γ kc ks N ad σ tgt L st) (kf : ¬ x < 0 → G Γ kc ks N ad σ (pc + 3) L st) : G Γ kc ks N ad σ pc L (.int x :: st) := fun H locs ls hP hD hS hl => lv_if_lt h.x h.b hd ht (fun q => kt q H locs ls hP hD hS hl) (fun q => kf (q) H locs ls hP hD hS hl)
theorem g_icmp_lt (h : Cx Γ cc own rm Ts cl tys nl) {x y : Int32} {off : Int} {tgt : Nat} (hd : decode cc pc = .ok (.if_icmp .lt off, 3)) (ht : (pc : Int) + off = (tgt : Int)) (kt : x < y → G Γ kc ks N ad σ tgt L st) (kf : ¬ x < y → G Γ kc ks N ad σ (pc + 3) L st) : G Γ kc ks N ad σ pc L (.int y :: .int x :: st) := fun H locs ls hP hD hS hl => lv_icmp_lt h.x h.b hd ht (fun q => kt q H locs ls hP hD hS hl) (fun q => kf (q) H locs ls hP hD hS hl)
theorem g_if_ge (h : Cx Γ cc own rm Ts cl tys nl) {x : Int32} {off : Int} {tgt : Nat} (hd : decode cc pc = .ok (.ifCond .ge off, 3)) (ht : (pc : Int) + off = (tgt : Int)) (kt : 0 ≤ x → G Γ kc ks N ad σ tgt L st) (kf : ¬ 0 ≤ x → G Γ kc ks N ad σ (pc + 3) L st) : G Γ kc ks N ad σ pc L (.int x :: st) := fun H locs ls hP hD hS hl => lv_if_ge h.x h.b hd ht (fun q => kt q H locs ls hP hD hS hl) (fun q => kf (q) H locs ls hP hD hS hl)
theorem g_icmp_ge (h : Cx Γ cc own rm Ts cl tys nl) {x y : Int32} {off : Int} {tgt : Nat} (hd : decode cc pc = .ok (.if_icmp .ge off, 3)) (ht : (pc : Int) + off = (tgt : Int)) (kt : y ≤ x → G Γ kc ks N ad σ tgt L st) (kf : ¬ y ≤ x → G Γ kc ks N ad σ (pc + 3) L st) : G Γ kc ks N ad σ pc L (.int y :: .int x :: st) := fun H locs ls hP hD hS hl => lv_icmp_ge h.x h.b hd ht (fun q => kt q H locs ls hP hD hS hl) (fun q => kf (q) H locs ls hP hD hS hl)
theorem g_if_gt (h : Cx Γ cc own rm Ts cl tys nl) {x : Int32} {off : Int} {tgt : Nat} (hd : decode cc pc = .ok (.ifCond .gt off, 3)) (ht : (pc : Int) + off = (tgt : Int)) (kt : 0 < x → G Γ kc ks N ad σ tgt L st) (kf : ¬ 0 < x → G Γ kc ks N ad σ (pc + 3) L st) : G Γ kc ks N ad σ pc L (.int x :: st) := fun H locs ls hP hD hS hl => lv_if_gt h.x h.b hd ht (fun q => kt q H locs ls hP hD hS hl) (fun q => kf (q) H locs ls hP hD hS hl)
theorem g_icmp_gt (h : Cx Γ cc own rm Ts cl tys nl) {x y : Int32} {off : Int} {tgt : Nat} (hd : decode cc pc = .ok (.if_icmp .gt off, 3)) (ht : (pc : Int) + off = (tgt : Int)) (kt : y < x → G Γ kc ks N ad σ tgt L st) (kf : ¬ y < x → G Γ kc ks N ad σ (pc + 3) L st) : G Γ kc ks N ad σ pc L (.int y :: .int x :: st) := fun H locs ls hP hD hS hl => lv_icmp_gt h.x h.b hd ht (fun q => kt q H locs ls hP hD hS hl) (fun q => kf (q) H locs ls hP hD hS hl)
theorem g_if_le (h : Cx Γ cc own rm Ts cl tys nl) {x : Int32} {off : Int} {tgt : Nat} (hd : decode cc pc = .ok (.ifCond .le off, 3)) (ht : (pc : Int) + off = (tgt : Int)) (kt : x ≤ 0 → G Γ kc ks N ad σ tgt L st) (kf : ¬ x ≤ 0 → G Γ kc ks N ad σ (pc + 3) L st) : G Γ kc ks N ad σ pc L (.int x :: st) := fun H locs ls hP hD hS hl => lv_if_le h.x h.b hd ht (fun q => kt q H locs ls hP hD hS hl) (fun q => kf (q) H locs ls hP hD hS hl)
theorem g_icmp_le (h : Cx Γ cc own rm Ts cl tys nl) {x y : Int32} {off : Int} {tgt : Nat} (hd : decode cc pc = .ok (.if_icmp .le off, 3)) (ht : (pc : Int) + off = (tgt : Int)) (kt : x ≤ y → G Γ kc ks N ad σ tgt L st) (kf : ¬ x ≤ y → G Γ kc ks N ad σ (pc + 3) L st) : G Γ kc ks N ad σ pc L (.int y :: .int x :: st) := fun H locs ls hP hD hS hl => lv_icmp_le h.x h.b hd ht (fun q => kt q H locs ls hP hD hS hl) (fun q => kf (q) H locs ls hP hD hS hl)
theorem g_goto (h : Cx Γ cc own rm Ts cl tys nl) {off : Int} {tgt : Nat} (hd : decode cc pc = .ok (.goto off, 3)) (ht : (pc : Int) + off = (tgt : Int)) (k : G Γ kc ks N ad σ tgt L st) : G Γ kc ks N ad σ pc L st := fun H locs ls hP hD hS hl => lv_goto h.x h.b hd ht (k H locs ls hP hD hS hl)
theorem g_lcmp (h : Cx Γ cc own rm Ts cl tys nl) {x y : Int64} (hd : decode cc pc = .ok (.lcmp, 1)) (k : G Γ kc ks N ad σ (pc + 1) L (.int (lg_cmp x y) :: st)) : G Γ kc ks N ad σ pc L (.long y :: .long x :: st) := fun H locs ls hP hD hS hl => W.lcmp h.x h.b hd (k H locs ls hP hD hS hl)
theorem lc_eq (x y : Int64) : lg_cmp x y = 0 ↔ x = y := by
  unfold lg_cmp
  split
  · rename_i q
    exact ⟨fun z => absurd z (by decide), fun z => by subst z; exact absurd q (Int64.lt_irrefl)⟩
  · split
    · rename_i q; exact ⟨fun _ => q, fun _ => rfl⟩
    · rename_i q; exact ⟨fun z => absurd z (by decide), fun z => absurd z q⟩
theorem lc_lt (x y : Int64) : lg_cmp x y < 0 ↔ x < y := by
  unfold lg_cmp
  split
  · rename_i q
    exact ⟨fun z => absurd z (by decide), fun z => absurd q (Int64.not_lt.mpr (Int64.le_of_lt z))⟩
  · rename_i q
    split
    · rename_i q2; subst q2; exact ⟨fun z => absurd z (by decide), fun z => absurd z Int64.lt_irrefl⟩
    · rename_i q2
      refine ⟨fun _ => ?_, fun _ => by decide⟩
      exact Int64.lt_of_le_of_ne (Int64.not_lt.mp q) q2
theorem lc_gt (x y : Int64) : 0 < lg_cmp x y ↔ y < x := by
  unfold lg_cmp
  split
  · rename_i q; exact ⟨fun _ => q, fun _ => by decide⟩
  · rename_i q
    split
    · exact ⟨fun z => absurd z (by decide), fun z => absurd z q⟩
    · exact ⟨fun z => absurd z (by decide), fun z => absurd z q⟩
theorem g_lc_eq (h : Cx Γ cc own rm Ts cl tys nl) {x y : Int64} {off : Int} {tgt : Nat} (hd : decode cc pc = .ok (.lcmp, 1)) (hd2 : decode cc (pc + 1) = .ok (.ifCond .eq off, 3)) (ht : ((pc + 1 : Nat) : Int) + off = (tgt : Int)) (kt : x = y → G Γ kc ks N ad σ tgt L st) (kf : ¬ x = y → G Γ kc ks N ad σ (pc + 1 + 3) L st) : G Γ kc ks N ad σ pc L (.long y :: .long x :: st) := g_lcmp h hd (g_if_eq h hd2 ht (fun q => kt ((lc_eq x y).mp q)) (fun q => kf (fun z => q ((lc_eq x y).mpr z))))
theorem g_lc_ne (h : Cx Γ cc own rm Ts cl tys nl) {x y : Int64} {off : Int} {tgt : Nat} (hd : decode cc pc = .ok (.lcmp, 1)) (hd2 : decode cc (pc + 1) = .ok (.ifCond .ne off, 3)) (ht : ((pc + 1 : Nat) : Int) + off = (tgt : Int)) (kt : ¬ x = y → G Γ kc ks N ad σ tgt L st) (kf : x = y → G Γ kc ks N ad σ (pc + 1 + 3) L st) : G Γ kc ks N ad σ pc L (.long y :: .long x :: st) := g_lcmp h hd (g_if_ne h hd2 ht (fun q => kt (fun z => q ((lc_eq x y).mpr z))) (fun q => kf ((lc_eq x y).mp q)))
theorem g_lc_lt (h : Cx Γ cc own rm Ts cl tys nl) {x y : Int64} {off : Int} {tgt : Nat} (hd : decode cc pc = .ok (.lcmp, 1)) (hd2 : decode cc (pc + 1) = .ok (.ifCond .lt off, 3)) (ht : ((pc + 1 : Nat) : Int) + off = (tgt : Int)) (kt : x < y → G Γ kc ks N ad σ tgt L st) (kf : ¬ x < y → G Γ kc ks N ad σ (pc + 1 + 3) L st) : G Γ kc ks N ad σ pc L (.long y :: .long x :: st) := g_lcmp h hd (g_if_lt h hd2 ht (fun q => kt ((lc_lt x y).mp q)) (fun q => kf (fun z => q ((lc_lt x y).mpr z))))
theorem g_lc_ge (h : Cx Γ cc own rm Ts cl tys nl) {x y : Int64} {off : Int} {tgt : Nat} (hd : decode cc pc = .ok (.lcmp, 1)) (hd2 : decode cc (pc + 1) = .ok (.ifCond .ge off, 3)) (ht : ((pc + 1 : Nat) : Int) + off = (tgt : Int)) (kt : y ≤ x → G Γ kc ks N ad σ tgt L st) (kf : ¬ y ≤ x → G Γ kc ks N ad σ (pc + 1 + 3) L st) : G Γ kc ks N ad σ pc L (.long y :: .long x :: st) := g_lcmp h hd (g_if_ge h hd2 ht (fun q => kt (Int64.not_lt.mp (fun z => Int32.not_lt.mpr q ((lc_lt x y).mpr z)))) (fun q => kf (fun z => q (Int32.not_lt.mp (fun y2 => Int64.not_lt.mpr z ((lc_lt x y).mp y2))))))
theorem g_lc_gt (h : Cx Γ cc own rm Ts cl tys nl) {x y : Int64} {off : Int} {tgt : Nat} (hd : decode cc pc = .ok (.lcmp, 1)) (hd2 : decode cc (pc + 1) = .ok (.ifCond .gt off, 3)) (ht : ((pc + 1 : Nat) : Int) + off = (tgt : Int)) (kt : y < x → G Γ kc ks N ad σ tgt L st) (kf : ¬ y < x → G Γ kc ks N ad σ (pc + 1 + 3) L st) : G Γ kc ks N ad σ pc L (.long y :: .long x :: st) := g_lcmp h hd (g_if_gt h hd2 ht (fun q => kt ((lc_gt x y).mp q)) (fun q => kf (fun z => q ((lc_gt x y).mpr z))))
theorem g_lc_le (h : Cx Γ cc own rm Ts cl tys nl) {x y : Int64} {off : Int} {tgt : Nat} (hd : decode cc pc = .ok (.lcmp, 1)) (hd2 : decode cc (pc + 1) = .ok (.ifCond .le off, 3)) (ht : ((pc + 1 : Nat) : Int) + off = (tgt : Int)) (kt : x ≤ y → G Γ kc ks N ad σ tgt L st) (kf : ¬ x ≤ y → G Γ kc ks N ad σ (pc + 1 + 3) L st) : G Γ kc ks N ad σ pc L (.long y :: .long x :: st) := g_lcmp h hd (g_if_le h hd2 ht (fun q => kt (Int64.not_lt.mp (fun z => Int32.not_lt.mpr q ((lc_gt x y).mpr z)))) (fun q => kf (fun z => q (Int32.not_lt.mp (fun y2 => Int64.not_lt.mpr z ((lc_gt x y).mp y2))))))
theorem g_tableIn (h : Cx Γ cc own rm Ts cl tys nl) {dflt lo hi : Int} {offs : Array Int} {len : Nat} {x : Int32} {off : Int} {tgt : Nat} (hd : decode cc pc = .ok (.tableswitch dflt lo hi offs, len)) (h1 : ¬ x.toInt < lo) (h2 : ¬ hi < x.toInt) (ho : offs[(x.toInt - lo).toNat]? = some off) (ht : (pc : Int) + off = (tgt : Int)) (k : G Γ kc ks N ad σ tgt L st) : G Γ kc ks N ad σ pc L (.int x :: st) := fun H locs ls hP hD hS hl => lv_tableIn h.x h.b hd h1 h2 ho ht (k H locs ls hP hD hS hl)
theorem g_tableOut (h : Cx Γ cc own rm Ts cl tys nl) {dflt lo hi : Int} {offs : Array Int} {len : Nat} {x : Int32} {tgt : Nat} (hd : decode cc pc = .ok (.tableswitch dflt lo hi offs, len)) (h1 : x.toInt < lo ∨ hi < x.toInt) (ht : (pc : Int) + dflt = (tgt : Int)) (k : G Γ kc ks N ad σ tgt L st) : G Γ kc ks N ad σ pc L (.int x :: st) := fun H locs ls hP hD hS hl => lv_tableOut h.x h.b hd h1 ht (k H locs ls hP hD hS hl)
theorem g_lookup (h : Cx Γ cc own rm Ts cl tys nl) {dflt : Int} {ps : Array (Int × Int)} {len : Nat} {x : Int32} {off : Int} {tgt : Nat} (hd : decode cc pc = .ok (.lookupswitch dflt ps, len)) (hp : (ps.toList.zip (ps.toList.drop 1)).all (fun (a, next) => a.1 < next.1) = true) (ho : Op.lookupswitch.offset ps.toList dflt x.toInt = off) (ht : (pc : Int) + off = (tgt : Int)) (k : G Γ kc ks N ad σ tgt L st) : G Γ kc ks N ad σ pc L (.int x :: st) := fun H locs ls hP hD hS hl => lv_lookup h.x h.b hd hp ho ht (k H locs ls hP hD hS hl)
theorem gl_he {q : Nat} {e : va_E} (hq : q < N) (he : σ q = e) : (gl N ad σ)[q]? = some (ad q, e) := by rw [gl_at hq, he]
theorem g_get (h : Cx Γ cc own rm Ts cl tys nl) {C : String} {T : u_T} {n ci index : Nat} {fs : List Value} (hin : ∀ w ∈ u_ws C T n, w ∈ Ts) (q : Nat) (hq : q < N) (he : σ q = .inr (ci, fs)) (hc : cl[ci]? = some (C, T, n)) (j : Nat) (hj : j < n) (hlink : Cond.fieldLink own index (T j).1 (T j).2.1 (T j).2.2.1 ∈ Ts) {v : Value} (hv : fs[j]? = some v) (hd : decode cc pc = .ok (.getfield index, 3)) (k : G Γ kc ks N ad σ (pc + 3) L (v :: st)) : G Γ kc ks N ad σ pc L (.ref (ad q) :: st) := fun H locs ls hP hD hS hl => va_get h.x h.b h.ts hin h.ow h.K hP q (gl_he hq he) (by rw [h.cL]; exact hc) j hj (h.ts _ hlink) (fun _ z => z) hv hd (k H locs ls hP hD hS hl)
theorem g_put (h : Cx Γ cc own rm Ts cl tys nl) {C : String} {T : u_T} {n ci index : Nat} {fs : List Value} (hin : ∀ w ∈ u_ws C T n, w ∈ Ts) (q : Nat) (hq : q < N) (he : σ q = .inr (ci, fs)) (hc : cl[ci]? = some (C, T, n)) (j : Nat) (hj : j < n) (ty0 : Nat → FieldType) (hty : ∀ k, k < n → parseFieldDescriptor (T k).2.2.1 = some (ty0 k)) (hnm : ∀ a, a < n → ∀ b, b < n → a ≠ b → (T a).2.1 ≠ (T b).2.1) (hlink : Cond.fieldLink own index (T j).1 (T j).2.1 (T j).2.2.1 ∈ Ts) (hfin : (T j).2.2.2 = false) {v : Value} (hn : narrow (ty0 j) v = v) (hfit : fits (ty0 j) v = true) (hl0 : j < fs.length) (hd : decode cc pc = .ok (.putfield index, 3)) (k : G Γ kc ks N ad (va_up σ q (.inr (ci, fs.set j v))) (pc + 3) L st) : G Γ kc ks N ad σ pc L (v :: .ref (ad q) :: st) := fun H locs ls hP hD hS hl => va_put h.x h.b h.ts hin ty0 hty hnm h.ow h.K hP hD hS q (gl_he hq he) (by rw [h.cL]; exact hc) j hj (h.ts _ hlink) (fun _ z => z) hfin (hty j hj) hn hfit hl0 hd (fun H1 locs1 hP hD hS => by rw [gl_set hq] at hP hD; exact k H1 locs1 ls hP hD hS hl)
theorem g_putF (h : Cx Γ cc own rm Ts cl tys nl) {C : String} {T : u_T} {n ci index : Nat} {fs : List Value} (hin : ∀ w ∈ u_ws C T n, w ∈ Ts) (q : Nat) (hq : q < N) (he : σ q = .inr (ci, fs)) (hc : cl[ci]? = some (C, T, n)) (j : Nat) (hj : j < n) (ty0 : Nat → FieldType) (hty : ∀ k, k < n → parseFieldDescriptor (T k).2.2.1 = some (ty0 k)) (hnm : ∀ a, a < n → ∀ b, b < n → a ≠ b → (T a).2.1 ≠ (T b).2.1) (hlink : Cond.fieldLink own index (T j).1 (T j).2.1 (T j).2.2.1 ∈ Ts) (hfin : (T j).2.2.2 = true) (hini : (gM Γ).name = "<init>") (hdecl : (T j).1 = own) {v : Value} (hn : narrow (ty0 j) v = v) (hfit : fits (ty0 j) v = true) (hl0 : j < fs.length) (hd : decode cc pc = .ok (.putfield index, 3)) (k : G Γ kc ks N ad (va_up σ q (.inr (ci, fs.set j v))) (pc + 3) L st) : G Γ kc ks N ad σ pc L (v :: .ref (ad q) :: st) := fun H locs ls hP hD hS hl => va_putF h.x h.b h.ts hin ty0 hty hnm h.ow h.K hP hD hS q (gl_he hq he) (by rw [h.cL]; exact hc) j hj (h.ts _ hlink) (fun _ z => z) hfin hini hdecl (hty j hj) hn hfit hl0 hd (fun H1 locs1 hP hD hS => by rw [gl_set hq] at hP hD; exact k H1 locs1 ls hP hD hS hl)
theorem g_laload (h : Cx Γ cc own rm Ts cl tys nl) (q t0 : Nat) (hq : q < N) {cA : ClassId} {n : Nat} {f : Nat → Int64} (he : σ q = .inl (cA, n, .inr (.inl f))) (ht : tys[t0]? = some (cA, .long)) {i : Int32} (hi : vp_in i n) (hd : decode cc pc = .ok (.laload, 1)) (k : G Γ kc ks N ad σ (pc + 1) L (.long (f i.toNatClampNeg) :: st)) : G Γ kc ks N ad σ pc L (.int i :: .ref (ad q) :: st) := fun H locs ls hP hD hS hl => va_lald h.x h.b h.K hP q t0 (gl_he hq he) ht hi hd (k H locs ls hP hD hS hl)
theorem g_iaload (h : Cx Γ cc own rm Ts cl tys nl) (q t0 : Nat) (hq : q < N) {cA : ClassId} {n : Nat} {f : Nat → Int32} (he : σ q = .inl (cA, n, .inl f)) (ht : tys[t0]? = some (cA, .int)) {i : Int32} (hi : vp_in i n) (hd : decode cc pc = .ok (.iaload, 1)) (k : G Γ kc ks N ad σ (pc + 1) L (.int (f i.toNatClampNeg) :: st)) : G Γ kc ks N ad σ pc L (.int i :: .ref (ad q) :: st) := fun H locs ls hP hD hS hl => va_iald h.x h.b h.K hP q t0 (gl_he hq he) ht hi hd (k H locs ls hP hD hS hl)
theorem g_aaload (h : Cx Γ cc own rm Ts cl tys nl) (q t0 : Nat) (hq : q < N) {cA : ClassId} {C : String} {n : Nat} {f : Nat → Option Nat} (he : σ q = .inl (cA, n, .inr (.inr (.inr (.inr f))))) (ht : tys[t0]? = some (cA, .object C)) {i : Int32} (hi : vp_in i n) (hd : decode cc pc = .ok (.aaload, 1)) (k : G Γ kc ks N ad σ (pc + 1) L (va_rf (f i.toNatClampNeg) :: st)) : G Γ kc ks N ad σ pc L (.int i :: .ref (ad q) :: st) := fun H locs ls hP hD hS hl => va_aldq h.x h.b h.K hP q t0 (gl_he hq he) ht hi hd (k H locs ls hP hD hS hl)
theorem g_lastore (h : Cx Γ cc own rm Ts cl tys nl) (q t0 : Nat) (hq : q < N) {cA : ClassId} {n : Nat} {f : Nat → Int64} (he : σ q = .inl (cA, n, .inr (.inl f))) (ht : tys[t0]? = some (cA, .long)) {i : Int32} {x : Int64} (hi : vp_in i n) (hd : decode cc pc = .ok (.lastore, 1)) (k : G Γ kc ks N ad (va_up σ q (.inl (cA, n, .inr (.inl (vp_updL f i.toNatClampNeg x))))) (pc + 1) L st) : G Γ kc ks N ad σ pc L (.long x :: .int i :: .ref (ad q) :: st) := fun H locs ls hP hD hS hl => va_last h.x h.b h.K hP hD hS q t0 (gl_he hq he) ht hi hd (fun H1 locs1 hP hD hS => by rw [gl_set hq] at hP hD; exact k H1 locs1 ls hP hD hS hl)
theorem g_iastore (h : Cx Γ cc own rm Ts cl tys nl) (q t0 : Nat) (hq : q < N) {cA : ClassId} {n : Nat} {f : Nat → Int32} (he : σ q = .inl (cA, n, .inl f)) (ht : tys[t0]? = some (cA, .int)) {i : Int32} {x : Int32} (hi : vp_in i n) (hd : decode cc pc = .ok (.iastore, 1)) (k : G Γ kc ks N ad (va_up σ q (.inl (cA, n, .inl (upd f i.toNatClampNeg x)))) (pc + 1) L st) : G Γ kc ks N ad σ pc L (.int x :: .int i :: .ref (ad q) :: st) := fun H locs ls hP hD hS hl => va_iast h.x h.b h.K hP hD hS q t0 (gl_he hq he) ht hi hd (fun H1 locs1 hP hD hS => by rw [gl_set hq] at hP hD; exact k H1 locs1 ls hP hD hS hl)
theorem g_aastore (h : Cx Γ cc own rm Ts cl tys nl) (q t0 qk : Nat) {ci : Nat} {r : vw_C} (hq : q < N) (hqk : qk < N) {cA : ClassId} {n : Nat} {vs : List Value} {f : Nat → Option Nat} (he : σ q = .inl (cA, n, .inr (.inr (.inr (.inr f))))) (ht : tys[t0]? = some (cA, .object r.1)) (hv : σ qk = .inr (ci, vs)) (hc : cl[ci]? = some r) {i : Int32} (hi : vp_in i n) (hd : decode cc pc = .ok (.aastore, 1)) (k : G Γ kc ks N ad (va_up σ q (.inl (cA, n, .inr (.inr (.inr (.inr (va_up f i.toNatClampNeg (some (ad qk))))))))) (pc + 1) L st) : G Γ kc ks N ad σ pc L (.ref (ad qk) :: .int i :: .ref (ad q) :: st) := fun H locs ls hP hD hS hl => va_astq h.x h.b h.K hP hD hS q t0 qk ci (gl_he hq he) ht (gl_he hqk hv) (by rw [h.cL]; exact hc) hi hd (fun H1 locs1 hP hD hS => by rw [gl_set hq] at hP hD; exact k H1 locs1 ls hP hD hS hl)
theorem g_alen (h : Cx Γ cc own rm Ts cl tys nl) (q t0 : Nat) (hq : q < N) {cA : ClassId} {x : vp_A} (he : σ q = .inl (cA, x)) {ty : FieldType} (ht : tys[t0]? = some (cA, ty)) {v : Int32} (hv : Int32.ofNat x.1 = v) (hd : decode cc pc = .ok (.arraylength, 1)) (k : G Γ kc ks N ad σ (pc + 1) L (.int v :: st)) : G Γ kc ks N ad σ pc L (.ref (ad q) :: st) := fun H locs ls hP hD hS hl => va_alen h.x h.b h.K hP q t0 (gl_he hq he) ht hv hd (k H locs ls hP hD hS hl)
end Rows
/-- the bundle, later and for fewer cells -/
theorem EX.next {D : va_G} {cl : List vw_C} {tys : List (ClassId × FieldType)} {nl : List (String × Nat × MethodName × String)} {A B : Nat → Prop} {s U : State} {H : Heap} {locs : List Loc} (h : EX D cl tys nl A s s.heap) (hW : s.WarmedH U.vm) (hS : va_S A s.heap H locs) (hAB : ∀ q, B q → A q) (hU : U.heap = H) : EX D cl tys nl B U U.heap := by
  obtain ⟨h1, h2, h3, h4⟩ := h
  refine ⟨va_K.moved hW.alike h1, fun q hq => va_Nw.warmM hW (h2 q hq), ?_, ?_⟩
  · rw [hU]; exact zq.narrow (zq.moved hW.alike (h3.kept hS.2.1)) hAB
  · rw [hU]; exact zq.narrow (zq.moved hW.alike (h4.kept hS.2.1)) hAB
theorem EX.blind {D : va_G} {cl : List vw_C} {tys : List (ClassId × FieldType)} {nl : List (String × Nat × MethodName × String)} {A : Nat → Prop} {U : State} {H : Heap} {g : JFrame} {mk : MethodId} {a : Array Value} (h : EX D cl tys nl A U H) : EX D cl tys nl A (U.calling g mk a) H := by
  obtain ⟨h1, h2, h3, h4⟩ := h
  exact ⟨va_K.moved (u := U) (U := U.calling g mk a) (Vm.Alike.refl U.vm) h1, fun q hq => va_Nw.same rfl (u := U) (U := U.calling g mk a) rfl (h2 q hq), zq.moved (u := U) (U := U.calling g mk a) (Vm.Alike.refl U.vm) h3, zq.moved (u := U) (U := U.calling g mk a) (Vm.Alike.refl U.vm) h4⟩
/-! contracts: a method of the world: from σ with the arguments As it returns v and leaves σ2, Rr v σ2 -/
def cPc (D : va_G) (cl : List vw_C) (tys : List (ClassId × FieldType)) (nl : List (String × Nat × MethodName × String)) (N : Nat) (ad : Nat → Nat) (σ : Nat → va_E) (sz : Nat) (As : List Value) : Array Value → State → Prop := va_Pc As (fun U => U.heap.size = sz ∧ va_P D cl (gl N ad σ) U.heap ∧ EX D cl tys nl (va_A (gl N ad σ) sz) U U.heap ∧ va_D (fun _ => True) (gl N ad σ))
def cQc (D : va_G) (cl : List vw_C) (N : Nat) (ad : Nat → Nat) (A : Nat → Prop) (Rr : Option Value → (Nat → va_E) → Prop) : Array Value → State → Outcome → State → Prop := fun _ st oc t => (∃ (v : Option Value) (σ2 : Nat → va_E), oc = .returned v ∧ Rr v σ2 ∧ va_P D cl (gl N ad σ2) t.heap ∧ va_D A (gl N ad σ2)) ∧ va_F A st t
/-- the contract of a method that makes nothing -/
def Ct (l : Launch) (D : va_G) (cl : List vw_C) (tys : List (ClassId × FieldType)) (nl : List (String × Nat × MethodName × String)) (N : Nat) (ad : Nat → Nat) (y : MethodName) (ws : List Cond) (rm : Room) (As : List Value) (σ : Nat → va_E) (Rr : Option Value → (Nat → va_E) → Prop) : Prop :=
  ∀ sz : Nat, Met l y ws rm (cPc D cl tys nl N ad σ sz As) (cQc D cl N ad (va_A (gl N ad σ) sz) Rr) 0 0 (va_A (gl N ad σ) sz)
/-- what a walk's end must be -/
def Rx (Γ : GT) (N : Nat) (ad : Nat → Nat) (ret : Option FieldType) (Rr : Option Value → (Nat → va_E) → Prop) (kc ks : Nat) : Prop :=
  (gM Γ).sig.returnType = ret ∧ (gM Γ).locks = false ∧ gZ Γ = MQ (gb Γ) (cQc (gD Γ) (gC Γ) N ad (gA Γ) Rr) (ga Γ) (gs Γ) kc ks (gA Γ)
def inL (As : List Value) (n : Nat) : List (Option Value) := (As.flatMap fun v => if v.category = 2 then [some v, none] else [some v]) ++ List.replicate (n - (lg_sl As).length) none
theorem inL_key (v : Value) : ∀ (vs : List Value) (j : Nat), (vs.flatMap fun v => if v.category = 2 then [some v, (none : Option Value)] else [some v])[j]? = some (some v) → (lg_sl vs)[j]? = some (.val v) := by
  intro vs
  induction vs with
  | nil => intro j hj; simp at hj
  | cons a r ih =>
    intro j hj
    unfold lg_sl at ih ⊢
    rw [List.flatMap_cons] at hj ⊢
    by_cases hc : a.category = 2
    · simp only [hc, if_true] at hj ⊢
      match j, hj with
      | 0, hj => simp at hj; subst hj; rfl
      | 1, hj => simp at hj
      | j + 2, hj => exact ih j (by simpa using hj)
    · simp only [hc, if_false] at hj ⊢
      match j, hj with
      | 0, hj => simp at hj; subst hj; rfl
      | j + 1, hj => exact ih j (by simpa using hj)
theorem inL_len (As : List Value) : (As.flatMap fun v => if v.category = 2 then [some v, (none : Option Value)] else [some v]).length = (lg_sl As).length := by
  unfold lg_sl
  induction As with
  | nil => rfl
  | cons a r ih =>
    rw [List.flatMap_cons, List.flatMap_cons, List.length_append, List.length_append, ih]
    by_cases hc : a.category = 2 <;> simp [hc]
theorem inL_has {As : List Value} {n : Nat} (h : (lg_sl As).length ≤ n) : hasL ((lg_sl As ++ List.replicate (n - (lg_sl As).length) Slot.unset).toArray) n (inL As n) := by
  have h0 := lv_entry As h
  refine ⟨h0.1, h0.2.1, fun i v hi => ?_⟩
  unfold inL at hi
  by_cases hj : i < (lg_sl As).length
  · rw [List.getElem?_append_left (by rw [inL_len]; exact hj)] at hi
    have := inL_key v As i hi
    simp [List.getElem?_append_left hj, this]
  · rw [List.getElem?_append_right (by rw [inL_len]; omega)] at hi
    have := List.mem_of_getElem? hi
    rw [List.mem_replicate] at this
    cases this.2
/-- a contract out of a walk -/
theorem ct_of {l : Launch} {D : va_G} {cl : List vw_C} {tys : List (ClassId × FieldType)} {nl : List (String × Nat × MethodName × String)} {N : Nat} {ad : Nat → Nat} {y : MethodName} {TB : List Cond} {rm : Room} {As : List Value} {σ : Nat → va_E} {Rr : Option Value → (Nat → va_E) → Prop} {cc : ByteArray} {n : Nat} {ret : Option FieldType}
    (hy : plainName y.cls = true) (hn : (lg_sl As).length ≤ n)
    (body : ∀ Γ : GT, gL Γ = l → gD Γ = D → gN Γ = n → Cx Γ cc y.cls rm TB cl tys nl → Rx Γ N ad ret Rr 0 0 → G Γ 0 0 N ad σ 0 (inL As n) []) : Ct l D cl tys nl N ad y (.code y cc n ret :: TB) rm As σ Rr := by
  intro sz
  refine Met.ofW (cc := cc) (maxL := n) (ret := ret) hy rfl ?_
  intro p e s m args below meth c s₁ B hml hv
  obtain ⟨rfl, hsz, hP, hK, hD0⟩ := hv
  have hts := atoms_spec (ws := .code y cc n ret :: TB) B.pre
  have hown : s.vm.findClass y.cls = some m.cls := findClass_of_methodNamed B.named
  subst hsz
  have hD := hD0.self (sz := s.heap.size)
  rw [lg_entry_eq]
  exact body (p, l, e, rm, s, m, As.toArray, below, meth, c, MQ below (cQc D cl N ad (va_A (gl N ad σ) s.heap.size) Rr) As.toArray s 0 0 (va_A (gl N ad σ) s.heap.size), D, cl, va_A (gl N ad σ) s.heap.size, n) rfl rfl rfl
    ⟨B.exec, B.bytes, hml, hown, rfl, fun w hw => hts w (List.mem_cons_of_mem _ hw), rfl, hK, fun q h => Or.inr h⟩ ⟨B.returns, B.notSynchronized, rfl⟩ s.heap [] _ hP hD va_S.rf (inL_has hn)
section Ends
variable {Γ : GT} {cc : ByteArray} {own : String} {rm : Room} {Ts : List Cond} {cl : List vw_C} {tys : List (ClassId × FieldType)} {nl : List (String × Nat × MethodName × String)} {kc ks N pc : Nat} {ad : Nat → Nat} {σ : Nat → va_E} {L : List (Option Value)} {st : List Value} {Rr : Option Value → (Nat → va_E) → Prop}
theorem g_iret (h : Cx Γ cc own rm Ts cl tys nl) (r : Rx Γ N ad (some .int) Rr kc ks) {v : Int32} (hd : decode cc pc = .ok (.ireturn, 1)) (hv : Rr (some (.int v)) σ) : G Γ kc ks N ad σ pc L [.int v] := fun H locs ls hP hD hS hl => by
  unfold gW
  rw [r.2.2]
  exact W.iret h.x h.b r.1 (fun t ht hW => ⟨⟨_, σ, rfl, hv, by rw [ht]; exact hP, hD⟩, hS.F ht⟩) hS.2.2 hd r.2.1
theorem g_zret (h : Cx Γ cc own rm Ts cl tys nl) (r : Rx Γ N ad (some .boolean) Rr kc ks) {v : Int32} (hn : narrow .boolean (.int v) = .int v) (hd : decode cc pc = .ok (.ireturn, 1)) (hv : Rr (some (.int v)) σ) : G Γ kc ks N ad σ pc L [.int v] := fun H locs ls hP hD hS hl => by
  unfold gW
  rw [r.2.2]
  exact W.zret h.x h.b r.1 hn (fun t ht hW => ⟨⟨_, σ, rfl, hv, by rw [ht]; exact hP, hD⟩, hS.F ht⟩) hS.2.2 hd r.2.1
theorem g_lret (h : Cx Γ cc own rm Ts cl tys nl) (r : Rx Γ N ad (some .long) Rr kc ks) {v : Int64} (hd : decode cc pc = .ok (.lreturn, 1)) (hv : Rr (some (.long v)) σ) : G Γ kc ks N ad σ pc L [.long v] := fun H locs ls hP hD hS hl => by
  unfold gW
  rw [r.2.2]
  exact W.lret h.x h.b r.1 (fun t ht hW => ⟨⟨_, σ, rfl, hv, by rw [ht]; exact hP, hD⟩, hS.F ht⟩) hS.2.2 hd r.2.1
theorem g_aret (h : Cx Γ cc own rm Ts cl tys nl) {C : String} (r : Rx Γ N ad (some (.object C)) Rr kc ks) {v : Nat} (hd : decode cc pc = .ok (.areturn, 1)) (hv : Rr (some (.ref v)) σ) : G Γ kc ks N ad σ pc L [.ref v] := fun H locs ls hP hD hS hl => by
  unfold gW
  rw [r.2.2]
  exact W.aret h.x h.b r.1 (Or.inl ⟨_, rfl⟩) (Or.inr ⟨_, rfl⟩) (fun t ht hW => ⟨⟨_, σ, rfl, hv, by rw [ht]; exact hP, hD⟩, hS.F ht⟩) hS.2.2 hd r.2.1
theorem g_vret (h : Cx Γ cc own rm Ts cl tys nl) (r : Rx Γ N ad (none) Rr kc ks) (hd : decode cc pc = .ok (.return_, 1)) (hv : Rr (none) σ) : G Γ kc ks N ad σ pc L [] := fun H locs ls hP hD hS hl => by
  unfold gW
  rw [r.2.2]
  exact W.vret h.x h.b r.1 (fun t ht hW => ⟨⟨_, σ, rfl, hv, by rw [ht]; exact hP, hD⟩, hS.F ht⟩) hS.2.2 hd r.2.1
end Ends
section CallRows
variable {Γ : GT} {cc : ByteArray} {own : String} {rm : Room} {Ts : List Cond} {cl : List vw_C} {tys : List (ClassId × FieldType)} {nl : List (String × Nat × MethodName × String)} {kc ks N pc : Nat} {ad : Nat → Nat} {σ : Nat → va_E} {L : List (Option Value)} {st rest : List Value} {Rr : Option Value → (Nat → va_E) → Prop}
variable {y : MethodName} {bytes : ByteArray} {maxL n index : Nat} {ret : Option FieldType} {rmY : Room} {As : List Value}
theorem c_in {H : Heap} {locs : List Loc} (h : Cx Γ cc own rm Ts cl tys nl) (hD : va_D (gA Γ) (gl N ad σ)) (hS : va_S (gA Γ) (gs Γ).heap H locs) : ∀ q, va_A (gl N ad σ) H.size q → gA Γ q := by
  intro q hq
  rcases hq with ⟨j, e, hj⟩ | hq
  · exact hD.2 j _ hj
  · exact h.A q (Nat.le_trans hS.1 hq)
/-- behind a call that has run -/
theorem g_back (h : Cx Γ cc own rm Ts cl tys nl) {a : Array Value}
    (hr : ∀ (H : Heap) (locs : List Loc) (ls : Array Slot), va_P (gD Γ) (gC Γ) (gl N ad σ) H → va_D (gA Γ) (gl N ad σ) → va_S (gA Γ) (gs Γ).heap H locs → hasL ls (gN Γ) L → va_Run (gp Γ) (gL Γ) (ge Γ) (gR Γ) (gs Γ) (gm Γ) (ga Γ) (gb Γ) (gM Γ) (gc Γ) H locs kc ks 0 0 (F0 (gm Γ) pc ls st) rest (cQc (gD Γ) (gC Γ) N ad (va_A (gl N ad σ) H.size) Rr a) (va_A (gl N ad σ) H.size))
    (k : ∀ (v : Option Value) (σ2 : Nat → va_E), Rr v σ2 → G Γ kc ks N ad σ2 (pc + 3) L (v.toList ++ rest)) : G Γ kc ks N ad σ pc L st := by
  intro H locs ls hP hD hS hl T hT X
  obtain ⟨v, st₀, t, T', L2, h0, X', hL2, e1, e2, ⟨⟨v', σ2, hv, hp, hb, hb3⟩, hz, hk⟩, go⟩ := hr H locs ls hP hD hS hl T hT X
  cases hv
  rw [h0] at hz hk
  have hF := c_in h hD hS
  obtain ⟨t2, a1, b1⟩ := k v σ2 hp T'.heap (locs ++ L2) ls (by rw [e1]; exact hb) (hb3.weaken (fun _ q _ z => hF q.1 z))
    ⟨Nat.le_trans hS.1 (by rw [e1]; exact hz), fun q h1 h2 => by
      rw [e1, hk q (Nat.lt_of_lt_of_le h1 hS.1) (fun z => h2 (hF q z))]
      exact hS.2.1 q h1 h2, fun q hq => by
      rcases List.mem_append.mp hq with z | z
      · exact hS.2.2 q z
      · exact hF _ (hL2 q z)⟩ hl T' rfl X'
  exact ⟨t2, go t2 a1, b1⟩
theorem c_blind {D : va_G} {sz : Nat} : FrameBlind (cPc D cl tys nl N ad σ sz As) := fun a U g mk q => by
  obtain ⟨q0, q1, qP, qK, qD⟩ := q
  exact ⟨q0, q1, qP, EX.blind qK, qD⟩
theorem c_good {TB : List Cond} (hG : GoodIn TB TB) (hc : Cond.code y bytes maxL ret ∈ TB) : GoodIn TB (.code y bytes maxL ret :: TB) := fun w hw => by
  rcases List.mem_cons.mp hw with rfl | z
  · exact hG _ hc
  · exact hG _ z
/-- the words of a call: the link, the method's own, its code -/
def cwsV (own : String) (index : Nat) (C : String) (y : MethodName) (bytes : ByteArray) (maxL : Nat) (ret : Option FieldType) : List Cond := wsV own index C y [.code y bytes maxL ret]
def cwsS (own : String) (index : Nat) (y : MethodName) (bytes : ByteArray) (maxL : Nat) (ret : Option FieldType) : List Cond := va_wsS own index y [.code y bytes maxL ret]
/-- what is known of a callee's name -/
def cNm (y : MethodName) (C : String) (n : Nat) : Prop := y.cls = C ∧ y.cls ≠ "java/lang/invoke/MethodHandle" ∧ y.cls ≠ "java/lang/invoke/VarHandle" ∧ (parseMethodDescriptor y.desc).map (fun d => d.parameters.length) = some n
def cRm (rmY rm : Room) (maxL kc ks : Nat) : Prop := rmY.cells = 0 ∧ rmY.slots = 0 ∧ rmY.frames + 1 ≤ rm.frames ∧ 8 + (maxL + 11) + rmY.locals ≤ rm.locals ∧ kc ≤ rm.cells ∧ ks ≤ rm.slots
/-- invokevirtual of a method of the very class of the receiver, cell q of the world -/
theorem g_callV (h : Cx Γ cc own rm Ts cl tys nl) (hG : GoodIn Ts Ts) {C : String} {T : u_T} {nf ci q : Nat} {fs : List Value} (hM : Ct (gL Γ) (gD Γ) cl tys nl N ad y (.code y bytes maxL ret :: Ts) rmY (.ref (ad q) :: As) σ Rr) (hq : q < N) (he : σ q = .inr (ci, fs)) (hc : cl[ci]? = some (C, T, nf))
    (hw : ∀ w ∈ cwsV own index C y bytes maxL ret, w ∈ Ts) (hd0 : cNm y C n) (hn : As.length = n)
    (hroom : cRm rmY rm maxL kc ks) (hst : st = As.reverse ++ .ref (ad q) :: rest) (hrest : (rest.map fun v => v.category).sum ≤ 8) (hd : decode cc pc = .ok (.invokevirtual index, 3))
    (k : ∀ (v : Option Value) (σ2 : Nat → va_E), Rr v σ2 → G Γ kc ks N ad σ2 (pc + 3) L (v.toList ++ rest)) : G Γ kc ks N ad σ pc L st := by
  have hcd : Cond.code y bytes maxL ret ∈ Ts := hw _ (by simp [cwsV, wsV])
  refine g_back h (a := (Value.ref (ad q) :: As).toArray) (fun H locs ls hP hD hS hl => ?_) k
  have hE := h.E
  have hF := c_in h hD hS
  have hcl := h.cL
  rw [hcl] at hP hE ⊢
  refine va_runV (As := As) (rest := rest) (b := ad q) (C := C) (n := n) ⟨h.x, h.b, h.ml, h.ow, h.ts⟩ (hM H.size) (cwV n h.ts ?_ rfl hroom.1 hroom.2.1 hd0 (by rw [h.R]; exact ⟨hroom.2.2.1, hroom.2.2.2.1⟩)) ⟨c_blind, va_recv hE.1 hP hc (gl_he hq he), fun U hU hW => ⟨rfl, by rw [hU], by rw [hU]; exact hP, EX.next hE hW hS hF hU, hD.weaken (fun _ _ _ _ => trivial)⟩⟩ rfl hn hl.1 hst (lv_room hrest) hd (by rw [h.R]; exact ⟨hroom.2.2.2.2.1, hroom.2.2.2.2.2⟩)
  intro w hw2
  unfold wsV at hw2
  rcases List.mem_append.mp hw2 with z | z
  · exact hG _ (hw _ (by unfold cwsV wsV; exact List.mem_append_left _ z))
  · exact c_good hG hcd _ z
/-- invokestatic of a method -/
theorem g_callS (h : Cx Γ cc own rm Ts cl tys nl) (hG : GoodIn Ts Ts) (hM : Ct (gL Γ) (gD Γ) cl tys nl N ad y (.code y bytes maxL ret :: Ts) rmY As σ Rr)
    (hw : ∀ w ∈ cwsS own index y bytes maxL ret, w ∈ Ts) (hd0 : cNm y y.cls n) (hn : As.length = n)
    (hroom : cRm rmY rm maxL kc ks) (hst : st = As.reverse ++ rest) (hrest : (rest.map fun v => v.category).sum ≤ 8) (hd : decode cc pc = .ok (.invokestatic index, 3))
    (k : ∀ (v : Option Value) (σ2 : Nat → va_E), Rr v σ2 → G Γ kc ks N ad σ2 (pc + 3) L (v.toList ++ rest)) : G Γ kc ks N ad σ pc L st := by
  have hcd : Cond.code y bytes maxL ret ∈ Ts := hw _ (by simp [cwsS, va_wsS])
  refine g_back h (a := As.toArray) (fun H locs ls hP hD hS hl => ?_) k
  have hE := h.E
  have hF := c_in h hD hS
  have hcl := h.cL
  rw [hcl] at hP hE ⊢
  refine va_runS (As := As) (rest := rest) (n := n) ⟨h.x, h.b, h.ml, h.ow, h.ts⟩ (hM H.size) (va_cwS n h.ts ?_ rfl hroom.1 hroom.2.1 hd0.2 (by rw [h.R]; exact ⟨hroom.2.2.1, hroom.2.2.2.1⟩)) ⟨c_blind, fun U hU hW => ⟨rfl, by rw [hU], by rw [hU]; exact hP, EX.next hE hW hS hF hU, hD.weaken (fun _ _ _ _ => trivial)⟩⟩ rfl hn hl.1 hst (lv_room hrest) hd (by rw [h.R]; exact ⟨hroom.2.2.2.2.1, hroom.2.2.2.2.2⟩)
  intro w hw2
  unfold va_wsS at hw2
  rcases List.mem_append.mp hw2 with z | z
  · exact hG _ (hw _ (by unfold cwsS va_wsS; exact List.mem_append_left _ z))
  · exact c_good hG hcd _ z
/-- invokestatic of a nest mate's private method -/
theorem g_callSN (h : Cx Γ cc own rm Ts cl tys nl) (hG : GoodIn Ts Ts) {host : String} (hM : Ct (gL Γ) (gD Γ) cl tys nl N ad y (.code y bytes maxL ret :: Ts) rmY As σ Rr)
    (hnl : (own, index, y, host) ∈ nl) (hcd : Cond.code y bytes maxL ret ∈ Ts) (hini : Cond.initialized y.cls ∈ Ts) (hst0 : Cond.static y ∈ Ts) (hd0 : cNm y y.cls n) (hn : As.length = n)
    (hroom : cRm rmY rm maxL kc ks) (hst : st = As.reverse ++ rest) (hrest : (rest.map fun v => v.category).sum ≤ 8) (hd : decode cc pc = .ok (.invokestatic index, 3))
    (k : ∀ (v : Option Value) (σ2 : Nat → va_E), Rr v σ2 → G Γ kc ks N ad σ2 (pc + 3) L (v.toList ++ rest)) : G Γ kc ks N ad σ pc L st := by
  refine g_back h (a := As.toArray) (fun H locs ls hP hD hS hl => ?_) k
  have hE := h.E
  have hF := c_in h hD hS
  have hcl := h.cL
  rw [hcl] at hP hE ⊢
  exact va_runSN (As := As) (rest := rest) (n := n) ⟨h.x, h.b, h.ml, h.ow, h.ts⟩ (hM H.size) ⟨va_cnB n h.ts (c_good hG hcd) rfl hroom.1 hroom.2.1 (hE.2.1 _ hnl) (h.ts _ hini) hd0.2 (by rw [h.R]; exact ⟨hroom.2.2.1, hroom.2.2.2.1⟩), h.ts _ hst0, trivial⟩ ⟨c_blind, fun U hU hW => ⟨rfl, by rw [hU], by rw [hU]; exact hP, EX.next hE hW hS hF hU, hD.weaken (fun _ _ _ _ => trivial)⟩⟩ rfl hn hl.1 hst (lv_room hrest) hd (by rw [h.R]; exact ⟨hroom.2.2.2.2.1, hroom.2.2.2.2.2⟩)
end CallRows
