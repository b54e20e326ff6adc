/-! walks that write nothing, and calls that write nothing in them -/
def CtP (l : Launch) (D : va_G) (cl : List vw_C) (tys : List (ClassId × FieldType)) (nl : List (String × Nat × MethodName × String)) (N : Nat) (ad : Nat → Nat) (y : MethodName) (ws : List Cond) (rm : Room) (As : List Value) (σ : Nat → va_E) (v : Option Value) : Prop :=
  ∀ sz : Nat, Met l y ws rm (cPc D cl tys nl N ad σ sz As) (fun _ st oc t => oc = .returned v ∧ t.heap = st.heap) 0 0 (fun _ => False)
def RP (Γ : GT) (ret : Option FieldType) (v : Option Value) : Prop :=
  (gM Γ).sig.returnType = ret ∧ (gM Γ).locks = false ∧ gZ Γ = MQ (gb Γ) (fun _ st oc t => oc = .returned v ∧ t.heap = st.heap) (ga Γ) (gs Γ) 0 0 (fun _ => False)
theorem ctP_of {l : Launch} {D : va_G} {cl : List vw_C} {tys : List (ClassId × FieldType)} {nl : List (String × Nat × MethodName × String)} {N : Nat} {ad : Nat → Nat} {y : MethodName} {TB : List Cond} {rm : Room} {As : List Value} {σ : Nat → va_E} {v : Option Value} {cc : ByteArray} {n : Nat} {ret : Option FieldType}
    (hy : plainName y.cls = true) (hn : (lg_sl As).length ≤ n)
    (body : ∀ Γ : GT, gL Γ = l → gD Γ = D → gN Γ = n → Cx Γ cc y.cls rm TB cl tys nl → RP Γ ret v → PW Γ N ad σ → GP Γ 0 (inL As n) []) : CtP l D cl tys nl N ad y (.code y cc n ret :: TB) rm As σ v := by
  intro sz
  refine Met.ofW (cc := cc) (maxL := n) (ret := ret) hy rfl ?_
  intro p e s m args below meth c s₁ B hml hv
  obtain ⟨rfl, hsz, hP, hK, hD0⟩ := hv
  have hts := atoms_spec (ws := .code y cc n ret :: TB) B.pre
  have hown : s.vm.findClass y.cls = some m.cls := findClass_of_methodNamed B.named
  subst hsz
  have hD := hD0.self (sz := s.heap.size)
  rw [lg_entry_eq]
  exact body (p, l, e, rm, s, m, As.toArray, below, meth, c, MQ below (fun _ st oc t => oc = .returned v ∧ t.heap = st.heap) As.toArray s 0 0 (fun _ => False), D, cl, va_A (gl N ad σ) s.heap.size, n) rfl rfl rfl
    ⟨B.exec, B.bytes, hml, hown, rfl, fun w hw => hts w (List.mem_cons_of_mem _ hw), rfl, hK, fun q h => Or.inr h⟩ ⟨B.returns, B.notSynchronized, rfl⟩ ⟨hP, hD⟩ _ (inL_has hn)
section PureRows2
variable {Γ : GT} {cc : ByteArray} {own : String} {rm : Room} {Ts : List Cond} {cl : List vw_C} {tys : List (ClassId × FieldType)} {nl : List (String × Nat × MethodName × String)} {N pc : Nat} {ad : Nat → Nat} {σ : Nat → va_E} {L : List (Option Value)} {st : List Value}
theorem p_vret (h : Cx Γ cc own rm Ts cl tys nl) (r : RP Γ none none) (hd : decode cc pc = .ok (.return_, 1)) : GP Γ pc L [] := fun ls hl => by
  unfold gW
  rw [r.2.2]
  exact W.vret h.x h.b r.1 (fun t ht hW => ⟨rfl, ht⟩) (fun q hq => absurd hq List.not_mem_nil) hd r.2.1
theorem p_iret (h : Cx Γ cc own rm Ts cl tys nl) {v : Int32} (r : RP Γ (some .int) (some (.int v))) (hd : decode cc pc = .ok (.ireturn, 1)) : GP Γ pc L [.int v] := fun ls hl => by
  unfold gW
  rw [r.2.2]
  exact W.iret h.x h.b r.1 (fun t ht hW => ⟨rfl, ht⟩) (fun q hq => absurd hq List.not_mem_nil) hd r.2.1
theorem p_aload_n (h : Cx Γ cc own rm Ts cl tys nl) {k4 : Fin 4} {i : Nat} {x : Nat} (hd : decode cc pc = .ok (.aload_n k4, 1)) (hi : (k4 : Nat) = i) (hx : L[i]? = some (some (.ref x))) (k : GP Γ (pc + 1) L (.ref x :: st)) : GP Γ pc L (st) := fun ls hl => lv_aload_n h.x h.b hd hi (hl.2.2 _ _ hx) (k ls hl)
theorem p_aload (h : Cx Γ cc own rm Ts cl tys nl) {i : Nat} {x : Nat} (hd : decode cc pc = .ok (.aload i, 2)) (hx : L[i]? = some (some (.ref x))) (k : GP Γ (pc + 2) L (.ref x :: st)) : GP Γ pc L (st) := fun ls hl => lv_aload h.x h.b hd (hl.2.2 _ _ hx) (k ls hl)
theorem p_astore_n (h : Cx Γ cc own rm Ts cl tys nl) {k4 : Fin 4} {i : Nat} {x : Nat} (hd : decode cc pc = .ok (.astore_n k4, 1)) (hi : (k4 : Nat) = i) (ho : okS L i = true) (hn : i < gN Γ) (k : GP Γ (pc + 1) (L.set i (some (.ref x))) st) : GP Γ pc L (.ref x :: st) := fun ls hl => lv_astore_n h.x h.b hd hi hl.lv hn rfl (fun ls2 h2 => k ls2 (hasL_1 (ls := ls) ho h2))
theorem p_astore (h : Cx Γ cc own rm Ts cl tys nl) {i : Nat} {x : Nat} (hd : decode cc pc = .ok (.astore i, 2)) (ho : okS L i = true) (hn : i < gN Γ) (k : GP Γ (pc + 2) (L.set i (some (.ref x))) st) : GP Γ pc L (.ref x :: st) := fun ls hl => lv_astore h.x h.b hd hl.lv hn rfl (fun ls2 h2 => k ls2 (hasL_1 (ls := ls) ho h2))
theorem p_if_ne (h : Cx Γ cc own rm Ts cl tys nl) {x : Int32} {off : Int} {tgt : Nat} (hd : decode cc pc = .ok (.ifCond .ne off, 3)) (ht : (pc : Int) + off = (tgt : Int)) (kt : ¬ x = 0 → GP Γ tgt L st) (kf : x = 0 → GP Γ (pc + 3) L st) : GP Γ pc L (.int x :: st) := fun ls hl => lv_if_ne h.x h.b hd ht (fun q => kt q ls hl) (fun q => kf q ls hl)
theorem p_if_ge (h : Cx Γ cc own rm Ts cl tys nl) {x : Int32} {off : Int} {tgt : Nat} (hd : decode cc pc = .ok (.ifCond .ge off, 3)) (ht : (pc : Int) + off = (tgt : Int)) (kt : 0 ≤ x → GP Γ tgt L st) (kf : ¬ 0 ≤ x → GP Γ (pc + 3) L st) : GP Γ pc L (.int x :: st) := fun ls hl => lv_if_ge h.x h.b hd ht (fun q => kt q ls hl) (fun q => kf q ls hl)
theorem p_goto (h : Cx Γ cc own rm Ts cl tys nl) {off : Int} {tgt : Nat} (hd : decode cc pc = .ok (.goto off, 3)) (ht : (pc : Int) + off = (tgt : Int)) (k : GP Γ tgt L st) : GP Γ pc L st := fun ls hl => lv_goto h.x h.b hd ht (k ls hl)
theorem p_get (h : Cx Γ cc own rm Ts cl tys nl) (pw : PW Γ N ad σ) {C : String} {T : u_T} {n ci index : Nat} {fs : List Value} (hin : ∀ w ∈ u_ws C T n, w ∈ Ts) (q : Nat) (hq : q < N) (he : σ q = .inr (ci, fs)) (hc : cl[ci]? = some (C, T, n)) (j : Nat) (hj : j < n) (hlink : Cond.fieldLink own index (T j).1 (T j).2.1 (T j).2.2.1 ∈ Ts) {v : Value} (hv : fs[j]? = some v) (hd : decode cc pc = .ok (.getfield index, 3)) (k : GP Γ (pc + 3) L (v :: st)) : GP Γ pc L (.ref (ad q) :: st) := fun ls hl => va_get h.x h.b h.ts hin h.ow h.K pw.1 q (gl_he hq he) (by rw [h.cL]; exact hc) j hj (h.ts _ hlink) (fun _ z => z) hv hd (k ls hl)
theorem p_aaload (h : Cx Γ cc own rm Ts cl tys nl) (pw : PW Γ N ad σ) (q t0 : Nat) (hq : q < N) {cA : ClassId} {C : String} {n : Nat} {f : Nat → Option Nat} (he : σ q = .inl (cA, n, .inr (.inr (.inr (.inr f))))) (ht : tys[t0]? = some (cA, .object C)) {i : Int32} (hi : vp_in i n) (hd : decode cc pc = .ok (.aaload, 1)) (k : GP Γ (pc + 1) L (va_rf (f i.toNatClampNeg) :: st)) : GP Γ pc L (.int i :: .ref (ad q) :: st) := fun ls hl => va_aldq h.x h.b h.K pw.1 q t0 (gl_he hq he) ht hi hd (k ls hl)
variable {y : MethodName} {bytes : ByteArray} {maxL n index : Nat} {ret : Option FieldType} {rmY : Room} {As rest : List Value} {v : Option Value}
theorem p_callS (h : Cx Γ cc own rm Ts cl tys nl) (pw : PW Γ N ad σ) (hG : GoodIn Ts Ts) (hM : CtP (gL Γ) (gD Γ) cl tys nl N ad y (.code y bytes maxL ret :: Ts) rmY As σ v)
    (hw : ∀ w ∈ cwsS own index y bytes maxL ret, w ∈ Ts) (hd0 : cNm y y.cls n) (hn : As.length = n) (hroom : cRm rmY rm maxL 0 0) (hst : st = As.reverse ++ rest) (hrest : (rest.map fun v => v.category).sum ≤ 8) (hd : decode cc pc = .ok (.invokestatic index, 3))
    (k : GP Γ (pc + 3) L (v.toList ++ rest)) : GP Γ pc L st := by
  have hcd : Cond.code y bytes maxL ret ∈ Ts := hw _ (by simp [cwsS, va_wsS])
  intro ls hl T hT X
  obtain ⟨hP, hD⟩ := pw
  have hE := h.E
  have hS : va_S (gA Γ) (gs Γ).heap (gs Γ).heap [] := va_S.rf
  have hF := c_in h hD hS
  have hcl := h.cL
  rw [hcl] at hP hE
  have hrun := va_runS (locs := []) (cells := 0) (slots := 0) (below := gb Γ) (meth := gM Γ) (e := ge Γ) (As := As) (rest := rest) (n := n) (g := F0 (gm Γ) pc ls st) ⟨h.x, h.b, h.ml, h.ow, h.ts⟩ (hM (gs Γ).heap.size) (va_cwS (index := index) n h.ts (fun w hw2 => by
    unfold va_wsS at hw2
    rcases List.mem_append.mp hw2 with z | z
    · exact hG _ (hw _ (by unfold cwsS va_wsS; exact List.mem_append_left _ z))
    · exact c_good hG hcd _ z) rfl hroom.1 hroom.2.1 hd0.2 (R := gR Γ) (by rw [h.R]; exact ⟨hroom.2.2.1, hroom.2.2.2.1⟩)) ⟨c_blind, fun U hU hW => ⟨rfl, by rw [hU], by rw [hU]; exact hP, EX.next hE hW hS hF hU, hD.weaken (fun _ _ _ _ => trivial)⟩⟩ rfl hn hl.1 hst (lv_room hrest) hd (by rw [h.R]; exact ⟨hroom.2.2.2.2.1, hroom.2.2.2.2.2⟩)
  obtain ⟨v', st₀, t, T', L2, h0, X', hL2, e1, e2, ⟨hv, hh⟩, go⟩ := hrun T hT X
  cases hv
  have hnil : L2 = [] := List.eq_nil_iff_forall_not_mem.mpr (fun q hq => hL2 q hq)
  subst hnil
  obtain ⟨t2, a1, b1⟩ := k ls hl T' (by rw [e1, hh, h0]) X'
  exact ⟨t2, go t2 a1, b1⟩
theorem p_callV (h : Cx Γ cc own rm Ts cl tys nl) (pw : PW Γ N ad σ) (hG : GoodIn Ts Ts) {C : String} {T : u_T} {nf ci q : Nat} {fs : List Value} (hM : CtP (gL Γ) (gD Γ) cl tys nl N ad y (.code y bytes maxL ret :: Ts) rmY (.ref (ad q) :: As) σ v) (hq : q < N) (he : σ q = .inr (ci, fs)) (hc : cl[ci]? = some (C, T, nf))
    (hw : ∀ w ∈ cwsV own index C y bytes maxL ret, w ∈ Ts) (hd0 : cNm y C n) (hn : As.length = n) (hroom : cRm rmY rm maxL 0 0) (hst : st = As.reverse ++ .ref (ad q) :: rest) (hrest : (rest.map fun v => v.category).sum ≤ 8) (hd : decode cc pc = .ok (.invokevirtual index, 3))
    (k : GP Γ (pc + 3) L (v.toList ++ rest)) : GP Γ pc L st := by
  have hcd : Cond.code y bytes maxL ret ∈ Ts := hw _ (by simp [cwsV, wsV])
  intro ls hl T0 hT X
  obtain ⟨hP, hD⟩ := pw
  have hE := h.E
  have hS : va_S (gA Γ) (gs Γ).heap (gs Γ).heap [] := va_S.rf
  have hF := c_in h hD hS
  have hcl := h.cL
  rw [hcl] at hP hE
  have hrun := va_runV (locs := []) (cells := 0) (slots := 0) (below := gb Γ) (meth := gM Γ) (e := ge Γ) (As := As) (rest := rest) (b := ad q) (C := C) (n := n) (g := F0 (gm Γ) pc ls st) ⟨h.x, h.b, h.ml, h.ow, h.ts⟩ (hM (gs Γ).heap.size) (cwV (index := index) n h.ts (fun w hw2 => by
    unfold wsV at hw2
    rcases List.mem_append.mp hw2 with z | z
    · exact hG _ (hw _ (by unfold cwsV wsV; exact List.mem_append_left _ z))
    · exact c_good hG hcd _ z) rfl hroom.1 hroom.2.1 hd0 (R := gR Γ) (by rw [h.R]; exact ⟨hroom.2.2.1, hroom.2.2.2.1⟩)) ⟨c_blind, va_recv hE.1 hP hc (gl_he hq he), fun U hU hW => ⟨rfl, by rw [hU], by rw [hU]; exact hP, EX.next hE hW hS hF hU, hD.weaken (fun _ _ _ _ => trivial)⟩⟩ rfl hn hl.1 hst (lv_room hrest) hd (by rw [h.R]; exact ⟨hroom.2.2.2.2.1, hroom.2.2.2.2.2⟩)
  obtain ⟨v', st₀, t, T', L2, h0, X', hL2, e1, e2, ⟨hv, hh⟩, go⟩ := hrun T0 hT X
  cases hv
  have hnil : L2 = [] := List.eq_nil_iff_forall_not_mem.mpr (fun q hq => hL2 q hq)
  subst hnil
  obtain ⟨t2, a1, b1⟩ := k ls hl T' (by rw [e1, hh, h0]) X'
  exact ⟨t2, go t2 a1, b1⟩
end PureRows2
