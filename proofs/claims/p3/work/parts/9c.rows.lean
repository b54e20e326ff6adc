section PrefixRows
variable {Γ : GT} {cc : ByteArray} {own : String} {rm : Room} {Ts : List Cond} {cl : List vw_C} {tys : List (ClassId × FieldType)} {nl : List (String × Nat × MethodName × String)} {kc ks N N1 pc : Nat} {ad : Nat → Nat} {σ : Nat → va_E} {L : List (Option Value)} {st rest : List Value}
variable {y : MethodName} {bytes : ByteArray} {maxL n index : Nat} {ret : Option FieldType} {rmY : Room} {As : List Value}
/-- invokevirtual of a method whose contract knows the first N1 cells -/
theorem g_callVP (h : Cx Γ cc own rm Ts cl tys nl) (hG : GoodIn Ts Ts) (hN1 : N1 ≤ N) {Rr : Option Value → (Nat → va_E) → Prop} {C : String} {T : u_T} {nf ci q : Nat} {fs : List Value} (hM : Ct (gL Γ) (gD Γ) cl tys nl N1 ad y (.code y bytes maxL ret :: Ts) rmY (.ref (ad q) :: As) σ Rr) (hq : q < N1) (he : σ q = .inr (ci, fs)) (hc : cl[ci]? = some (C, T, nf))
    (hw : ∀ w ∈ cwsV own index C y bytes maxL ret, w ∈ Ts) (hd0 : cNm y C n) (hn : As.length = n) (hroom : cRm rmY rm maxL kc ks) (hst : st = As.reverse ++ .ref (ad q) :: rest) (hrest : (rest.map fun v => v.category).sum ≤ 8) (hd : decode cc pc = .ok (.invokevirtual index, 3))
    (k : ∀ (v : Option Value) (σ2 : Nat → va_E), Rr v σ2 → G Γ kc ks N ad (mrg N1 σ2 σ) (pc + 3) L (v.toList ++ rest)) : G Γ kc ks N ad σ pc L st := by
  have hcd : Cond.code y bytes maxL ret ∈ Ts := hw _ (by simp [cwsV, wsV])
  intro H locs ls hP hD hS hl T0 hT X
  have hP1 := pre_P hN1 hP
  have hD1 := pre_D hN1 hD
  have hE := h.E
  have hF := c_in h hD1 hS
  have hcl := h.cL
  rw [hcl] at hP hP1 hE
  have hrun := va_runV (locs := locs) (cells := kc) (slots := ks) (below := gb Γ) (meth := gM Γ) (e := ge Γ) (As := As) (rest := rest) (b := ad q) (C := C) (n := n) (g := F0 (gm Γ) pc ls st) ⟨h.x, h.b, h.ml, h.ow, h.ts⟩ (hM H.size) (cwV (index := index) n h.ts (fun w hw2 => by
    unfold wsV at hw2
    rcases List.mem_append.mp hw2 with z | z
    · exact hG _ (hw _ (by unfold cwsV wsV; exact List.mem_append_left _ z))
    · exact c_good hG hcd _ z) rfl hroom.1 hroom.2.1 hd0 (R := gR Γ) (by rw [h.R]; exact ⟨hroom.2.2.1, hroom.2.2.2.1⟩)) ⟨c_blind, va_recv hE.1 hP1 hc (gl_he hq he), fun U hU hW => ⟨rfl, by rw [hU], by rw [hU]; exact hP1, EX.next hE hW hS hF hU, hD1.weaken (fun _ _ _ _ => trivial)⟩⟩ rfl hn hl.1 hst (lv_room hrest) hd (by rw [h.R]; exact ⟨hroom.2.2.2.2.1, hroom.2.2.2.2.2⟩)
  obtain ⟨v, st₀, t, T', L2, h0, X', hL2, e1, e2, ⟨⟨v', σ2, hv, hp, hb, hb3⟩, hz, hk⟩, go⟩ := hrun T0 hT X
  cases hv
  rw [h0] at hz hk
  have hPm : va_P (gD Γ) (gC Γ) (gl N ad (mrg N1 σ2 σ)) T'.heap := by rw [hcl, e1]; exact mrg_P hP hD hb hk
  obtain ⟨t2, a1, b1⟩ := k v σ2 hp T'.heap (locs ++ L2) ls hPm (mrg_D hD)
    ⟨Nat.le_trans hS.1 (by rw [e1]; exact hz), fun q h1 h2 => by
      rw [e1, hk q (Nat.lt_of_lt_of_le h1 hS.1) (fun z => h2 (hF q z))]
      exact hS.2.1 q h1 h2, fun q hq => by
      rcases List.mem_append.mp hq with z | z
      · exact hS.2.2 q z
      · exact hF _ (hL2 q z)⟩ hl T' rfl X'
  exact ⟨t2, go t2 a1, b1⟩
/-- invokevirtual of a method that throws X, caught at the row of the table behind p (whose classes it isn't of) -/
theorem g_catchV (h : Cx Γ cc own rm Ts cl tys nl) (hG : GoodIn Ts Ts) (hN1 : N1 ≤ N) {p r : List (Nat × Nat × Nat × Nat)} {a0 a1 hpc ty : Nat} {X : String} {τ : Nat → va_E}
    (hx : (gc Γ).exceptionTable.toList.map exF = p ++ (a0, a1, hpc, ty) :: r ∧ (gM Γ).code = some (gc Γ) ∧ (gs Γ).vm.method? (gm Γ) = some (gM Γ) ∧ ncs (gs Γ))
    (hp : ∀ z ∈ p, (z.1 ≤ pc ∧ pc < z.2.1) ∧ z.2.2.2 ≠ 0 ∧ ∃ C, Cond.classLink own z.2.2.2 C ∈ Ts ∧ (X, C) ∈ ncL) (hh : (a0 ≤ pc ∧ pc < a1) ∧ ty ≠ 0 ∧ Cond.classLink own ty X ∈ Ts ∧ Cond.instantiable X 6 ∈ Ts)
    {C : String} {T : u_T} {nf ci q : Nat} {fs : List Value} (hM : CtX (gL Γ) (gD Γ) cl tys nl N1 ad y (.code y bytes maxL ret :: Ts) rmY (.ref (ad q) :: As) σ (fun X' σ2 => X' = X ∧ σ2 = τ)) (hq : q < N1) (he : σ q = .inr (ci, fs)) (hc : cl[ci]? = some (C, T, nf))
    (hw : ∀ w ∈ cwsV own index C y bytes maxL ret, w ∈ Ts) (hd0 : cNm y C n) (hn : As.length = n) (hroom : cRx rmY rm maxL) (hst : st = As.reverse ++ .ref (ad q) :: rest) (hrest : (rest.map fun v => v.category).sum ≤ 8) (hd : decode cc pc = .ok (.invokevirtual index, 3))
    (k : ∀ x : Nat, G Γ 1 6 N ad (mrg N1 τ σ) hpc L [.ref x]) : G Γ 0 0 N ad σ pc L st := by
  have hcd : Cond.code y bytes maxL ret ∈ Ts := hw _ (by simp [cwsV, wsV])
  obtain ⟨hx1, hx2, hx3, hx4⟩ := hx
  intro H locs ls hP hD hS hl T0 hT S
  have hP1 := pre_P hN1 hP
  have hD1 := pre_D hN1 hD
  have hE := h.E
  have hF := c_in h hD1 hS
  have hcl := h.cL
  rw [hcl] at hP hP1 hE
  have hmon : 2 * (F0 (gm Γ) pc ls st).monitorRoom + (rest.map fun v => v.category).sum ≤ 8 := lv_room hrest
  have cw := cwV (index := index) n h.ts (fun w hw2 => by
    unfold wsV at hw2
    rcases List.mem_append.mp hw2 with z | z
    · exact hG _ (hw _ (by unfold cwsV wsV; exact List.mem_append_left _ z))
    · exact c_good hG hcd _ z) rfl hroom.1 hroom.2.1 hd0 (R := gR Γ) (by rw [h.R]; exact ⟨hroom.2.2.1, hroom.2.2.2.1⟩)
  obtain ⟨cellB, hcB, hoB, hclB⟩ := va_recv hE.1 hP1 hc (gl_he hq he)
  obtain ⟨x, st₀, T', t, L2, e0, hW0, X', e1, ⟨⟨x', Xc, σ2, hxe, ⟨hr1, hr2⟩, hp1, hd1, c, ce, q1, q2, q3, q4⟩, hf1, hf2⟩, hL2, hsteps⟩ := callVX S h.x h.ow cw (hM H.size) c_blind (b := ad q) (cellB := cellB) (by rw [hT]; exact hcB) hoB hclB (g := F0 (gm Γ) pc ls st) rfl (hl.1.trans h.ml.symm) (argsL := As) (rest := rest) hn hst hmon (by rw [h.b]; exact hd) (by rw [h.R]; exact hroom.2.2.2.2.1) (by rw [h.R]; exact hroom.2.2.2.2.2)
    (fun U hU hW => ⟨rfl, by rw [hU, hT], by rw [hU, hT]; exact hP1, EX.next hE hW hS hF (by rw [hU, hT]), hD1.weaken (fun _ _ _ _ => trivial)⟩)
  cases hxe
  subst hr1; subst hr2
  rw [e0, hT] at hf1 hf2
  have hpl : (ge Γ).platform.magicAccessors = ({} : Platform).magicAccessors := by rw [X'.admits.platform]
  have hfX : (gs Γ).vm.findClass Xc = some ce.cls := by rw [q3, ← hW0.alike.findClass]; exact q1
  obtain ⟨cI, kI, hI1, hI2, -⟩ := Cond.instantiable_spec (h.ts _ hh.2.2.2)
  cases hI1.symm.trans hfX
  obtain ⟨x1, z, x2, s1, s2, s3⟩ := ex_split hx1
  have hcov : ∀ w : ExceptionTableEntry, (w.startPc ≤ pc ∧ pc < w.endPc) → covers w (F0 (gm Γ) pc ls rest).pc = true := fun w hw3 => by
    unfold covers
    simp [hw3.1, hw3.2]
  have hz : xRow (ge Γ).platform (gs Γ) (gm Γ).cls pc ce true z := by
    have z1 : z.startPc = a0 := congrArg (fun q => q.1) s3
    have z2 : z.endPc = a1 := congrArg (fun q => q.2.1) s3
    have z4 : z.catchType = ty := congrArg (fun q => q.2.2.2) s3
    obtain ⟨cc', hfc, hlk⟩ := Cond.classLink_spec h.ow (h.ts _ hh.2.2.1) (ge Γ).platform hpl
    cases hfc.symm.trans hfX
    refine ⟨hcov z (by rw [z1, z2]; exact hh.1), by rw [z4]; exact hh.2.1, ce.cls, by rw [z4]; exact hlk, ⟨kI, hI2⟩, ?_⟩
    show (gs Γ).vm.assignableAux (255 + 1) ce.cls ce.cls = true
    rw [Vm.assignableAux]
    simp only [beq_self_eq_true, Bool.true_or]
  have hpre : ∀ w ∈ x1, xRow (ge Γ).platform (gs Γ) (gm Γ).cls pc ce false w := fun w hw3 => by
    have hw4 : exF w ∈ p := by rw [← s2]; exact List.mem_map.mpr ⟨w, hw3, rfl⟩
    obtain ⟨b1, b2, Cn, b3, b4⟩ := hp _ hw4
    obtain ⟨cc', hfc, hlk⟩ := Cond.classLink_spec h.ow (h.ts _ b3) (ge Γ).platform hpl
    obtain ⟨c1, d1, n1, n2, n3, n4⟩ := hx4 _ b4
    cases n1.symm.trans hfX
    cases n2.symm.trans hfc
    exact ⟨hcov w b1, b2, cc', hlk, n3, n4⟩
  obtain ⟨vm', hw', hfind⟩ := find_rows (e := ge Γ) (s := gs Γ) (g := { F0 (gm Γ) pc ls st with stack := rest }) (a := x) (ce := ce) (rest := x2) q4 ⟨kI, hI2⟩ hz x1 ((T'.setTop { F0 (gm Γ) pc ls st with stack := rest }).pushFrame (.throwing x)) (by rw [Stand.throwing_heap, e1]; exact q2) (by rw [Stand.throwing_vm]; exact X'.warmed) hpre
  rw [← s1] at hfind
  have hm' : T'.vm.method? (gm Γ) = some (gM Γ) := X'.method'
  have X'' := X'.noted hw'
  have hheap : (T'.setVm vm').heap = t.heap := e1
  have hz3 : z.handlerPc = hpc := congrArg (fun q => q.2.2.1) s3
  have hPm : va_P (gD Γ) (gC Γ) (gl N ad (mrg N1 σ2 σ)) (T'.setVm vm').heap := by rw [hcl, hheap]; exact mrg_P hP hD hp1 hf2
  obtain ⟨t2, b1, b2⟩ := k x (T'.setVm vm').heap (locs ++ L2) ls hPm (mrg_D hD)
    ⟨Nat.le_trans hS.1 (by rw [hheap]; exact hf1), fun q h1 h2 => by
      rw [hheap, hf2 q (Nat.lt_of_lt_of_le h1 hS.1) (fun w => h2 (hF q w))]
      exact hS.2.1 q h1 h2, fun q hq => by
      rcases List.mem_append.mp hq with w | w
      · exact hS.2.2 q w
      · exact hF _ (hL2 q w)⟩ hl (T'.setVm vm') rfl X''
  refine ⟨t2, hsteps.trans (steps_caught (meth := gM Γ) (c := gc Γ) (g := { F0 (gm Γ) pc ls st with stack := rest }) X'.here hm' hx2 hfind ?_), b2⟩
  rw [hz3]
  exact b1
end PrefixRows
