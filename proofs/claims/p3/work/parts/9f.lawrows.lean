/-! rows of the law's own walk -/
section LawRun
variable {p : Program} {l : Launch} {e : Env} {R : Room} {s : State} {m : MethodId} {args : Array Value} {below : List Frame} {meth : Method} {c : Code} {H : Heap} {locs : List Loc} {cells slots : Nat}
variable {y : MethodName} {bytes cc : ByteArray} {maxL nL mc ms n index : Nat} {ret : Option FieldType} {hh : List (Nat × Nat × Nat × Nat)} {ws : List Cond} {rm : Room} {Pc : Array Value → State → Prop} {Qc : Array Value → State → Outcome → State → Prop} {free : Addr → Prop} {Ts : List Cond} {own : String} {As rest : List Value} {g : JFrame}
theorem runSW (S : CallFix p m c cc nL s args Ts own) (hM : Met l y ws rm Pc Qc mc ms free) (hrc : rm.cells = mc) (hrs : rm.slots = ms) (hR : rm.frames + 1 ≤ R.frames ∧ 8 + (maxL + 11) + rm.locals ≤ R.locals) (hws : ∀ w ∈ ws, ∀ (a' : Array Value) (U : State), s.WarmedH U.vm → w.before a' U = true) (hcw : Cond.codeWith y bytes maxL ret hh ∈ ws) (hcode : (Cond.codeWith y bytes maxL ret hh).before args s = true) (hini : (Cond.initialized y.cls).before args s = true) (hlink : (Cond.methodLink own index y).before args s = true) (hstat : (Cond.static y).before args s = true) (hd0 : cNm y y.cls n) (hp : PreS s H Pc As)
    (hg : g.method = m) (hn : As.length = n) (hsize : g.locals.size = nL) (hstack : g.stack = As.reverse ++ rest) (hW : 2 * g.monitorRoom + (rest.map fun v => v.category).sum ≤ 8) (hdg : decode cc g.pc = .ok (.invokestatic index, 3)) (hf : cells + mc ≤ R.cells ∧ slots + ms ≤ R.slots) :
    va_Run p l e R s m args below meth c H locs cells slots mc ms g rest (Qc As.toArray) free := by
  have hK : Back l R p e below s args y 3 8 (PreOf R mc ms Pc) (PostOf Qc mc ms free) := va_backW hM hp.1 hrc hrs hR.1 hR.2 hws hcw (fun a' U hW => word_at hW (Or.inl (by first | rfl | simp [Cond.onTables, Cond.keeps, Cond.steady])) hini)
  obtain ⟨hx, hb, hml, ho, -⟩ := S
  intro T hT X
  obtain ⟨mk, methM, cM, hnamed, hmethM, -, -, -, -, -, -, hsigM⟩ := Cond.codeWith_spec hcode
  have hstatic : methM.isStatic = true := Cond.static_spec hnamed hmethM hstat
  obtain ⟨kP, hkP, -⟩ := className_of_methodNamed hnamed
  have hinitP : kP.init = .initialized := Cond.initialized_spec (findClass_of_methodNamed hnamed) hkP hini
  have hlen : As.length = methM.sig.parameters.length := by
    have h2 := hd0.2.2.2
    rw [hsigM] at h2
    rw [hn]
    exact (Option.some.inj h2).symm
  obtain ⟨vm₁, X₁, hstep₁⟩ := X.invokestatic hx ho hlink hnamed hmethM hstatic hkP hinitP ⟨hd0.2.1, hd0.2.2.1⟩ (g := g) hg (argsL := As) (rest := rest) hlen hstack (by rw [hb]; exact hdg)
  obtain ⟨v, ⟨U', l2, c2, s2⟩, X', ⟨g', mk', t, L, e1, e2, hq, h1, hL, h2, h3⟩, st⟩ := hK m meth c ⟨T.setVm vm₁, locs, cells, slots⟩ { g with stack := rest } (.invokestatic index) mk As.toArray X₁ hg (hsize.trans hml.symm) (by rw [hb]; exact hdg) hW (X₁.named hnamed) ⟨hf.1, hf.2, hp.2 (T.setVm vm₁) hT X₁.warmed⟩
  dsimp only [Pt.U, Pt.locs, Pt.cells, Pt.slots] at X' e1 e2 h1 h2 h3 st
  subst h1; subst h2; subst h3
  exact ⟨v, (T.setVm vm₁).calling g' mk' As.toArray, t, U', L, hT, X', hL, e1, e2, hq, fun target h => hstep₁ _ fun acts => by rw [doInvoke_state]; exact st.trans h⟩
end LawRun
section LawRows
variable {Γ : GT} {cc : ByteArray} {own : String} {rm : Room} {Ts : List Cond} {cl : List vw_C} {tys : List (ClassId × FieldType)} {nl : List (String × Nat × MethodName × String)} {kc ks N N1 pc : Nat} {ad : Nat → Nat} {σ : Nat → va_E} {L : List (Option Value)} {st rest : List Value}
variable {y : MethodName} {bytes : ByteArray} {maxL n index : Nat} {ret : Option FieldType} {hh : List (Nat × Nat × Nat × Nat)} {rmY : Room} {As : List Value}
theorem ck_blind {D : va_G} {sz : Nat} : FrameBlind (cPk D cl tys nl N ad σ sz As) := fun a U g mk q => by
  obtain ⟨q0, ⟨q1, qP, qK, qD⟩, qn⟩ := q
  exact ⟨q0, ⟨q1, qP, EX.blind qK, qD⟩, ncs.moved (u := U) (U := U.calling g mk a) (Vm.Alike.refl U.vm) qn⟩
def cRk (rmY rm : Room) (maxL kc ks : Nat) : Prop := rmY.cells = 1 ∧ rmY.slots = 6 ∧ rmY.frames + 1 ≤ rm.frames ∧ 8 + (maxL + 11) + rmY.locals ≤ rm.locals ∧ kc + 1 ≤ rm.cells ∧ ks + 6 ≤ rm.slots
/-- invokestatic of a wrapper that knows the first N1 cells -/
theorem g_callK (h : Cx Γ cc own rm Ts cl tys nl) (hG : GoodIn Ts Ts) (hN1 : N1 ≤ N) (hnc : ncs (gs Γ)) {Rr : Option Value → (Nat → va_E) → Prop} (hM : Ctk (gL Γ) (gD Γ) cl tys nl N1 ad y (.codeWith y bytes maxL ret hh :: Ts) rmY As σ Rr)
    (hw : Cond.methodLink own index y ∈ Ts ∧ Cond.static y ∈ Ts ∧ Cond.initialized y.cls ∈ Ts ∧ Cond.codeWith y bytes maxL ret hh ∈ Ts) (hd0 : cNm y y.cls n) (hn : As.length = n) (hroom : cRk rmY rm maxL kc ks) (hst : st = As.reverse ++ rest) (hrest : (rest.map fun v => v.category).sum ≤ 8) (hd : decode cc pc = .ok (.invokestatic index, 3))
    (k : ∀ (v : Option Value) (σ2 : Nat → va_E), Rr v σ2 → G Γ (kc + 1) (ks + 6) N ad (mrg N1 σ2 σ) (pc + 3) L (v.toList ++ rest)) : G Γ kc ks N ad σ pc L st := by
  intro H locs ls hP hD hS hl T0 hT X
  have hP1 := pre_P hN1 hP
  have hD1 := pre_D hN1 hD
  have hE := h.E
  have hF := c_in h hD1 hS
  have hcl := h.cL
  rw [hcl] at hP hP1 hE
  have hgood : GoodIn Ts (.codeWith y bytes maxL ret hh :: Ts) := fun w hw2 => by
    rcases List.mem_cons.mp hw2 with rfl | z
    · exact hG _ hw.2.2.2
    · exact hG _ z
  have hrun := runSW (locs := locs) (cells := kc) (slots := ks) (below := gb Γ) (meth := gM Γ) (e := ge Γ) (R := gR Γ) (As := As) (rest := rest) (g := F0 (gm Γ) pc ls st) ⟨h.x, h.b, h.ml, h.ow, h.ts⟩ (hM H.size) hroom.1 hroom.2.1 (by rw [h.R]; exact ⟨hroom.2.2.1, hroom.2.2.2.1⟩) (pay_in h.ts hgood) List.mem_cons_self (h.ts _ hw.2.2.2) (h.ts _ hw.2.2.1) (h.ts _ hw.1) (h.ts _ hw.2.1) hd0
    ⟨ck_blind, fun U hU hW => ⟨rfl, ⟨by rw [hU], by rw [hU]; exact hP1, EX.next hE hW hS hF hU, hD1.weaken (fun _ _ _ _ => trivial)⟩, ncs.moved hW.alike hnc⟩⟩ rfl hn hl.1 hst (lv_room hrest) hd (by rw [h.R]; exact ⟨hroom.2.2.2.2.1, hroom.2.2.2.2.2⟩)
  obtain ⟨v, st₀, t, T', L2, h0, X', hL2, e1, e2, ⟨⟨v', σ2, hv, hp, hb, hb3⟩, hz, hk⟩, go⟩ := hrun T0 hT X
  cases hv
  rw [h0] at hz hk
  have hPm : va_P (gD Γ) (gC Γ) (gl N ad (mrg N1 σ2 σ)) T'.heap := by rw [hcl, e1]; exact mrg_P hP hD hb hk
  obtain ⟨t2, a1, b1⟩ := k v σ2 hp T'.heap (locs ++ L2) ls hPm (mrg_D hD)
    ⟨Nat.le_trans hS.1 (by rw [e1]; exact hz), fun q h1 h2 => by
      rw [e1, hk q (Nat.lt_of_lt_of_le h1 hS.1) (fun z => h2 (hF q z))]
      exact hS.2.1 q h1 h2, fun q hq => by
      rcases List.mem_append.mp hq with z | z
      · exact hS.2.2 q z
      · exact hF _ (hL2 q z)⟩ hl T' rfl X'
  exact ⟨t2, go t2 a1, b1⟩
/-- the same cells, told in another order (or fewer) -/
theorem g_re {N' : Nat} {ad' : Nat → Nat} {σ' : Nat → va_E} (ρ : Nat → Nat) (h1 : ∀ k, k < N' → ρ k < N) (h2 : ∀ i j, i < N' → j < N' → ρ i = ρ j → i = j) (h3 : ∀ k, k < N' → ad' k = ad (ρ k) ∧ σ' k = σ (ρ k)) (k : G Γ kc ks N' ad' σ' pc L st) : G Γ kc ks N ad σ pc L st := by
  intro H locs ls hP hD hS hl
  refine k H locs ls (fun j q hq => ?_) ⟨fun i j x y hx hy hxy => ?_, fun j q hq => ?_⟩ hS hl
  · obtain ⟨g1, g2⟩ := gl_out hq
    subst g2
    have := hP (ρ j) _ (gl_at (h1 j g1))
    rw [← (h3 j g1).1, ← (h3 j g1).2] at this
    exact this
  · obtain ⟨g1, g2⟩ := gl_out hx
    obtain ⟨g3, g4⟩ := gl_out hy
    subst g2; subst g4
    refine h2 i j g1 g3 (hD.1 (ρ i) (ρ j) _ _ (gl_at (h1 i g1)) (gl_at (h1 j g3)) ?_)
    have hxy' : ad' i = ad' j := hxy
    rw [(h3 i g1).1, (h3 j g3).1] at hxy'
    exact hxy'
  · obtain ⟨g1, g2⟩ := gl_out hq
    subst g2
    have := hD.2 (ρ j) _ (gl_at (h1 j g1))
    rw [show (ad' j, σ' j) = (ad (ρ j), σ (ρ j)) from Prod.ext (h3 j g1).1 (h3 j g1).2]
    exact this
/-- the script's length, one of its ints -/
theorem g_slen (h : Cx Γ cc own rm Ts cl tys nl) {b Ln : Nat} {xs : Nat → Int32} (hX : va_X b Ln xs (gs Γ) (gs Γ).heap) (hbl : b < (gs Γ).heap.size) (hbA : ¬ gA Γ b) (hd : decode cc pc = .ok (.arraylength, 1)) (k : G Γ kc ks N ad σ (pc + 1) L (.int (nI Ln) :: st)) : G Γ kc ks N ad σ pc L (.ref b :: st) := fun H locs ls hP hD hS hl => va_slen h.x h.b hX hbl hbA hS hd (k H locs ls hP hD hS hl)
theorem g_sld (h : Cx Γ cc own rm Ts cl tys nl) {b Ln : Nat} {xs : Nat → Int32} (hX : va_X b Ln xs (gs Γ) (gs Γ).heap) (hbl : b < (gs Γ).heap.size) (hbA : ¬ gA Γ b) {i : Int32} (hin : vp_in i Ln) (hd : decode cc pc = .ok (.iaload, 1)) (k : G Γ kc ks N ad σ (pc + 1) L (.int (xs i.toNatClampNeg) :: st)) : G Γ kc ks N ad σ pc L (.int i :: .ref b :: st) := fun H locs ls hP hD hS hl => va_sld h.x h.b hX hbl hbA hS hin hd (k H locs ls hP hD hS hl)
end LawRows
