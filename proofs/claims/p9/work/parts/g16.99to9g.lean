-- part 99.throw3
section
section Throw3
variable {l : Launch} {D : va_G} {t : Nat → ClassId} {ad : Nat → Nat} {C : CS}
abbrev Cp (l : Launch) (D : va_G) (t : Nat → ClassId) (ad : Nat → Nat) (y : MethodName) (b : ByteArray) (n : Nat) (ret : Option FieldType) (rm : Room) (As : List Value) (C : CS) (v : Option Value) : Prop := CtP l D CL (tyc t) NL 171 ad y (.code y b n ret :: TB) rm As (wc ad t C) v
theorem q_TCM_checkRange {n a b : Int32} (h1 : ¬ n < a) (h2 : ¬ b < n) : Cp l D t ad y_TCM_checkRange b_TCM_checkRange 3 none { frames := 0, cells := 0, slots := 0, locals := 0 } [.int n, .int a, .int b] C none := by
  refine ctP_of (by decide) (Nat.le_of_ble_eq_true rfl) ?_
  intro Γ _ _ hN h r pw
  refine p_at (L' := [some (.int n), some (.int a), some (.int b)]) rfl rfl rfl ?_
  refine p_iload_n h d_TCM_checkRange_0 rfl rfl ?_
  refine p_iload_n h d_TCM_checkRange_1 rfl rfl ?_
  refine p_icmp_lt (tgt := 10) h d_TCM_checkRange_2 (by decide) (fun c => absurd c h1) (fun _ => ?_)
  refine p_iload_n h d_TCM_checkRange_5 rfl rfl ?_
  refine p_iload_n h d_TCM_checkRange_6 rfl rfl ?_
  refine p_icmp_le (tgt := 18) h d_TCM_checkRange_7 (by decide) (fun _ => ?_) (fun c => absurd (Int32.not_lt.mp h2) c)
  exact p_vret h r d_TCM_checkRange_18
theorem q_Cell_rows {n : Nat} {b : Int32} (hn : n < 16) : Cp l D t ad y_Cell_rows b_Cell_rows 2 (some .int) { frames := 0, cells := 0, slots := 0, locals := 0 } [.ref (ad (ix 4 n)), .int b] C (some (.int (crows C n b))) := by
  refine ctP_of (by decide) (Nat.le_of_ble_eq_true rfl) ?_
  intro Γ _ _ hN h r pw
  refine p_at (L' := [some (.ref (ad (ix 4 n))), some (.int b)]) rfl rfl rfl ?_
  refine p_aload_n h d_Cell_rows_0 rfl rfl ?_
  refine p_get h pw i_Cell (ix 4 n) (ix_lt 4 (by decide) _ hn) (wc_at (by decide) hn) rfl 2 (by decide) f_Cell_25 rfl d_Cell_rows_1 ?_
  refine p_iconst (v := 1) h d_Cell_rows_4 (by decide) ?_
  refine p_icmp_ne (tgt := 16) h d_Cell_rows_5 (by decide) (fun c5 => ?_) (fun c5 => ?_)
  · have go : ∀ v : Int32, v = crows C n b → GP Γ 33 [some (.ref (ad (ix 4 n))), some (.int b)] [.int v] := fun v hv => by subst hv; exact p_iret h r d_Cell_rows_33
    have e0 : ¬ (C.1 0 n = 2 ∧ b = 0) → GP Γ 32 [some (.ref (ad (ix 4 n))), some (.int b)] [] := fun z => p_iconst (v := 0) h d_Cell_rows_32 (by decide) (go 0 (by unfold crows; rw [if_neg c5, if_neg z]))
    refine p_aload_n h d_Cell_rows_16 rfl rfl ?_
    refine p_get h pw i_Cell (ix 4 n) (ix_lt 4 (by decide) _ hn) (wc_at (by decide) hn) rfl 2 (by decide) f_Cell_25 rfl d_Cell_rows_17 ?_
    refine p_iconst (v := 2) h d_Cell_rows_20 (by decide) ?_
    refine p_icmp_ne (tgt := 32) h d_Cell_rows_21 (by decide) (fun c => e0 (fun z => c z.1)) (fun c21 => ?_)
    refine p_iload_n h d_Cell_rows_24 rfl rfl ?_
    refine p_if_ne (tgt := 32) h d_Cell_rows_25 (by decide) (fun c => e0 (fun z => c z.2)) (fun c25 => ?_)
    refine p_iconst (v := 4) h d_Cell_rows_28 (by decide) ?_
    refine p_goto (tgt := 33) h d_Cell_rows_29 (by decide) ?_
    exact go 4 (by unfold crows; rw [if_neg c5, if_pos ⟨c21, c25⟩])
  · refine p_aload_n h d_Cell_rows_8 rfl rfl ?_
    refine p_get h pw i_Cell (ix 4 n) (ix_lt 4 (by decide) _ hn) (wc_at (by decide) hn) rfl 0 (by decide) f_Cell_12 rfl d_Cell_rows_9 ?_
    refine p_get h pw i_Tab (ix 5 n) (ix_lt 5 (by decide) _ hn) (wc_at (by decide) hn) rfl 2 (by decide) f_Cell_35 rfl d_Cell_rows_12 ?_
    have hv : crows C n b = C.1 2 n := by unfold crows; rw [if_pos c5]
    rw [hv] at r
    exact p_iret h r d_Cell_rows_15
theorem x_TCM_object3 {n : Nat} {w : Int32} (htr : l.stackTraces = false) (hn : n < 16) (hw1 : ¬ w < 0) (hw2 : ¬ 3 < w) (hw0 : ¬ w = 0) (hk : C.1 0 n = 0) : Ce l D t ad y_TCM_object b_TCM_object 4 (some .int) { frames := 7, cells := 1, slots := 6, locals := 110 } [.ref (ad (ix 0 0)), .int (nI n), .int w] C X_NSE C := by
  refine ctX_of (by decide) (Nat.le_of_ble_eq_true rfl) ?_
  intro Γ hL hDD hN h r pw
  refine p_at (L' := [some (.ref (ad (ix 0 0))), some (.int (nI n)), some (.int w), none]) rfl rfl rfl ?_
  refine p_iload_n h d_TCM_object_0 rfl rfl ?_
  refine p_iconst (v := 0) h d_TCM_object_1 (by decide) ?_
  refine p_bipush (v := 15) h d_TCM_object_2 (by decide) ?_
  refine p_callS h pw tb_good (by rw [hL, hDD]; exact q_TCM_checkRange (n := nI n) (a := 0) (b := 15) (rg_lo (by omega)) (rg_hi (m := 15) (by omega) (by decide))) v_TCM_25 nm_TCM_checkRange rfl ⟨rfl, rfl, Nat.le_of_ble_eq_true rfl, Nat.le_of_ble_eq_true rfl, Nat.zero_le _, Nat.zero_le _⟩ rfl (Nat.le_of_ble_eq_true rfl) d_TCM_object_4 ?_
  refine p_iload_n h d_TCM_object_7 rfl rfl ?_
  refine p_iconst (v := 0) h d_TCM_object_8 (by decide) ?_
  refine p_iconst (v := 3) h d_TCM_object_9 (by decide) ?_
  refine p_callS h pw tb_good (by rw [hL, hDD]; exact q_TCM_checkRange hw1 hw2) v_TCM_25 nm_TCM_checkRange rfl ⟨rfl, rfl, Nat.le_of_ble_eq_true rfl, Nat.le_of_ble_eq_true rfl, Nat.zero_le _, Nat.zero_le _⟩ rfl (Nat.le_of_ble_eq_true rfl) d_TCM_object_10 ?_
  refine p_aload_n h d_TCM_object_13 rfl rfl ?_
  refine p_get h pw i_TCM (ix 0 0) (ix_lt 0 (by decide) _ (by decide)) (wc_at (by decide) (by decide)) rfl 1 (by decide) f_TCM_12 rfl d_TCM_object_14 ?_
  refine p_get h pw i_Heap (ix 1 0) (ix_lt 1 (by decide) _ (by decide)) (wc_at (by decide) (by decide)) rfl 1 (by decide) f_TCM_99 rfl d_TCM_object_17 ?_
  refine p_iload_n h d_TCM_object_20 rfl rfl ?_
  refine p_aaload h pw (ix 3 0) 1 (ix_lt 3 (by decide) _ (by decide)) (wc_at (by decide) (by decide)) rfl (vp_in_nI hn (by decide)) d_TCM_object_21 ?_
  rw [nI_clamp (show n < 2 ^ 31 by omega)]
  refine p_astore_n (x := ad (ix 4 n)) h d_TCM_object_22 rfl rfl (by rw [hN]; decide) ?_
  refine p_iload_n h d_TCM_object_23 rfl rfl ?_
  refine p_if_ne (tgt := 32) h d_TCM_object_24 (by decide) (fun _ => ?_) (fun c => absurd c hw0)
  refine p_aload_n h d_TCM_object_32 rfl rfl ?_
  refine p_get h pw i_Cell (ix 4 n) (ix_lt 4 (by decide) _ hn) (wc_at (by decide) hn) rfl 2 (by decide) f_TCM_103 rfl d_TCM_object_33 ?_
  refine p_if_ne (tgt := 47) h d_TCM_object_36 (by decide) (fun c => absurd hk c) (fun _ => ?_)
  exact p_throw h r pw (by rw [hL]; exact htr) (X := X_NSE) (names := xN) (by decide +kernel) xN_fit xw_NSE xcl_NSE xin_NSE xii_NSE ⟨by decide, by decide, by decide, by decide⟩ (by decide) ⟨rfl, rfl⟩ d_TCM_object_39 d_TCM_object_42 d_TCM_object_43 d_TCM_object_46
theorem x_TCM_inside2 {n : Nat} {i b : Int32} (htr : l.stackTraces = false) (hn : n < 16) (hi : i < 0) : Ce l D t ad y_TCM_inside b_TCM_inside 5 (some .long) { frames := 7, cells := 1, slots := 6, locals := 110 } [.ref (ad (ix 0 0)), .int (nI n), .int i, .int b] C X_IAE C := by
  refine ctX_of (by decide) (Nat.le_of_ble_eq_true rfl) ?_
  intro Γ hL hDD hN h r pw
  refine p_at (L' := [some (.ref (ad (ix 0 0))), some (.int (nI n)), some (.int i), some (.int b), none]) rfl rfl rfl ?_
  refine p_iload_n h d_TCM_inside_0 rfl rfl ?_
  refine p_iconst (v := 0) h d_TCM_inside_1 (by decide) ?_
  refine p_bipush (v := 15) h d_TCM_inside_2 (by decide) ?_
  refine p_callS h pw tb_good (by rw [hL, hDD]; exact q_TCM_checkRange (n := nI n) (a := 0) (b := 15) (rg_lo (by omega)) (rg_hi (m := 15) (by omega) (by decide))) v_TCM_25 nm_TCM_checkRange rfl ⟨rfl, rfl, Nat.le_of_ble_eq_true rfl, Nat.le_of_ble_eq_true rfl, Nat.zero_le _, Nat.zero_le _⟩ rfl (Nat.le_of_ble_eq_true rfl) d_TCM_inside_4 ?_
  refine p_iload_n h d_TCM_inside_7 rfl rfl ?_
  refine p_if_ge (tgt := 19) h d_TCM_inside_8 (by decide) (fun c => absurd hi (Int32.not_lt.mpr c)) (fun _ => ?_)
  exact p_throw h r pw (by rw [hL]; exact htr) (X := X_IAE) (names := xN) (by decide +kernel) xN_fit xw_IAE xcl_IAE xin_IAE xii_IAE ⟨by decide, by decide, by decide, by decide⟩ (by decide) ⟨rfl, rfl⟩ d_TCM_inside_11 d_TCM_inside_14 d_TCM_inside_15 d_TCM_inside_18
theorem x_TCM_inside3 {n : Nat} {i b : Int32} (htr : l.stackTraces = false) (hn : n < 16) (hi : ¬ i < 0) (hr : ¬ i < crows C n b) : Ce l D t ad y_TCM_inside b_TCM_inside 5 (some .long) { frames := 7, cells := 1, slots := 6, locals := 110 } [.ref (ad (ix 0 0)), .int (nI n), .int i, .int b] C X_NSE C := by
  refine ctX_of (by decide) (Nat.le_of_ble_eq_true rfl) ?_
  intro Γ hL hDD hN h r pw
  refine p_at (L' := [some (.ref (ad (ix 0 0))), some (.int (nI n)), some (.int i), some (.int b), none]) rfl rfl rfl ?_
  refine p_iload_n h d_TCM_inside_0 rfl rfl ?_
  refine p_iconst (v := 0) h d_TCM_inside_1 (by decide) ?_
  refine p_bipush (v := 15) h d_TCM_inside_2 (by decide) ?_
  refine p_callS h pw tb_good (by rw [hL, hDD]; exact q_TCM_checkRange (n := nI n) (a := 0) (b := 15) (rg_lo (by omega)) (rg_hi (m := 15) (by omega) (by decide))) v_TCM_25 nm_TCM_checkRange rfl ⟨rfl, rfl, Nat.le_of_ble_eq_true rfl, Nat.le_of_ble_eq_true rfl, Nat.zero_le _, Nat.zero_le _⟩ rfl (Nat.le_of_ble_eq_true rfl) d_TCM_inside_4 ?_
  refine p_iload_n h d_TCM_inside_7 rfl rfl ?_
  refine p_if_ge (tgt := 19) h d_TCM_inside_8 (by decide) (fun _ => ?_) (fun c => absurd (Int32.not_lt.mp hi) c)
  refine p_aload_n h d_TCM_inside_19 rfl rfl ?_
  refine p_get h pw i_TCM (ix 0 0) (ix_lt 0 (by decide) _ (by decide)) (wc_at (by decide) (by decide)) rfl 1 (by decide) f_TCM_12 rfl d_TCM_inside_20 ?_
  refine p_get h pw i_Heap (ix 1 0) (ix_lt 1 (by decide) _ (by decide)) (wc_at (by decide) (by decide)) rfl 1 (by decide) f_TCM_99 rfl d_TCM_inside_23 ?_
  refine p_iload_n h d_TCM_inside_26 rfl rfl ?_
  refine p_aaload h pw (ix 3 0) 1 (ix_lt 3 (by decide) _ (by decide)) (wc_at (by decide) (by decide)) rfl (vp_in_nI hn (by decide)) d_TCM_inside_27 ?_
  rw [nI_clamp (show n < 2 ^ 31 by omega)]
  refine p_astore (x := ad (ix 4 n)) h d_TCM_inside_28 rfl (by rw [hN]; decide) ?_
  refine p_iload_n h d_TCM_inside_30 rfl rfl ?_
  refine p_aload h d_TCM_inside_31 rfl ?_
  refine p_iload_n h d_TCM_inside_33 rfl rfl ?_
  refine p_callV (q := ix 4 n) h pw tb_good (by rw [hL, hDD]; exact q_Cell_rows (b := b) hn) (ix_lt 4 (by decide) _ hn) (wc_at (by decide) hn) rfl v_TCM_141 nm_Cell_rows rfl ⟨rfl, rfl, Nat.le_of_ble_eq_true rfl, Nat.le_of_ble_eq_true rfl, Nat.zero_le _, Nat.zero_le _⟩ rfl (Nat.le_of_ble_eq_true rfl) d_TCM_inside_34 ?_
  refine p_icmp_lt (tgt := 48) h d_TCM_inside_37 (by decide) (fun c => absurd c hr) (fun _ => ?_)
  exact p_throw h r pw (by rw [hL]; exact htr) (X := X_NSE) (names := xN) (by decide +kernel) xN_fit xw_NSE xcl_NSE xin_NSE xii_NSE ⟨by decide, by decide, by decide, by decide⟩ (by decide) ⟨rfl, rfl⟩ d_TCM_inside_40 d_TCM_inside_43 d_TCM_inside_44 d_TCM_inside_47
end Throw3
end

-- part 9a.catch
section
/-! CATCHING: a handler is found though its class may not be resolved yet -/
theorem go_cold {e : Env} {s : State} {f : JFrame} {a : Addr} {x : ExceptionTableEntry} {t : List ExceptionTableEntry} {c : ClassId} {vm' : Vm} {Q : Handler → Pre} {E : CtlPost} {d : Bool} {acts : List Action} (hx : covers x f.pc = true) (h0 : x.catchType ≠ 0)
    (hg : (Jvm.resolveClass f.method.cls x.catchType).Gives e.toSetting s.vm (.ok c) vm') (hr : vm'.classReady f.method.cls x.catchType c) (hsz : vm'.classes.size ≤ s.vm.classes.size) :
    Sem.wp (findHandler.go f a (x :: t)) Q E e d acts s ↔ Sem.wp (findHandler.go f a (x :: t)) Q E e d acts (s.setVm vm') := by
  obtain ⟨ha, ht⟩ := hg.op (op := VmOp.resolveClass f.method.cls x.catchType) rfl
  obtain ⟨k, hkd, hres⟩ := hr
  simp only [covers] at hx
  have hvv : (s.setVm vm').setVm vm' = s.setVm vm' := rfl
  simp [findHandler.go, hx, h0, ha, ht, hsz, resolveClass_memo e hkd hres, hvv]
def FindsC (e : Env) (s : State) (f : JFrame) (a : Addr) (xs : List ExceptionTableEntry) (pc : Nat) (vm' : Vm) : Prop :=
  ∀ (Q : Handler → Pre) (E : CtlPost) (d : Bool) (acts : List Action), Sem.wp (findHandler.go f a xs) Q E e d acts s ↔ Q (.found pc) d acts (s.setVm vm')
/-- a row of the table that names a class, over this address; whether the exception is of it -/
def xRow (pl : Platform) (s : State) (own : ClassId) (pc : Nat) (ce : Cell) (b : Bool) (x : ExceptionTableEntry) : Prop :=
  covers x pc = true ∧ x.catchType ≠ 0 ∧ ∃ c, s.vm.ClassLinks pl own x.catchType c ∧ (∃ k, s.vm.classes[c]? = some k) ∧ s.vm.assignable ce.cls c = b
theorem find_rows {e : Env} {s : State} {g : JFrame} {a : Addr} {ce : Cell} (hob : ce.vm = .none) (hk : ∃ k, s.vm.classes[ce.cls]? = some k) {x : ExceptionTableEntry} {rest : List ExceptionTableEntry} (hx : xRow e.platform s g.method.cls g.pc ce true x) :
    ∀ (pre : List ExceptionTableEntry) (U : State), U.heap[a]? = some ce → s.WarmedH U.vm → (∀ y ∈ pre, xRow e.platform s g.method.cls g.pc ce false y) → ∃ vm', s.WarmedH vm' ∧ FindsC e U g a (pre ++ x :: rest) x.handlerPc vm'
  | [], U, hU, hW, _ => by
    obtain ⟨h1, h2, c, h3, ⟨kc, h4⟩, h5⟩ := hx
    obtain ⟨hg₁, hwarm₁, hready₁⟩ := State.classEntry (e := e) hW h3
    generalize U.vm.noted g.method.cls x.catchType (.cls c) = vm₁ at hg₁ hwarm₁ hready₁
    obtain ⟨k0, hk0⟩ := hk
    obtain ⟨k1, hk1, -⟩ := hwarm₁.alike.2.2 _ _ hk0
    obtain ⟨k2, hk2, -⟩ := hwarm₁.alike.2.2 _ _ h4
    have hsz : vm₁.classes.size ≤ U.vm.classes.size := (hW.alike.symm.trans hwarm₁.alike).size_le
    refine ⟨vm₁, hwarm₁, fun Q E d acts => ?_⟩
    show Sem.wp (findHandler.go g a (x :: rest)) Q E e d acts U ↔ _
    rw [go_cold h1 h2 hg₁ hready₁ hsz, Jvm.W.findHandler_go_class (s := U.setVm vm₁) (cell := ce) h1 h2 hready₁ hU (fun k => by rw [hob]; simp) ⟨k1, hk1⟩ ⟨k2, hk2⟩, if_pos (by show vm₁.assignable ce.cls c = true; rw [hwarm₁.alike.assignable]; exact h5)]
  | y :: pre, U, hU, hW, hp => by
    obtain ⟨h1, h2, c, h3, ⟨kc, h4⟩, h5⟩ := hp y List.mem_cons_self
    obtain ⟨hg₁, hwarm₁, hready₁⟩ := State.classEntry (e := e) hW h3
    generalize U.vm.noted g.method.cls y.catchType (.cls c) = vm₁ at hg₁ hwarm₁ hready₁
    have hk' := hk
    obtain ⟨k0, hk0⟩ := hk
    obtain ⟨k1, hk1, -⟩ := hwarm₁.alike.2.2 _ _ hk0
    obtain ⟨k2, hk2, -⟩ := hwarm₁.alike.2.2 _ _ h4
    have hsz : vm₁.classes.size ≤ U.vm.classes.size := (hW.alike.symm.trans hwarm₁.alike).size_le
    obtain ⟨vm', hw', hf'⟩ := find_rows hob hk' hx pre (U.setVm vm₁) hU hwarm₁ (fun z hz => hp z (List.mem_cons_of_mem _ hz))
    refine ⟨vm', hw', fun Q E d acts => ?_⟩
    show Sem.wp (findHandler.go g a (y :: (pre ++ x :: rest))) Q E e d acts U ↔ _
    rw [go_cold h1 h2 hg₁ hready₁ hsz, Jvm.W.findHandler_go_class (s := U.setVm vm₁) (cell := ce) h1 h2 hready₁ hU (fun k => by rw [hob]; simp) ⟨k1, hk1⟩ ⟨k2, hk2⟩, if_neg (by show ¬ vm₁.assignable ce.cls c = true; rw [hwarm₁.alike.assignable, h5]; decide)]
    exact hf' Q E d acts
theorem step_caught {e : Env} {s : State} {a : Addr} {f : JFrame} {r : List Frame} {pc : Nat} {vm' : Vm} (hfind : ∀ (Q : Handler → Pre) (E : CtlPost) (d : Bool) (acts : List Action), Sem.wp (findHandler f a) Q E e d acts s ↔ Q (.found pc) d acts (s.setVm vm')) :
    (stepThrowing e s a (.java f :: r)).Is ((s.setVm vm').setFrames (.java { f with pc := pc, stack := [.ref a] } :: r)) [] := by
  simp only [stepThrowing, searchFrame, vmDo]
  generalize hr : Sem.go _ e false [] s = res
  obtain ⟨as, rfl, ha⟩ := Sem.eq_ok_of hr (a := Handler.found pc) (s' := s.setVm vm') (acts' := []) (by simp [hfind _ _ _ _])
  exact ⟨rfl, ha⟩
theorem steps_caught {tb : Tables} {e : Env} {s target : State} {g : JFrame} {c : Code} {below : List Frame} {a : Addr} {meth : Method} {pc : Nat} {vm' : Vm} (h : At s g.method c below) (hm : s.vm.method? g.method = some meth) (hc : meth.code = some c)
    (hfind : FindsC e ((s.setTop g).pushFrame (.throwing a)) g a c.exceptionTable.toList pc vm') (hrest : Steps tb e below ((s.setVm vm').setTop { g with pc := pc, stack := [.ref a] }) target) :
    Steps tb e below ((s.setTop g).pushFrame (.throwing a)) target := by
  obtain ⟨hgo, hw⟩ := h.throwing a
  refine Steps.head hgo hw ?_
  have hf : ∀ (Q : Handler → Pre) (E : CtlPost) (d : Bool) (acts : List Action), Sem.wp (findHandler g a) Q E e d acts ((s.setTop g).pushFrame (.throwing a)) ↔ Q (.found pc) d acts (((s.setTop g).pushFrame (.throwing a)).setVm vm') := fun Q E d acts => by
    rw [Jvm.W.findHandler_eq (s := (s.setTop g).pushFrame (.throwing a)) (meth := meth) (code := c) (by rw [Stand.throwing_vm]; exact hm) hc]
    exact hfind Q E d acts
  rw [stepThread_throwing (frames_entered h.top _), (step_caught (s := (s.setTop g).pushFrame (.throwing a)) hf).1]
  obtain ⟨g₀, hg⟩ := Option.isSome_iff_exists.mp h.top
  obtain ⟨r, hr⟩ := State.topJava?_eq_some.mp hg
  have e1 : ((((s.setTop g).pushFrame (.throwing a)).setVm vm').setFrames (.java { g with pc := pc, stack := [.ref a] } :: s.frames.tail)) = (s.setVm vm').setTop { g with pc := pc, stack := [.ref a] } := by
    have hr' : (s.setVm vm').frames = .java g₀ :: r := hr
    rw [State.setTop_of_frames _ hr', hr]
    show (((s.setTop g).pushFrame (.throwing a)).setFrames _).setVm vm' = (s.setFrames _).setVm vm'
    rw [State.pushFrame, State.setFrames_setFrames, State.setTop_of_frames _ hr, State.setFrames_setFrames]
    rfl
  rw [e1]
  exact hrest
end

-- part 9b.frame
section
/-! a callee that knows the first cells of the world alone; contracts that may make a cell; catching -/
def mrg (N1 : Nat) (τ σ : Nat → va_E) : Nat → va_E := fun k => if k < N1 then τ k else σ k
theorem pre_P {D : va_G} {cl : List vw_C} {N N1 : Nat} {ad : Nat → Nat} {σ : Nat → va_E} {H : Heap} (hN : N1 ≤ N) (hP : va_P D cl (gl N ad σ) H) : va_P D cl (gl N1 ad σ) H := fun k q hk => by
  obtain ⟨h1, h2⟩ := gl_out hk
  subst h2
  exact hP k _ (gl_at (by omega))
theorem pre_D {A : Nat → Prop} {N N1 : Nat} {ad : Nat → Nat} {σ : Nat → va_E} (hN : N1 ≤ N) (hD : va_D A (gl N ad σ)) : va_D A (gl N1 ad σ) := by
  refine ⟨fun i j x y hx hy hxy => ?_, fun k q hk => ?_⟩
  · obtain ⟨h1, h2⟩ := gl_out hx
    obtain ⟨h3, h4⟩ := gl_out hy
    subst h2; subst h4
    exact hD.1 i j _ _ (gl_at (by omega)) (gl_at (by omega)) hxy
  · obtain ⟨h1, h2⟩ := gl_out hk
    subst h2
    exact hD.2 k _ (gl_at (by omega))
theorem mrg_D {A : Nat → Prop} {N : Nat} {ad : Nat → Nat} {σ σ' : Nat → va_E} (hD : va_D A (gl N ad σ)) : va_D A (gl N ad σ') := by
  refine ⟨fun i j x y hx hy hxy => ?_, fun k q hk => ?_⟩
  · obtain ⟨h1, h2⟩ := gl_out hx
    obtain ⟨h3, h4⟩ := gl_out hy
    subst h2; subst h4
    exact hD.1 i j (ad i, σ i) (ad j, σ j) (gl_at h1) (gl_at h3) hxy
  · obtain ⟨h1, h2⟩ := gl_out hk
    subst h2
    exact hD.2 k (ad k, σ k) (gl_at h1)
theorem mrg_P {D : va_G} {cl : List vw_C} {A : Nat → Prop} {N N1 : Nat} {ad : Nat → Nat} {σ τ : Nat → va_E} {H H1 : Heap} (hP : va_P D cl (gl N ad σ) H) (hD : va_D A (gl N ad σ)) (hP1 : va_P D cl (gl N1 ad τ) H1) (hk : ∀ q : Nat, q < H.size → ¬ va_A (gl N1 ad σ) H.size q → H1[q]? = H[q]?) : va_P D cl (gl N ad (mrg N1 τ σ)) H1 := fun k q hq => by
  obtain ⟨h1, h2⟩ := gl_out hq
  subst h2
  unfold mrg
  by_cases z : k < N1
  · rw [if_pos z]
    exact hP1 k _ (gl_at z)
  · rw [if_neg z]
    have h0 := hP k _ (gl_at h1)
    refine h0.kept (hk _ h0.lt ?_)
    rintro (⟨j, e, hj⟩ | hj)
    · obtain ⟨h3, h4⟩ := gl_out hj
      have := hD.1 k j (ad k, σ k) (ad j, σ j) (gl_at h1) (gl_at (Nat.lt_of_lt_of_le h3 (by omega))) (show (ad k, σ k).1 = (ad j, σ j).1 from (Prod.mk.inj h4).1)
      omega
    · exact absurd h0.lt (Nat.not_lt.mpr hj)
/-- the classes that a catch must pass -/
def nc (A B : String) (U : State) : Prop := ∃ c d, U.vm.findClass A = some c ∧ U.vm.findClass B = some d ∧ (∃ k, U.vm.classes[d]? = some k) ∧ U.vm.assignable c d = false
theorem nc.moved {A B : String} {u U : State} (hvm : u.vm.Alike U.vm) (h : nc A B u) : nc A B U := by
  obtain ⟨c, d, h1, h2, ⟨k, h3⟩, h4⟩ := h
  obtain ⟨k', h5, -⟩ := hvm.2.2 _ _ h3
  exact ⟨c, d, by rw [hvm.findClass]; exact h1, by rw [hvm.findClass]; exact h2, ⟨k', h5⟩, by rw [hvm.assignable]; exact h4⟩
abbrev ncL : List (String × String) := [(X_ISE, X_IAE), (X_UOE, X_IAE), (X_NSE, X_IAE), (X_UOE, X_ISE)]
def ncs (U : State) : Prop := ∀ q ∈ ncL, nc q.1 q.2 U
theorem ncs.moved {u U : State} (hvm : u.vm.Alike U.vm) (h : ncs u) : ncs U := fun q hq => (h q hq).moved hvm
def cPk (D : va_G) (cl : List vw_C) (tys : List (ClassId × FieldType)) (nl : List (String × Nat × MethodName × String)) (N : Nat) (ad : Nat → Nat) (σ : Nat → va_E) (sz : Nat) (As : List Value) : Array Value → State → Prop := va_Pc As (fun U => (U.heap.size = sz ∧ va_P D cl (gl N ad σ) U.heap ∧ EX D cl tys nl (va_A (gl N ad σ) sz) U U.heap ∧ va_D (fun _ => True) (gl N ad σ)) ∧ ncs U)
/-- the contract of a method of the law's that may make one exception -/
def Ctk (l : Launch) (D : va_G) (cl : List vw_C) (tys : List (ClassId × FieldType)) (nl : List (String × Nat × MethodName × String)) (N : Nat) (ad : Nat → Nat) (y : MethodName) (ws : List Cond) (rm : Room) (As : List Value) (σ : Nat → va_E) (Rr : Option Value → (Nat → va_E) → Prop) : Prop :=
  ∀ sz : Nat, Met l y ws rm (cPk D cl tys nl N ad σ sz As) (cQc D cl N ad (va_A (gl N ad σ) sz) Rr) 1 6 (va_A (gl N ad σ) sz)
abbrev exF (h : ExceptionTableEntry) : Nat × Nat × Nat × Nat := (h.startPc, h.endPc, h.handlerPc, h.catchType)
theorem ctW_of {l : Launch} {D : va_G} {cl : List vw_C} {tys : List (ClassId × FieldType)} {nl : List (String × Nat × MethodName × String)} {N : Nat} {ad : Nat → Nat} {y : MethodName} {TB : List Cond} {rm : Room} {As : List Value} {σ : Nat → va_E} {Rr : Option Value → (Nat → va_E) → Prop} {cc : ByteArray} {n : Nat} {ret : Option FieldType} {hh : List (Nat × Nat × Nat × Nat)}
    (hy : plainName y.cls = true) (hn : (lg_sl As).length ≤ n)
    (body : ∀ Γ : GT, gL Γ = l → gD Γ = D → gN Γ = n → Cx Γ cc y.cls rm TB cl tys nl → Rx Γ N ad ret Rr 1 6 → (gc Γ).exceptionTable.toList.map exF = hh ∧ (gM Γ).code = some (gc Γ) ∧ (gs Γ).vm.method? (gm Γ) = some (gM Γ) ∧ ncs (gs Γ) → G Γ 0 0 N ad σ 0 (inL As n) []) : Ctk l D cl tys nl N ad y (.codeWith y cc n ret hh :: TB) rm As σ Rr := by
  intro sz
  refine va_MetW (cc := cc) (maxL := n) (ret := ret) (hh := hh) hy rfl ?_
  intro p e s m args below meth c s₁ B hml hv
  obtain ⟨rfl, ⟨hsz, hP, hK, hD0⟩, hnc⟩ := hv
  have hts := atoms_spec (ws := .codeWith y cc n ret hh :: TB) B.pre
  have hown : s.vm.findClass y.cls = some m.cls := findClass_of_methodNamed B.named
  subst hsz
  have hD := hD0.self (sz := s.heap.size)
  have hc2 : meth.code = some c := by
    have h1 := B.here.code
    have h2 := B.state
    rw [h2] at h1
    have h3 : s.code? m = some c := h1
    rw [State.code?_eq, B.method] at h3
    exact h3
  have hex : c.exceptionTable.toList.map exF = hh := by
    obtain ⟨m', meth', c', hm0, hm', hc', -, -, hem, -⟩ := Cond.codeWith_spec (hts _ List.mem_cons_self)
    cases B.named.symm.trans hm0
    cases B.method.symm.trans hm'
    rw [hc2] at hc'
    cases hc'
    exact hem
  rw [lg_entry_eq]
  exact body (p, l, e, rm, s, m, As.toArray, below, meth, c, MQ below (cQc D cl N ad (va_A (gl N ad σ) s.heap.size) Rr) As.toArray s 1 6 (va_A (gl N ad σ) s.heap.size), D, cl, va_A (gl N ad σ) s.heap.size, n) rfl rfl rfl
    ⟨B.exec, B.bytes, hml, hown, rfl, fun w hw => hts w (List.mem_cons_of_mem _ hw), rfl, hK, fun q h => Or.inr h⟩ ⟨B.returns, B.notSynchronized, rfl⟩ ⟨hex, hc2, B.method, hnc⟩ s.heap [] _ hP hD va_S.rf (inL_has hn)
theorem ex_split {xs : List ExceptionTableEntry} {p r : List (Nat × Nat × Nat × Nat)} {q : Nat × Nat × Nat × Nat} (h : xs.map exF = p ++ q :: r) : ∃ x1 x x2, xs = x1 ++ x :: x2 ∧ x1.map exF = p ∧ exF x = q := by
  obtain ⟨x1, y, h1, h2, h3⟩ := List.map_eq_append_iff.mp h
  obtain ⟨x, x2, h4, h5, -⟩ := List.map_eq_cons_iff.mp h3
  exact ⟨x1, x, x2, by rw [h1, h4], h2, h5⟩
end

-- part 9c.rows
section
section PrefixRows
variable {Γ : GT} {cc : ByteArray} {own : String} {rm : Room} {Ts : List Cond} {cl : List vw_C} {tys : List (ClassId × FieldType)} {nl : List (String × Nat × MethodName × String)} {kc ks N N1 pc : Nat} {ad : Nat → Nat} {σ : Nat → va_E} {L : List (Option Value)} {st rest : List Value}
variable {y : MethodName} {bytes : ByteArray} {maxL n index : Nat} {ret : Option FieldType} {rmY : Room} {As : List Value}
/-- invokevirtual of a method whose contract knows the first N1 cells -/
theorem g_callVP (h : Cx Γ cc own rm Ts cl tys nl) (hG : GoodIn Ts Ts) (hN1 : N1 ≤ N) {Rr : Option Value → (Nat → va_E) → Prop} {C : String} {T : u_T} {nf ci q : Nat} {fs : List Value} (hM : Ct (gL Γ) (gD Γ) cl tys nl N1 ad y (.code y bytes maxL ret :: Ts) rmY (.ref (ad q) :: As) σ Rr) (hq : q < N1) (he : σ q = .inr (ci, fs)) (hc : cl[ci]? = some (C, T, nf))
    (hw : ∀ w ∈ cwsV own index C y bytes maxL ret, w ∈ Ts) (hd0 : cNm y C n) (hn : As.length = n) (hroom : cRm rmY rm maxL kc ks) (hst : st = As.reverse ++ .ref (ad q) :: rest) (hrest : (rest.map fun v => v.category).sum ≤ 8) (hd : decode cc pc = .ok (.invokevirtual index, 3))
    (k : ∀ (v : Option Value) (σ2 : Nat → va_E), Rr v σ2 → G Γ kc ks N ad (mrg N1 σ2 σ) (pc + 3) L (v.toList ++ rest)) : G Γ kc ks N ad σ pc L st := by
  have hcd : Cond.code y bytes maxL ret ∈ Ts := hw _ (by simp [cwsV, wsV])
  intro H locs ls hP hD hS hl T0 hT X
  have hP1 := pre_P hN1 hP
  have hD1 := pre_D hN1 hD
  have hE := h.E
  have hF := c_in h hD1 hS
  have hcl := h.cL
  rw [hcl] at hP hP1 hE
  have hrun := va_runV (locs := locs) (cells := kc) (slots := ks) (below := gb Γ) (meth := gM Γ) (e := ge Γ) (As := As) (rest := rest) (b := ad q) (C := C) (n := n) (g := F0 (gm Γ) pc ls st) ⟨h.x, h.b, h.ml, h.ow, h.ts⟩ (hM H.size) (cwV (index := index) n h.ts (fun w hw2 => by
    unfold wsV at hw2
    rcases List.mem_append.mp hw2 with z | z
    · exact hG _ (hw _ (by unfold cwsV wsV; exact List.mem_append_left _ z))
    · exact c_good hG hcd _ z) rfl hroom.1 hroom.2.1 hd0 (R := gR Γ) (by rw [h.R]; exact ⟨hroom.2.2.1, hroom.2.2.2.1⟩)) ⟨c_blind, va_recv hE.1 hP1 hc (gl_he hq he), fun U hU hW => ⟨rfl, by rw [hU], by rw [hU]; exact hP1, EX.next hE hW hS hF hU, hD1.weaken (fun _ _ _ _ => trivial)⟩⟩ rfl hn hl.1 hst (lv_room hrest) hd (by rw [h.R]; exact ⟨hroom.2.2.2.2.1, hroom.2.2.2.2.2⟩)
  obtain ⟨v, st₀, t, T', L2, h0, X', hL2, e1, e2, ⟨⟨v', σ2, hv, hp, hb, hb3⟩, hz, hk⟩, go⟩ := hrun T0 hT X
  cases hv
  rw [h0] at hz hk
  have hPm : va_P (gD Γ) (gC Γ) (gl N ad (mrg N1 σ2 σ)) T'.heap := by rw [hcl, e1]; exact mrg_P hP hD hb hk
  obtain ⟨t2, a1, b1⟩ := k v σ2 hp T'.heap (locs ++ L2) ls hPm (mrg_D hD)
    ⟨Nat.le_trans hS.1 (by rw [e1]; exact hz), fun q h1 h2 => by
      rw [e1, hk q (Nat.lt_of_lt_of_le h1 hS.1) (fun z => h2 (hF q z))]
      exact hS.2.1 q h1 h2, fun q hq => by
      rcases List.mem_append.mp hq with z | z
      · exact hS.2.2 q z
      · exact hF _ (hL2 q z)⟩ hl T' rfl X'
  exact ⟨t2, go t2 a1, b1⟩
/-- invokevirtual of a method that throws X, caught at the row of the table behind p (whose classes it isn't of) -/
theorem g_catchV (h : Cx Γ cc own rm Ts cl tys nl) (hG : GoodIn Ts Ts) (hN1 : N1 ≤ N) {p r : List (Nat × Nat × Nat × Nat)} {a0 a1 hpc ty : Nat} {X : String} {τ : Nat → va_E}
    (hx : (gc Γ).exceptionTable.toList.map exF = p ++ (a0, a1, hpc, ty) :: r ∧ (gM Γ).code = some (gc Γ) ∧ (gs Γ).vm.method? (gm Γ) = some (gM Γ) ∧ ncs (gs Γ))
    (hp : ∀ z ∈ p, (z.1 ≤ pc ∧ pc < z.2.1) ∧ z.2.2.2 ≠ 0 ∧ ∃ C, Cond.classLink own z.2.2.2 C ∈ Ts ∧ (X, C) ∈ ncL) (hh : (a0 ≤ pc ∧ pc < a1) ∧ ty ≠ 0 ∧ Cond.classLink own ty X ∈ Ts ∧ Cond.instantiable X 6 ∈ Ts)
    {C : String} {T : u_T} {nf ci q : Nat} {fs : List Value} (hM : CtX (gL Γ) (gD Γ) cl tys nl N1 ad y (.code y bytes maxL ret :: Ts) rmY (.ref (ad q) :: As) σ (fun X' σ2 => X' = X ∧ σ2 = τ)) (hq : q < N1) (he : σ q = .inr (ci, fs)) (hc : cl[ci]? = some (C, T, nf))
    (hw : ∀ w ∈ cwsV own index C y bytes maxL ret, w ∈ Ts) (hd0 : cNm y C n) (hn : As.length = n) (hroom : cRx rmY rm maxL) (hst : st = As.reverse ++ .ref (ad q) :: rest) (hrest : (rest.map fun v => v.category).sum ≤ 8) (hd : decode cc pc = .ok (.invokevirtual index, 3))
    (k : ∀ x : Nat, G Γ 1 6 N ad (mrg N1 τ σ) hpc L [.ref x]) : G Γ 0 0 N ad σ pc L st := by
  have hcd : Cond.code y bytes maxL ret ∈ Ts := hw _ (by simp [cwsV, wsV])
  obtain ⟨hx1, hx2, hx3, hx4⟩ := hx
  intro H locs ls hP hD hS hl T0 hT S
  have hP1 := pre_P hN1 hP
  have hD1 := pre_D hN1 hD
  have hE := h.E
  have hF := c_in h hD1 hS
  have hcl := h.cL
  rw [hcl] at hP hP1 hE
  have hmon : 2 * (F0 (gm Γ) pc ls st).monitorRoom + (rest.map fun v => v.category).sum ≤ 8 := lv_room hrest
  have cw := cwV (index := index) n h.ts (fun w hw2 => by
    unfold wsV at hw2
    rcases List.mem_append.mp hw2 with z | z
    · exact hG _ (hw _ (by unfold cwsV wsV; exact List.mem_append_left _ z))
    · exact c_good hG hcd _ z) rfl hroom.1 hroom.2.1 hd0 (R := gR Γ) (by rw [h.R]; exact ⟨hroom.2.2.1, hroom.2.2.2.1⟩)
  obtain ⟨cellB, hcB, hoB, hclB⟩ := va_recv hE.1 hP1 hc (gl_he hq he)
  obtain ⟨x, st₀, T', t, L2, e0, hW0, X', e1, ⟨⟨x', Xc, σ2, hxe, ⟨hr1, hr2⟩, hp1, hd1, c, ce, q1, q2, q3, q4⟩, hf1, hf2⟩, hL2, hsteps⟩ := callVX S h.x h.ow cw (hM H.size) c_blind (b := ad q) (cellB := cellB) (by rw [hT]; exact hcB) hoB hclB (g := F0 (gm Γ) pc ls st) rfl (hl.1.trans h.ml.symm) (argsL := As) (rest := rest) hn hst hmon (by rw [h.b]; exact hd) (by rw [h.R]; exact hroom.2.2.2.2.1) (by rw [h.R]; exact hroom.2.2.2.2.2)
    (fun U hU hW => ⟨rfl, by rw [hU, hT], by rw [hU, hT]; exact hP1, EX.next hE hW hS hF (by rw [hU, hT]), hD1.weaken (fun _ _ _ _ => trivial)⟩)
  cases hxe
  subst hr1; subst hr2
  rw [e0, hT] at hf1 hf2
  have hpl : (ge Γ).platform.magicAccessors = ({} : Platform).magicAccessors := by rw [X'.admits.platform]
  have hfX : (gs Γ).vm.findClass Xc = some ce.cls := by rw [q3, ← hW0.alike.findClass]; exact q1
  obtain ⟨cI, kI, hI1, hI2, -⟩ := Cond.instantiable_spec (h.ts _ hh.2.2.2)
  cases hI1.symm.trans hfX
  obtain ⟨x1, z, x2, s1, s2, s3⟩ := ex_split hx1
  have hcov : ∀ w : ExceptionTableEntry, (w.startPc ≤ pc ∧ pc < w.endPc) → covers w (F0 (gm Γ) pc ls rest).pc = true := fun w hw3 => by
    unfold covers
    simp [hw3.1, hw3.2]
  have hz : xRow (ge Γ).platform (gs Γ) (gm Γ).cls pc ce true z := by
    have z1 : z.startPc = a0 := congrArg (fun q => q.1) s3
    have z2 : z.endPc = a1 := congrArg (fun q => q.2.1) s3
    have z4 : z.catchType = ty := congrArg (fun q => q.2.2.2) s3
    obtain ⟨cc', hfc, hlk⟩ := Cond.classLink_spec h.ow (h.ts _ hh.2.2.1) (ge Γ).platform hpl
    cases hfc.symm.trans hfX
    refine ⟨hcov z (by rw [z1, z2]; exact hh.1), by rw [z4]; exact hh.2.1, ce.cls, by rw [z4]; exact hlk, ⟨kI, hI2⟩, ?_⟩
    show (gs Γ).vm.assignableAux (255 + 1) ce.cls ce.cls = true
    rw [Vm.assignableAux]
    simp only [beq_self_eq_true, Bool.true_or]
  have hpre : ∀ w ∈ x1, xRow (ge Γ).platform (gs Γ) (gm Γ).cls pc ce false w := fun w hw3 => by
    have hw4 : exF w ∈ p := by rw [← s2]; exact List.mem_map.mpr ⟨w, hw3, rfl⟩
    obtain ⟨b1, b2, Cn, b3, b4⟩ := hp _ hw4
    obtain ⟨cc', hfc, hlk⟩ := Cond.classLink_spec h.ow (h.ts _ b3) (ge Γ).platform hpl
    obtain ⟨c1, d1, n1, n2, n3, n4⟩ := hx4 _ b4
    cases n1.symm.trans hfX
    cases n2.symm.trans hfc
    exact ⟨hcov w b1, b2, cc', hlk, n3, n4⟩
  obtain ⟨vm', hw', hfind⟩ := find_rows (e := ge Γ) (s := gs Γ) (g := { F0 (gm Γ) pc ls st with stack := rest }) (a := x) (ce := ce) (rest := x2) q4 ⟨kI, hI2⟩ hz x1 ((T'.setTop { F0 (gm Γ) pc ls st with stack := rest }).pushFrame (.throwing x)) (by rw [Stand.throwing_heap, e1]; exact q2) (by rw [Stand.throwing_vm]; exact X'.warmed) hpre
  rw [← s1] at hfind
  have hm' : T'.vm.method? (gm Γ) = some (gM Γ) := X'.method'
  have X'' := X'.noted hw'
  have hheap : (T'.setVm vm').heap = t.heap := e1
  have hz3 : z.handlerPc = hpc := congrArg (fun q => q.2.2.1) s3
  have hPm : va_P (gD Γ) (gC Γ) (gl N ad (mrg N1 σ2 σ)) (T'.setVm vm').heap := by rw [hcl, hheap]; exact mrg_P hP hD hp1 hf2
  obtain ⟨t2, b1, b2⟩ := k x (T'.setVm vm').heap (locs ++ L2) ls hPm (mrg_D hD)
    ⟨Nat.le_trans hS.1 (by rw [hheap]; exact hf1), fun q h1 h2 => by
      rw [hheap, hf2 q (Nat.lt_of_lt_of_le h1 hS.1) (fun w => h2 (hF q w))]
      exact hS.2.1 q h1 h2, fun q hq => by
      rcases List.mem_append.mp hq with w | w
      · exact hS.2.2 q w
      · exact hF _ (hL2 q w)⟩ hl (T'.setVm vm') rfl X''
  refine ⟨t2, hsteps.trans (steps_caught (meth := gM Γ) (c := gc Γ) (g := { F0 (gm Γ) pc ls st with stack := rest }) X'.here hm' hx2 hfind ?_), b2⟩
  rw [hz3]
  exact b1
end PrefixRows
end

-- part 9d.lawnames
section
theorem v_Law_7 : ∀ w ∈ cwsV "TriColourMachineLaw" 7 "TriColourMachine" y_TCM_code b_TCM_code 8 none, w ∈ TB := tb_all [333, 334, 335, 43, 336] (by decide +kernel) (by decide +kernel)
theorem v_Law_15 : ∀ w ∈ cwsV "TriColourMachineLaw" 15 "TriColourMachine" y_TCM_number b_TCM_number 3 none, w ∈ TB := tb_all [411, 412, 413, 43, 414] (by decide +kernel) (by decide +kernel)
theorem v_Law_19 : ∀ w ∈ cwsV "TriColourMachineLaw" 19 "TriColourMachine" y_TCM_move b_TCM_move 3 none, w ∈ TB := tb_all [421, 422, 423, 43, 424] (by decide +kernel) (by decide +kernel)
theorem v_Law_22 : ∀ w ∈ cwsV "TriColourMachineLaw" 22 "TriColourMachine" y_TCM_make b_TCM_make 3 (some .int), w ∈ TB := tb_all [430, 431, 432, 43, 433] (by decide +kernel) (by decide +kernel)
theorem v_Law_28 : ∀ w ∈ cwsV "TriColourMachineLaw" 28 "TriColourMachine" y_TCM_set b_TCM_set 4 none, w ∈ TB := tb_all [498, 499, 500, 43, 501] (by decide +kernel) (by decide +kernel)
theorem v_Law_34 : ∀ w ∈ cwsV "TriColourMachineLaw" 34 "TriColourMachine" y_TCM_get b_TCM_get 4 (some .long), w ∈ TB := tb_all [541, 542, 543, 43, 544] (by decide +kernel) (by decide +kernel)
theorem v_Law_38 : ∀ w ∈ cwsV "TriColourMachineLaw" 38 "TriColourMachine" y_TCM_meta b_TCM_meta 3 none, w ∈ TB := tb_all [552, 553, 554, 43, 555] (by decide +kernel) (by decide +kernel)
theorem v_Law_41 : ∀ w ∈ cwsV "TriColourMachineLaw" 41 "TriColourMachine" y_TCM_resume b_TCM_resume 4 (some .long), w ∈ TB := tb_all [563, 564, 565, 43, 566] (by decide +kernel) (by decide +kernel)
theorem v_Law_44 : ∀ w ∈ cwsV "TriColourMachineLaw" 44 "TriColourMachine" y_TCM_collect b_TCM_collect 4 (some .int), w ∈ TB := tb_all [629, 630, 631, 43, 632] (by decide +kernel) (by decide +kernel)
theorem v_Law_48 : ∀ w ∈ cwsV "TriColourMachineLaw" 48 "TriColourMachine" y_TCM_global b_TCM_global 2 (some .long), w ∈ TB := tb_all [637, 638, 639, 43, 640] (by decide +kernel) (by decide +kernel)
theorem v_Law_52 : ∀ w ∈ cwsV "TriColourMachineLaw" 52 "TriColourMachine" y_TCM_object b_TCM_object 4 (some .int), w ∈ TB := tb_all [645, 646, 647, 43, 648] (by decide +kernel) (by decide +kernel)
theorem v_Law_57 : ∀ w ∈ cwsV "TriColourMachineLaw" 57 "TriColourMachine" y_TCM_inside b_TCM_inside 5 (some .long), w ∈ TB := tb_all [667, 668, 669, 43, 670] (by decide +kernel) (by decide +kernel)
theorem d_Law_code_0 : decode b_Law_code 0 = .ok (.aload_n 0, 1) := by decide +kernel
theorem d_Law_code_1 : decode b_Law_code 1 = .ok (.iload_n 1, 1) := by decide +kernel
theorem d_Law_code_2 : decode b_Law_code 2 = .ok (.iload_n 2, 1) := by decide +kernel
theorem d_Law_code_3 : decode b_Law_code 3 = .ok (.iload_n 3, 1) := by decide +kernel
theorem d_Law_code_4 : decode b_Law_code 4 = .ok (.iload 4, 2) := by decide +kernel
theorem d_Law_code_6 : decode b_Law_code 6 = .ok (.iload 5, 2) := by decide +kernel
theorem d_Law_code_8 : decode b_Law_code 8 = .ok (.iload 6, 2) := by decide +kernel
theorem d_Law_code_10 : decode b_Law_code 10 = .ok (.invokevirtual 7, 3) := by decide +kernel
theorem d_Law_code_13 : decode b_Law_code 13 = .ok (.goto 7, 3) := by decide +kernel
theorem d_Law_code_16 : decode b_Law_code 16 = .ok (.astore 7, 2) := by decide +kernel
theorem d_Law_code_18 : decode b_Law_code 18 = .ok (.iconst 1, 1) := by decide +kernel
theorem d_Law_code_19 : decode b_Law_code 19 = .ok (.ireturn, 1) := by decide +kernel
theorem d_Law_code_20 : decode b_Law_code 20 = .ok (.iconst 0, 1) := by decide +kernel
theorem d_Law_code_21 : decode b_Law_code 21 = .ok (.ireturn, 1) := by decide +kernel
theorem d_Law_number_0 : decode b_Law_number 0 = .ok (.aload_n 0, 1) := by decide +kernel
theorem d_Law_number_1 : decode b_Law_number 1 = .ok (.iload_n 1, 1) := by decide +kernel
theorem d_Law_number_2 : decode b_Law_number 2 = .ok (.iload_n 2, 1) := by decide +kernel
theorem d_Law_number_3 : decode b_Law_number 3 = .ok (.invokevirtual 15, 3) := by decide +kernel
theorem d_Law_number_6 : decode b_Law_number 6 = .ok (.goto 6, 3) := by decide +kernel
theorem d_Law_number_9 : decode b_Law_number 9 = .ok (.astore_n 3, 1) := by decide +kernel
theorem d_Law_number_10 : decode b_Law_number 10 = .ok (.iconst 1, 1) := by decide +kernel
theorem d_Law_number_11 : decode b_Law_number 11 = .ok (.ireturn, 1) := by decide +kernel
theorem d_Law_number_12 : decode b_Law_number 12 = .ok (.iconst 0, 1) := by decide +kernel
theorem d_Law_number_13 : decode b_Law_number 13 = .ok (.ireturn, 1) := by decide +kernel
theorem d_Law_move_0 : decode b_Law_move 0 = .ok (.aload_n 0, 1) := by decide +kernel
theorem d_Law_move_1 : decode b_Law_move 1 = .ok (.iload_n 1, 1) := by decide +kernel
theorem d_Law_move_2 : decode b_Law_move 2 = .ok (.iload_n 2, 1) := by decide +kernel
theorem d_Law_move_3 : decode b_Law_move 3 = .ok (.invokevirtual 19, 3) := by decide +kernel
theorem d_Law_move_6 : decode b_Law_move 6 = .ok (.goto 6, 3) := by decide +kernel
theorem d_Law_move_9 : decode b_Law_move 9 = .ok (.astore_n 3, 1) := by decide +kernel
theorem d_Law_move_10 : decode b_Law_move 10 = .ok (.iconst 1, 1) := by decide +kernel
theorem d_Law_move_11 : decode b_Law_move 11 = .ok (.ireturn, 1) := by decide +kernel
theorem d_Law_move_12 : decode b_Law_move 12 = .ok (.iconst 0, 1) := by decide +kernel
theorem d_Law_move_13 : decode b_Law_move 13 = .ok (.ireturn, 1) := by decide +kernel
theorem d_Law_make_0 : decode b_Law_make 0 = .ok (.aload_n 3, 1) := by decide +kernel
theorem d_Law_make_1 : decode b_Law_make 1 = .ok (.iconst 0, 1) := by decide +kernel
theorem d_Law_make_2 : decode b_Law_make 2 = .ok (.aload_n 0, 1) := by decide +kernel
theorem d_Law_make_3 : decode b_Law_make 3 = .ok (.iload_n 1, 1) := by decide +kernel
theorem d_Law_make_4 : decode b_Law_make 4 = .ok (.iload_n 2, 1) := by decide +kernel
theorem d_Law_make_5 : decode b_Law_make 5 = .ok (.invokevirtual 22, 3) := by decide +kernel
theorem d_Law_make_8 : decode b_Law_make 8 = .ok (.i2l, 1) := by decide +kernel
theorem d_Law_make_9 : decode b_Law_make 9 = .ok (.lastore, 1) := by decide +kernel
theorem d_Law_make_10 : decode b_Law_make 10 = .ok (.goto 11, 3) := by decide +kernel
theorem d_Law_make_13 : decode b_Law_make 13 = .ok (.astore 4, 2) := by decide +kernel
theorem d_Law_make_15 : decode b_Law_make 15 = .ok (.iconst 1, 1) := by decide +kernel
theorem d_Law_make_16 : decode b_Law_make 16 = .ok (.ireturn, 1) := by decide +kernel
theorem d_Law_make_17 : decode b_Law_make 17 = .ok (.astore 4, 2) := by decide +kernel
theorem d_Law_make_19 : decode b_Law_make 19 = .ok (.iconst 2, 1) := by decide +kernel
theorem d_Law_make_20 : decode b_Law_make 20 = .ok (.ireturn, 1) := by decide +kernel
theorem d_Law_make_21 : decode b_Law_make 21 = .ok (.iconst 0, 1) := by decide +kernel
theorem d_Law_make_22 : decode b_Law_make 22 = .ok (.ireturn, 1) := by decide +kernel
theorem d_Law_set_0 : decode b_Law_set 0 = .ok (.aload_n 0, 1) := by decide +kernel
theorem d_Law_set_1 : decode b_Law_set 1 = .ok (.iload_n 1, 1) := by decide +kernel
theorem d_Law_set_2 : decode b_Law_set 2 = .ok (.iload_n 2, 1) := by decide +kernel
theorem d_Law_set_3 : decode b_Law_set 3 = .ok (.iload_n 3, 1) := by decide +kernel
theorem d_Law_set_4 : decode b_Law_set 4 = .ok (.invokevirtual 28, 3) := by decide +kernel
theorem d_Law_set_7 : decode b_Law_set 7 = .ok (.goto 15, 3) := by decide +kernel
theorem d_Law_set_10 : decode b_Law_set 10 = .ok (.astore 4, 2) := by decide +kernel
theorem d_Law_set_12 : decode b_Law_set 12 = .ok (.iconst 1, 1) := by decide +kernel
theorem d_Law_set_13 : decode b_Law_set 13 = .ok (.ireturn, 1) := by decide +kernel
theorem d_Law_set_14 : decode b_Law_set 14 = .ok (.astore 4, 2) := by decide +kernel
theorem d_Law_set_16 : decode b_Law_set 16 = .ok (.iconst 2, 1) := by decide +kernel
theorem d_Law_set_17 : decode b_Law_set 17 = .ok (.ireturn, 1) := by decide +kernel
theorem d_Law_set_18 : decode b_Law_set 18 = .ok (.astore 4, 2) := by decide +kernel
theorem d_Law_set_20 : decode b_Law_set 20 = .ok (.iconst 3, 1) := by decide +kernel
theorem d_Law_set_21 : decode b_Law_set 21 = .ok (.ireturn, 1) := by decide +kernel
theorem d_Law_set_22 : decode b_Law_set 22 = .ok (.iconst 0, 1) := by decide +kernel
theorem d_Law_set_23 : decode b_Law_set 23 = .ok (.ireturn, 1) := by decide +kernel
theorem d_Law_get_0 : decode b_Law_get 0 = .ok (.aload 4, 2) := by decide +kernel
theorem d_Law_get_2 : decode b_Law_get 2 = .ok (.iconst 0, 1) := by decide +kernel
theorem d_Law_get_3 : decode b_Law_get 3 = .ok (.aload_n 0, 1) := by decide +kernel
theorem d_Law_get_4 : decode b_Law_get 4 = .ok (.iload_n 1, 1) := by decide +kernel
theorem d_Law_get_5 : decode b_Law_get 5 = .ok (.iload_n 2, 1) := by decide +kernel
theorem d_Law_get_6 : decode b_Law_get 6 = .ok (.iload_n 3, 1) := by decide +kernel
theorem d_Law_get_7 : decode b_Law_get 7 = .ok (.invokevirtual 34, 3) := by decide +kernel
theorem d_Law_get_10 : decode b_Law_get 10 = .ok (.lastore, 1) := by decide +kernel
theorem d_Law_get_11 : decode b_Law_get 11 = .ok (.goto 15, 3) := by decide +kernel
theorem d_Law_get_14 : decode b_Law_get 14 = .ok (.astore 5, 2) := by decide +kernel
theorem d_Law_get_16 : decode b_Law_get 16 = .ok (.iconst 1, 1) := by decide +kernel
theorem d_Law_get_17 : decode b_Law_get 17 = .ok (.ireturn, 1) := by decide +kernel
theorem d_Law_get_18 : decode b_Law_get 18 = .ok (.astore 5, 2) := by decide +kernel
theorem d_Law_get_20 : decode b_Law_get 20 = .ok (.iconst 2, 1) := by decide +kernel
theorem d_Law_get_21 : decode b_Law_get 21 = .ok (.ireturn, 1) := by decide +kernel
theorem d_Law_get_22 : decode b_Law_get 22 = .ok (.astore 5, 2) := by decide +kernel
theorem d_Law_get_24 : decode b_Law_get 24 = .ok (.iconst 3, 1) := by decide +kernel
theorem d_Law_get_25 : decode b_Law_get 25 = .ok (.ireturn, 1) := by decide +kernel
theorem d_Law_get_26 : decode b_Law_get 26 = .ok (.iconst 0, 1) := by decide +kernel
theorem d_Law_get_27 : decode b_Law_get 27 = .ok (.ireturn, 1) := by decide +kernel
theorem d_Law_meta_0 : decode b_Law_meta 0 = .ok (.aload_n 0, 1) := by decide +kernel
theorem d_Law_meta_1 : decode b_Law_meta 1 = .ok (.iload_n 1, 1) := by decide +kernel
theorem d_Law_meta_2 : decode b_Law_meta 2 = .ok (.iload_n 2, 1) := by decide +kernel
theorem d_Law_meta_3 : decode b_Law_meta 3 = .ok (.invokevirtual 38, 3) := by decide +kernel
theorem d_Law_meta_6 : decode b_Law_meta 6 = .ok (.goto 9, 3) := by decide +kernel
theorem d_Law_meta_9 : decode b_Law_meta 9 = .ok (.astore_n 3, 1) := by decide +kernel
theorem d_Law_meta_10 : decode b_Law_meta 10 = .ok (.iconst 1, 1) := by decide +kernel
theorem d_Law_meta_11 : decode b_Law_meta 11 = .ok (.ireturn, 1) := by decide +kernel
theorem d_Law_meta_12 : decode b_Law_meta 12 = .ok (.astore_n 3, 1) := by decide +kernel
theorem d_Law_meta_13 : decode b_Law_meta 13 = .ok (.iconst 2, 1) := by decide +kernel
theorem d_Law_meta_14 : decode b_Law_meta 14 = .ok (.ireturn, 1) := by decide +kernel
theorem d_Law_meta_15 : decode b_Law_meta 15 = .ok (.iconst 0, 1) := by decide +kernel
theorem d_Law_meta_16 : decode b_Law_meta 16 = .ok (.ireturn, 1) := by decide +kernel
theorem d_Law_resume_0 : decode b_Law_resume 0 = .ok (.aload 4, 2) := by decide +kernel
theorem d_Law_resume_2 : decode b_Law_resume 2 = .ok (.iconst 0, 1) := by decide +kernel
theorem d_Law_resume_3 : decode b_Law_resume 3 = .ok (.aload_n 0, 1) := by decide +kernel
theorem d_Law_resume_4 : decode b_Law_resume 4 = .ok (.iload_n 1, 1) := by decide +kernel
theorem d_Law_resume_5 : decode b_Law_resume 5 = .ok (.iload_n 2, 1) := by decide +kernel
theorem d_Law_resume_6 : decode b_Law_resume 6 = .ok (.iload_n 3, 1) := by decide +kernel
theorem d_Law_resume_7 : decode b_Law_resume 7 = .ok (.invokevirtual 41, 3) := by decide +kernel
theorem d_Law_resume_10 : decode b_Law_resume 10 = .ok (.lastore, 1) := by decide +kernel
theorem d_Law_resume_11 : decode b_Law_resume 11 = .ok (.goto 15, 3) := by decide +kernel
theorem d_Law_resume_14 : decode b_Law_resume 14 = .ok (.astore 5, 2) := by decide +kernel
theorem d_Law_resume_16 : decode b_Law_resume 16 = .ok (.iconst 1, 1) := by decide +kernel
theorem d_Law_resume_17 : decode b_Law_resume 17 = .ok (.ireturn, 1) := by decide +kernel
theorem d_Law_resume_18 : decode b_Law_resume 18 = .ok (.astore 5, 2) := by decide +kernel
theorem d_Law_resume_20 : decode b_Law_resume 20 = .ok (.iconst 2, 1) := by decide +kernel
theorem d_Law_resume_21 : decode b_Law_resume 21 = .ok (.ireturn, 1) := by decide +kernel
theorem d_Law_resume_22 : decode b_Law_resume 22 = .ok (.astore 5, 2) := by decide +kernel
theorem d_Law_resume_24 : decode b_Law_resume 24 = .ok (.iconst 3, 1) := by decide +kernel
theorem d_Law_resume_25 : decode b_Law_resume 25 = .ok (.ireturn, 1) := by decide +kernel
theorem d_Law_resume_26 : decode b_Law_resume 26 = .ok (.iconst 0, 1) := by decide +kernel
theorem d_Law_resume_27 : decode b_Law_resume 27 = .ok (.ireturn, 1) := by decide +kernel
theorem d_Law_collect_0 : decode b_Law_collect 0 = .ok (.aload_n 2, 1) := by decide +kernel
theorem d_Law_collect_1 : decode b_Law_collect 1 = .ok (.iconst 0, 1) := by decide +kernel
theorem d_Law_collect_2 : decode b_Law_collect 2 = .ok (.aload_n 0, 1) := by decide +kernel
theorem d_Law_collect_3 : decode b_Law_collect 3 = .ok (.iload_n 1, 1) := by decide +kernel
theorem d_Law_collect_4 : decode b_Law_collect 4 = .ok (.invokevirtual 44, 3) := by decide +kernel
theorem d_Law_collect_7 : decode b_Law_collect 7 = .ok (.i2l, 1) := by decide +kernel
theorem d_Law_collect_8 : decode b_Law_collect 8 = .ok (.lastore, 1) := by decide +kernel
theorem d_Law_collect_9 : decode b_Law_collect 9 = .ok (.goto 6, 3) := by decide +kernel
theorem d_Law_collect_12 : decode b_Law_collect 12 = .ok (.astore_n 3, 1) := by decide +kernel
theorem d_Law_collect_13 : decode b_Law_collect 13 = .ok (.iconst 1, 1) := by decide +kernel
theorem d_Law_collect_14 : decode b_Law_collect 14 = .ok (.ireturn, 1) := by decide +kernel
theorem d_Law_collect_15 : decode b_Law_collect 15 = .ok (.iconst 0, 1) := by decide +kernel
theorem d_Law_collect_16 : decode b_Law_collect 16 = .ok (.ireturn, 1) := by decide +kernel
theorem d_Law_global_0 : decode b_Law_global 0 = .ok (.aload_n 2, 1) := by decide +kernel
theorem d_Law_global_1 : decode b_Law_global 1 = .ok (.iconst 0, 1) := by decide +kernel
theorem d_Law_global_2 : decode b_Law_global 2 = .ok (.aload_n 0, 1) := by decide +kernel
theorem d_Law_global_3 : decode b_Law_global 3 = .ok (.iload_n 1, 1) := by decide +kernel
theorem d_Law_global_4 : decode b_Law_global 4 = .ok (.invokevirtual 48, 3) := by decide +kernel
theorem d_Law_global_7 : decode b_Law_global 7 = .ok (.lastore, 1) := by decide +kernel
theorem d_Law_global_8 : decode b_Law_global 8 = .ok (.goto 6, 3) := by decide +kernel
theorem d_Law_global_11 : decode b_Law_global 11 = .ok (.astore_n 3, 1) := by decide +kernel
theorem d_Law_global_12 : decode b_Law_global 12 = .ok (.iconst 1, 1) := by decide +kernel
theorem d_Law_global_13 : decode b_Law_global 13 = .ok (.ireturn, 1) := by decide +kernel
theorem d_Law_global_14 : decode b_Law_global 14 = .ok (.iconst 0, 1) := by decide +kernel
theorem d_Law_global_15 : decode b_Law_global 15 = .ok (.ireturn, 1) := by decide +kernel
theorem d_Law_object_0 : decode b_Law_object 0 = .ok (.aload_n 3, 1) := by decide +kernel
theorem d_Law_object_1 : decode b_Law_object 1 = .ok (.iconst 0, 1) := by decide +kernel
theorem d_Law_object_2 : decode b_Law_object 2 = .ok (.aload_n 0, 1) := by decide +kernel
theorem d_Law_object_3 : decode b_Law_object 3 = .ok (.iload_n 1, 1) := by decide +kernel
theorem d_Law_object_4 : decode b_Law_object 4 = .ok (.iload_n 2, 1) := by decide +kernel
theorem d_Law_object_5 : decode b_Law_object 5 = .ok (.invokevirtual 52, 3) := by decide +kernel
theorem d_Law_object_8 : decode b_Law_object 8 = .ok (.i2l, 1) := by decide +kernel
theorem d_Law_object_9 : decode b_Law_object 9 = .ok (.lastore, 1) := by decide +kernel
theorem d_Law_object_10 : decode b_Law_object 10 = .ok (.goto 11, 3) := by decide +kernel
theorem d_Law_object_13 : decode b_Law_object 13 = .ok (.astore 4, 2) := by decide +kernel
theorem d_Law_object_15 : decode b_Law_object 15 = .ok (.iconst 1, 1) := by decide +kernel
theorem d_Law_object_16 : decode b_Law_object 16 = .ok (.ireturn, 1) := by decide +kernel
theorem d_Law_object_17 : decode b_Law_object 17 = .ok (.astore 4, 2) := by decide +kernel
theorem d_Law_object_19 : decode b_Law_object 19 = .ok (.iconst 2, 1) := by decide +kernel
theorem d_Law_object_20 : decode b_Law_object 20 = .ok (.ireturn, 1) := by decide +kernel
theorem d_Law_object_21 : decode b_Law_object 21 = .ok (.iconst 0, 1) := by decide +kernel
theorem d_Law_object_22 : decode b_Law_object 22 = .ok (.ireturn, 1) := by decide +kernel
theorem d_Law_inside_0 : decode b_Law_inside 0 = .ok (.aload 4, 2) := by decide +kernel
theorem d_Law_inside_2 : decode b_Law_inside 2 = .ok (.iconst 0, 1) := by decide +kernel
theorem d_Law_inside_3 : decode b_Law_inside 3 = .ok (.aload_n 0, 1) := by decide +kernel
theorem d_Law_inside_4 : decode b_Law_inside 4 = .ok (.iload_n 1, 1) := by decide +kernel
theorem d_Law_inside_5 : decode b_Law_inside 5 = .ok (.iload_n 2, 1) := by decide +kernel
theorem d_Law_inside_6 : decode b_Law_inside 6 = .ok (.iload_n 3, 1) := by decide +kernel
theorem d_Law_inside_7 : decode b_Law_inside 7 = .ok (.invokevirtual 57, 3) := by decide +kernel
theorem d_Law_inside_10 : decode b_Law_inside 10 = .ok (.lastore, 1) := by decide +kernel
theorem d_Law_inside_11 : decode b_Law_inside 11 = .ok (.goto 11, 3) := by decide +kernel
theorem d_Law_inside_14 : decode b_Law_inside 14 = .ok (.astore 5, 2) := by decide +kernel
theorem d_Law_inside_16 : decode b_Law_inside 16 = .ok (.iconst 1, 1) := by decide +kernel
theorem d_Law_inside_17 : decode b_Law_inside 17 = .ok (.ireturn, 1) := by decide +kernel
theorem d_Law_inside_18 : decode b_Law_inside 18 = .ok (.astore 5, 2) := by decide +kernel
theorem d_Law_inside_20 : decode b_Law_inside 20 = .ok (.iconst 2, 1) := by decide +kernel
theorem d_Law_inside_21 : decode b_Law_inside 21 = .ok (.ireturn, 1) := by decide +kernel
theorem d_Law_inside_22 : decode b_Law_inside 22 = .ok (.iconst 0, 1) := by decide +kernel
theorem d_Law_inside_23 : decode b_Law_inside 23 = .ok (.ireturn, 1) := by decide +kernel
theorem xl_Law_13 : Cond.classLink "TriColourMachineLaw" 13 X_IAE ∈ TB := tb_mem 332 (by decide +kernel) (by decide +kernel)
theorem xl_Law_26 : Cond.classLink "TriColourMachineLaw" 26 X_ISE ∈ TB := tb_mem 429 (by decide +kernel) (by decide +kernel)
theorem xl_Law_32 : Cond.classLink "TriColourMachineLaw" 32 X_UOE ∈ TB := tb_mem 497 (by decide +kernel) (by decide +kernel)
theorem xl_Law_55 : Cond.classLink "TriColourMachineLaw" 55 X_NSE ∈ TB := tb_mem 644 (by decide +kernel) (by decide +kernel)
end

-- part 9e.wraps
section
/-! the law's wrappers: what they answer and leave, out of what the class's method does -/
abbrev rmW : Room := { frames := 9, cells := 1, slots := 6, locals := 220 }
/-- the class's world and the array of one long behind it -/
def wo (ad : Nat → Nat) (t : Nat → ClassId) (C : CS) (f : Nat → Int64) : Nat → va_E := mrg 171 (wc ad t C) (fun _ => .inl (t 0, 1, .inr (.inl f)))
abbrev Cw (l : Launch) (D : va_G) (t : Nat → ClassId) (ad : Nat → Nat) (y : MethodName) (b : ByteArray) (n : Nat) (hh : List (Nat × Nat × Nat × Nat)) (As : List Value) (C : CS) (r : Int32) (C2 : CS) : Prop := Ctk l D CL (tyc t) NL 171 ad y (.codeWith y b n (some .int) hh :: TB) rmW As (wc ad t C) (fun v σ2 => v = some (.int r) ∧ σ2 = wc ad t C2)
abbrev Cwo (l : Launch) (D : va_G) (t : Nat → ClassId) (ad : Nat → Nat) (y : MethodName) (b : ByteArray) (n : Nat) (hh : List (Nat × Nat × Nat × Nat)) (As : List Value) (C : CS) (f : Nat → Int64) (r : Int32) (C2 : CS) (f2 : Nat → Int64) : Prop := Ctk l D CL (tyc t) NL 172 ad y (.codeWith y b n (some .int) hh :: TB) rmW As (wo ad t C f) (fun v σ2 => v = some (.int r) ∧ σ2 = wo ad t C2 f2)
theorem gl_mrg {N : Nat} {ad : Nat → Nat} {σ τ : Nat → va_E} : gl N ad (mrg N τ σ) = gl N ad τ := gl_congr (fun k hk => ⟨rfl, if_pos hk⟩)
theorem wo_gl {ad : Nat → Nat} {t : Nat → ClassId} {C : CS} {f : Nat → Int64} : gl 171 ad (wo ad t C f) = gl 171 ad (wc ad t C) := gl_mrg
theorem ct_mrg {l : Launch} {D : va_G} {cl : List vw_C} {tys : List (ClassId × FieldType)} {nl : List (String × Nat × MethodName × String)} {N : Nat} {ad : Nat → Nat} {y : MethodName} {ws : List Cond} {rm : Room} {As : List Value} {σ τ : Nat → va_E} {Rr : Option Value → (Nat → va_E) → Prop} (h : Ct l D cl tys nl N ad y ws rm As τ Rr) : Ct l D cl tys nl N ad y ws rm As (mrg N τ σ) Rr := by
  unfold Ct cPc at h ⊢
  rw [gl_mrg]
  exact h
theorem cx_mrg {l : Launch} {D : va_G} {cl : List vw_C} {tys : List (ClassId × FieldType)} {nl : List (String × Nat × MethodName × String)} {N : Nat} {ad : Nat → Nat} {y : MethodName} {ws : List Cond} {rm : Room} {As : List Value} {σ τ : Nat → va_E} {Rr : String → (Nat → va_E) → Prop} (h : CtX l D cl tys nl N ad y ws rm As τ Rr) : CtX l D cl tys nl N ad y ws rm As (mrg N τ σ) Rr := by
  unfold CtX cPc at h ⊢
  rw [gl_mrg]
  exact h
theorem wo_put {ad : Nat → Nat} {t : Nat → ClassId} {C C2 : CS} {f g : Nat → Int64} : ∀ k, k < 172 → va_up (mrg 171 (wc ad t C2) (wo ad t C f)) 171 (.inl (t 0, 1, .inr (.inl g))) k = wo ad t C2 g k := fun k hk => by
  unfold va_up wo mrg
  by_cases z : k = 171
  · subst z; simp
  · have : k < 171 := by omega
    simp [z, this]
theorem wo_thr {ad : Nat → Nat} {t : Nat → ClassId} {C C2 : CS} {f : Nat → Int64} : ∀ k, k < 172 → mrg 171 (wc ad t C2) (wo ad t C f) k = wo ad t C2 f k := fun k hk => by
  unfold wo mrg
  by_cases z : k < 171 <;> simp [z]
theorem wc_thr {ad : Nat → Nat} {t : Nat → ClassId} {C C2 : CS} : ∀ k, k < 171 → mrg 171 (wc ad t C2) (wc ad t C) k = wc ad t C2 k := fun k hk => if_pos hk
theorem wo_head {ad : Nat → Nat} {t : Nat → ClassId} {C : CS} {f : Nat → Int64} : wo ad t C f (ix 0 0) = wc ad t C (ix 0 0) := rfl
theorem wo_out {ad : Nat → Nat} {t : Nat → ClassId} {C C2 : CS} {f : Nat → Int64} : mrg 171 (wc ad t C2) (wo ad t C f) 171 = .inl (t 0, 1, .inr (.inl f)) := rfl
set_option maxRecDepth 100000 in
theorem w_Law_code {l : Launch} {D : va_G} {t : Nat → ClassId} {ad : Nat → Nat} {C C2 : CS} {rmY : Room} {a1 a2 a3 a4 a5 a6 : Int32} (hM : Cd l D t ad y_TCM_code b_TCM_code 8 none rmY [.ref (ad (ix 0 0)), .int a1, .int a2, .int a3, .int a4, .int a5, .int a6] C (none) C2) (hr : cRm rmY rmW 8 0 0) : Cw l D t ad y_Law_code b_Law_code 8 [(0, 13, 16, 13)] [.ref (ad (ix 0 0)), .int a1, .int a2, .int a3, .int a4, .int a5, .int a6] C 0 C2 := by
  refine ctW_of (by decide) (Nat.le_of_ble_eq_true rfl) ?_
  intro Γ hL hDD hN h r hx
  refine g_at (L' := [some (.ref (ad (ix 0 0))), some (.int a1), some (.int a2), some (.int a3), some (.int a4), some (.int a5), some (.int a6), none]) rfl rfl rfl ?_
  refine g_aload_n h d_Law_code_0 rfl rfl ?_
  refine g_iload_n h d_Law_code_1 rfl rfl ?_
  refine g_iload_n h d_Law_code_2 rfl rfl ?_
  refine g_iload_n h d_Law_code_3 rfl rfl ?_
  refine g_iload h d_Law_code_4 rfl ?_
  refine g_iload h d_Law_code_6 rfl ?_
  refine g_iload h d_Law_code_8 rfl ?_
  refine g_callVP h tb_good (N1 := 171) (Nat.le_of_ble_eq_true rfl) (by rw [hL, hDD]; exact hM) (ix_lt 0 (by decide) _ (by decide)) (wc_at (by decide) (by decide)) rfl v_Law_7 nm_TCM_code rfl hr rfl (Nat.le_of_ble_eq_true rfl) d_Law_code_10 ?_
  rintro v0 σ2 ⟨rfl, rfl⟩
  refine g_world (σ' := wc ad t C2) wc_thr ?_
  refine g_goto (tgt := 20) h d_Law_code_13 (by decide) ?_
  refine g_iconst (v := 0) h d_Law_code_20 (by decide) ?_
  refine g_widen (k2 := 1) (n2 := 6) (by decide) (by decide) ?_
  exact g_iret h r d_Law_code_21 (⟨rfl, rfl⟩)
set_option maxRecDepth 100000 in
theorem w_Law_code_IAE {l : Launch} {D : va_G} {t : Nat → ClassId} {ad : Nat → Nat} {C C2 : CS} {rmY : Room} {a1 a2 a3 a4 a5 a6 : Int32} (hM : Ce l D t ad y_TCM_code b_TCM_code 8 none rmY [.ref (ad (ix 0 0)), .int a1, .int a2, .int a3, .int a4, .int a5, .int a6] C X_IAE C2) (hr : cRx rmY rmW 8) : Cw l D t ad y_Law_code b_Law_code 8 [(0, 13, 16, 13)] [.ref (ad (ix 0 0)), .int a1, .int a2, .int a3, .int a4, .int a5, .int a6] C 1 C2 := by
  refine ctW_of (by decide) (Nat.le_of_ble_eq_true rfl) ?_
  intro Γ hL hDD hN h r hx
  refine g_at (L' := [some (.ref (ad (ix 0 0))), some (.int a1), some (.int a2), some (.int a3), some (.int a4), some (.int a5), some (.int a6), none]) rfl rfl rfl ?_
  refine g_aload_n h d_Law_code_0 rfl rfl ?_
  refine g_iload_n h d_Law_code_1 rfl rfl ?_
  refine g_iload_n h d_Law_code_2 rfl rfl ?_
  refine g_iload_n h d_Law_code_3 rfl rfl ?_
  refine g_iload h d_Law_code_4 rfl ?_
  refine g_iload h d_Law_code_6 rfl ?_
  refine g_iload h d_Law_code_8 rfl ?_
  refine g_catchV (p := []) (r := []) (a0 := 0) (a1 := 13) (hpc := 16) (ty := 13) (X := X_IAE) (τ := wc ad t C2) h tb_good (N1 := 171) (Nat.le_of_ble_eq_true rfl) hx (fun z hz => absurd hz (List.not_mem_nil)) ⟨⟨Nat.zero_le _, by decide⟩, by decide, xl_Law_13, xin_IAE⟩ (by rw [hL, hDD]; exact hM) (ix_lt 0 (by decide) _ (by decide)) (wc_at (by decide) (by decide)) rfl v_Law_7 nm_TCM_code rfl hr rfl (Nat.le_of_ble_eq_true rfl) d_Law_code_10 ?_
  intro x
  refine g_world (σ' := wc ad t C2) wc_thr ?_
  refine g_astore h d_Law_code_16 rfl (by rw [hN]; decide) ?_
  refine g_iconst (v := 1) h d_Law_code_18 (by decide) ?_
  exact g_iret h r d_Law_code_19 (⟨rfl, rfl⟩)
set_option maxRecDepth 100000 in
theorem w_Law_number {l : Launch} {D : va_G} {t : Nat → ClassId} {ad : Nat → Nat} {C C2 : CS} {rmY : Room} {a1 a2 : Int32} (hM : Cd l D t ad y_TCM_number b_TCM_number 3 none rmY [.ref (ad (ix 0 0)), .int a1, .int a2] C (none) C2) (hr : cRm rmY rmW 3 0 0) : Cw l D t ad y_Law_number b_Law_number 4 [(0, 6, 9, 13)] [.ref (ad (ix 0 0)), .int a1, .int a2] C 0 C2 := by
  refine ctW_of (by decide) (Nat.le_of_ble_eq_true rfl) ?_
  intro Γ hL hDD hN h r hx
  refine g_at (L' := [some (.ref (ad (ix 0 0))), some (.int a1), some (.int a2), none]) rfl rfl rfl ?_
  refine g_aload_n h d_Law_number_0 rfl rfl ?_
  refine g_iload_n h d_Law_number_1 rfl rfl ?_
  refine g_iload_n h d_Law_number_2 rfl rfl ?_
  refine g_callVP h tb_good (N1 := 171) (Nat.le_of_ble_eq_true rfl) (by rw [hL, hDD]; exact hM) (ix_lt 0 (by decide) _ (by decide)) (wc_at (by decide) (by decide)) rfl v_Law_15 nm_TCM_number rfl hr rfl (Nat.le_of_ble_eq_true rfl) d_Law_number_3 ?_
  rintro v0 σ2 ⟨rfl, rfl⟩
  refine g_world (σ' := wc ad t C2) wc_thr ?_
  refine g_goto (tgt := 12) h d_Law_number_6 (by decide) ?_
  refine g_iconst (v := 0) h d_Law_number_12 (by decide) ?_
  refine g_widen (k2 := 1) (n2 := 6) (by decide) (by decide) ?_
  exact g_iret h r d_Law_number_13 (⟨rfl, rfl⟩)
set_option maxRecDepth 100000 in
theorem w_Law_number_IAE {l : Launch} {D : va_G} {t : Nat → ClassId} {ad : Nat → Nat} {C C2 : CS} {rmY : Room} {a1 a2 : Int32} (hM : Ce l D t ad y_TCM_number b_TCM_number 3 none rmY [.ref (ad (ix 0 0)), .int a1, .int a2] C X_IAE C2) (hr : cRx rmY rmW 3) : Cw l D t ad y_Law_number b_Law_number 4 [(0, 6, 9, 13)] [.ref (ad (ix 0 0)), .int a1, .int a2] C 1 C2 := by
  refine ctW_of (by decide) (Nat.le_of_ble_eq_true rfl) ?_
  intro Γ hL hDD hN h r hx
  refine g_at (L' := [some (.ref (ad (ix 0 0))), some (.int a1), some (.int a2), none]) rfl rfl rfl ?_
  refine g_aload_n h d_Law_number_0 rfl rfl ?_
  refine g_iload_n h d_Law_number_1 rfl rfl ?_
  refine g_iload_n h d_Law_number_2 rfl rfl ?_
  refine g_catchV (p := []) (r := []) (a0 := 0) (a1 := 6) (hpc := 9) (ty := 13) (X := X_IAE) (τ := wc ad t C2) h tb_good (N1 := 171) (Nat.le_of_ble_eq_true rfl) hx (fun z hz => absurd hz (List.not_mem_nil)) ⟨⟨Nat.zero_le _, by decide⟩, by decide, xl_Law_13, xin_IAE⟩ (by rw [hL, hDD]; exact hM) (ix_lt 0 (by decide) _ (by decide)) (wc_at (by decide) (by decide)) rfl v_Law_15 nm_TCM_number rfl hr rfl (Nat.le_of_ble_eq_true rfl) d_Law_number_3 ?_
  intro x
  refine g_world (σ' := wc ad t C2) wc_thr ?_
  refine g_astore_n h d_Law_number_9 rfl rfl (by rw [hN]; decide) ?_
  refine g_iconst (v := 1) h d_Law_number_10 (by decide) ?_
  exact g_iret h r d_Law_number_11 (⟨rfl, rfl⟩)
set_option maxRecDepth 100000 in
theorem w_Law_move {l : Launch} {D : va_G} {t : Nat → ClassId} {ad : Nat → Nat} {C C2 : CS} {rmY : Room} {a1 a2 : Int32} (hM : Cd l D t ad y_TCM_move b_TCM_move 3 none rmY [.ref (ad (ix 0 0)), .int a1, .int a2] C (none) C2) (hr : cRm rmY rmW 3 0 0) : Cw l D t ad y_Law_move b_Law_move 4 [(0, 6, 9, 13)] [.ref (ad (ix 0 0)), .int a1, .int a2] C 0 C2 := by
  refine ctW_of (by decide) (Nat.le_of_ble_eq_true rfl) ?_
  intro Γ hL hDD hN h r hx
  refine g_at (L' := [some (.ref (ad (ix 0 0))), some (.int a1), some (.int a2), none]) rfl rfl rfl ?_
  refine g_aload_n h d_Law_move_0 rfl rfl ?_
  refine g_iload_n h d_Law_move_1 rfl rfl ?_
  refine g_iload_n h d_Law_move_2 rfl rfl ?_
  refine g_callVP h tb_good (N1 := 171) (Nat.le_of_ble_eq_true rfl) (by rw [hL, hDD]; exact hM) (ix_lt 0 (by decide) _ (by decide)) (wc_at (by decide) (by decide)) rfl v_Law_19 nm_TCM_move rfl hr rfl (Nat.le_of_ble_eq_true rfl) d_Law_move_3 ?_
  rintro v0 σ2 ⟨rfl, rfl⟩
  refine g_world (σ' := wc ad t C2) wc_thr ?_
  refine g_goto (tgt := 12) h d_Law_move_6 (by decide) ?_
  refine g_iconst (v := 0) h d_Law_move_12 (by decide) ?_
  refine g_widen (k2 := 1) (n2 := 6) (by decide) (by decide) ?_
  exact g_iret h r d_Law_move_13 (⟨rfl, rfl⟩)
set_option maxRecDepth 100000 in
theorem w_Law_move_IAE {l : Launch} {D : va_G} {t : Nat → ClassId} {ad : Nat → Nat} {C C2 : CS} {rmY : Room} {a1 a2 : Int32} (hM : Ce l D t ad y_TCM_move b_TCM_move 3 none rmY [.ref (ad (ix 0 0)), .int a1, .int a2] C X_IAE C2) (hr : cRx rmY rmW 3) : Cw l D t ad y_Law_move b_Law_move 4 [(0, 6, 9, 13)] [.ref (ad (ix 0 0)), .int a1, .int a2] C 1 C2 := by
  refine ctW_of (by decide) (Nat.le_of_ble_eq_true rfl) ?_
  intro Γ hL hDD hN h r hx
  refine g_at (L' := [some (.ref (ad (ix 0 0))), some (.int a1), some (.int a2), none]) rfl rfl rfl ?_
  refine g_aload_n h d_Law_move_0 rfl rfl ?_
  refine g_iload_n h d_Law_move_1 rfl rfl ?_
  refine g_iload_n h d_Law_move_2 rfl rfl ?_
  refine g_catchV (p := []) (r := []) (a0 := 0) (a1 := 6) (hpc := 9) (ty := 13) (X := X_IAE) (τ := wc ad t C2) h tb_good (N1 := 171) (Nat.le_of_ble_eq_true rfl) hx (fun z hz => absurd hz (List.not_mem_nil)) ⟨⟨Nat.zero_le _, by decide⟩, by decide, xl_Law_13, xin_IAE⟩ (by rw [hL, hDD]; exact hM) (ix_lt 0 (by decide) _ (by decide)) (wc_at (by decide) (by decide)) rfl v_Law_19 nm_TCM_move rfl hr rfl (Nat.le_of_ble_eq_true rfl) d_Law_move_3 ?_
  intro x
  refine g_world (σ' := wc ad t C2) wc_thr ?_
  refine g_astore_n h d_Law_move_9 rfl rfl (by rw [hN]; decide) ?_
  refine g_iconst (v := 1) h d_Law_move_10 (by decide) ?_
  exact g_iret h r d_Law_move_11 (⟨rfl, rfl⟩)
set_option maxRecDepth 100000 in
theorem w_Law_make {l : Launch} {D : va_G} {t : Nat → ClassId} {ad : Nat → Nat} {C C2 : CS} {rmY : Room} {a1 a2 : Int32} {f : Nat → Int64} {v : Int32} (hM : Cd l D t ad y_TCM_make b_TCM_make 3 (some .int) rmY [.ref (ad (ix 0 0)), .int a1, .int a2] C (some (.int v)) C2) (hr : cRm rmY rmW 3 0 0) : Cwo l D t ad y_Law_make b_Law_make 5 [(0, 10, 13, 13), (0, 10, 17, 26)] [.ref (ad (ix 0 0)), .int a1, .int a2, .ref (ad 171)] C f 0 C2 (vp_updL f 0 v.toInt64) := by
  refine ctW_of (by decide) (Nat.le_of_ble_eq_true rfl) ?_
  intro Γ hL hDD hN h r hx
  refine g_at (L' := [some (.ref (ad (ix 0 0))), some (.int a1), some (.int a2), some (.ref (ad 171)), none]) rfl rfl rfl ?_
  refine g_aload_n h d_Law_make_0 rfl rfl ?_
  refine g_iconst (v := 0) h d_Law_make_1 (by decide) ?_
  refine g_aload_n h d_Law_make_2 rfl rfl ?_
  refine g_iload_n h d_Law_make_3 rfl rfl ?_
  refine g_iload_n h d_Law_make_4 rfl rfl ?_
  refine g_callVP h tb_good (N1 := 171) (Nat.le_of_ble_eq_true rfl) (by rw [hL, hDD]; exact ct_mrg hM) (ix_lt 0 (by decide) _ (by decide)) (wo_head.trans (wc_at (by decide) (by decide))) rfl v_Law_22 nm_TCM_make rfl hr rfl (Nat.le_of_ble_eq_true rfl) d_Law_make_5 ?_
  rintro v0 σ2 ⟨rfl, rfl⟩
  refine g_at (st' := .int v :: [.int 0, .ref (ad 171)]) rfl rfl rfl ?_
  refine g_i2l h d_Law_make_8 ?_
  refine g_lastore h 171 0 (Nat.lt_of_lt_of_le (by decide) (Nat.le_refl 172)) wo_out rfl (i := nI 0) (vp_in_nI (by decide) (by decide)) d_Law_make_9 ?_
  refine g_world (σ' := wo ad t C2 (vp_updL f 0 v.toInt64)) wo_put ?_
  refine g_goto (tgt := 21) h d_Law_make_10 (by decide) ?_
  refine g_iconst (v := 0) h d_Law_make_21 (by decide) ?_
  refine g_widen (k2 := 1) (n2 := 6) (by decide) (by decide) ?_
  exact g_iret h r d_Law_make_22 (⟨rfl, rfl⟩)
set_option maxRecDepth 100000 in
theorem w_Law_make_IAE {l : Launch} {D : va_G} {t : Nat → ClassId} {ad : Nat → Nat} {C C2 : CS} {rmY : Room} {a1 a2 : Int32} {f : Nat → Int64} (hM : Ce l D t ad y_TCM_make b_TCM_make 3 (some .int) rmY [.ref (ad (ix 0 0)), .int a1, .int a2] C X_IAE C2) (hr : cRx rmY rmW 3) : Cwo l D t ad y_Law_make b_Law_make 5 [(0, 10, 13, 13), (0, 10, 17, 26)] [.ref (ad (ix 0 0)), .int a1, .int a2, .ref (ad 171)] C f 1 C2 f := by
  refine ctW_of (by decide) (Nat.le_of_ble_eq_true rfl) ?_
  intro Γ hL hDD hN h r hx
  refine g_at (L' := [some (.ref (ad (ix 0 0))), some (.int a1), some (.int a2), some (.ref (ad 171)), none]) rfl rfl rfl ?_
  refine g_aload_n h d_Law_make_0 rfl rfl ?_
  refine g_iconst (v := 0) h d_Law_make_1 (by decide) ?_
  refine g_aload_n h d_Law_make_2 rfl rfl ?_
  refine g_iload_n h d_Law_make_3 rfl rfl ?_
  refine g_iload_n h d_Law_make_4 rfl rfl ?_
  refine g_catchV (p := []) (r := [(0, 10, 17, 26)]) (a0 := 0) (a1 := 10) (hpc := 13) (ty := 13) (X := X_IAE) (τ := wc ad t C2) h tb_good (N1 := 171) (Nat.le_of_ble_eq_true rfl) hx (fun z hz => absurd hz (List.not_mem_nil)) ⟨⟨Nat.zero_le _, by decide⟩, by decide, xl_Law_13, xin_IAE⟩ (by rw [hL, hDD]; exact cx_mrg hM) (ix_lt 0 (by decide) _ (by decide)) (wo_head.trans (wc_at (by decide) (by decide))) rfl v_Law_22 nm_TCM_make rfl hr rfl (Nat.le_of_ble_eq_true rfl) d_Law_make_5 ?_
  intro x
  refine g_world (σ' := wo ad t C2 f) wo_thr ?_
  refine g_astore h d_Law_make_13 rfl (by rw [hN]; decide) ?_
  refine g_iconst (v := 1) h d_Law_make_15 (by decide) ?_
  exact g_iret h r d_Law_make_16 (⟨rfl, rfl⟩)
set_option maxRecDepth 100000 in
theorem w_Law_make_ISE {l : Launch} {D : va_G} {t : Nat → ClassId} {ad : Nat → Nat} {C C2 : CS} {rmY : Room} {a1 a2 : Int32} {f : Nat → Int64} (hM : Ce l D t ad y_TCM_make b_TCM_make 3 (some .int) rmY [.ref (ad (ix 0 0)), .int a1, .int a2] C X_ISE C2) (hr : cRx rmY rmW 3) : Cwo l D t ad y_Law_make b_Law_make 5 [(0, 10, 13, 13), (0, 10, 17, 26)] [.ref (ad (ix 0 0)), .int a1, .int a2, .ref (ad 171)] C f 2 C2 f := by
  refine ctW_of (by decide) (Nat.le_of_ble_eq_true rfl) ?_
  intro Γ hL hDD hN h r hx
  refine g_at (L' := [some (.ref (ad (ix 0 0))), some (.int a1), some (.int a2), some (.ref (ad 171)), none]) rfl rfl rfl ?_
  refine g_aload_n h d_Law_make_0 rfl rfl ?_
  refine g_iconst (v := 0) h d_Law_make_1 (by decide) ?_
  refine g_aload_n h d_Law_make_2 rfl rfl ?_
  refine g_iload_n h d_Law_make_3 rfl rfl ?_
  refine g_iload_n h d_Law_make_4 rfl rfl ?_
  refine g_catchV (p := [(0, 10, 13, 13)]) (r := []) (a0 := 0) (a1 := 10) (hpc := 17) (ty := 26) (X := X_ISE) (τ := wc ad t C2) h tb_good (N1 := 171) (Nat.le_of_ble_eq_true rfl) hx (by
      intro z hz
      simp only [List.mem_cons, List.not_mem_nil, or_false] at hz
      subst hz
      · exact ⟨⟨Nat.zero_le _, by decide⟩, by decide, X_IAE, xl_Law_13, by decide⟩) ⟨⟨Nat.zero_le _, by decide⟩, by decide, xl_Law_26, xin_ISE⟩ (by rw [hL, hDD]; exact cx_mrg hM) (ix_lt 0 (by decide) _ (by decide)) (wo_head.trans (wc_at (by decide) (by decide))) rfl v_Law_22 nm_TCM_make rfl hr rfl (Nat.le_of_ble_eq_true rfl) d_Law_make_5 ?_
  intro x
  refine g_world (σ' := wo ad t C2 f) wo_thr ?_
  refine g_astore h d_Law_make_17 rfl (by rw [hN]; decide) ?_
  refine g_iconst (v := 2) h d_Law_make_19 (by decide) ?_
  exact g_iret h r d_Law_make_20 (⟨rfl, rfl⟩)
set_option maxRecDepth 100000 in
theorem w_Law_set {l : Launch} {D : va_G} {t : Nat → ClassId} {ad : Nat → Nat} {C C2 : CS} {rmY : Room} {a1 a2 a3 : Int32} (hM : Cd l D t ad y_TCM_set b_TCM_set 4 none rmY [.ref (ad (ix 0 0)), .int a1, .int a2, .int a3] C (none) C2) (hr : cRm rmY rmW 4 0 0) : Cw l D t ad y_Law_set b_Law_set 5 [(0, 7, 10, 13), (0, 7, 14, 26), (0, 7, 18, 32)] [.ref (ad (ix 0 0)), .int a1, .int a2, .int a3] C 0 C2 := by
  refine ctW_of (by decide) (Nat.le_of_ble_eq_true rfl) ?_
  intro Γ hL hDD hN h r hx
  refine g_at (L' := [some (.ref (ad (ix 0 0))), some (.int a1), some (.int a2), some (.int a3), none]) rfl rfl rfl ?_
  refine g_aload_n h d_Law_set_0 rfl rfl ?_
  refine g_iload_n h d_Law_set_1 rfl rfl ?_
  refine g_iload_n h d_Law_set_2 rfl rfl ?_
  refine g_iload_n h d_Law_set_3 rfl rfl ?_
  refine g_callVP h tb_good (N1 := 171) (Nat.le_of_ble_eq_true rfl) (by rw [hL, hDD]; exact hM) (ix_lt 0 (by decide) _ (by decide)) (wc_at (by decide) (by decide)) rfl v_Law_28 nm_TCM_set rfl hr rfl (Nat.le_of_ble_eq_true rfl) d_Law_set_4 ?_
  rintro v0 σ2 ⟨rfl, rfl⟩
  refine g_world (σ' := wc ad t C2) wc_thr ?_
  refine g_goto (tgt := 22) h d_Law_set_7 (by decide) ?_
  refine g_iconst (v := 0) h d_Law_set_22 (by decide) ?_
  refine g_widen (k2 := 1) (n2 := 6) (by decide) (by decide) ?_
  exact g_iret h r d_Law_set_23 (⟨rfl, rfl⟩)
set_option maxRecDepth 100000 in
theorem w_Law_set_IAE {l : Launch} {D : va_G} {t : Nat → ClassId} {ad : Nat → Nat} {C C2 : CS} {rmY : Room} {a1 a2 a3 : Int32} (hM : Ce l D t ad y_TCM_set b_TCM_set 4 none rmY [.ref (ad (ix 0 0)), .int a1, .int a2, .int a3] C X_IAE C2) (hr : cRx rmY rmW 4) : Cw l D t ad y_Law_set b_Law_set 5 [(0, 7, 10, 13), (0, 7, 14, 26), (0, 7, 18, 32)] [.ref (ad (ix 0 0)), .int a1, .int a2, .int a3] C 1 C2 := by
  refine ctW_of (by decide) (Nat.le_of_ble_eq_true rfl) ?_
  intro Γ hL hDD hN h r hx
  refine g_at (L' := [some (.ref (ad (ix 0 0))), some (.int a1), some (.int a2), some (.int a3), none]) rfl rfl rfl ?_
  refine g_aload_n h d_Law_set_0 rfl rfl ?_
  refine g_iload_n h d_Law_set_1 rfl rfl ?_
  refine g_iload_n h d_Law_set_2 rfl rfl ?_
  refine g_iload_n h d_Law_set_3 rfl rfl ?_
  refine g_catchV (p := []) (r := [(0, 7, 14, 26), (0, 7, 18, 32)]) (a0 := 0) (a1 := 7) (hpc := 10) (ty := 13) (X := X_IAE) (τ := wc ad t C2) h tb_good (N1 := 171) (Nat.le_of_ble_eq_true rfl) hx (fun z hz => absurd hz (List.not_mem_nil)) ⟨⟨Nat.zero_le _, by decide⟩, by decide, xl_Law_13, xin_IAE⟩ (by rw [hL, hDD]; exact hM) (ix_lt 0 (by decide) _ (by decide)) (wc_at (by decide) (by decide)) rfl v_Law_28 nm_TCM_set rfl hr rfl (Nat.le_of_ble_eq_true rfl) d_Law_set_4 ?_
  intro x
  refine g_world (σ' := wc ad t C2) wc_thr ?_
  refine g_astore h d_Law_set_10 rfl (by rw [hN]; decide) ?_
  refine g_iconst (v := 1) h d_Law_set_12 (by decide) ?_
  exact g_iret h r d_Law_set_13 (⟨rfl, rfl⟩)
set_option maxRecDepth 100000 in
theorem w_Law_set_ISE {l : Launch} {D : va_G} {t : Nat → ClassId} {ad : Nat → Nat} {C C2 : CS} {rmY : Room} {a1 a2 a3 : Int32} (hM : Ce l D t ad y_TCM_set b_TCM_set 4 none rmY [.ref (ad (ix 0 0)), .int a1, .int a2, .int a3] C X_ISE C2) (hr : cRx rmY rmW 4) : Cw l D t ad y_Law_set b_Law_set 5 [(0, 7, 10, 13), (0, 7, 14, 26), (0, 7, 18, 32)] [.ref (ad (ix 0 0)), .int a1, .int a2, .int a3] C 2 C2 := by
  refine ctW_of (by decide) (Nat.le_of_ble_eq_true rfl) ?_
  intro Γ hL hDD hN h r hx
  refine g_at (L' := [some (.ref (ad (ix 0 0))), some (.int a1), some (.int a2), some (.int a3), none]) rfl rfl rfl ?_
  refine g_aload_n h d_Law_set_0 rfl rfl ?_
  refine g_iload_n h d_Law_set_1 rfl rfl ?_
  refine g_iload_n h d_Law_set_2 rfl rfl ?_
  refine g_iload_n h d_Law_set_3 rfl rfl ?_
  refine g_catchV (p := [(0, 7, 10, 13)]) (r := [(0, 7, 18, 32)]) (a0 := 0) (a1 := 7) (hpc := 14) (ty := 26) (X := X_ISE) (τ := wc ad t C2) h tb_good (N1 := 171) (Nat.le_of_ble_eq_true rfl) hx (by
      intro z hz
      simp only [List.mem_cons, List.not_mem_nil, or_false] at hz
      subst hz
      · exact ⟨⟨Nat.zero_le _, by decide⟩, by decide, X_IAE, xl_Law_13, by decide⟩) ⟨⟨Nat.zero_le _, by decide⟩, by decide, xl_Law_26, xin_ISE⟩ (by rw [hL, hDD]; exact hM) (ix_lt 0 (by decide) _ (by decide)) (wc_at (by decide) (by decide)) rfl v_Law_28 nm_TCM_set rfl hr rfl (Nat.le_of_ble_eq_true rfl) d_Law_set_4 ?_
  intro x
  refine g_world (σ' := wc ad t C2) wc_thr ?_
  refine g_astore h d_Law_set_14 rfl (by rw [hN]; decide) ?_
  refine g_iconst (v := 2) h d_Law_set_16 (by decide) ?_
  exact g_iret h r d_Law_set_17 (⟨rfl, rfl⟩)
set_option maxRecDepth 100000 in
theorem w_Law_set_UOE {l : Launch} {D : va_G} {t : Nat → ClassId} {ad : Nat → Nat} {C C2 : CS} {rmY : Room} {a1 a2 a3 : Int32} (hM : Ce l D t ad y_TCM_set b_TCM_set 4 none rmY [.ref (ad (ix 0 0)), .int a1, .int a2, .int a3] C X_UOE C2) (hr : cRx rmY rmW 4) : Cw l D t ad y_Law_set b_Law_set 5 [(0, 7, 10, 13), (0, 7, 14, 26), (0, 7, 18, 32)] [.ref (ad (ix 0 0)), .int a1, .int a2, .int a3] C 3 C2 := by
  refine ctW_of (by decide) (Nat.le_of_ble_eq_true rfl) ?_
  intro Γ hL hDD hN h r hx
  refine g_at (L' := [some (.ref (ad (ix 0 0))), some (.int a1), some (.int a2), some (.int a3), none]) rfl rfl rfl ?_
  refine g_aload_n h d_Law_set_0 rfl rfl ?_
  refine g_iload_n h d_Law_set_1 rfl rfl ?_
  refine g_iload_n h d_Law_set_2 rfl rfl ?_
  refine g_iload_n h d_Law_set_3 rfl rfl ?_
  refine g_catchV (p := [(0, 7, 10, 13), (0, 7, 14, 26)]) (r := []) (a0 := 0) (a1 := 7) (hpc := 18) (ty := 32) (X := X_UOE) (τ := wc ad t C2) h tb_good (N1 := 171) (Nat.le_of_ble_eq_true rfl) hx (by
      intro z hz
      simp only [List.mem_cons, List.not_mem_nil, or_false] at hz
      rcases hz with rfl | rfl
      · exact ⟨⟨Nat.zero_le _, by decide⟩, by decide, X_IAE, xl_Law_13, by decide⟩
      · exact ⟨⟨Nat.zero_le _, by decide⟩, by decide, X_ISE, xl_Law_26, by decide⟩) ⟨⟨Nat.zero_le _, by decide⟩, by decide, xl_Law_32, xin_UOE⟩ (by rw [hL, hDD]; exact hM) (ix_lt 0 (by decide) _ (by decide)) (wc_at (by decide) (by decide)) rfl v_Law_28 nm_TCM_set rfl hr rfl (Nat.le_of_ble_eq_true rfl) d_Law_set_4 ?_
  intro x
  refine g_world (σ' := wc ad t C2) wc_thr ?_
  refine g_astore h d_Law_set_18 rfl (by rw [hN]; decide) ?_
  refine g_iconst (v := 3) h d_Law_set_20 (by decide) ?_
  exact g_iret h r d_Law_set_21 (⟨rfl, rfl⟩)
set_option maxRecDepth 100000 in
theorem w_Law_get {l : Launch} {D : va_G} {t : Nat → ClassId} {ad : Nat → Nat} {C C2 : CS} {rmY : Room} {a1 a2 a3 : Int32} {f : Nat → Int64} {v : Int64} (hM : Cd l D t ad y_TCM_get b_TCM_get 4 (some .long) rmY [.ref (ad (ix 0 0)), .int a1, .int a2, .int a3] C (some (.long v)) C2) (hr : cRm rmY rmW 4 0 0) : Cwo l D t ad y_Law_get b_Law_get 6 [(0, 11, 14, 13), (0, 11, 18, 26), (0, 11, 22, 32)] [.ref (ad (ix 0 0)), .int a1, .int a2, .int a3, .ref (ad 171)] C f 0 C2 (vp_updL f 0 v) := by
  refine ctW_of (by decide) (Nat.le_of_ble_eq_true rfl) ?_
  intro Γ hL hDD hN h r hx
  refine g_at (L' := [some (.ref (ad (ix 0 0))), some (.int a1), some (.int a2), some (.int a3), some (.ref (ad 171)), none]) rfl rfl rfl ?_
  refine g_aload h d_Law_get_0 rfl ?_
  refine g_iconst (v := 0) h d_Law_get_2 (by decide) ?_
  refine g_aload_n h d_Law_get_3 rfl rfl ?_
  refine g_iload_n h d_Law_get_4 rfl rfl ?_
  refine g_iload_n h d_Law_get_5 rfl rfl ?_
  refine g_iload_n h d_Law_get_6 rfl rfl ?_
  refine g_callVP h tb_good (N1 := 171) (Nat.le_of_ble_eq_true rfl) (by rw [hL, hDD]; exact ct_mrg hM) (ix_lt 0 (by decide) _ (by decide)) (wo_head.trans (wc_at (by decide) (by decide))) rfl v_Law_34 nm_TCM_get rfl hr rfl (Nat.le_of_ble_eq_true rfl) d_Law_get_7 ?_
  rintro v0 σ2 ⟨rfl, rfl⟩
  refine g_at (st' := .long v :: [.int 0, .ref (ad 171)]) rfl rfl rfl ?_
  refine g_lastore h 171 0 (Nat.lt_of_lt_of_le (by decide) (Nat.le_refl 172)) wo_out rfl (i := nI 0) (vp_in_nI (by decide) (by decide)) d_Law_get_10 ?_
  refine g_world (σ' := wo ad t C2 (vp_updL f 0 v)) wo_put ?_
  refine g_goto (tgt := 26) h d_Law_get_11 (by decide) ?_
  refine g_iconst (v := 0) h d_Law_get_26 (by decide) ?_
  refine g_widen (k2 := 1) (n2 := 6) (by decide) (by decide) ?_
  exact g_iret h r d_Law_get_27 (⟨rfl, rfl⟩)
set_option maxRecDepth 100000 in
theorem w_Law_get_IAE {l : Launch} {D : va_G} {t : Nat → ClassId} {ad : Nat → Nat} {C C2 : CS} {rmY : Room} {a1 a2 a3 : Int32} {f : Nat → Int64} (hM : Ce l D t ad y_TCM_get b_TCM_get 4 (some .long) rmY [.ref (ad (ix 0 0)), .int a1, .int a2, .int a3] C X_IAE C2) (hr : cRx rmY rmW 4) : Cwo l D t ad y_Law_get b_Law_get 6 [(0, 11, 14, 13), (0, 11, 18, 26), (0, 11, 22, 32)] [.ref (ad (ix 0 0)), .int a1, .int a2, .int a3, .ref (ad 171)] C f 1 C2 f := by
  refine ctW_of (by decide) (Nat.le_of_ble_eq_true rfl) ?_
  intro Γ hL hDD hN h r hx
  refine g_at (L' := [some (.ref (ad (ix 0 0))), some (.int a1), some (.int a2), some (.int a3), some (.ref (ad 171)), none]) rfl rfl rfl ?_
  refine g_aload h d_Law_get_0 rfl ?_
  refine g_iconst (v := 0) h d_Law_get_2 (by decide) ?_
  refine g_aload_n h d_Law_get_3 rfl rfl ?_
  refine g_iload_n h d_Law_get_4 rfl rfl ?_
  refine g_iload_n h d_Law_get_5 rfl rfl ?_
  refine g_iload_n h d_Law_get_6 rfl rfl ?_
  refine g_catchV (p := []) (r := [(0, 11, 18, 26), (0, 11, 22, 32)]) (a0 := 0) (a1 := 11) (hpc := 14) (ty := 13) (X := X_IAE) (τ := wc ad t C2) h tb_good (N1 := 171) (Nat.le_of_ble_eq_true rfl) hx (fun z hz => absurd hz (List.not_mem_nil)) ⟨⟨Nat.zero_le _, by decide⟩, by decide, xl_Law_13, xin_IAE⟩ (by rw [hL, hDD]; exact cx_mrg hM) (ix_lt 0 (by decide) _ (by decide)) (wo_head.trans (wc_at (by decide) (by decide))) rfl v_Law_34 nm_TCM_get rfl hr rfl (Nat.le_of_ble_eq_true rfl) d_Law_get_7 ?_
  intro x
  refine g_world (σ' := wo ad t C2 f) wo_thr ?_
  refine g_astore h d_Law_get_14 rfl (by rw [hN]; decide) ?_
  refine g_iconst (v := 1) h d_Law_get_16 (by decide) ?_
  exact g_iret h r d_Law_get_17 (⟨rfl, rfl⟩)
set_option maxRecDepth 100000 in
theorem w_Law_get_ISE {l : Launch} {D : va_G} {t : Nat → ClassId} {ad : Nat → Nat} {C C2 : CS} {rmY : Room} {a1 a2 a3 : Int32} {f : Nat → Int64} (hM : Ce l D t ad y_TCM_get b_TCM_get 4 (some .long) rmY [.ref (ad (ix 0 0)), .int a1, .int a2, .int a3] C X_ISE C2) (hr : cRx rmY rmW 4) : Cwo l D t ad y_Law_get b_Law_get 6 [(0, 11, 14, 13), (0, 11, 18, 26), (0, 11, 22, 32)] [.ref (ad (ix 0 0)), .int a1, .int a2, .int a3, .ref (ad 171)] C f 2 C2 f := by
  refine ctW_of (by decide) (Nat.le_of_ble_eq_true rfl) ?_
  intro Γ hL hDD hN h r hx
  refine g_at (L' := [some (.ref (ad (ix 0 0))), some (.int a1), some (.int a2), some (.int a3), some (.ref (ad 171)), none]) rfl rfl rfl ?_
  refine g_aload h d_Law_get_0 rfl ?_
  refine g_iconst (v := 0) h d_Law_get_2 (by decide) ?_
  refine g_aload_n h d_Law_get_3 rfl rfl ?_
  refine g_iload_n h d_Law_get_4 rfl rfl ?_
  refine g_iload_n h d_Law_get_5 rfl rfl ?_
  refine g_iload_n h d_Law_get_6 rfl rfl ?_
  refine g_catchV (p := [(0, 11, 14, 13)]) (r := [(0, 11, 22, 32)]) (a0 := 0) (a1 := 11) (hpc := 18) (ty := 26) (X := X_ISE) (τ := wc ad t C2) h tb_good (N1 := 171) (Nat.le_of_ble_eq_true rfl) hx (by
      intro z hz
      simp only [List.mem_cons, List.not_mem_nil, or_false] at hz
      subst hz
      · exact ⟨⟨Nat.zero_le _, by decide⟩, by decide, X_IAE, xl_Law_13, by decide⟩) ⟨⟨Nat.zero_le _, by decide⟩, by decide, xl_Law_26, xin_ISE⟩ (by rw [hL, hDD]; exact cx_mrg hM) (ix_lt 0 (by decide) _ (by decide)) (wo_head.trans (wc_at (by decide) (by decide))) rfl v_Law_34 nm_TCM_get rfl hr rfl (Nat.le_of_ble_eq_true rfl) d_Law_get_7 ?_
  intro x
  refine g_world (σ' := wo ad t C2 f) wo_thr ?_
  refine g_astore h d_Law_get_18 rfl (by rw [hN]; decide) ?_
  refine g_iconst (v := 2) h d_Law_get_20 (by decide) ?_
  exact g_iret h r d_Law_get_21 (⟨rfl, rfl⟩)
set_option maxRecDepth 100000 in
theorem w_Law_get_UOE {l : Launch} {D : va_G} {t : Nat → ClassId} {ad : Nat → Nat} {C C2 : CS} {rmY : Room} {a1 a2 a3 : Int32} {f : Nat → Int64} (hM : Ce l D t ad y_TCM_get b_TCM_get 4 (some .long) rmY [.ref (ad (ix 0 0)), .int a1, .int a2, .int a3] C X_UOE C2) (hr : cRx rmY rmW 4) : Cwo l D t ad y_Law_get b_Law_get 6 [(0, 11, 14, 13), (0, 11, 18, 26), (0, 11, 22, 32)] [.ref (ad (ix 0 0)), .int a1, .int a2, .int a3, .ref (ad 171)] C f 3 C2 f := by
  refine ctW_of (by decide) (Nat.le_of_ble_eq_true rfl) ?_
  intro Γ hL hDD hN h r hx
  refine g_at (L' := [some (.ref (ad (ix 0 0))), some (.int a1), some (.int a2), some (.int a3), some (.ref (ad 171)), none]) rfl rfl rfl ?_
  refine g_aload h d_Law_get_0 rfl ?_
  refine g_iconst (v := 0) h d_Law_get_2 (by decide) ?_
  refine g_aload_n h d_Law_get_3 rfl rfl ?_
  refine g_iload_n h d_Law_get_4 rfl rfl ?_
  refine g_iload_n h d_Law_get_5 rfl rfl ?_
  refine g_iload_n h d_Law_get_6 rfl rfl ?_
  refine g_catchV (p := [(0, 11, 14, 13), (0, 11, 18, 26)]) (r := []) (a0 := 0) (a1 := 11) (hpc := 22) (ty := 32) (X := X_UOE) (τ := wc ad t C2) h tb_good (N1 := 171) (Nat.le_of_ble_eq_true rfl) hx (by
      intro z hz
      simp only [List.mem_cons, List.not_mem_nil, or_false] at hz
      rcases hz with rfl | rfl
      · exact ⟨⟨Nat.zero_le _, by decide⟩, by decide, X_IAE, xl_Law_13, by decide⟩
      · exact ⟨⟨Nat.zero_le _, by decide⟩, by decide, X_ISE, xl_Law_26, by decide⟩) ⟨⟨Nat.zero_le _, by decide⟩, by decide, xl_Law_32, xin_UOE⟩ (by rw [hL, hDD]; exact cx_mrg hM) (ix_lt 0 (by decide) _ (by decide)) (wo_head.trans (wc_at (by decide) (by decide))) rfl v_Law_34 nm_TCM_get rfl hr rfl (Nat.le_of_ble_eq_true rfl) d_Law_get_7 ?_
  intro x
  refine g_world (σ' := wo ad t C2 f) wo_thr ?_
  refine g_astore h d_Law_get_22 rfl (by rw [hN]; decide) ?_
  refine g_iconst (v := 3) h d_Law_get_24 (by decide) ?_
  exact g_iret h r d_Law_get_25 (⟨rfl, rfl⟩)
set_option maxRecDepth 100000 in
theorem w_Law_meta {l : Launch} {D : va_G} {t : Nat → ClassId} {ad : Nat → Nat} {C C2 : CS} {rmY : Room} {a1 a2 : Int32} (hM : Cd l D t ad y_TCM_meta b_TCM_meta 3 none rmY [.ref (ad (ix 0 0)), .int a1, .int a2] C (none) C2) (hr : cRm rmY rmW 3 0 0) : Cw l D t ad y_Law_meta b_Law_meta 4 [(0, 6, 9, 13), (0, 6, 12, 32)] [.ref (ad (ix 0 0)), .int a1, .int a2] C 0 C2 := by
  refine ctW_of (by decide) (Nat.le_of_ble_eq_true rfl) ?_
  intro Γ hL hDD hN h r hx
  refine g_at (L' := [some (.ref (ad (ix 0 0))), some (.int a1), some (.int a2), none]) rfl rfl rfl ?_
  refine g_aload_n h d_Law_meta_0 rfl rfl ?_
  refine g_iload_n h d_Law_meta_1 rfl rfl ?_
  refine g_iload_n h d_Law_meta_2 rfl rfl ?_
  refine g_callVP h tb_good (N1 := 171) (Nat.le_of_ble_eq_true rfl) (by rw [hL, hDD]; exact hM) (ix_lt 0 (by decide) _ (by decide)) (wc_at (by decide) (by decide)) rfl v_Law_38 nm_TCM_meta rfl hr rfl (Nat.le_of_ble_eq_true rfl) d_Law_meta_3 ?_
  rintro v0 σ2 ⟨rfl, rfl⟩
  refine g_world (σ' := wc ad t C2) wc_thr ?_
  refine g_goto (tgt := 15) h d_Law_meta_6 (by decide) ?_
  refine g_iconst (v := 0) h d_Law_meta_15 (by decide) ?_
  refine g_widen (k2 := 1) (n2 := 6) (by decide) (by decide) ?_
  exact g_iret h r d_Law_meta_16 (⟨rfl, rfl⟩)
set_option maxRecDepth 100000 in
theorem w_Law_meta_IAE {l : Launch} {D : va_G} {t : Nat → ClassId} {ad : Nat → Nat} {C C2 : CS} {rmY : Room} {a1 a2 : Int32} (hM : Ce l D t ad y_TCM_meta b_TCM_meta 3 none rmY [.ref (ad (ix 0 0)), .int a1, .int a2] C X_IAE C2) (hr : cRx rmY rmW 3) : Cw l D t ad y_Law_meta b_Law_meta 4 [(0, 6, 9, 13), (0, 6, 12, 32)] [.ref (ad (ix 0 0)), .int a1, .int a2] C 1 C2 := by
  refine ctW_of (by decide) (Nat.le_of_ble_eq_true rfl) ?_
  intro Γ hL hDD hN h r hx
  refine g_at (L' := [some (.ref (ad (ix 0 0))), some (.int a1), some (.int a2), none]) rfl rfl rfl ?_
  refine g_aload_n h d_Law_meta_0 rfl rfl ?_
  refine g_iload_n h d_Law_meta_1 rfl rfl ?_
  refine g_iload_n h d_Law_meta_2 rfl rfl ?_
  refine g_catchV (p := []) (r := [(0, 6, 12, 32)]) (a0 := 0) (a1 := 6) (hpc := 9) (ty := 13) (X := X_IAE) (τ := wc ad t C2) h tb_good (N1 := 171) (Nat.le_of_ble_eq_true rfl) hx (fun z hz => absurd hz (List.not_mem_nil)) ⟨⟨Nat.zero_le _, by decide⟩, by decide, xl_Law_13, xin_IAE⟩ (by rw [hL, hDD]; exact hM) (ix_lt 0 (by decide) _ (by decide)) (wc_at (by decide) (by decide)) rfl v_Law_38 nm_TCM_meta rfl hr rfl (Nat.le_of_ble_eq_true rfl) d_Law_meta_3 ?_
  intro x
  refine g_world (σ' := wc ad t C2) wc_thr ?_
  refine g_astore_n h d_Law_meta_9 rfl rfl (by rw [hN]; decide) ?_
  refine g_iconst (v := 1) h d_Law_meta_10 (by decide) ?_
  exact g_iret h r d_Law_meta_11 (⟨rfl, rfl⟩)
set_option maxRecDepth 100000 in
theorem w_Law_meta_UOE {l : Launch} {D : va_G} {t : Nat → ClassId} {ad : Nat → Nat} {C C2 : CS} {rmY : Room} {a1 a2 : Int32} (hM : Ce l D t ad y_TCM_meta b_TCM_meta 3 none rmY [.ref (ad (ix 0 0)), .int a1, .int a2] C X_UOE C2) (hr : cRx rmY rmW 3) : Cw l D t ad y_Law_meta b_Law_meta 4 [(0, 6, 9, 13), (0, 6, 12, 32)] [.ref (ad (ix 0 0)), .int a1, .int a2] C 2 C2 := by
  refine ctW_of (by decide) (Nat.le_of_ble_eq_true rfl) ?_
  intro Γ hL hDD hN h r hx
  refine g_at (L' := [some (.ref (ad (ix 0 0))), some (.int a1), some (.int a2), none]) rfl rfl rfl ?_
  refine g_aload_n h d_Law_meta_0 rfl rfl ?_
  refine g_iload_n h d_Law_meta_1 rfl rfl ?_
  refine g_iload_n h d_Law_meta_2 rfl rfl ?_
  refine g_catchV (p := [(0, 6, 9, 13)]) (r := []) (a0 := 0) (a1 := 6) (hpc := 12) (ty := 32) (X := X_UOE) (τ := wc ad t C2) h tb_good (N1 := 171) (Nat.le_of_ble_eq_true rfl) hx (by
      intro z hz
      simp only [List.mem_cons, List.not_mem_nil, or_false] at hz
      subst hz
      · exact ⟨⟨Nat.zero_le _, by decide⟩, by decide, X_IAE, xl_Law_13, by decide⟩) ⟨⟨Nat.zero_le _, by decide⟩, by decide, xl_Law_32, xin_UOE⟩ (by rw [hL, hDD]; exact hM) (ix_lt 0 (by decide) _ (by decide)) (wc_at (by decide) (by decide)) rfl v_Law_38 nm_TCM_meta rfl hr rfl (Nat.le_of_ble_eq_true rfl) d_Law_meta_3 ?_
  intro x
  refine g_world (σ' := wc ad t C2) wc_thr ?_
  refine g_astore_n h d_Law_meta_12 rfl rfl (by rw [hN]; decide) ?_
  refine g_iconst (v := 2) h d_Law_meta_13 (by decide) ?_
  exact g_iret h r d_Law_meta_14 (⟨rfl, rfl⟩)
set_option maxRecDepth 100000 in
theorem w_Law_resume {l : Launch} {D : va_G} {t : Nat → ClassId} {ad : Nat → Nat} {C C2 : CS} {rmY : Room} {a1 a2 a3 : Int32} {f : Nat → Int64} {v : Int64} (hM : Cd l D t ad y_TCM_resume b_TCM_resume 4 (some .long) rmY [.ref (ad (ix 0 0)), .int a1, .int a2, .int a3] C (some (.long v)) C2) (hr : cRm rmY rmW 4 0 0) : Cwo l D t ad y_Law_resume b_Law_resume 6 [(0, 11, 14, 13), (0, 11, 18, 26), (0, 11, 22, 32)] [.ref (ad (ix 0 0)), .int a1, .int a2, .int a3, .ref (ad 171)] C f 0 C2 (vp_updL f 0 v) := by
  refine ctW_of (by decide) (Nat.le_of_ble_eq_true rfl) ?_
  intro Γ hL hDD hN h r hx
  refine g_at (L' := [some (.ref (ad (ix 0 0))), some (.int a1), some (.int a2), some (.int a3), some (.ref (ad 171)), none]) rfl rfl rfl ?_
  refine g_aload h d_Law_resume_0 rfl ?_
  refine g_iconst (v := 0) h d_Law_resume_2 (by decide) ?_
  refine g_aload_n h d_Law_resume_3 rfl rfl ?_
  refine g_iload_n h d_Law_resume_4 rfl rfl ?_
  refine g_iload_n h d_Law_resume_5 rfl rfl ?_
  refine g_iload_n h d_Law_resume_6 rfl rfl ?_
  refine g_callVP h tb_good (N1 := 171) (Nat.le_of_ble_eq_true rfl) (by rw [hL, hDD]; exact ct_mrg hM) (ix_lt 0 (by decide) _ (by decide)) (wo_head.trans (wc_at (by decide) (by decide))) rfl v_Law_41 nm_TCM_resume rfl hr rfl (Nat.le_of_ble_eq_true rfl) d_Law_resume_7 ?_
  rintro v0 σ2 ⟨rfl, rfl⟩
  refine g_at (st' := .long v :: [.int 0, .ref (ad 171)]) rfl rfl rfl ?_
  refine g_lastore h 171 0 (Nat.lt_of_lt_of_le (by decide) (Nat.le_refl 172)) wo_out rfl (i := nI 0) (vp_in_nI (by decide) (by decide)) d_Law_resume_10 ?_
  refine g_world (σ' := wo ad t C2 (vp_updL f 0 v)) wo_put ?_
  refine g_goto (tgt := 26) h d_Law_resume_11 (by decide) ?_
  refine g_iconst (v := 0) h d_Law_resume_26 (by decide) ?_
  refine g_widen (k2 := 1) (n2 := 6) (by decide) (by decide) ?_
  exact g_iret h r d_Law_resume_27 (⟨rfl, rfl⟩)
set_option maxRecDepth 100000 in
theorem w_Law_resume_IAE {l : Launch} {D : va_G} {t : Nat → ClassId} {ad : Nat → Nat} {C C2 : CS} {rmY : Room} {a1 a2 a3 : Int32} {f : Nat → Int64} (hM : Ce l D t ad y_TCM_resume b_TCM_resume 4 (some .long) rmY [.ref (ad (ix 0 0)), .int a1, .int a2, .int a3] C X_IAE C2) (hr : cRx rmY rmW 4) : Cwo l D t ad y_Law_resume b_Law_resume 6 [(0, 11, 14, 13), (0, 11, 18, 26), (0, 11, 22, 32)] [.ref (ad (ix 0 0)), .int a1, .int a2, .int a3, .ref (ad 171)] C f 1 C2 f := by
  refine ctW_of (by decide) (Nat.le_of_ble_eq_true rfl) ?_
  intro Γ hL hDD hN h r hx
  refine g_at (L' := [some (.ref (ad (ix 0 0))), some (.int a1), some (.int a2), some (.int a3), some (.ref (ad 171)), none]) rfl rfl rfl ?_
  refine g_aload h d_Law_resume_0 rfl ?_
  refine g_iconst (v := 0) h d_Law_resume_2 (by decide) ?_
  refine g_aload_n h d_Law_resume_3 rfl rfl ?_
  refine g_iload_n h d_Law_resume_4 rfl rfl ?_
  refine g_iload_n h d_Law_resume_5 rfl rfl ?_
  refine g_iload_n h d_Law_resume_6 rfl rfl ?_
  refine g_catchV (p := []) (r := [(0, 11, 18, 26), (0, 11, 22, 32)]) (a0 := 0) (a1 := 11) (hpc := 14) (ty := 13) (X := X_IAE) (τ := wc ad t C2) h tb_good (N1 := 171) (Nat.le_of_ble_eq_true rfl) hx (fun z hz => absurd hz (List.not_mem_nil)) ⟨⟨Nat.zero_le _, by decide⟩, by decide, xl_Law_13, xin_IAE⟩ (by rw [hL, hDD]; exact cx_mrg hM) (ix_lt 0 (by decide) _ (by decide)) (wo_head.trans (wc_at (by decide) (by decide))) rfl v_Law_41 nm_TCM_resume rfl hr rfl (Nat.le_of_ble_eq_true rfl) d_Law_resume_7 ?_
  intro x
  refine g_world (σ' := wo ad t C2 f) wo_thr ?_
  refine g_astore h d_Law_resume_14 rfl (by rw [hN]; decide) ?_
  refine g_iconst (v := 1) h d_Law_resume_16 (by decide) ?_
  exact g_iret h r d_Law_resume_17 (⟨rfl, rfl⟩)
set_option maxRecDepth 100000 in
theorem w_Law_resume_ISE {l : Launch} {D : va_G} {t : Nat → ClassId} {ad : Nat → Nat} {C C2 : CS} {rmY : Room} {a1 a2 a3 : Int32} {f : Nat → Int64} (hM : Ce l D t ad y_TCM_resume b_TCM_resume 4 (some .long) rmY [.ref (ad (ix 0 0)), .int a1, .int a2, .int a3] C X_ISE C2) (hr : cRx rmY rmW 4) : Cwo l D t ad y_Law_resume b_Law_resume 6 [(0, 11, 14, 13), (0, 11, 18, 26), (0, 11, 22, 32)] [.ref (ad (ix 0 0)), .int a1, .int a2, .int a3, .ref (ad 171)] C f 2 C2 f := by
  refine ctW_of (by decide) (Nat.le_of_ble_eq_true rfl) ?_
  intro Γ hL hDD hN h r hx
  refine g_at (L' := [some (.ref (ad (ix 0 0))), some (.int a1), some (.int a2), some (.int a3), some (.ref (ad 171)), none]) rfl rfl rfl ?_
  refine g_aload h d_Law_resume_0 rfl ?_
  refine g_iconst (v := 0) h d_Law_resume_2 (by decide) ?_
  refine g_aload_n h d_Law_resume_3 rfl rfl ?_
  refine g_iload_n h d_Law_resume_4 rfl rfl ?_
  refine g_iload_n h d_Law_resume_5 rfl rfl ?_
  refine g_iload_n h d_Law_resume_6 rfl rfl ?_
  refine g_catchV (p := [(0, 11, 14, 13)]) (r := [(0, 11, 22, 32)]) (a0 := 0) (a1 := 11) (hpc := 18) (ty := 26) (X := X_ISE) (τ := wc ad t C2) h tb_good (N1 := 171) (Nat.le_of_ble_eq_true rfl) hx (by
      intro z hz
      simp only [List.mem_cons, List.not_mem_nil, or_false] at hz
      subst hz
      · exact ⟨⟨Nat.zero_le _, by decide⟩, by decide, X_IAE, xl_Law_13, by decide⟩) ⟨⟨Nat.zero_le _, by decide⟩, by decide, xl_Law_26, xin_ISE⟩ (by rw [hL, hDD]; exact cx_mrg hM) (ix_lt 0 (by decide) _ (by decide)) (wo_head.trans (wc_at (by decide) (by decide))) rfl v_Law_41 nm_TCM_resume rfl hr rfl (Nat.le_of_ble_eq_true rfl) d_Law_resume_7 ?_
  intro x
  refine g_world (σ' := wo ad t C2 f) wo_thr ?_
  refine g_astore h d_Law_resume_18 rfl (by rw [hN]; decide) ?_
  refine g_iconst (v := 2) h d_Law_resume_20 (by decide) ?_
  exact g_iret h r d_Law_resume_21 (⟨rfl, rfl⟩)
set_option maxRecDepth 100000 in
theorem w_Law_resume_UOE {l : Launch} {D : va_G} {t : Nat → ClassId} {ad : Nat → Nat} {C C2 : CS} {rmY : Room} {a1 a2 a3 : Int32} {f : Nat → Int64} (hM : Ce l D t ad y_TCM_resume b_TCM_resume 4 (some .long) rmY [.ref (ad (ix 0 0)), .int a1, .int a2, .int a3] C X_UOE C2) (hr : cRx rmY rmW 4) : Cwo l D t ad y_Law_resume b_Law_resume 6 [(0, 11, 14, 13), (0, 11, 18, 26), (0, 11, 22, 32)] [.ref (ad (ix 0 0)), .int a1, .int a2, .int a3, .ref (ad 171)] C f 3 C2 f := by
  refine ctW_of (by decide) (Nat.le_of_ble_eq_true rfl) ?_
  intro Γ hL hDD hN h r hx
  refine g_at (L' := [some (.ref (ad (ix 0 0))), some (.int a1), some (.int a2), some (.int a3), some (.ref (ad 171)), none]) rfl rfl rfl ?_
  refine g_aload h d_Law_resume_0 rfl ?_
  refine g_iconst (v := 0) h d_Law_resume_2 (by decide) ?_
  refine g_aload_n h d_Law_resume_3 rfl rfl ?_
  refine g_iload_n h d_Law_resume_4 rfl rfl ?_
  refine g_iload_n h d_Law_resume_5 rfl rfl ?_
  refine g_iload_n h d_Law_resume_6 rfl rfl ?_
  refine g_catchV (p := [(0, 11, 14, 13), (0, 11, 18, 26)]) (r := []) (a0 := 0) (a1 := 11) (hpc := 22) (ty := 32) (X := X_UOE) (τ := wc ad t C2) h tb_good (N1 := 171) (Nat.le_of_ble_eq_true rfl) hx (by
      intro z hz
      simp only [List.mem_cons, List.not_mem_nil, or_false] at hz
      rcases hz with rfl | rfl
      · exact ⟨⟨Nat.zero_le _, by decide⟩, by decide, X_IAE, xl_Law_13, by decide⟩
      · exact ⟨⟨Nat.zero_le _, by decide⟩, by decide, X_ISE, xl_Law_26, by decide⟩) ⟨⟨Nat.zero_le _, by decide⟩, by decide, xl_Law_32, xin_UOE⟩ (by rw [hL, hDD]; exact cx_mrg hM) (ix_lt 0 (by decide) _ (by decide)) (wo_head.trans (wc_at (by decide) (by decide))) rfl v_Law_41 nm_TCM_resume rfl hr rfl (Nat.le_of_ble_eq_true rfl) d_Law_resume_7 ?_
  intro x
  refine g_world (σ' := wo ad t C2 f) wo_thr ?_
  refine g_astore h d_Law_resume_22 rfl (by rw [hN]; decide) ?_
  refine g_iconst (v := 3) h d_Law_resume_24 (by decide) ?_
  exact g_iret h r d_Law_resume_25 (⟨rfl, rfl⟩)
set_option maxRecDepth 100000 in
theorem w_Law_collect {l : Launch} {D : va_G} {t : Nat → ClassId} {ad : Nat → Nat} {C C2 : CS} {rmY : Room} {a1 : Int32} {f : Nat → Int64} {v : Int32} (hM : Cd l D t ad y_TCM_collect b_TCM_collect 4 (some .int) rmY [.ref (ad (ix 0 0)), .int a1] C (some (.int v)) C2) (hr : cRm rmY rmW 4 0 0) : Cwo l D t ad y_Law_collect b_Law_collect 4 [(0, 9, 12, 13)] [.ref (ad (ix 0 0)), .int a1, .ref (ad 171)] C f 0 C2 (vp_updL f 0 v.toInt64) := by
  refine ctW_of (by decide) (Nat.le_of_ble_eq_true rfl) ?_
  intro Γ hL hDD hN h r hx
  refine g_at (L' := [some (.ref (ad (ix 0 0))), some (.int a1), some (.ref (ad 171)), none]) rfl rfl rfl ?_
  refine g_aload_n h d_Law_collect_0 rfl rfl ?_
  refine g_iconst (v := 0) h d_Law_collect_1 (by decide) ?_
  refine g_aload_n h d_Law_collect_2 rfl rfl ?_
  refine g_iload_n h d_Law_collect_3 rfl rfl ?_
  refine g_callVP h tb_good (N1 := 171) (Nat.le_of_ble_eq_true rfl) (by rw [hL, hDD]; exact ct_mrg hM) (ix_lt 0 (by decide) _ (by decide)) (wo_head.trans (wc_at (by decide) (by decide))) rfl v_Law_44 nm_TCM_collect rfl hr rfl (Nat.le_of_ble_eq_true rfl) d_Law_collect_4 ?_
  rintro v0 σ2 ⟨rfl, rfl⟩
  refine g_at (st' := .int v :: [.int 0, .ref (ad 171)]) rfl rfl rfl ?_
  refine g_i2l h d_Law_collect_7 ?_
  refine g_lastore h 171 0 (Nat.lt_of_lt_of_le (by decide) (Nat.le_refl 172)) wo_out rfl (i := nI 0) (vp_in_nI (by decide) (by decide)) d_Law_collect_8 ?_
  refine g_world (σ' := wo ad t C2 (vp_updL f 0 v.toInt64)) wo_put ?_
  refine g_goto (tgt := 15) h d_Law_collect_9 (by decide) ?_
  refine g_iconst (v := 0) h d_Law_collect_15 (by decide) ?_
  refine g_widen (k2 := 1) (n2 := 6) (by decide) (by decide) ?_
  exact g_iret h r d_Law_collect_16 (⟨rfl, rfl⟩)
set_option maxRecDepth 100000 in
theorem w_Law_collect_IAE {l : Launch} {D : va_G} {t : Nat → ClassId} {ad : Nat → Nat} {C C2 : CS} {rmY : Room} {a1 : Int32} {f : Nat → Int64} (hM : Ce l D t ad y_TCM_collect b_TCM_collect 4 (some .int) rmY [.ref (ad (ix 0 0)), .int a1] C X_IAE C2) (hr : cRx rmY rmW 4) : Cwo l D t ad y_Law_collect b_Law_collect 4 [(0, 9, 12, 13)] [.ref (ad (ix 0 0)), .int a1, .ref (ad 171)] C f 1 C2 f := by
  refine ctW_of (by decide) (Nat.le_of_ble_eq_true rfl) ?_
  intro Γ hL hDD hN h r hx
  refine g_at (L' := [some (.ref (ad (ix 0 0))), some (.int a1), some (.ref (ad 171)), none]) rfl rfl rfl ?_
  refine g_aload_n h d_Law_collect_0 rfl rfl ?_
  refine g_iconst (v := 0) h d_Law_collect_1 (by decide) ?_
  refine g_aload_n h d_Law_collect_2 rfl rfl ?_
  refine g_iload_n h d_Law_collect_3 rfl rfl ?_
  refine g_catchV (p := []) (r := []) (a0 := 0) (a1 := 9) (hpc := 12) (ty := 13) (X := X_IAE) (τ := wc ad t C2) h tb_good (N1 := 171) (Nat.le_of_ble_eq_true rfl) hx (fun z hz => absurd hz (List.not_mem_nil)) ⟨⟨Nat.zero_le _, by decide⟩, by decide, xl_Law_13, xin_IAE⟩ (by rw [hL, hDD]; exact cx_mrg hM) (ix_lt 0 (by decide) _ (by decide)) (wo_head.trans (wc_at (by decide) (by decide))) rfl v_Law_44 nm_TCM_collect rfl hr rfl (Nat.le_of_ble_eq_true rfl) d_Law_collect_4 ?_
  intro x
  refine g_world (σ' := wo ad t C2 f) wo_thr ?_
  refine g_astore_n h d_Law_collect_12 rfl rfl (by rw [hN]; decide) ?_
  refine g_iconst (v := 1) h d_Law_collect_13 (by decide) ?_
  exact g_iret h r d_Law_collect_14 (⟨rfl, rfl⟩)
set_option maxRecDepth 100000 in
theorem w_Law_global {l : Launch} {D : va_G} {t : Nat → ClassId} {ad : Nat → Nat} {C C2 : CS} {rmY : Room} {a1 : Int32} {f : Nat → Int64} {v : Int64} (hM : Cd l D t ad y_TCM_global b_TCM_global 2 (some .long) rmY [.ref (ad (ix 0 0)), .int a1] C (some (.long v)) C2) (hr : cRm rmY rmW 2 0 0) : Cwo l D t ad y_Law_global b_Law_global 4 [(0, 8, 11, 13)] [.ref (ad (ix 0 0)), .int a1, .ref (ad 171)] C f 0 C2 (vp_updL f 0 v) := by
  refine ctW_of (by decide) (Nat.le_of_ble_eq_true rfl) ?_
  intro Γ hL hDD hN h r hx
  refine g_at (L' := [some (.ref (ad (ix 0 0))), some (.int a1), some (.ref (ad 171)), none]) rfl rfl rfl ?_
  refine g_aload_n h d_Law_global_0 rfl rfl ?_
  refine g_iconst (v := 0) h d_Law_global_1 (by decide) ?_
  refine g_aload_n h d_Law_global_2 rfl rfl ?_
  refine g_iload_n h d_Law_global_3 rfl rfl ?_
  refine g_callVP h tb_good (N1 := 171) (Nat.le_of_ble_eq_true rfl) (by rw [hL, hDD]; exact ct_mrg hM) (ix_lt 0 (by decide) _ (by decide)) (wo_head.trans (wc_at (by decide) (by decide))) rfl v_Law_48 nm_TCM_global rfl hr rfl (Nat.le_of_ble_eq_true rfl) d_Law_global_4 ?_
  rintro v0 σ2 ⟨rfl, rfl⟩
  refine g_at (st' := .long v :: [.int 0, .ref (ad 171)]) rfl rfl rfl ?_
  refine g_lastore h 171 0 (Nat.lt_of_lt_of_le (by decide) (Nat.le_refl 172)) wo_out rfl (i := nI 0) (vp_in_nI (by decide) (by decide)) d_Law_global_7 ?_
  refine g_world (σ' := wo ad t C2 (vp_updL f 0 v)) wo_put ?_
  refine g_goto (tgt := 14) h d_Law_global_8 (by decide) ?_
  refine g_iconst (v := 0) h d_Law_global_14 (by decide) ?_
  refine g_widen (k2 := 1) (n2 := 6) (by decide) (by decide) ?_
  exact g_iret h r d_Law_global_15 (⟨rfl, rfl⟩)
set_option maxRecDepth 100000 in
theorem w_Law_global_IAE {l : Launch} {D : va_G} {t : Nat → ClassId} {ad : Nat → Nat} {C C2 : CS} {rmY : Room} {a1 : Int32} {f : Nat → Int64} (hM : Ce l D t ad y_TCM_global b_TCM_global 2 (some .long) rmY [.ref (ad (ix 0 0)), .int a1] C X_IAE C2) (hr : cRx rmY rmW 2) : Cwo l D t ad y_Law_global b_Law_global 4 [(0, 8, 11, 13)] [.ref (ad (ix 0 0)), .int a1, .ref (ad 171)] C f 1 C2 f := by
  refine ctW_of (by decide) (Nat.le_of_ble_eq_true rfl) ?_
  intro Γ hL hDD hN h r hx
  refine g_at (L' := [some (.ref (ad (ix 0 0))), some (.int a1), some (.ref (ad 171)), none]) rfl rfl rfl ?_
  refine g_aload_n h d_Law_global_0 rfl rfl ?_
  refine g_iconst (v := 0) h d_Law_global_1 (by decide) ?_
  refine g_aload_n h d_Law_global_2 rfl rfl ?_
  refine g_iload_n h d_Law_global_3 rfl rfl ?_
  refine g_catchV (p := []) (r := []) (a0 := 0) (a1 := 8) (hpc := 11) (ty := 13) (X := X_IAE) (τ := wc ad t C2) h tb_good (N1 := 171) (Nat.le_of_ble_eq_true rfl) hx (fun z hz => absurd hz (List.not_mem_nil)) ⟨⟨Nat.zero_le _, by decide⟩, by decide, xl_Law_13, xin_IAE⟩ (by rw [hL, hDD]; exact cx_mrg hM) (ix_lt 0 (by decide) _ (by decide)) (wo_head.trans (wc_at (by decide) (by decide))) rfl v_Law_48 nm_TCM_global rfl hr rfl (Nat.le_of_ble_eq_true rfl) d_Law_global_4 ?_
  intro x
  refine g_world (σ' := wo ad t C2 f) wo_thr ?_
  refine g_astore_n h d_Law_global_11 rfl rfl (by rw [hN]; decide) ?_
  refine g_iconst (v := 1) h d_Law_global_12 (by decide) ?_
  exact g_iret h r d_Law_global_13 (⟨rfl, rfl⟩)
set_option maxRecDepth 100000 in
theorem w_Law_object {l : Launch} {D : va_G} {t : Nat → ClassId} {ad : Nat → Nat} {C C2 : CS} {rmY : Room} {a1 a2 : Int32} {f : Nat → Int64} {v : Int32} (hM : Cd l D t ad y_TCM_object b_TCM_object 4 (some .int) rmY [.ref (ad (ix 0 0)), .int a1, .int a2] C (some (.int v)) C2) (hr : cRm rmY rmW 4 0 0) : Cwo l D t ad y_Law_object b_Law_object 5 [(0, 10, 13, 13), (0, 10, 17, 55)] [.ref (ad (ix 0 0)), .int a1, .int a2, .ref (ad 171)] C f 0 C2 (vp_updL f 0 v.toInt64) := by
  refine ctW_of (by decide) (Nat.le_of_ble_eq_true rfl) ?_
  intro Γ hL hDD hN h r hx
  refine g_at (L' := [some (.ref (ad (ix 0 0))), some (.int a1), some (.int a2), some (.ref (ad 171)), none]) rfl rfl rfl ?_
  refine g_aload_n h d_Law_object_0 rfl rfl ?_
  refine g_iconst (v := 0) h d_Law_object_1 (by decide) ?_
  refine g_aload_n h d_Law_object_2 rfl rfl ?_
  refine g_iload_n h d_Law_object_3 rfl rfl ?_
  refine g_iload_n h d_Law_object_4 rfl rfl ?_
  refine g_callVP h tb_good (N1 := 171) (Nat.le_of_ble_eq_true rfl) (by rw [hL, hDD]; exact ct_mrg hM) (ix_lt 0 (by decide) _ (by decide)) (wo_head.trans (wc_at (by decide) (by decide))) rfl v_Law_52 nm_TCM_object rfl hr rfl (Nat.le_of_ble_eq_true rfl) d_Law_object_5 ?_
  rintro v0 σ2 ⟨rfl, rfl⟩
  refine g_at (st' := .int v :: [.int 0, .ref (ad 171)]) rfl rfl rfl ?_
  refine g_i2l h d_Law_object_8 ?_
  refine g_lastore h 171 0 (Nat.lt_of_lt_of_le (by decide) (Nat.le_refl 172)) wo_out rfl (i := nI 0) (vp_in_nI (by decide) (by decide)) d_Law_object_9 ?_
  refine g_world (σ' := wo ad t C2 (vp_updL f 0 v.toInt64)) wo_put ?_
  refine g_goto (tgt := 21) h d_Law_object_10 (by decide) ?_
  refine g_iconst (v := 0) h d_Law_object_21 (by decide) ?_
  refine g_widen (k2 := 1) (n2 := 6) (by decide) (by decide) ?_
  exact g_iret h r d_Law_object_22 (⟨rfl, rfl⟩)
set_option maxRecDepth 100000 in
theorem w_Law_object_IAE {l : Launch} {D : va_G} {t : Nat → ClassId} {ad : Nat → Nat} {C C2 : CS} {rmY : Room} {a1 a2 : Int32} {f : Nat → Int64} (hM : Ce l D t ad y_TCM_object b_TCM_object 4 (some .int) rmY [.ref (ad (ix 0 0)), .int a1, .int a2] C X_IAE C2) (hr : cRx rmY rmW 4) : Cwo l D t ad y_Law_object b_Law_object 5 [(0, 10, 13, 13), (0, 10, 17, 55)] [.ref (ad (ix 0 0)), .int a1, .int a2, .ref (ad 171)] C f 1 C2 f := by
  refine ctW_of (by decide) (Nat.le_of_ble_eq_true rfl) ?_
  intro Γ hL hDD hN h r hx
  refine g_at (L' := [some (.ref (ad (ix 0 0))), some (.int a1), some (.int a2), some (.ref (ad 171)), none]) rfl rfl rfl ?_
  refine g_aload_n h d_Law_object_0 rfl rfl ?_
  refine g_iconst (v := 0) h d_Law_object_1 (by decide) ?_
  refine g_aload_n h d_Law_object_2 rfl rfl ?_
  refine g_iload_n h d_Law_object_3 rfl rfl ?_
  refine g_iload_n h d_Law_object_4 rfl rfl ?_
  refine g_catchV (p := []) (r := [(0, 10, 17, 55)]) (a0 := 0) (a1 := 10) (hpc := 13) (ty := 13) (X := X_IAE) (τ := wc ad t C2) h tb_good (N1 := 171) (Nat.le_of_ble_eq_true rfl) hx (fun z hz => absurd hz (List.not_mem_nil)) ⟨⟨Nat.zero_le _, by decide⟩, by decide, xl_Law_13, xin_IAE⟩ (by rw [hL, hDD]; exact cx_mrg hM) (ix_lt 0 (by decide) _ (by decide)) (wo_head.trans (wc_at (by decide) (by decide))) rfl v_Law_52 nm_TCM_object rfl hr rfl (Nat.le_of_ble_eq_true rfl) d_Law_object_5 ?_
  intro x
  refine g_world (σ' := wo ad t C2 f) wo_thr ?_
  refine g_astore h d_Law_object_13 rfl (by rw [hN]; decide) ?_
  refine g_iconst (v := 1) h d_Law_object_15 (by decide) ?_
  exact g_iret h r d_Law_object_16 (⟨rfl, rfl⟩)
set_option maxRecDepth 100000 in
theorem w_Law_object_NSE {l : Launch} {D : va_G} {t : Nat → ClassId} {ad : Nat → Nat} {C C2 : CS} {rmY : Room} {a1 a2 : Int32} {f : Nat → Int64} (hM : Ce l D t ad y_TCM_object b_TCM_object 4 (some .int) rmY [.ref (ad (ix 0 0)), .int a1, .int a2] C X_NSE C2) (hr : cRx rmY rmW 4) : Cwo l D t ad y_Law_object b_Law_object 5 [(0, 10, 13, 13), (0, 10, 17, 55)] [.ref (ad (ix 0 0)), .int a1, .int a2, .ref (ad 171)] C f 2 C2 f := by
  refine ctW_of (by decide) (Nat.le_of_ble_eq_true rfl) ?_
  intro Γ hL hDD hN h r hx
  refine g_at (L' := [some (.ref (ad (ix 0 0))), some (.int a1), some (.int a2), some (.ref (ad 171)), none]) rfl rfl rfl ?_
  refine g_aload_n h d_Law_object_0 rfl rfl ?_
  refine g_iconst (v := 0) h d_Law_object_1 (by decide) ?_
  refine g_aload_n h d_Law_object_2 rfl rfl ?_
  refine g_iload_n h d_Law_object_3 rfl rfl ?_
  refine g_iload_n h d_Law_object_4 rfl rfl ?_
  refine g_catchV (p := [(0, 10, 13, 13)]) (r := []) (a0 := 0) (a1 := 10) (hpc := 17) (ty := 55) (X := X_NSE) (τ := wc ad t C2) h tb_good (N1 := 171) (Nat.le_of_ble_eq_true rfl) hx (by
      intro z hz
      simp only [List.mem_cons, List.not_mem_nil, or_false] at hz
      subst hz
      · exact ⟨⟨Nat.zero_le _, by decide⟩, by decide, X_IAE, xl_Law_13, by decide⟩) ⟨⟨Nat.zero_le _, by decide⟩, by decide, xl_Law_55, xin_NSE⟩ (by rw [hL, hDD]; exact cx_mrg hM) (ix_lt 0 (by decide) _ (by decide)) (wo_head.trans (wc_at (by decide) (by decide))) rfl v_Law_52 nm_TCM_object rfl hr rfl (Nat.le_of_ble_eq_true rfl) d_Law_object_5 ?_
  intro x
  refine g_world (σ' := wo ad t C2 f) wo_thr ?_
  refine g_astore h d_Law_object_17 rfl (by rw [hN]; decide) ?_
  refine g_iconst (v := 2) h d_Law_object_19 (by decide) ?_
  exact g_iret h r d_Law_object_20 (⟨rfl, rfl⟩)
set_option maxRecDepth 100000 in
theorem w_Law_inside {l : Launch} {D : va_G} {t : Nat → ClassId} {ad : Nat → Nat} {C C2 : CS} {rmY : Room} {a1 a2 a3 : Int32} {f : Nat → Int64} {v : Int64} (hM : Cd l D t ad y_TCM_inside b_TCM_inside 5 (some .long) rmY [.ref (ad (ix 0 0)), .int a1, .int a2, .int a3] C (some (.long v)) C2) (hr : cRm rmY rmW 5 0 0) : Cwo l D t ad y_Law_inside b_Law_inside 6 [(0, 11, 14, 13), (0, 11, 18, 55)] [.ref (ad (ix 0 0)), .int a1, .int a2, .int a3, .ref (ad 171)] C f 0 C2 (vp_updL f 0 v) := by
  refine ctW_of (by decide) (Nat.le_of_ble_eq_true rfl) ?_
  intro Γ hL hDD hN h r hx
  refine g_at (L' := [some (.ref (ad (ix 0 0))), some (.int a1), some (.int a2), some (.int a3), some (.ref (ad 171)), none]) rfl rfl rfl ?_
  refine g_aload h d_Law_inside_0 rfl ?_
  refine g_iconst (v := 0) h d_Law_inside_2 (by decide) ?_
  refine g_aload_n h d_Law_inside_3 rfl rfl ?_
  refine g_iload_n h d_Law_inside_4 rfl rfl ?_
  refine g_iload_n h d_Law_inside_5 rfl rfl ?_
  refine g_iload_n h d_Law_inside_6 rfl rfl ?_
  refine g_callVP h tb_good (N1 := 171) (Nat.le_of_ble_eq_true rfl) (by rw [hL, hDD]; exact ct_mrg hM) (ix_lt 0 (by decide) _ (by decide)) (wo_head.trans (wc_at (by decide) (by decide))) rfl v_Law_57 nm_TCM_inside rfl hr rfl (Nat.le_of_ble_eq_true rfl) d_Law_inside_7 ?_
  rintro v0 σ2 ⟨rfl, rfl⟩
  refine g_at (st' := .long v :: [.int 0, .ref (ad 171)]) rfl rfl rfl ?_
  refine g_lastore h 171 0 (Nat.lt_of_lt_of_le (by decide) (Nat.le_refl 172)) wo_out rfl (i := nI 0) (vp_in_nI (by decide) (by decide)) d_Law_inside_10 ?_
  refine g_world (σ' := wo ad t C2 (vp_updL f 0 v)) wo_put ?_
  refine g_goto (tgt := 22) h d_Law_inside_11 (by decide) ?_
  refine g_iconst (v := 0) h d_Law_inside_22 (by decide) ?_
  refine g_widen (k2 := 1) (n2 := 6) (by decide) (by decide) ?_
  exact g_iret h r d_Law_inside_23 (⟨rfl, rfl⟩)
set_option maxRecDepth 100000 in
theorem w_Law_inside_IAE {l : Launch} {D : va_G} {t : Nat → ClassId} {ad : Nat → Nat} {C C2 : CS} {rmY : Room} {a1 a2 a3 : Int32} {f : Nat → Int64} (hM : Ce l D t ad y_TCM_inside b_TCM_inside 5 (some .long) rmY [.ref (ad (ix 0 0)), .int a1, .int a2, .int a3] C X_IAE C2) (hr : cRx rmY rmW 5) : Cwo l D t ad y_Law_inside b_Law_inside 6 [(0, 11, 14, 13), (0, 11, 18, 55)] [.ref (ad (ix 0 0)), .int a1, .int a2, .int a3, .ref (ad 171)] C f 1 C2 f := by
  refine ctW_of (by decide) (Nat.le_of_ble_eq_true rfl) ?_
  intro Γ hL hDD hN h r hx
  refine g_at (L' := [some (.ref (ad (ix 0 0))), some (.int a1), some (.int a2), some (.int a3), some (.ref (ad 171)), none]) rfl rfl rfl ?_
  refine g_aload h d_Law_inside_0 rfl ?_
  refine g_iconst (v := 0) h d_Law_inside_2 (by decide) ?_
  refine g_aload_n h d_Law_inside_3 rfl rfl ?_
  refine g_iload_n h d_Law_inside_4 rfl rfl ?_
  refine g_iload_n h d_Law_inside_5 rfl rfl ?_
  refine g_iload_n h d_Law_inside_6 rfl rfl ?_
  refine g_catchV (p := []) (r := [(0, 11, 18, 55)]) (a0 := 0) (a1 := 11) (hpc := 14) (ty := 13) (X := X_IAE) (τ := wc ad t C2) h tb_good (N1 := 171) (Nat.le_of_ble_eq_true rfl) hx (fun z hz => absurd hz (List.not_mem_nil)) ⟨⟨Nat.zero_le _, by decide⟩, by decide, xl_Law_13, xin_IAE⟩ (by rw [hL, hDD]; exact cx_mrg hM) (ix_lt 0 (by decide) _ (by decide)) (wo_head.trans (wc_at (by decide) (by decide))) rfl v_Law_57 nm_TCM_inside rfl hr rfl (Nat.le_of_ble_eq_true rfl) d_Law_inside_7 ?_
  intro x
  refine g_world (σ' := wo ad t C2 f) wo_thr ?_
  refine g_astore h d_Law_inside_14 rfl (by rw [hN]; decide) ?_
  refine g_iconst (v := 1) h d_Law_inside_16 (by decide) ?_
  exact g_iret h r d_Law_inside_17 (⟨rfl, rfl⟩)
set_option maxRecDepth 100000 in
theorem w_Law_inside_NSE {l : Launch} {D : va_G} {t : Nat → ClassId} {ad : Nat → Nat} {C C2 : CS} {rmY : Room} {a1 a2 a3 : Int32} {f : Nat → Int64} (hM : Ce l D t ad y_TCM_inside b_TCM_inside 5 (some .long) rmY [.ref (ad (ix 0 0)), .int a1, .int a2, .int a3] C X_NSE C2) (hr : cRx rmY rmW 5) : Cwo l D t ad y_Law_inside b_Law_inside 6 [(0, 11, 14, 13), (0, 11, 18, 55)] [.ref (ad (ix 0 0)), .int a1, .int a2, .int a3, .ref (ad 171)] C f 2 C2 f := by
  refine ctW_of (by decide) (Nat.le_of_ble_eq_true rfl) ?_
  intro Γ hL hDD hN h r hx
  refine g_at (L' := [some (.ref (ad (ix 0 0))), some (.int a1), some (.int a2), some (.int a3), some (.ref (ad 171)), none]) rfl rfl rfl ?_
  refine g_aload h d_Law_inside_0 rfl ?_
  refine g_iconst (v := 0) h d_Law_inside_2 (by decide) ?_
  refine g_aload_n h d_Law_inside_3 rfl rfl ?_
  refine g_iload_n h d_Law_inside_4 rfl rfl ?_
  refine g_iload_n h d_Law_inside_5 rfl rfl ?_
  refine g_iload_n h d_Law_inside_6 rfl rfl ?_
  refine g_catchV (p := [(0, 11, 14, 13)]) (r := []) (a0 := 0) (a1 := 11) (hpc := 18) (ty := 55) (X := X_NSE) (τ := wc ad t C2) h tb_good (N1 := 171) (Nat.le_of_ble_eq_true rfl) hx (by
      intro z hz
      simp only [List.mem_cons, List.not_mem_nil, or_false] at hz
      subst hz
      · exact ⟨⟨Nat.zero_le _, by decide⟩, by decide, X_IAE, xl_Law_13, by decide⟩) ⟨⟨Nat.zero_le _, by decide⟩, by decide, xl_Law_55, xin_NSE⟩ (by rw [hL, hDD]; exact cx_mrg hM) (ix_lt 0 (by decide) _ (by decide)) (wo_head.trans (wc_at (by decide) (by decide))) rfl v_Law_57 nm_TCM_inside rfl hr rfl (Nat.le_of_ble_eq_true rfl) d_Law_inside_7 ?_
  intro x
  refine g_world (σ' := wo ad t C2 f) wo_thr ?_
  refine g_astore h d_Law_inside_18 rfl (by rw [hN]; decide) ?_
  refine g_iconst (v := 2) h d_Law_inside_20 (by decide) ?_
  exact g_iret h r d_Law_inside_21 (⟨rfl, rfl⟩)
end

-- part 9f.lawrows
section
/-! rows of the law's own walk -/
section LawRun
variable {p : Program} {l : Launch} {e : Env} {R : Room} {s : State} {m : MethodId} {args : Array Value} {below : List Frame} {meth : Method} {c : Code} {H : Heap} {locs : List Loc} {cells slots : Nat}
variable {y : MethodName} {bytes cc : ByteArray} {maxL nL mc ms n index : Nat} {ret : Option FieldType} {hh : List (Nat × Nat × Nat × Nat)} {ws : List Cond} {rm : Room} {Pc : Array Value → State → Prop} {Qc : Array Value → State → Outcome → State → Prop} {free : Addr → Prop} {Ts : List Cond} {own : String} {As rest : List Value} {g : JFrame}
theorem runSW (S : CallFix p m c cc nL s args Ts own) (hM : Met l y ws rm Pc Qc mc ms free) (hrc : rm.cells = mc) (hrs : rm.slots = ms) (hR : rm.frames + 1 ≤ R.frames ∧ 8 + (maxL + 11) + rm.locals ≤ R.locals) (hws : ∀ w ∈ ws, ∀ (a' : Array Value) (U : State), s.WarmedH U.vm → w.before a' U = true) (hcw : Cond.codeWith y bytes maxL ret hh ∈ ws) (hcode : (Cond.codeWith y bytes maxL ret hh).before args s = true) (hini : (Cond.initialized y.cls).before args s = true) (hlink : (Cond.methodLink own index y).before args s = true) (hstat : (Cond.static y).before args s = true) (hd0 : cNm y y.cls n) (hp : PreS s H Pc As)
    (hg : g.method = m) (hn : As.length = n) (hsize : g.locals.size = nL) (hstack : g.stack = As.reverse ++ rest) (hW : 2 * g.monitorRoom + (rest.map fun v => v.category).sum ≤ 8) (hdg : decode cc g.pc = .ok (.invokestatic index, 3)) (hf : cells + mc ≤ R.cells ∧ slots + ms ≤ R.slots) :
    va_Run p l e R s m args below meth c H locs cells slots mc ms g rest (Qc As.toArray) free := by
  have hK : Back l R p e below s args y 3 8 (PreOf R mc ms Pc) (PostOf Qc mc ms free) := va_backW hM hp.1 hrc hrs hR.1 hR.2 hws hcw (fun a' U hW => word_at hW (Or.inl (by first | rfl | simp [Cond.onTables, Cond.keeps, Cond.steady])) hini)
  obtain ⟨hx, hb, hml, ho, -⟩ := S
  intro T hT X
  obtain ⟨mk, methM, cM, hnamed, hmethM, -, -, -, -, -, -, hsigM⟩ := Cond.codeWith_spec hcode
  have hstatic : methM.isStatic = true := Cond.static_spec hnamed hmethM hstat
  obtain ⟨kP, hkP, -⟩ := className_of_methodNamed hnamed
  have hinitP : kP.init = .initialized := Cond.initialized_spec (findClass_of_methodNamed hnamed) hkP hini
  have hlen : As.length = methM.sig.parameters.length := by
    have h2 := hd0.2.2.2
    rw [hsigM] at h2
    rw [hn]
    exact (Option.some.inj h2).symm
  obtain ⟨vm₁, X₁, hstep₁⟩ := X.invokestatic hx ho hlink hnamed hmethM hstatic hkP hinitP ⟨hd0.2.1, hd0.2.2.1⟩ (g := g) hg (argsL := As) (rest := rest) hlen hstack (by rw [hb]; exact hdg)
  obtain ⟨v, ⟨U', l2, c2, s2⟩, X', ⟨g', mk', t, L, e1, e2, hq, h1, hL, h2, h3⟩, st⟩ := hK m meth c ⟨T.setVm vm₁, locs, cells, slots⟩ { g with stack := rest } (.invokestatic index) mk As.toArray X₁ hg (hsize.trans hml.symm) (by rw [hb]; exact hdg) hW (X₁.named hnamed) ⟨hf.1, hf.2, hp.2 (T.setVm vm₁) hT X₁.warmed⟩
  dsimp only [Pt.U, Pt.locs, Pt.cells, Pt.slots] at X' e1 e2 h1 h2 h3 st
  subst h1; subst h2; subst h3
  exact ⟨v, (T.setVm vm₁).calling g' mk' As.toArray, t, U', L, hT, X', hL, e1, e2, hq, fun target h => hstep₁ _ fun acts => by rw [doInvoke_state]; exact st.trans h⟩
end LawRun
section LawRows
variable {Γ : GT} {cc : ByteArray} {own : String} {rm : Room} {Ts : List Cond} {cl : List vw_C} {tys : List (ClassId × FieldType)} {nl : List (String × Nat × MethodName × String)} {kc ks N N1 pc : Nat} {ad : Nat → Nat} {σ : Nat → va_E} {L : List (Option Value)} {st rest : List Value}
variable {y : MethodName} {bytes : ByteArray} {maxL n index : Nat} {ret : Option FieldType} {hh : List (Nat × Nat × Nat × Nat)} {rmY : Room} {As : List Value}
theorem ck_blind {D : va_G} {sz : Nat} : FrameBlind (cPk D cl tys nl N ad σ sz As) := fun a U g mk q => by
  obtain ⟨q0, ⟨q1, qP, qK, qD⟩, qn⟩ := q
  exact ⟨q0, ⟨q1, qP, EX.blind qK, qD⟩, ncs.moved (u := U) (U := U.calling g mk a) (Vm.Alike.refl U.vm) qn⟩
def cRk (rmY rm : Room) (maxL kc ks : Nat) : Prop := rmY.cells = 1 ∧ rmY.slots = 6 ∧ rmY.frames + 1 ≤ rm.frames ∧ 8 + (maxL + 11) + rmY.locals ≤ rm.locals ∧ kc + 1 ≤ rm.cells ∧ ks + 6 ≤ rm.slots
/-- invokestatic of a wrapper that knows the first N1 cells -/
theorem g_callK (h : Cx Γ cc own rm Ts cl tys nl) (hG : GoodIn Ts Ts) (hN1 : N1 ≤ N) (hnc : ncs (gs Γ)) {Rr : Option Value → (Nat → va_E) → Prop} (hM : Ctk (gL Γ) (gD Γ) cl tys nl N1 ad y (.codeWith y bytes maxL ret hh :: Ts) rmY As σ Rr)
    (hw : Cond.methodLink own index y ∈ Ts ∧ Cond.static y ∈ Ts ∧ Cond.initialized y.cls ∈ Ts ∧ Cond.codeWith y bytes maxL ret hh ∈ Ts) (hd0 : cNm y y.cls n) (hn : As.length = n) (hroom : cRk rmY rm maxL kc ks) (hst : st = As.reverse ++ rest) (hrest : (rest.map fun v => v.category).sum ≤ 8) (hd : decode cc pc = .ok (.invokestatic index, 3))
    (k : ∀ (v : Option Value) (σ2 : Nat → va_E), Rr v σ2 → G Γ (kc + 1) (ks + 6) N ad (mrg N1 σ2 σ) (pc + 3) L (v.toList ++ rest)) : G Γ kc ks N ad σ pc L st := by
  intro H locs ls hP hD hS hl T0 hT X
  have hP1 := pre_P hN1 hP
  have hD1 := pre_D hN1 hD
  have hE := h.E
  have hF := c_in h hD1 hS
  have hcl := h.cL
  rw [hcl] at hP hP1 hE
  have hgood : GoodIn Ts (.codeWith y bytes maxL ret hh :: Ts) := fun w hw2 => by
    rcases List.mem_cons.mp hw2 with rfl | z
    · exact hG _ hw.2.2.2
    · exact hG _ z
  have hrun := runSW (locs := locs) (cells := kc) (slots := ks) (below := gb Γ) (meth := gM Γ) (e := ge Γ) (R := gR Γ) (As := As) (rest := rest) (g := F0 (gm Γ) pc ls st) ⟨h.x, h.b, h.ml, h.ow, h.ts⟩ (hM H.size) hroom.1 hroom.2.1 (by rw [h.R]; exact ⟨hroom.2.2.1, hroom.2.2.2.1⟩) (pay_in h.ts hgood) List.mem_cons_self (h.ts _ hw.2.2.2) (h.ts _ hw.2.2.1) (h.ts _ hw.1) (h.ts _ hw.2.1) hd0
    ⟨ck_blind, fun U hU hW => ⟨rfl, ⟨by rw [hU], by rw [hU]; exact hP1, EX.next hE hW hS hF hU, hD1.weaken (fun _ _ _ _ => trivial)⟩, ncs.moved hW.alike hnc⟩⟩ rfl hn hl.1 hst (lv_room hrest) hd (by rw [h.R]; exact ⟨hroom.2.2.2.2.1, hroom.2.2.2.2.2⟩)
  obtain ⟨v, st₀, t, T', L2, h0, X', hL2, e1, e2, ⟨⟨v', σ2, hv, hp, hb, hb3⟩, hz, hk⟩, go⟩ := hrun T0 hT X
  cases hv
  rw [h0] at hz hk
  have hPm : va_P (gD Γ) (gC Γ) (gl N ad (mrg N1 σ2 σ)) T'.heap := by rw [hcl, e1]; exact mrg_P hP hD hb hk
  obtain ⟨t2, a1, b1⟩ := k v σ2 hp T'.heap (locs ++ L2) ls hPm (mrg_D hD)
    ⟨Nat.le_trans hS.1 (by rw [e1]; exact hz), fun q h1 h2 => by
      rw [e1, hk q (Nat.lt_of_lt_of_le h1 hS.1) (fun z => h2 (hF q z))]
      exact hS.2.1 q h1 h2, fun q hq => by
      rcases List.mem_append.mp hq with z | z
      · exact hS.2.2 q z
      · exact hF _ (hL2 q z)⟩ hl T' rfl X'
  exact ⟨t2, go t2 a1, b1⟩
/-- the same cells, told in another order (or fewer) -/
theorem g_re {N' : Nat} {ad' : Nat → Nat} {σ' : Nat → va_E} (ρ : Nat → Nat) (h1 : ∀ k, k < N' → ρ k < N) (h2 : ∀ i j, i < N' → j < N' → ρ i = ρ j → i = j) (h3 : ∀ k, k < N' → ad' k = ad (ρ k) ∧ σ' k = σ (ρ k)) (k : G Γ kc ks N' ad' σ' pc L st) : G Γ kc ks N ad σ pc L st := by
  intro H locs ls hP hD hS hl
  refine k H locs ls (fun j q hq => ?_) ⟨fun i j x y hx hy hxy => ?_, fun j q hq => ?_⟩ hS hl
  · obtain ⟨g1, g2⟩ := gl_out hq
    subst g2
    have := hP (ρ j) _ (gl_at (h1 j g1))
    rw [← (h3 j g1).1, ← (h3 j g1).2] at this
    exact this
  · obtain ⟨g1, g2⟩ := gl_out hx
    obtain ⟨g3, g4⟩ := gl_out hy
    subst g2; subst g4
    refine h2 i j g1 g3 (hD.1 (ρ i) (ρ j) _ _ (gl_at (h1 i g1)) (gl_at (h1 j g3)) ?_)
    have hxy' : ad' i = ad' j := hxy
    rw [(h3 i g1).1, (h3 j g3).1] at hxy'
    exact hxy'
  · obtain ⟨g1, g2⟩ := gl_out hq
    subst g2
    have := hD.2 (ρ j) _ (gl_at (h1 j g1))
    rw [show (ad' j, σ' j) = (ad (ρ j), σ (ρ j)) from Prod.ext (h3 j g1).1 (h3 j g1).2]
    exact this
/-- the script's length, one of its ints -/
theorem g_slen (h : Cx Γ cc own rm Ts cl tys nl) {b Ln : Nat} {xs : Nat → Int32} (hX : va_X b Ln xs (gs Γ) (gs Γ).heap) (hbl : b < (gs Γ).heap.size) (hbA : ¬ gA Γ b) (hd : decode cc pc = .ok (.arraylength, 1)) (k : G Γ kc ks N ad σ (pc + 1) L (.int (nI Ln) :: st)) : G Γ kc ks N ad σ pc L (.ref b :: st) := fun H locs ls hP hD hS hl => va_slen h.x h.b hX hbl hbA hS hd (k H locs ls hP hD hS hl)
theorem g_sld (h : Cx Γ cc own rm Ts cl tys nl) {b Ln : Nat} {xs : Nat → Int32} (hX : va_X b Ln xs (gs Γ) (gs Γ).heap) (hbl : b < (gs Γ).heap.size) (hbA : ¬ gA Γ b) {i : Int32} (hin : vp_in i Ln) (hd : decode cc pc = .ok (.iaload, 1)) (k : G Γ kc ks N ad σ (pc + 1) L (.int (xs i.toNatClampNeg) :: st)) : G Γ kc ks N ad σ pc L (.int i :: .ref b :: st) := fun H locs ls hP hD hS hl => va_sld h.x h.b hX hbl hbA hS hin hd (k H locs ls hP hD hS hl)
end LawRows
end

-- part 9g.agree
section
/-! each call of the face on both sides: what the wrapper answers, what the reference notes, and that the two states stay side by side -/
theorem RR_21 {C M : CS} {v : Int32} (h : RR C M) : RR C (sI M 21 0 v) := ⟨HH_M (by omega) (okM_keep (by decide) h.1.2.1) h.1, Stk_of (C := C) rfl rfl rfl rfl (sI_f (by decide)) (sI_f (by decide)) h.2⟩
theorem RR_22 {C M : CS} {v : Int32} (h : RR C M) : RR C (sI M 22 0 v) := ⟨HH_M (by omega) (okM_keep (by decide) h.1.2.1) h.1, Stk_of (C := C) rfl rfl rfl rfl (sI_f (by decide)) (sI_f (by decide)) h.2⟩
theorem RR_gl {C M : CS} {j : Nat} (h : RR C M) (hj : j < 6) : okV (C.2.1 0 0 j) ∧ lv C (C.2.1 0 0 j) ∧ M.2.1 0 0 j = C.2.1 0 0 j := ⟨h.1.1.2.1 _ _ _, fun m hm w => h.1.2.2.2.1.1 m hm (.inl ⟨j, hj, w⟩), (h.1.2.2.2.2.2.1.1 j hj).symm⟩
theorem RR_glob {C M : CS} {i : Nat} {v : Int64} (h : RR C M) (hi : i < 6) (hv : okV v) (l : lv C v) : RR (sJ C 0 0 i v) (sJ M 0 0 i v) := ⟨HH_glob h.1 hi hv l, Stk_of (C := C) (M := M) rfl rfl rfl rfl rfl rfl h.2⟩
theorem RR_4 {C M : CS} {i : Nat} {v : Int64} (h : RR C M) (hv : okV v) : RR (sJ C 4 0 i v) M := ⟨HH_CJ (.inl rfl) hv h.1, Stk_of (C := C) (M := M) rfl rfl rfl rfl rfl rfl h.2⟩
theorem RR_keep {C C' M M' : CS} (h : RR C M) (k : tkeep C' C M' M) (hh : HH C' M') : RR C' M' := ⟨hh, Stk_of (k.1 0 (by decide) (by decide) (by decide)) (k.1 6 (by decide) (by decide) (by decide)) (k.1 19 (by decide) (by decide) (by decide)) k.2.1 (k.2.2.1 12 (by decide) (by decide) (by decide) (by decide)) (k.2.2.1 13 (by decide) (by decide) (by decide) (by decide)) h.2⟩
theorem lv_4 {C : CS} {f n i : Nat} {v w : Int64} (h : lv C w) : lv (sJ C f n i v) w := fun m hm z => by
  rw [show live (sJ C f n i v) = live C from live_fn rfl rfl rfl rfl]
  exact h m hm z
theorem g_of {g : Int32} (h : ¬ (g < 0 ∨ 5 < g)) : ∃ j, j < 6 ∧ g = nI j ∧ (nI j).toNatClampNeg = j := by
  obtain ⟨a, b⟩ := gl_num h
  exact ⟨_, a, b, nI_clamp (by omega)⟩
theorem r_of {g : Int32} {m : Nat} (hm : m < 2 ^ 31) (h1 : ¬ g < 0) (h2 : ¬ nI m < g) : ∃ j, j ≤ m ∧ g = nI j ∧ (nI j).toNatClampNeg = j := by
  obtain ⟨a, b⟩ := i32_num hm h1 h2
  exact ⟨_, a, b, nI_clamp (by omega)⟩
/-- -1, or a number up to m -/
theorem e_of {g : Int32} {m : Nat} (hm : m < 2 ^ 31) (h1 : ¬ g < -1) (h2 : ¬ nI m < g) : (g = -1 ∧ g < 0) ∨ ∃ j, j ≤ m ∧ g = nI j ∧ (nI j).toNatClampNeg = j ∧ ¬ g < 0 := by
  by_cases z : g < 0
  · refine .inl ⟨Int32.toInt_inj.mp ?_, z⟩
    have a := mt Int32.lt_iff_toInt_lt.mpr h1
    have b := Int32.lt_iff_toInt_lt.mp z
    rw [Int32.toInt_zero] at b
    rw [show (-1 : Int32).toInt = -1 from rfl] at a ⊢
    omega
  · obtain ⟨j, a, b, c⟩ := r_of hm z h2
    exact .inr ⟨j, a, b, c, z⟩
theorem s21 {M : CS} {i : Nat} {v : Int64} {x : Int32} : (sJ (sI M 21 0 x) 0 0 i v).1 21 0 = x := by rw [sJ_1]; exact sI_self
abbrev Tr (l : Launch) : Prop := l.stackTraces = false
theorem A_number {C M : CS} (h : RR C M) (g v : Int32) : ∃ (r : Int32) (C2 : CS), (∀ (l : Launch) (D : va_G) (t : Nat → ClassId) (ad : Nat → Nat), Tr l → Cw l D t ad y_Law_number b_Law_number 4 [(0, 6, 9, 13)] [.ref (ad (ix 0 0)), .int g, .int v] C r C2) ∧ RR C2 (mnumber M g v) ∧ (mnumber M g v).1 21 0 = r := by
  unfold mnumber
  by_cases hg : g < 0 ∨ 5 < g
  · rw [if_pos hg]
    exact ⟨1, C, fun l D t ad htr => w_Law_number_IAE (x_TCM_number htr hg) ⟨rfl, rfl, by decide, by decide, by decide, by decide⟩, RR_21 h, sI_self⟩
  · rw [if_neg hg]
    obtain ⟨j, hj, rfl, ej⟩ := g_of hg
    rw [ej]
    exact ⟨0, _, fun l D t ad htr => w_Law_number (c_TCM_number hj) ⟨rfl, rfl, by decide, by decide, by decide, by decide⟩, RR_glob (RR_21 h) hj (okV_i v).1 ((okV_i v).2 _), s21⟩
theorem A_move {C M : CS} (h : RR C M) (g k : Int32) : ∃ (r : Int32) (C2 : CS), (∀ (l : Launch) (D : va_G) (t : Nat → ClassId) (ad : Nat → Nat), Tr l → Cw l D t ad y_Law_move b_Law_move 4 [(0, 6, 9, 13)] [.ref (ad (ix 0 0)), .int g, .int k] C r C2) ∧ RR C2 (mmove M g k) ∧ (mmove M g k).1 21 0 = r := by
  unfold mmove
  by_cases hg : g < 0 ∨ 5 < g
  · rw [if_pos (.inl hg)]
    exact ⟨1, C, fun l D t ad htr => w_Law_move_IAE (x_TCM_move1 htr hg) ⟨rfl, rfl, by decide, by decide, by decide, by decide⟩, RR_21 h, sI_self⟩
  by_cases hk : k < -1 ∨ 5 < k
  · rw [if_pos (.inr hk)]
    exact ⟨1, C, fun l D t ad htr => w_Law_move_IAE (x_TCM_move2 htr hg hk) ⟨rfl, rfl, by decide, by decide, by decide, by decide⟩, RR_21 h, sI_self⟩
  rw [if_neg (fun z => z.elim hg hk)]
  obtain ⟨j, hj, rfl, ej⟩ := g_of hg
  rw [ej]
  rcases e_of (m := 5) (by decide) (fun z => hk (.inl z)) (fun z => hk (.inr z)) with ⟨rfl, hk0⟩ | ⟨i, hi, rfl, ei, hk0⟩
  · rw [if_pos hk0]
    exact ⟨0, _, fun l D t ad htr => w_Law_move (c_TCM_move (k := none) hj (fun _ z => by cases z)) ⟨rfl, rfl, by decide, by decide, by decide, by decide⟩, RR_glob (RR_21 h) hj okV_nil lv_nil, s21⟩
  · rw [if_neg hk0, ei]
    obtain ⟨q1, q2, q3⟩ := RR_gl h (show i < 6 by omega)
    rw [q3]
    exact ⟨0, _, fun l D t ad htr => w_Law_move (c_TCM_move (k := some i) hj (fun _ z => by cases z; omega)) ⟨rfl, rfl, by decide, by decide, by decide, by decide⟩, RR_glob (RR_21 h) hj q1 q2, s21⟩
theorem A_global {C M : CS} (h : RR C M) (g : Int32) : ∃ (r : Int32) (C2 : CS) (F : (Nat → Int64) → Nat → Int64), (∀ (l : Launch) (D : va_G) (t : Nat → ClassId) (ad : Nat → Nat) (f0 : Nat → Int64), Tr l → Cwo l D t ad y_Law_global b_Law_global 4 [(0, 8, 11, 13)] [.ref (ad (ix 0 0)), .int g, .ref (ad 171)] C f0 r C2 (F f0)) ∧ RR C2 (mglobal M g).2 ∧ (mglobal M g).2.1 21 0 = r ∧ (r = 0 → ∀ f0, F f0 0 = (mglobal M g).1) := by
  unfold mglobal
  by_cases hg : g < 0 ∨ 5 < g
  · rw [if_pos hg]
    exact ⟨1, C, fun f0 => f0, fun l D t ad f0 htr => w_Law_global_IAE (x_TCM_global htr hg) ⟨rfl, rfl, by decide, by decide, by decide, by decide⟩, RR_21 h, sI_self, fun z => absurd z (by decide)⟩
  · rw [if_neg hg]
    obtain ⟨j, hj, rfl, ej⟩ := g_of hg
    rw [ej]
    exact ⟨0, C, fun f0 => vp_updL f0 0 (C.2.1 0 0 j), fun l D t ad f0 htr => w_Law_global (c_TCM_global hj) ⟨rfl, rfl, by decide, by decide, by decide, by decide⟩, RR_21 h, sI_self, fun _ f0 => pk_uLs.trans (RR_gl h hj).2.2.symm⟩
/-- the instructions, written on both sides -/
theorem HH_ins {C M C' M' : CS} (h : HH C M) (i1 : ∀ f, f ≠ 9 → f ≠ 10 → f ≠ 11 → f ≠ 12 → C'.1 f = C.1 f) (i2 : C'.2 = C.2) (k1 : ∀ f, 4 ≤ f → f ≠ 21 → M'.1 f = M.1 f) (k2 : M'.2 = M.2) (s4 : Sm4 C') (ri : Ri C' M') : HH C' M' := by
  obtain ⟨h1, h2, ⟨s1, s2, s3, -⟩, h4, r1, r2, -⟩ := h
  have I := fun f a b c d => i1 f a b c d
  refine ⟨?_, ?_, ⟨?_, ?_, ?_, s4⟩, ?_, ?_, ?_, ri⟩
  · unfold okC
    rw [i1 2 (by decide) (by decide) (by decide) (by decide), i1 3 (by decide) (by decide) (by decide) (by decide), i1 4 (by decide) (by decide) (by decide) (by decide), i1 5 (by decide) (by decide) (by decide) (by decide), i1 7 (by decide) (by decide) (by decide) (by decide), i1 8 (by decide) (by decide) (by decide) (by decide), i1 14 (by decide) (by decide) (by decide) (by decide), i1 19 (by decide) (by decide) (by decide) (by decide), i2]
    exact h1
  · unfold okM
    rw [k1 6 (by decide) (by decide), k1 7 (by decide) (by decide), k1 9 (by decide) (by decide), k1 11 (by decide) (by decide), k1 15 (by decide) (by decide), k1 13 (by decide) (by decide), k1 12 (by decide) (by decide), k2]
    exact h2
  · unfold Sm1
    rw [i1 0 (by decide) (by decide) (by decide) (by decide), i1 1 (by decide) (by decide) (by decide) (by decide), i1 6 (by decide) (by decide) (by decide) (by decide)]
    exact s1
  · unfold Sm2 cSw
    rw [i1 1 (by decide) (by decide) (by decide) (by decide), i1 13 (by decide) (by decide) (by decide) (by decide), i1 14 (by decide) (by decide) (by decide) (by decide)]
    exact s2
  · unfold Sm3
    rw [i1 0 (by decide) (by decide) (by decide) (by decide), i1 15 (by decide) (by decide) (by decide) (by decide), i1 16 (by decide) (by decide) (by decide) (by decide)]
    exact s3
  · exact Safe_fn (i1 0 (by decide) (by decide) (by decide) (by decide)) (i1 1 (by decide) (by decide) (by decide) (by decide)) (i1 2 (by decide) (by decide) (by decide) (by decide)) (i1 3 (by decide) (by decide) (by decide) (by decide)) (i1 6 (by decide) (by decide) (by decide) (by decide)) (i1 13 (by decide) (by decide) (by decide) (by decide)) (i1 14 (by decide) (by decide) (by decide) (by decide)) (by rw [i2]) (by rw [i2]) (by rw [i2]) (by rw [i2]) h4
  · unfold Rk
    rw [i1 0 (by decide) (by decide) (by decide) (by decide), i1 1 (by decide) (by decide) (by decide) (by decide), i1 2 (by decide) (by decide) (by decide) (by decide), i1 3 (by decide) (by decide) (by decide) (by decide), i1 4 (by decide) (by decide) (by decide) (by decide), i1 5 (by decide) (by decide) (by decide) (by decide), i1 6 (by decide) (by decide) (by decide) (by decide), i1 7 (by decide) (by decide) (by decide) (by decide), k1 4 (by decide) (by decide), k1 5 (by decide) (by decide), k1 6 (by decide) (by decide), k1 7 (by decide) (by decide), k1 8 (by decide) (by decide), k1 9 (by decide) (by decide), k1 10 (by decide) (by decide), k1 11 (by decide) (by decide), i2, k2]
    exact r1
  · unfold Rg
    rw [i1 13 (by decide) (by decide) (by decide) (by decide), i1 14 (by decide) (by decide) (by decide) (by decide), i1 15 (by decide) (by decide) (by decide) (by decide), i1 16 (by decide) (by decide) (by decide) (by decide), i1 17 (by decide) (by decide) (by decide) (by decide), i1 18 (by decide) (by decide) (by decide) (by decide), i1 20 (by decide) (by decide) (by decide) (by decide), k1 14 (by decide) (by decide), k1 15 (by decide) (by decide), k1 16 (by decide) (by decide), k1 17 (by decide) (by decide), k1 19 (by decide) (by decide), k1 20 (by decide) (by decide), k1 18 (by decide) (by decide), i2, k2]
    exact r2
theorem ins_ne {f f' i i' : Nat} (hi : i < 16) (hi' : i' < 16) : (f' * 17 + i' = f * 17 + i) ↔ (f' * 16 + i' = f * 16 + i) := by omega
theorem A_code {C M : CS} (h : RR C M) (f i op a b c : Int32) : ∃ (r : Int32) (C2 : CS), (∀ (l : Launch) (D : va_G) (t : Nat → ClassId) (ad : Nat → Nat), Tr l → Cw l D t ad y_Law_code b_Law_code 8 [(0, 13, 16, 13)] [.ref (ad (ix 0 0)), .int f, .int i, .int op, .int a, .int b, .int c] C r C2) ∧ RR C2 (mcode M f i op a b c) ∧ (mcode M f i op a b c).1 21 0 = r := by
  unfold mcode
  by_cases hf : f < 0 ∨ 3 < f
  · rw [if_pos (hf.elim .inl (fun z => .inr (.inl z)))]
    exact ⟨1, C, fun l D t ad htr => w_Law_code_IAE (x_TCM_code1 htr hf) ⟨rfl, rfl, by decide, by decide, by decide, by decide⟩, RR_21 h, sI_self⟩
  have hf1 := fun z => hf (.inl z)
  have hf2 := fun z => hf (.inr z)
  by_cases hi : i < 0 ∨ 15 < i
  · rw [if_pos (.inr (.inr (hi.elim .inl (fun z => .inr (.inl z)))))]
    exact ⟨1, C, fun l D t ad htr => w_Law_code_IAE (x_TCM_code2 htr hf1 hf2 hi) ⟨rfl, rfl, by decide, by decide, by decide, by decide⟩, RR_21 h, sI_self⟩
  have hi1 := fun z => hi (.inl z)
  have hi2 := fun z => hi (.inr z)
  by_cases ho : op < -1 ∨ 21 < op
  · rw [if_pos (.inr (.inr (.inr (.inr ho))))]
    exact ⟨1, C, fun l D t ad htr => w_Law_code_IAE (x_TCM_code3 htr hf1 hf2 hi1 hi2 ho) ⟨rfl, rfl, by decide, by decide, by decide, by decide⟩, RR_21 h, sI_self⟩
  have ho1 := fun z => ho (.inl z)
  have ho2 := fun z => ho (.inr z)
  rw [if_neg (fun z => z.elim hf1 (fun z => z.elim hf2 (fun z => z.elim hi1 (fun z => z.elim hi2 (fun z => z.elim ho1 ho2)))))]
  obtain ⟨f, hf, rfl, ef⟩ := r_of (m := 3) (by decide) hf1 hf2
  obtain ⟨i, hi, rfl, ei⟩ := r_of (m := 15) (by decide) hi1 hi2
  unfold mcodeAt
  rw [ef, ei]
  refine ⟨0, _, fun l D t ad htr => w_Law_code (c_TCM_code (by omega) (by omega) ho1 ho2) ⟨rfl, rfl, by decide, by decide, by decide, by decide⟩, ⟨?_, ?_⟩, ?_⟩
  · have z4 := h.1.2.2.1.2.2.2
    have zi := h.1.2.2.2.2.2.2
    refine HH_ins h.1 (fun g g9 g10 g11 g12 => by rw [sI_f g12, sI_f g11, sI_f g10, sI_f g9]) rfl (fun g g4 g21 => by rw [sI_f (by omega), sI_f (by omega), sI_f (by omega), sI_f (by omega), sI_f g21]) rfl ⟨fun k hk => ?_, fun f' hf' => ?_⟩ (fun f' i' hf' hi' => ?_)
    · rw [sI_e (by decide), sI_e (by decide), sI_e (by decide), sI_1]
      split
      · rcases e_of (m := 21) (by decide) ho1 ho2 with ⟨z, -⟩ | ⟨o, o1, o2, -⟩
        · exact .inl z
        · exact .inr ⟨o, o1, o2⟩
      · exact z4.1 k hk
    · rw [sI_e (by decide), sI_e (by decide), sI_e (by decide), sI_1, if_neg (by rintro ⟨-, z⟩; omega)]
      exact z4.2 f' hf'
    · obtain ⟨q1, q2, q3, q4⟩ := zi f' i' hf' hi'
      have e := ins_ne (f := f) (f' := f') (i := i) (i' := i') (by omega) hi'
      by_cases z : f' * 17 + i' = f * 17 + i
      · have z' := e.1 z
        refine ⟨?_, ?_, ?_, ?_⟩ <;> simp [sI_1, z, z']
      · have z' : ¬ f' * 16 + i' = f * 16 + i := fun y => z (e.2 y)
        refine ⟨?_, ?_, ?_, ?_⟩ <;> simp [sI_1, z, z', q1, q2, q3, q4]
  · exact Stk_of (by rw [sI_f (by decide), sI_f (by decide), sI_f (by decide), sI_f (by decide)]) (by rw [sI_f (by decide), sI_f (by decide), sI_f (by decide), sI_f (by decide)]) (by rw [sI_f (by decide), sI_f (by decide), sI_f (by decide), sI_f (by decide)]) rfl (by rw [sI_f (by decide), sI_f (by decide), sI_f (by decide), sI_f (by decide), sI_f (by decide)]) (by rw [sI_f (by decide), sI_f (by decide), sI_f (by decide), sI_f (by decide), sI_f (by decide)]) h.2
  · rw [sI_e (by decide), sI_e (by decide), sI_e (by decide), sI_e (by decide)]; exact sI_self
theorem coll_all {d : Nat} {a : Nat → Nat} : ∀ (c : Nat) (x : Int32) (C M : CS), HH C M → Stk C M d a → HH (ccoll c C) (mcoll c x M).2 ∧ Stk (ccoll c C) (mcoll c x M).2 d a ∧ (ccoll c C).1 16 0 + x = C.1 16 0 + (mcoll c x M).1 ∧ (mcoll c x M).2.1 21 0 = M.1 21 0
  | 0, x, C, M, h, s => ⟨h, s, rfl, rfl⟩
  | c + 1, x, C, M, h, s => by
    obtain ⟨u1, u2, u3⟩ := unit_all h s
    obtain ⟨v1, v2, v3, v4⟩ := coll_all c (x + (munit M).1) _ _ u1 u2
    refine ⟨v1, v2, ?_, v4.trans (munit_e (by decide))⟩
    rw [u3] at v3
    show (ccoll c (cunit C)).1 16 0 + x = C.1 16 0 + (mcoll c (x + (munit M).1) (munit M).2).1
    have : (ccoll c (cunit C)).1 16 0 + (x + (munit M).1) = (C.1 16 0 + (mcoll c (x + (munit M).1) (munit M).2).1) + (munit M).1 := by rw [v3, Int32.add_assoc, Int32.add_comm (munit M).1, ← Int32.add_assoc]
    rw [← Int32.add_assoc] at this
    rw [← Int32.add_sub_cancel ((ccoll c (cunit C)).1 16 0 + x) (munit M).1, this, Int32.add_sub_cancel]
theorem A_collect {C M : CS} (h : RR C M) (n : Int32) : ∃ (r : Int32) (C2 : CS) (F : (Nat → Int64) → Nat → Int64), (∀ (l : Launch) (D : va_G) (t : Nat → ClassId) (ad : Nat → Nat) (f0 : Nat → Int64), Tr l → Cwo l D t ad y_Law_collect b_Law_collect 4 [(0, 9, 12, 13)] [.ref (ad (ix 0 0)), .int n, .ref (ad 171)] C f0 r C2 (F f0)) ∧ RR C2 (mcollect M n).2 ∧ (mcollect M n).2.1 21 0 = r ∧ (r = 0 → ∀ f0, F f0 0 = (mcollect M n).1.toInt64) := by
  unfold mcollect
  by_cases hn : n < 1 ∨ 100 < n
  · rw [if_pos hn]
    exact ⟨1, C, fun f0 => f0, fun l D t ad f0 htr => w_Law_collect_IAE (x_TCM_collect htr hn) ⟨rfl, rfl, by decide, by decide, by decide, by decide⟩, RR_21 h, sI_self, fun z => absurd z (by decide)⟩
  · rw [if_neg hn]
    obtain ⟨j, hj, rfl, ej⟩ := r_of (m := 100) (by decide) (fun z => hn (.inl (Int32.lt_trans z (by decide)))) (fun z => hn (.inr z))
    have j1 : 1 ≤ j := by
      rcases Nat.eq_zero_or_pos j with z | z
      · subst z; exact absurd (.inl (by decide)) hn
      · exact z
    rw [ej]
    have h' := RR_21 (v := 0) h
    obtain ⟨u1, u2, u3, u4⟩ := coll_all j 0 _ _ h'.1 h'.2
    refine ⟨0, ccoll j C, fun f0 => vp_updL f0 0 ((ccoll j C).1 16 0 - C.1 16 0).toInt64, fun l D t ad f0 htr => w_Law_collect (c_TCM_collect h.1.1 j1 hj) ⟨rfl, rfl, by decide, by decide, by decide, by decide⟩, ⟨u1, u2⟩, u4.trans sI_self, fun _ f0 => pk_uLs.trans ?_⟩
    rw [Int32.add_zero] at u3
    rw [u3, Int32.add_comm, Int32.add_sub_cancel]
theorem A_full {C M : CS} (h : RR C M) : RR (cfull C) (mwhole (sI M 21 0 0)).2 ∧ (cfull C).1 16 0 - C.1 16 0 = (mwhole (sI M 21 0 0)).1 := by
  have h' := RR_21 (v := 0) h
  obtain ⟨u1, u2, u3, -⟩ := full_all h'.1 h'.2
  refine ⟨⟨u1, u2⟩, ?_⟩
  rw [u3, Int32.add_comm, Int32.add_sub_cancel]
end
