/-! calls of methods whose contracts say just one answer and one world -/
def NL : List (String × Nat × MethodName × String) := [("TriColourMachine$Heap", 52, y_Cell_init, "TriColourMachine"), ("TriColourMachine$Cell", 11, y_Tab_init, "TriColourMachine"), ("TriColourMachine$Cell", 20, y_Cor_init, "TriColourMachine"), ("TriColourMachine$Processor", 43, y_Ins_init, "TriColourMachine"), ("TriColourMachine$Heap", 55, y_TCM_numberOf, "TriColourMachine"), ("TriColourMachine$Processor", 71, y_TCM_numberOf, "TriColourMachine"), ("TriColourMachine$Processor", 165, y_TCM_isNumber, "TriColourMachine")]
/-- the contract of a method of the class: from C it answers v0 and leaves C2 -/
abbrev Cd (l : Launch) (D : va_G) (t : Nat → ClassId) (ad : Nat → Nat) (y : MethodName) (b : ByteArray) (n : Nat) (ret : Option FieldType) (rm : Room) (As : List Value) (C : CS) (v0 : Option Value) (C2 : CS) : Prop := Ct l D CL (tyc t) NL 171 ad y (.code y b n ret :: TB) rm As (wc ad t C) (fun v σ2 => v = v0 ∧ σ2 = wc ad t C2)
section DRows
variable {Γ : GT} {cc : ByteArray} {own : String} {rm : Room} {Ts : List Cond} {cl : List vw_C} {tys : List (ClassId × FieldType)} {nl : List (String × Nat × MethodName × String)} {kc ks N pc : Nat} {ad : Nat → Nat} {σ σ' : Nat → va_E} {L : List (Option Value)} {st rest : List Value}
variable {y : MethodName} {bytes : ByteArray} {maxL n index : Nat} {ret : Option FieldType} {rmY : Room} {As : List Value}
theorem g_dVi (h : Cx Γ cc own rm Ts cl tys nl) (hG : GoodIn Ts Ts) {C : String} {T : u_T} {nf ci q : Nat} {fs : List Value} {x : Int32} (hM : Ct (gL Γ) (gD Γ) cl tys nl N ad y (.code y bytes maxL ret :: Ts) rmY (.ref (ad q) :: As) σ (fun v σ2 => v = some (.int x) ∧ σ2 = σ')) (hq : q < N) (he : σ q = .inr (ci, fs)) (hc : cl[ci]? = some (C, T, nf)) (hw : ∀ w ∈ cwsV own index C y bytes maxL ret, w ∈ Ts) (hd0 : cNm y C n) (hn : As.length = n) (hroom : cRm rmY rm maxL kc ks) (hst : st = As.reverse ++ .ref (ad q) :: rest) (hrest : (rest.map fun v => v.category).sum ≤ 8) (hd : decode cc pc = .ok (.invokevirtual index, 3)) (k : G Γ kc ks N ad σ' (pc + 3) L (.int x :: rest)) : G Γ kc ks N ad σ pc L st := g_callV h hG hM hq he hc hw hd0 hn hroom hst hrest hd (fun v σ2 hv => by obtain ⟨rfl, rfl⟩ := hv; exact k)
theorem g_dSi (h : Cx Γ cc own rm Ts cl tys nl) (hG : GoodIn Ts Ts) {x : Int32} (hM : Ct (gL Γ) (gD Γ) cl tys nl N ad y (.code y bytes maxL ret :: Ts) rmY As σ (fun v σ2 => v = some (.int x) ∧ σ2 = σ')) (hw : ∀ w ∈ cwsS own index y bytes maxL ret, w ∈ Ts) (hd0 : cNm y y.cls n) (hn : As.length = n) (hroom : cRm rmY rm maxL kc ks) (hst : st = As.reverse ++ rest) (hrest : (rest.map fun v => v.category).sum ≤ 8) (hd : decode cc pc = .ok (.invokestatic index, 3)) (k : G Γ kc ks N ad σ' (pc + 3) L (.int x :: rest)) : G Γ kc ks N ad σ pc L st := g_callS h hG hM hw hd0 hn hroom hst hrest hd (fun v σ2 hv => by obtain ⟨rfl, rfl⟩ := hv; exact k)
theorem g_dNi (h : Cx Γ cc own rm Ts cl tys nl) (hG : GoodIn Ts Ts) {host : String} {x : Int32} (hM : Ct (gL Γ) (gD Γ) cl tys nl N ad y (.code y bytes maxL ret :: Ts) rmY As σ (fun v σ2 => v = some (.int x) ∧ σ2 = σ')) (hnl : (own, index, y, host) ∈ nl) (hcd : Cond.code y bytes maxL ret ∈ Ts) (hini : Cond.initialized y.cls ∈ Ts) (hst0 : Cond.static y ∈ Ts) (hd0 : cNm y y.cls n) (hn : As.length = n) (hroom : cRm rmY rm maxL kc ks) (hst : st = As.reverse ++ rest) (hrest : (rest.map fun v => v.category).sum ≤ 8) (hd : decode cc pc = .ok (.invokestatic index, 3)) (k : G Γ kc ks N ad σ' (pc + 3) L (.int x :: rest)) : G Γ kc ks N ad σ pc L st := g_callSN h hG hM hnl hcd hini hst0 hd0 hn hroom hst hrest hd (fun v σ2 hv => by obtain ⟨rfl, rfl⟩ := hv; exact k)
theorem g_dVl (h : Cx Γ cc own rm Ts cl tys nl) (hG : GoodIn Ts Ts) {C : String} {T : u_T} {nf ci q : Nat} {fs : List Value} {x : Int64} (hM : Ct (gL Γ) (gD Γ) cl tys nl N ad y (.code y bytes maxL ret :: Ts) rmY (.ref (ad q) :: As) σ (fun v σ2 => v = some (.long x) ∧ σ2 = σ')) (hq : q < N) (he : σ q = .inr (ci, fs)) (hc : cl[ci]? = some (C, T, nf)) (hw : ∀ w ∈ cwsV own index C y bytes maxL ret, w ∈ Ts) (hd0 : cNm y C n) (hn : As.length = n) (hroom : cRm rmY rm maxL kc ks) (hst : st = As.reverse ++ .ref (ad q) :: rest) (hrest : (rest.map fun v => v.category).sum ≤ 8) (hd : decode cc pc = .ok (.invokevirtual index, 3)) (k : G Γ kc ks N ad σ' (pc + 3) L (.long x :: rest)) : G Γ kc ks N ad σ pc L st := g_callV h hG hM hq he hc hw hd0 hn hroom hst hrest hd (fun v σ2 hv => by obtain ⟨rfl, rfl⟩ := hv; exact k)
theorem g_dSl (h : Cx Γ cc own rm Ts cl tys nl) (hG : GoodIn Ts Ts) {x : Int64} (hM : Ct (gL Γ) (gD Γ) cl tys nl N ad y (.code y bytes maxL ret :: Ts) rmY As σ (fun v σ2 => v = some (.long x) ∧ σ2 = σ')) (hw : ∀ w ∈ cwsS own index y bytes maxL ret, w ∈ Ts) (hd0 : cNm y y.cls n) (hn : As.length = n) (hroom : cRm rmY rm maxL kc ks) (hst : st = As.reverse ++ rest) (hrest : (rest.map fun v => v.category).sum ≤ 8) (hd : decode cc pc = .ok (.invokestatic index, 3)) (k : G Γ kc ks N ad σ' (pc + 3) L (.long x :: rest)) : G Γ kc ks N ad σ pc L st := g_callS h hG hM hw hd0 hn hroom hst hrest hd (fun v σ2 hv => by obtain ⟨rfl, rfl⟩ := hv; exact k)
theorem g_dNl (h : Cx Γ cc own rm Ts cl tys nl) (hG : GoodIn Ts Ts) {host : String} {x : Int64} (hM : Ct (gL Γ) (gD Γ) cl tys nl N ad y (.code y bytes maxL ret :: Ts) rmY As σ (fun v σ2 => v = some (.long x) ∧ σ2 = σ')) (hnl : (own, index, y, host) ∈ nl) (hcd : Cond.code y bytes maxL ret ∈ Ts) (hini : Cond.initialized y.cls ∈ Ts) (hst0 : Cond.static y ∈ Ts) (hd0 : cNm y y.cls n) (hn : As.length = n) (hroom : cRm rmY rm maxL kc ks) (hst : st = As.reverse ++ rest) (hrest : (rest.map fun v => v.category).sum ≤ 8) (hd : decode cc pc = .ok (.invokestatic index, 3)) (k : G Γ kc ks N ad σ' (pc + 3) L (.long x :: rest)) : G Γ kc ks N ad σ pc L st := g_callSN h hG hM hnl hcd hini hst0 hd0 hn hroom hst hrest hd (fun v σ2 hv => by obtain ⟨rfl, rfl⟩ := hv; exact k)
theorem g_dVr (h : Cx Γ cc own rm Ts cl tys nl) (hG : GoodIn Ts Ts) {C : String} {T : u_T} {nf ci q : Nat} {fs : List Value} {x : Nat} (hM : Ct (gL Γ) (gD Γ) cl tys nl N ad y (.code y bytes maxL ret :: Ts) rmY (.ref (ad q) :: As) σ (fun v σ2 => v = some (.ref x) ∧ σ2 = σ')) (hq : q < N) (he : σ q = .inr (ci, fs)) (hc : cl[ci]? = some (C, T, nf)) (hw : ∀ w ∈ cwsV own index C y bytes maxL ret, w ∈ Ts) (hd0 : cNm y C n) (hn : As.length = n) (hroom : cRm rmY rm maxL kc ks) (hst : st = As.reverse ++ .ref (ad q) :: rest) (hrest : (rest.map fun v => v.category).sum ≤ 8) (hd : decode cc pc = .ok (.invokevirtual index, 3)) (k : G Γ kc ks N ad σ' (pc + 3) L (.ref x :: rest)) : G Γ kc ks N ad σ pc L st := g_callV h hG hM hq he hc hw hd0 hn hroom hst hrest hd (fun v σ2 hv => by obtain ⟨rfl, rfl⟩ := hv; exact k)
theorem g_dSr (h : Cx Γ cc own rm Ts cl tys nl) (hG : GoodIn Ts Ts) {x : Nat} (hM : Ct (gL Γ) (gD Γ) cl tys nl N ad y (.code y bytes maxL ret :: Ts) rmY As σ (fun v σ2 => v = some (.ref x) ∧ σ2 = σ')) (hw : ∀ w ∈ cwsS own index y bytes maxL ret, w ∈ Ts) (hd0 : cNm y y.cls n) (hn : As.length = n) (hroom : cRm rmY rm maxL kc ks) (hst : st = As.reverse ++ rest) (hrest : (rest.map fun v => v.category).sum ≤ 8) (hd : decode cc pc = .ok (.invokestatic index, 3)) (k : G Γ kc ks N ad σ' (pc + 3) L (.ref x :: rest)) : G Γ kc ks N ad σ pc L st := g_callS h hG hM hw hd0 hn hroom hst hrest hd (fun v σ2 hv => by obtain ⟨rfl, rfl⟩ := hv; exact k)
theorem g_dNr (h : Cx Γ cc own rm Ts cl tys nl) (hG : GoodIn Ts Ts) {host : String} {x : Nat} (hM : Ct (gL Γ) (gD Γ) cl tys nl N ad y (.code y bytes maxL ret :: Ts) rmY As σ (fun v σ2 => v = some (.ref x) ∧ σ2 = σ')) (hnl : (own, index, y, host) ∈ nl) (hcd : Cond.code y bytes maxL ret ∈ Ts) (hini : Cond.initialized y.cls ∈ Ts) (hst0 : Cond.static y ∈ Ts) (hd0 : cNm y y.cls n) (hn : As.length = n) (hroom : cRm rmY rm maxL kc ks) (hst : st = As.reverse ++ rest) (hrest : (rest.map fun v => v.category).sum ≤ 8) (hd : decode cc pc = .ok (.invokestatic index, 3)) (k : G Γ kc ks N ad σ' (pc + 3) L (.ref x :: rest)) : G Γ kc ks N ad σ pc L st := g_callSN h hG hM hnl hcd hini hst0 hd0 hn hroom hst hrest hd (fun v σ2 hv => by obtain ⟨rfl, rfl⟩ := hv; exact k)
theorem g_dVv (h : Cx Γ cc own rm Ts cl tys nl) (hG : GoodIn Ts Ts) {C : String} {T : u_T} {nf ci q : Nat} {fs : List Value} (hM : Ct (gL Γ) (gD Γ) cl tys nl N ad y (.code y bytes maxL ret :: Ts) rmY (.ref (ad q) :: As) σ (fun v σ2 => v = none ∧ σ2 = σ')) (hq : q < N) (he : σ q = .inr (ci, fs)) (hc : cl[ci]? = some (C, T, nf)) (hw : ∀ w ∈ cwsV own index C y bytes maxL ret, w ∈ Ts) (hd0 : cNm y C n) (hn : As.length = n) (hroom : cRm rmY rm maxL kc ks) (hst : st = As.reverse ++ .ref (ad q) :: rest) (hrest : (rest.map fun v => v.category).sum ≤ 8) (hd : decode cc pc = .ok (.invokevirtual index, 3)) (k : G Γ kc ks N ad σ' (pc + 3) L (rest)) : G Γ kc ks N ad σ pc L st := g_callV h hG hM hq he hc hw hd0 hn hroom hst hrest hd (fun v σ2 hv => by obtain ⟨rfl, rfl⟩ := hv; exact k)
theorem g_dSv (h : Cx Γ cc own rm Ts cl tys nl) (hG : GoodIn Ts Ts) (hM : Ct (gL Γ) (gD Γ) cl tys nl N ad y (.code y bytes maxL ret :: Ts) rmY As σ (fun v σ2 => v = none ∧ σ2 = σ')) (hw : ∀ w ∈ cwsS own index y bytes maxL ret, w ∈ Ts) (hd0 : cNm y y.cls n) (hn : As.length = n) (hroom : cRm rmY rm maxL kc ks) (hst : st = As.reverse ++ rest) (hrest : (rest.map fun v => v.category).sum ≤ 8) (hd : decode cc pc = .ok (.invokestatic index, 3)) (k : G Γ kc ks N ad σ' (pc + 3) L (rest)) : G Γ kc ks N ad σ pc L st := g_callS h hG hM hw hd0 hn hroom hst hrest hd (fun v σ2 hv => by obtain ⟨rfl, rfl⟩ := hv; exact k)
theorem g_dNv (h : Cx Γ cc own rm Ts cl tys nl) (hG : GoodIn Ts Ts) {host : String} (hM : Ct (gL Γ) (gD Γ) cl tys nl N ad y (.code y bytes maxL ret :: Ts) rmY As σ (fun v σ2 => v = none ∧ σ2 = σ')) (hnl : (own, index, y, host) ∈ nl) (hcd : Cond.code y bytes maxL ret ∈ Ts) (hini : Cond.initialized y.cls ∈ Ts) (hst0 : Cond.static y ∈ Ts) (hd0 : cNm y y.cls n) (hn : As.length = n) (hroom : cRm rmY rm maxL kc ks) (hst : st = As.reverse ++ rest) (hrest : (rest.map fun v => v.category).sum ≤ 8) (hd : decode cc pc = .ok (.invokestatic index, 3)) (k : G Γ kc ks N ad σ' (pc + 3) L (rest)) : G Γ kc ks N ad σ pc L st := g_callSN h hG hM hnl hcd hini hst0 hd0 hn hroom hst hrest hd (fun v σ2 hv => by obtain ⟨rfl, rfl⟩ := hv; exact k)
end DRows
theorem nm_TCM_init : cNm y_TCM_init "TriColourMachine" 0 := ⟨rfl, by decide, by decide, by decide +kernel⟩
theorem nm_Heap_init : cNm y_Heap_init "TriColourMachine$Heap" 0 := ⟨rfl, by decide, by decide, by decide +kernel⟩
theorem nm_Arr_fill : cNm y_Arr_fill "java/util/Arrays" 2 := ⟨rfl, by decide, by decide, by decide +kernel⟩
theorem nm_Cell_init : cNm y_Cell_init "TriColourMachine$Cell" 0 := ⟨rfl, by decide, by decide, by decide +kernel⟩
theorem nm_Tab_init : cNm y_Tab_init "TriColourMachine$Table" 0 := ⟨rfl, by decide, by decide, by decide +kernel⟩
theorem nm_Cor_init : cNm y_Cor_init "TriColourMachine$Coroutine" 0 := ⟨rfl, by decide, by decide, by decide +kernel⟩
theorem nm_Pro_init : cNm y_Pro_init "TriColourMachine$Processor" 1 := ⟨rfl, by decide, by decide, by decide +kernel⟩
theorem nm_Ins_init : cNm y_Ins_init "TriColourMachine$Instruction" 0 := ⟨rfl, by decide, by decide, by decide +kernel⟩
theorem nm_TCM_full : cNm y_TCM_full "TriColourMachine" 0 := ⟨rfl, by decide, by decide, by decide +kernel⟩
theorem nm_Heap_fullCollection : cNm y_Heap_fullCollection "TriColourMachine$Heap" 0 := ⟨rfl, by decide, by decide, by decide +kernel⟩
theorem nm_Heap_unit : cNm y_Heap_unit "TriColourMachine$Heap" 0 := ⟨rfl, by decide, by decide, by decide +kernel⟩
theorem nm_Heap_sweepOne : cNm y_Heap_sweepOne "TriColourMachine$Heap" 0 := ⟨rfl, by decide, by decide, by decide +kernel⟩
theorem nm_Heap_leastGray : cNm y_Heap_leastGray "TriColourMachine$Heap" 0 := ⟨rfl, by decide, by decide, by decide +kernel⟩
theorem nm_Heap_blacken : cNm y_Heap_blacken "TriColourMachine$Heap" 1 := ⟨rfl, by decide, by decide, by decide +kernel⟩
theorem nm_Heap_shadeRow : cNm y_Heap_shadeRow "TriColourMachine$Heap" 2 := ⟨rfl, by decide, by decide, by decide +kernel⟩
theorem nm_Heap_shade : cNm y_Heap_shade "TriColourMachine$Heap" 1 := ⟨rfl, by decide, by decide, by decide +kernel⟩
theorem nm_Heap_shadeRoots : cNm y_Heap_shadeRoots "TriColourMachine$Heap" 0 := ⟨rfl, by decide, by decide, by decide +kernel⟩
theorem nm_Cell_isActive : cNm y_Cell_isActive "TriColourMachine$Cell" 0 := ⟨rfl, by decide, by decide, by decide +kernel⟩
theorem nm_TCM_count : cNm y_TCM_count "TriColourMachine" 1 := ⟨rfl, by decide, by decide, by decide +kernel⟩
theorem nm_Heap_grayOnes : cNm y_Heap_grayOnes "TriColourMachine$Heap" 0 := ⟨rfl, by decide, by decide, by decide +kernel⟩
theorem nm_TCM_code : cNm y_TCM_code "TriColourMachine" 6 := ⟨rfl, by decide, by decide, by decide +kernel⟩
theorem nm_TCM_checkRange : cNm y_TCM_checkRange "TriColourMachine" 3 := ⟨rfl, by decide, by decide, by decide +kernel⟩
theorem nm_Pro_instructionAt : cNm y_Pro_instructionAt "TriColourMachine$Processor" 2 := ⟨rfl, by decide, by decide, by decide +kernel⟩
theorem nm_TCM_number : cNm y_TCM_number "TriColourMachine" 2 := ⟨rfl, by decide, by decide, by decide +kernel⟩
theorem nm_TCM_checkGlobal : cNm y_TCM_checkGlobal "TriColourMachine" 1 := ⟨rfl, by decide, by decide, by decide +kernel⟩
theorem nm_TCM_move : cNm y_TCM_move "TriColourMachine" 2 := ⟨rfl, by decide, by decide, by decide +kernel⟩
theorem nm_TCM_make : cNm y_TCM_make "TriColourMachine" 2 := ⟨rfl, by decide, by decide, by decide +kernel⟩
theorem nm_Heap_create : cNm y_Heap_create "TriColourMachine$Heap" 2 := ⟨rfl, by decide, by decide, by decide +kernel⟩
theorem nm_Heap_leastFree : cNm y_Heap_leastFree "TriColourMachine$Heap" 0 := ⟨rfl, by decide, by decide, by decide +kernel⟩
theorem nm_Heap_birthColour : cNm y_Heap_birthColour "TriColourMachine$Heap" 1 := ⟨rfl, by decide, by decide, by decide +kernel⟩
theorem nm_Tab_clear : cNm y_Tab_clear "TriColourMachine$Table" 0 := ⟨rfl, by decide, by decide, by decide +kernel⟩
theorem nm_Cor_clear : cNm y_Cor_clear "TriColourMachine$Coroutine" 1 := ⟨rfl, by decide, by decide, by decide +kernel⟩
theorem nm_TCM_raise : cNm y_TCM_raise "TriColourMachine" 1 := ⟨rfl, by decide, by decide, by decide +kernel⟩
theorem nm_TCM_numberOf : cNm y_TCM_numberOf "TriColourMachine" 1 := ⟨rfl, by decide, by decide, by decide +kernel⟩
theorem nm_TCM_set : cNm y_TCM_set "TriColourMachine" 3 := ⟨rfl, by decide, by decide, by decide +kernel⟩
theorem nm_Heap_setting : cNm y_Heap_setting "TriColourMachine$Heap" 3 := ⟨rfl, by decide, by decide, by decide +kernel⟩
theorem nm_Heap_isA : cNm y_Heap_isA "TriColourMachine$Heap" 2 := ⟨rfl, by decide, by decide, by decide +kernel⟩
theorem nm_Heap_lastTable : cNm y_Heap_lastTable "TriColourMachine$Heap" 3 := ⟨rfl, by decide, by decide, by decide +kernel⟩
theorem nm_Tab_find : cNm y_Tab_find "TriColourMachine$Table" 1 := ⟨rfl, by decide, by decide, by decide +kernel⟩
theorem nm_Heap_linked : cNm y_Heap_linked "TriColourMachine$Heap" 2 := ⟨rfl, by decide, by decide, by decide +kernel⟩
theorem nm_Tab_append : cNm y_Tab_append "TriColourMachine$Table" 2 := ⟨rfl, by decide, by decide, by decide +kernel⟩
theorem nm_Tab_takeAway : cNm y_Tab_takeAway "TriColourMachine$Table" 1 := ⟨rfl, by decide, by decide, by decide +kernel⟩
theorem nm_Heap_touch : cNm y_Heap_touch "TriColourMachine$Heap" 1 := ⟨rfl, by decide, by decide, by decide +kernel⟩
theorem nm_TCM_get : cNm y_TCM_get "TriColourMachine" 3 := ⟨rfl, by decide, by decide, by decide +kernel⟩
theorem nm_Heap_getting : cNm y_Heap_getting "TriColourMachine$Heap" 2 := ⟨rfl, by decide, by decide, by decide +kernel⟩
theorem nm_TCM_meta : cNm y_TCM_meta "TriColourMachine" 2 := ⟨rfl, by decide, by decide, by decide +kernel⟩
theorem nm_Heap_settingMeta : cNm y_Heap_settingMeta "TriColourMachine$Heap" 2 := ⟨rfl, by decide, by decide, by decide +kernel⟩
theorem nm_TCM_resume : cNm y_TCM_resume "TriColourMachine" 3 := ⟨rfl, by decide, by decide, by decide +kernel⟩
theorem nm_Pro_run : cNm y_Pro_run "TriColourMachine$Processor" 2 := ⟨rfl, by decide, by decide, by decide +kernel⟩
theorem nm_Pro_enter : cNm y_Pro_enter "TriColourMachine$Processor" 2 := ⟨rfl, by decide, by decide, by decide +kernel⟩
theorem nm_Pro_perform : cNm y_Pro_perform "TriColourMachine$Processor" 2 := ⟨rfl, by decide, by decide, by decide +kernel⟩
theorem nm_Math_floorMod : cNm y_Math_floorMod "java/lang/Math" 2 := ⟨rfl, by decide, by decide, by decide +kernel⟩
theorem nm_Pro_keepFound : cNm y_Pro_keepFound "TriColourMachine$Processor" 3 := ⟨rfl, by decide, by decide, by decide +kernel⟩
theorem nm_Pro_calculate : cNm y_Pro_calculate "TriColourMachine$Processor" 5 := ⟨rfl, by decide, by decide, by decide +kernel⟩
theorem nm_TCM_isNumber : cNm y_TCM_isNumber "TriColourMachine" 1 := ⟨rfl, by decide, by decide, by decide +kernel⟩
theorem nm_Pro_jumpIfBelow : cNm y_Pro_jumpIfBelow "TriColourMachine$Processor" 3 := ⟨rfl, by decide, by decide, by decide +kernel⟩
theorem nm_Pro_jumpIf : cNm y_Pro_jumpIf "TriColourMachine$Processor" 2 := ⟨rfl, by decide, by decide, by decide +kernel⟩
theorem nm_Pro_leave : cNm y_Pro_leave "TriColourMachine$Processor" 1 := ⟨rfl, by decide, by decide, by decide +kernel⟩
theorem nm_Heap_keyAfter : cNm y_Heap_keyAfter "TriColourMachine$Heap" 2 := ⟨rfl, by decide, by decide, by decide +kernel⟩
theorem nm_Heap_howMany : cNm y_Heap_howMany "TriColourMachine$Heap" 1 := ⟨rfl, by decide, by decide, by decide +kernel⟩
theorem nm_Pro_endActive : cNm y_Pro_endActive "TriColourMachine$Processor" 0 := ⟨rfl, by decide, by decide, by decide +kernel⟩
theorem nm_TCM_collect : cNm y_TCM_collect "TriColourMachine" 1 := ⟨rfl, by decide, by decide, by decide +kernel⟩
theorem nm_TCM_global : cNm y_TCM_global "TriColourMachine" 1 := ⟨rfl, by decide, by decide, by decide +kernel⟩
theorem nm_TCM_object : cNm y_TCM_object "TriColourMachine" 2 := ⟨rfl, by decide, by decide, by decide +kernel⟩
theorem nm_TCM_inside : cNm y_TCM_inside "TriColourMachine" 3 := ⟨rfl, by decide, by decide, by decide +kernel⟩
theorem nm_Cell_rows : cNm y_Cell_rows "TriColourMachine$Cell" 1 := ⟨rfl, by decide, by decide, by decide +kernel⟩
theorem nm_Mod_init : cNm y_Mod_init "TriColourMachineModel" 0 := ⟨rfl, by decide, by decide, by decide +kernel⟩
theorem nm_Mod_thrown : cNm y_Mod_thrown "TriColourMachineModel" 0 := ⟨rfl, by decide, by decide, by decide +kernel⟩
theorem nm_Mod_code : cNm y_Mod_code "TriColourMachineModel" 6 := ⟨rfl, by decide, by decide, by decide +kernel⟩
theorem nm_Mod_number : cNm y_Mod_number "TriColourMachineModel" 2 := ⟨rfl, by decide, by decide, by decide +kernel⟩
theorem nm_Mod_badGlobal : cNm y_Mod_badGlobal "TriColourMachineModel" 1 := ⟨rfl, by decide, by decide, by decide +kernel⟩
theorem nm_Mod_move : cNm y_Mod_move "TriColourMachineModel" 2 := ⟨rfl, by decide, by decide, by decide +kernel⟩
theorem nm_Mod_make : cNm y_Mod_make "TriColourMachineModel" 2 := ⟨rfl, by decide, by decide, by decide +kernel⟩
theorem nm_Mod_create : cNm y_Mod_create "TriColourMachineModel" 2 := ⟨rfl, by decide, by decide, by decide +kernel⟩
theorem nm_Mod_free : cNm y_Mod_free "TriColourMachineModel" 0 := ⟨rfl, by decide, by decide, by decide +kernel⟩
theorem nm_Mod_whole : cNm y_Mod_whole "TriColourMachineModel" 0 := ⟨rfl, by decide, by decide, by decide +kernel⟩
theorem nm_Mod_unit : cNm y_Mod_unit "TriColourMachineModel" 0 := ⟨rfl, by decide, by decide, by decide +kernel⟩
theorem nm_Mod_shadeRoots : cNm y_Mod_shadeRoots "TriColourMachineModel" 0 := ⟨rfl, by decide, by decide, by decide +kernel⟩
theorem nm_Mod_shade : cNm y_Mod_shade "TriColourMachineModel" 1 := ⟨rfl, by decide, by decide, by decide +kernel⟩
theorem nm_Mod_objectOf : cNm y_Mod_objectOf "TriColourMachineModel" 1 := ⟨rfl, by decide, by decide, by decide +kernel⟩
theorem nm_Mod_leastGray : cNm y_Mod_leastGray "TriColourMachineModel" 0 := ⟨rfl, by decide, by decide, by decide +kernel⟩
theorem nm_Mod_blacken : cNm y_Mod_blacken "TriColourMachineModel" 1 := ⟨rfl, by decide, by decide, by decide +kernel⟩
theorem nm_Mod_set : cNm y_Mod_set "TriColourMachineModel" 3 := ⟨rfl, by decide, by decide, by decide +kernel⟩
theorem nm_Mod_tableOf : cNm y_Mod_tableOf "TriColourMachineModel" 1 := ⟨rfl, by decide, by decide, by decide +kernel⟩
theorem nm_Mod_setting : cNm y_Mod_setting "TriColourMachineModel" 3 := ⟨rfl, by decide, by decide, by decide +kernel⟩
theorem nm_Mod_pairOf : cNm y_Mod_pairOf "TriColourMachineModel" 2 := ⟨rfl, by decide, by decide, by decide +kernel⟩
theorem nm_Mod_next : cNm y_Mod_next "TriColourMachineModel" 2 := ⟨rfl, by decide, by decide, by decide +kernel⟩
theorem nm_Mod_touch : cNm y_Mod_touch "TriColourMachineModel" 1 := ⟨rfl, by decide, by decide, by decide +kernel⟩
theorem nm_Mod_get : cNm y_Mod_get "TriColourMachineModel" 3 := ⟨rfl, by decide, by decide, by decide +kernel⟩
theorem nm_Mod_getting : cNm y_Mod_getting "TriColourMachineModel" 2 := ⟨rfl, by decide, by decide, by decide +kernel⟩
theorem nm_Mod_meta : cNm y_Mod_meta "TriColourMachineModel" 2 := ⟨rfl, by decide, by decide, by decide +kernel⟩
theorem nm_Mod_join : cNm y_Mod_join "TriColourMachineModel" 2 := ⟨rfl, by decide, by decide, by decide +kernel⟩
theorem nm_Mod_resume : cNm y_Mod_resume "TriColourMachineModel" 3 := ⟨rfl, by decide, by decide, by decide +kernel⟩
theorem nm_Mod_enter : cNm y_Mod_enter "TriColourMachineModel" 2 := ⟨rfl, by decide, by decide, by decide +kernel⟩
theorem nm_Mod_coroutineOf : cNm y_Mod_coroutineOf "TriColourMachineModel" 1 := ⟨rfl, by decide, by decide, by decide +kernel⟩
theorem nm_Mod_step : cNm y_Mod_step "TriColourMachineModel" 0 := ⟨rfl, by decide, by decide, by decide +kernel⟩
theorem nm_Mod_leave : cNm y_Mod_leave "TriColourMachineModel" 2 := ⟨rfl, by decide, by decide, by decide +kernel⟩
theorem nm_Mod_jumps : cNm y_Mod_jumps "TriColourMachineModel" 3 := ⟨rfl, by decide, by decide, by decide +kernel⟩
theorem nm_Mod_isNumber : cNm y_Mod_isNumber "TriColourMachineModel" 1 := ⟨rfl, by decide, by decide, by decide +kernel⟩
theorem nm_Mod_calculate : cNm y_Mod_calculate "TriColourMachineModel" 5 := ⟨rfl, by decide, by decide, by decide +kernel⟩
theorem nm_Mod_following : cNm y_Mod_following "TriColourMachineModel" 2 := ⟨rfl, by decide, by decide, by decide +kernel⟩
theorem nm_Mod_collect : cNm y_Mod_collect "TriColourMachineModel" 1 := ⟨rfl, by decide, by decide, by decide +kernel⟩
theorem nm_Mod_full : cNm y_Mod_full "TriColourMachineModel" 0 := ⟨rfl, by decide, by decide, by decide +kernel⟩
theorem nm_Mod_global : cNm y_Mod_global "TriColourMachineModel" 1 := ⟨rfl, by decide, by decide, by decide +kernel⟩
theorem nm_Mod_object : cNm y_Mod_object "TriColourMachineModel" 2 := ⟨rfl, by decide, by decide, by decide +kernel⟩
theorem nm_Mod_inside : cNm y_Mod_inside "TriColourMachineModel" 3 := ⟨rfl, by decide, by decide, by decide +kernel⟩
theorem nm_Mod_count : cNm y_Mod_count "TriColourMachineModel" 1 := ⟨rfl, by decide, by decide, by decide +kernel⟩
theorem nl_Heap_52 : ("TriColourMachine$Heap", 52, y_Cell_init, "TriColourMachine") ∈ NL := List.mem_of_getElem? (i := 0) rfl
theorem nl_Cell_11 : ("TriColourMachine$Cell", 11, y_Tab_init, "TriColourMachine") ∈ NL := List.mem_of_getElem? (i := 1) rfl
theorem nl_Cell_20 : ("TriColourMachine$Cell", 20, y_Cor_init, "TriColourMachine") ∈ NL := List.mem_of_getElem? (i := 2) rfl
theorem nl_Pro_43 : ("TriColourMachine$Processor", 43, y_Ins_init, "TriColourMachine") ∈ NL := List.mem_of_getElem? (i := 3) rfl
theorem nl_Heap_55 : ("TriColourMachine$Heap", 55, y_TCM_numberOf, "TriColourMachine") ∈ NL := List.mem_of_getElem? (i := 4) rfl
theorem nl_Pro_71 : ("TriColourMachine$Processor", 71, y_TCM_numberOf, "TriColourMachine") ∈ NL := List.mem_of_getElem? (i := 5) rfl
theorem nl_Pro_165 : ("TriColourMachine$Processor", 165, y_TCM_isNumber, "TriColourMachine") ∈ NL := List.mem_of_getElem? (i := 6) rfl
theorem cd_TCM_numberOf : Cond.code y_TCM_numberOf b_TCM_numberOf 2 (some .int) ∈ TB := tb_mem 492 (by decide +kernel) rfl
theorem st_TCM_numberOf : Cond.static y_TCM_numberOf ∈ TB := tb_mem 491 (by decide +kernel) rfl
theorem cd_TCM_isNumber : Cond.code y_TCM_isNumber b_TCM_isNumber 2 (some .boolean) ∈ TB := tb_mem 598 (by decide +kernel) rfl
theorem st_TCM_isNumber : Cond.static y_TCM_isNumber ∈ TB := tb_mem 597 (by decide +kernel) rfl
theorem in_TCM : Cond.initialized "TriColourMachine" ∈ TB := tb_mem 43 (by decide +kernel) rfl
