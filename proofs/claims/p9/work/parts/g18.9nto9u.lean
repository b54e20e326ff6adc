-- part 9n.inits
section
theorem one_cell {σ : Nat → va_E} {e : va_E} (h : σ 0 = e) : ∀ k, k < 1 → σ k = (fun _ => e) k := fun k hk => by
  have z : k = 0 := by omega
  subst z
  exact h
abbrev Z6 (t : Nat → ClassId) : va_E := .inl (t 0, 6, .inr (.inl (fun _ => 0)))
abbrev Z4 (t : Nat → ClassId) : va_E := .inl (t 0, 4, .inr (.inl (fun _ => 0)))
def wIns : va_E := .inr (3, [.int (-1), .int 0, .int 0, .int 0])
def wTab (ad : Nat → Nat) (t : Nat → ClassId) (k : Nat) : va_E := match k with
  | 0 => .inr (5, [.ref (ad 1), .ref (ad 2), .int 0, .int (-1)])
  | _ => Z6 t
def wCor (ad : Nat → Nat) (t : Nat → ClassId) (k : Nat) : va_E := match k with
  | 0 => .inr (1, [.ref (ad 1), .int 0, .int 0, .int 0, .int 0, .int 0])
  | _ => Z4 t
def wCell (ad : Nat → Nat) (t : Nat → ClassId) (k : Nat) : va_E := match k with
  | 0 => .inr (0, [.ref (ad 1), .ref (ad 4), .int 0, .int 0])
  | 1 => .inr (5, [.ref (ad 2), .ref (ad 3), .int 0, .int (-1)])
  | 2 => Z6 t
  | 3 => Z6 t
  | 4 => .inr (1, [.ref (ad 5), .int 0, .int 0, .int 0, .int 0, .int 0])
  | _ => Z4 t
theorem sgj_1 {q N2 : Nat} {σ σ' τ τ' : Nat → va_E} (h1 : ∀ k, k < q → σ k = σ' k) (h2 : ∀ k, k < N2 → τ k = τ' k) : ∀ k, k < q + N2 → sgj q σ τ k = sgj q σ' τ' k := fun k hk => by
  unfold sgj
  by_cases z : k < q
  · rw [if_pos z, if_pos z]; exact h1 k z
  · rw [if_neg z, if_neg z]; exact h2 _ (by omega)
/-- the contract of a constructor of the class's that begins with the one cell -/
abbrev Cn (l : Launch) (D : va_G) (t : Nat → ClassId) (tys : List (ClassId × FieldType)) (N2 : Nat) (ad : Nat → Nat) (y : MethodName) (b : ByteArray) (n : Nat) (rm : Room) (As : List Value) (σ : Nat → va_E) (mc ms : Nat) (w : (Nat → Nat) → Nat → va_E) : Prop := Ctn l D CL tys NL 1 N2 ad y (.code y b n none :: TB) rm As σ mc ms (fun ad2 σ2 => ∀ k, k < N2 → σ2 k = w ad2 k)
theorem ac_long : Cond.arrayClass .long ∈ TB := tb_mem 114 (by decide +kernel) (by decide +kernel)
theorem ac_int : Cond.arrayClass .int ∈ TB := tb_mem 767 (by decide +kernel) (by decide +kernel)
theorem oi_in : Cond.instanceMethod Lib.objectInit ∈ TB := tb_mem 67 (by decide +kernel) (by decide +kernel)
theorem oi_cd : Cond.code Lib.objectInit ⟨#[0xb1]⟩ 1 none ∈ TB := tb_mem 68 (by decide +kernel) (by decide +kernel)
theorem oi_Ins : Cond.methodLink "TriColourMachine$Instruction" 3 Lib.objectInit ∈ TB := tb_mem 228 (by decide +kernel) (by decide +kernel)
theorem ic_Ins : Cond.instantiable "TriColourMachine$Instruction" 4 ∈ TB := tb_mem 224 (by decide +kernel) (by decide +kernel)
theorem ii_Ins : Cond.initialized "TriColourMachine$Instruction" ∈ TB := tb_mem 50 (by decide +kernel) (by decide +kernel)
set_option maxRecDepth 100000 in
theorem wi_Ins : Cond.instanceMethod y_Ins_init ∈ TB ∧ Cond.initialized y_Ins_init.cls ∈ TB ∧ Cond.code y_Ins_init b_Ins_init 1 none ∈ TB := ⟨tb_mem 226 (by decide +kernel) (by decide +kernel), tb_mem 50 (by decide +kernel) (by decide +kernel), List.mem_filter.mpr ⟨List.mem_of_getElem? (i := 227) rfl, rfl⟩⟩
theorem oi_Tab : Cond.methodLink "TriColourMachine$Table" 3 Lib.objectInit ∈ TB := tb_mem 91 (by decide +kernel) (by decide +kernel)
theorem ic_Tab : Cond.instantiable "TriColourMachine$Table" 4 ∈ TB := tb_mem 87 (by decide +kernel) (by decide +kernel)
theorem ii_Tab : Cond.initialized "TriColourMachine$Table" ∈ TB := tb_mem 47 (by decide +kernel) (by decide +kernel)
set_option maxRecDepth 100000 in
theorem wi_Tab : Cond.instanceMethod y_Tab_init ∈ TB ∧ Cond.initialized y_Tab_init.cls ∈ TB ∧ Cond.code y_Tab_init b_Tab_init 1 none ∈ TB := ⟨tb_mem 89 (by decide +kernel) (by decide +kernel), tb_mem 47 (by decide +kernel) (by decide +kernel), List.mem_filter.mpr ⟨List.mem_of_getElem? (i := 90) rfl, rfl⟩⟩
theorem oi_Cor : Cond.methodLink "TriColourMachine$Coroutine" 3 Lib.objectInit ∈ TB := tb_mem 120 (by decide +kernel) (by decide +kernel)
theorem ic_Cor : Cond.instantiable "TriColourMachine$Coroutine" 6 ∈ TB := tb_mem 116 (by decide +kernel) (by decide +kernel)
theorem ii_Cor : Cond.initialized "TriColourMachine$Coroutine" ∈ TB := tb_mem 48 (by decide +kernel) (by decide +kernel)
set_option maxRecDepth 100000 in
theorem wi_Cor : Cond.instanceMethod y_Cor_init ∈ TB ∧ Cond.initialized y_Cor_init.cls ∈ TB ∧ Cond.code y_Cor_init b_Cor_init 1 none ∈ TB := ⟨tb_mem 118 (by decide +kernel) (by decide +kernel), tb_mem 48 (by decide +kernel) (by decide +kernel), List.mem_filter.mpr ⟨List.mem_of_getElem? (i := 119) rfl, rfl⟩⟩
theorem oi_Cell : Cond.methodLink "TriColourMachine$Cell" 3 Lib.objectInit ∈ TB := tb_mem 85 (by decide +kernel) (by decide +kernel)
theorem ic_Cell : Cond.instantiable "TriColourMachine$Cell" 4 ∈ TB := tb_mem 81 (by decide +kernel) (by decide +kernel)
theorem ii_Cell : Cond.initialized "TriColourMachine$Cell" ∈ TB := tb_mem 46 (by decide +kernel) (by decide +kernel)
set_option maxRecDepth 100000 in
theorem wi_Cell : Cond.instanceMethod y_Cell_init ∈ TB ∧ Cond.initialized y_Cell_init.cls ∈ TB ∧ Cond.code y_Cell_init b_Cell_init 1 none ∈ TB := ⟨tb_mem 83 (by decide +kernel) (by decide +kernel), tb_mem 46 (by decide +kernel) (by decide +kernel), List.mem_filter.mpr ⟨List.mem_of_getElem? (i := 84) rfl, rfl⟩⟩
theorem oi_Heap : Cond.methodLink "TriColourMachine$Heap" 3 Lib.objectInit ∈ TB := tb_mem 74 (by decide +kernel) (by decide +kernel)
theorem ic_Heap : Cond.instantiable "TriColourMachine$Heap" 9 ∈ TB := tb_mem 70 (by decide +kernel) (by decide +kernel)
theorem ii_Heap : Cond.initialized "TriColourMachine$Heap" ∈ TB := tb_mem 44 (by decide +kernel) (by decide +kernel)
set_option maxRecDepth 100000 in
theorem wi_Heap : Cond.instanceMethod y_Heap_init ∈ TB ∧ Cond.initialized y_Heap_init.cls ∈ TB ∧ Cond.code y_Heap_init b_Heap_init 2 none ∈ TB := ⟨tb_mem 72 (by decide +kernel) (by decide +kernel), tb_mem 44 (by decide +kernel) (by decide +kernel), List.mem_filter.mpr ⟨List.mem_of_getElem? (i := 73) rfl, rfl⟩⟩
theorem oi_Pro : Cond.methodLink "TriColourMachine$Processor" 3 Lib.objectInit ∈ TB := tb_mem 218 (by decide +kernel) (by decide +kernel)
theorem ic_Pro : Cond.instantiable "TriColourMachine$Processor" 7 ∈ TB := tb_mem 214 (by decide +kernel) (by decide +kernel)
theorem ii_Pro : Cond.initialized "TriColourMachine$Processor" ∈ TB := tb_mem 49 (by decide +kernel) (by decide +kernel)
set_option maxRecDepth 100000 in
theorem wi_Pro : Cond.instanceMethod y_Pro_init ∈ TB ∧ Cond.initialized y_Pro_init.cls ∈ TB ∧ Cond.code y_Pro_init b_Pro_init 3 none ∈ TB := ⟨tb_mem 216 (by decide +kernel) (by decide +kernel), tb_mem 49 (by decide +kernel) (by decide +kernel), List.mem_filter.mpr ⟨List.mem_of_getElem? (i := 217) rfl, rfl⟩⟩
theorem oi_TCM : Cond.methodLink "TriColourMachine" 3 Lib.objectInit ∈ TB := tb_mem 66 (by decide +kernel) (by decide +kernel)
theorem ic_TCM : Cond.instantiable "TriColourMachine" 2 ∈ TB := tb_mem 62 (by decide +kernel) (by decide +kernel)
theorem ii_TCM : Cond.initialized "TriColourMachine" ∈ TB := tb_mem 43 (by decide +kernel) (by decide +kernel)
set_option maxRecDepth 100000 in
theorem wi_TCM : Cond.instanceMethod y_TCM_init ∈ TB ∧ Cond.initialized y_TCM_init.cls ∈ TB ∧ Cond.code y_TCM_init b_TCM_init 2 none ∈ TB := ⟨tb_mem 64 (by decide +kernel) (by decide +kernel), tb_mem 43 (by decide +kernel) (by decide +kernel), List.mem_filter.mpr ⟨List.mem_of_getElem? (i := 65) rfl, rfl⟩⟩
theorem oi_Mod : Cond.methodLink "TriColourMachineModel" 1 Lib.objectInit ∈ TB := tb_mem 680 (by decide +kernel) (by decide +kernel)
theorem ic_Mod : Cond.instantiable "TriColourMachineModel" 28 ∈ TB := tb_mem 676 (by decide +kernel) (by decide +kernel)
theorem ii_Mod : Cond.initialized "TriColourMachineModel" ∈ TB := tb_mem 51 (by decide +kernel) (by decide +kernel)
set_option maxRecDepth 100000 in
theorem wi_Mod : Cond.instanceMethod y_Mod_init ∈ TB ∧ Cond.initialized y_Mod_init.cls ∈ TB ∧ Cond.code y_Mod_init b_Mod_init 2 none ∈ TB := ⟨tb_mem 678 (by decide +kernel) (by decide +kernel), tb_mem 51 (by decide +kernel) (by decide +kernel), List.mem_filter.mpr ⟨List.mem_of_getElem? (i := 679) rfl, rfl⟩⟩
theorem cl_Law_8 : Cond.classLink "TriColourMachineLaw" 8 "TriColourMachine" ∈ TB := tb_mem 61 (by decide +kernel) (by decide +kernel)
theorem ml_Law_61 : Cond.methodLink "TriColourMachineLaw" 61 y_TCM_init ∈ TB := tb_mem 63 (by decide +kernel) (by decide +kernel)
theorem cl_TCM_9 : Cond.classLink "TriColourMachine" 9 "TriColourMachine$Heap" ∈ TB := tb_mem 69 (by decide +kernel) (by decide +kernel)
theorem ml_TCM_11 : Cond.methodLink "TriColourMachine" 11 y_Heap_init ∈ TB := tb_mem 71 (by decide +kernel) (by decide +kernel)
theorem cl_Heap_15 : Cond.classLink "TriColourMachine$Heap" 15 "TriColourMachine$Cell" ∈ TB := tb_mem 75 (by decide +kernel) (by decide +kernel)
theorem cl_Cell_9 : Cond.classLink "TriColourMachine$Cell" 9 "TriColourMachine$Table" ∈ TB := tb_mem 86 (by decide +kernel) (by decide +kernel)
theorem cl_Cell_18 : Cond.classLink "TriColourMachine$Cell" 18 "TriColourMachine$Coroutine" ∈ TB := tb_mem 115 (by decide +kernel) (by decide +kernel)
theorem cl_TCM_16 : Cond.classLink "TriColourMachine" 16 "TriColourMachine$Processor" ∈ TB := tb_mem 213 (by decide +kernel) (by decide +kernel)
theorem ml_TCM_18 : Cond.methodLink "TriColourMachine" 18 y_Pro_init ∈ TB := tb_mem 215 (by decide +kernel) (by decide +kernel)
theorem cl_Pro_11 : Cond.classLink "TriColourMachine$Processor" 11 "TriColourMachine$Instruction" ∈ TB := tb_mem 219 (by decide +kernel) (by decide +kernel)
theorem cl_Pro_17 : Cond.classLink "TriColourMachine$Processor" 17 "TriColourMachine$Coroutine" ∈ TB := tb_mem 221 (by decide +kernel) (by decide +kernel)
theorem cl_Law_62 : Cond.classLink "TriColourMachineLaw" 62 "TriColourMachineModel" ∈ TB := tb_mem 675 (by decide +kernel) (by decide +kernel)
theorem ml_Law_64 : Cond.methodLink "TriColourMachineLaw" 64 y_Mod_init ∈ TB := tb_mem 677 (by decide +kernel) (by decide +kernel)
set_option maxHeartbeats 4000000 in
set_option maxRecDepth 100000 in
theorem n_Ins_init {l : Launch} {D : va_G} {t : Nat → ClassId} {ad : Nat → Nat} {σ : Nat → va_E} (hσ : σ 0 = .inr (3, [.int 0, .int 0, .int 0, .int 0])) : Cn l D t (tyc t) 1 ad y_Ins_init b_Ins_init 1 { frames := 1, cells := 0, slots := 0, locals := 20 } [.ref (ad 0)] σ 0 0 (fun _ _ => wIns) := by
  refine ctn_of (by decide) (Nat.le_of_ble_eq_true rfl) ?_
  intro Γ hL hDD hN h r hao hnm
  refine g_world (σ' := fun _ => .inr (3, [.int 0, .int 0, .int 0, .int 0])) (one_cell hσ) ?_
  refine g_at (L' := [some (.ref (ad 0))]) rfl rfl rfl ?_
  refine g_aload_n h d_Ins_init_0 rfl rfl ?_
  refine g_objInit h oi_Ins oi_in oi_cd ⟨by decide, by decide⟩ (by decide) d_Ins_init_1 ?_
  refine g_aload_n h d_Ins_init_4 rfl rfl ?_
  refine g_iconst (v := -1) h d_Ins_init_5 (by decide) ?_
  refine g_put h i_Ins 0 (by decide) rfl rfl 0 (by decide) t_Ins t_Ins_ok n_Ins f_Ins_9 rfl rfl rfl (Nat.le_of_ble_eq_true rfl) d_Ins_init_6 ?_
  refine g_aload_n h d_Ins_init_9 rfl rfl ?_
  refine g_iconst (v := 0) h d_Ins_init_10 (by decide) ?_
  refine g_put h i_Ins 0 (by decide) rfl rfl 1 (by decide) t_Ins t_Ins_ok n_Ins f_Ins_15 rfl rfl rfl (Nat.le_of_ble_eq_true rfl) d_Ins_init_11 ?_
  refine g_aload_n h d_Ins_init_14 rfl rfl ?_
  refine g_iconst (v := 0) h d_Ins_init_15 (by decide) ?_
  refine g_put h i_Ins 0 (by decide) rfl rfl 2 (by decide) t_Ins t_Ins_ok n_Ins f_Ins_18 rfl rfl rfl (Nat.le_of_ble_eq_true rfl) d_Ins_init_16 ?_
  refine g_aload_n h d_Ins_init_19 rfl rfl ?_
  refine g_iconst (v := 0) h d_Ins_init_20 (by decide) ?_
  refine g_put h i_Ins 0 (by decide) rfl rfl 3 (by decide) t_Ins t_Ins_ok n_Ins f_Ins_21 rfl rfl rfl (Nat.le_of_ble_eq_true rfl) d_Ins_init_21 ?_
  exact g_vretN h r d_Ins_init_24 (fun _ _ => rfl) (fun k hk => by
    have : k = 0 := by omega
    subst this
    rfl)
set_option maxHeartbeats 4000000 in
set_option maxRecDepth 100000 in
theorem n_Tab_init {l : Launch} {D : va_G} {t : Nat → ClassId} {ad : Nat → Nat} {σ : Nat → va_E} (hσ : σ 0 = .inr (5, [.null, .null, .int 0, .int 0])) : Cn l D t (tyc t) 3 ad y_Tab_init b_Tab_init 1 { frames := 1, cells := 2, slots := 12, locals := 20 } [.ref (ad 0)] σ 2 12 (fun ad2 => wTab ad2 t) := by
  refine ctn_of (by decide) (Nat.le_of_ble_eq_true rfl) ?_
  intro Γ hL hDD hN h r hao hnm
  refine g_world (σ' := fun _ => .inr (5, [.null, .null, .int 0, .int 0])) (one_cell hσ) ?_
  refine g_at (L' := [some (.ref (ad 0))]) rfl rfl rfl ?_
  refine g_aload_n h d_Tab_init_0 rfl rfl ?_
  refine g_objInit h oi_Tab oi_in oi_cd ⟨by decide, by decide⟩ (by decide) d_Tab_init_1 ?_
  refine g_aload_n h d_Tab_init_4 rfl rfl ?_
  refine g_bipush (v := 6) h d_Tab_init_5 (by decide) ?_
  refine g_newl h 0 rfl ac_long (m := 6) (by decide) (by decide) (by decide) ⟨by show _ ≤ 2; decide, by show _ ≤ 12; decide⟩ d_Tab_init_7 (fun q7 => ?_)
  refine g_putF h i_Tab 0 (by decide) rfl rfl 0 (by decide) t_Tab t_Tab_ok n_Tab f_Tab_9 rfl hnm rfl rfl rfl (Nat.le_of_ble_eq_true rfl) d_Tab_init_9 ?_
  refine g_aload_n h d_Tab_init_12 rfl rfl ?_
  refine g_bipush (v := 6) h d_Tab_init_13 (by decide) ?_
  refine g_newl h 0 rfl ac_long (m := 6) (by decide) (by decide) (by decide) ⟨by show _ ≤ 2; decide, by show _ ≤ 12; decide⟩ d_Tab_init_15 (fun q15 => ?_)
  refine g_putF h i_Tab 0 (by decide) rfl rfl 1 (by decide) t_Tab t_Tab_ok n_Tab f_Tab_15 rfl hnm rfl rfl rfl (Nat.le_of_ble_eq_true rfl) d_Tab_init_17 ?_
  refine g_aload_n h d_Tab_init_20 rfl rfl ?_
  refine g_iconst (v := 0) h d_Tab_init_21 (by decide) ?_
  refine g_put h i_Tab 0 (by decide) rfl rfl 2 (by decide) t_Tab t_Tab_ok n_Tab f_Tab_18 rfl rfl rfl (Nat.le_of_ble_eq_true rfl) d_Tab_init_22 ?_
  refine g_aload_n h d_Tab_init_25 rfl rfl ?_
  refine g_iconst (v := -1) h d_Tab_init_26 (by decide) ?_
  refine g_put h i_Tab 0 (by decide) rfl rfl 3 (by decide) t_Tab t_Tab_ok n_Tab f_Tab_22 rfl rfl rfl (Nat.le_of_ble_eq_true rfl) d_Tab_init_27 ?_
  exact g_vretN h r d_Tab_init_30 (fun k hk => by
    have : k = 0 := by omega
    subst this
    rfl) (fun k hk => by
    rcases (show k = 0 ∨ k = 1 ∨ k = 2 by omega) with rfl | rfl | rfl <;> rfl)
set_option maxHeartbeats 4000000 in
set_option maxRecDepth 100000 in
theorem n_Cor_init {l : Launch} {D : va_G} {t : Nat → ClassId} {ad : Nat → Nat} {σ : Nat → va_E} (hσ : σ 0 = .inr (1, [.null, .int 0, .int 0, .int 0, .int 0, .int 0])) : Cn l D t (tyc t) 2 ad y_Cor_init b_Cor_init 1 { frames := 1, cells := 1, slots := 4, locals := 20 } [.ref (ad 0)] σ 1 4 (fun ad2 => wCor ad2 t) := by
  refine ctn_of (by decide) (Nat.le_of_ble_eq_true rfl) ?_
  intro Γ hL hDD hN h r hao hnm
  refine g_world (σ' := fun _ => .inr (1, [.null, .int 0, .int 0, .int 0, .int 0, .int 0])) (one_cell hσ) ?_
  refine g_at (L' := [some (.ref (ad 0))]) rfl rfl rfl ?_
  refine g_aload_n h d_Cor_init_0 rfl rfl ?_
  refine g_objInit h oi_Cor oi_in oi_cd ⟨by decide, by decide⟩ (by decide) d_Cor_init_1 ?_
  refine g_aload_n h d_Cor_init_4 rfl rfl ?_
  refine g_iconst (v := 4) h d_Cor_init_5 (by decide) ?_
  refine g_newl h 0 rfl ac_long (m := 4) (by decide) (by decide) (by decide) ⟨by show _ ≤ 1; decide, by show _ ≤ 4; decide⟩ d_Cor_init_6 (fun q6 => ?_)
  refine g_putF h i_Cor 0 (by decide) rfl rfl 0 (by decide) t_Cor t_Cor_ok n_Cor f_Cor_9 rfl hnm rfl rfl rfl (Nat.le_of_ble_eq_true rfl) d_Cor_init_8 ?_
  refine g_aload_n h d_Cor_init_11 rfl rfl ?_
  refine g_iconst (v := 0) h d_Cor_init_12 (by decide) ?_
  refine g_put h i_Cor 0 (by decide) rfl rfl 1 (by decide) t_Cor t_Cor_ok n_Cor f_Cor_15 rfl rfl rfl (Nat.le_of_ble_eq_true rfl) d_Cor_init_13 ?_
  refine g_aload_n h d_Cor_init_16 rfl rfl ?_
  refine g_iconst (v := 0) h d_Cor_init_17 (by decide) ?_
  refine g_put h i_Cor 0 (by decide) rfl rfl 2 (by decide) t_Cor t_Cor_ok n_Cor f_Cor_19 rfl rfl rfl (Nat.le_of_ble_eq_true rfl) d_Cor_init_18 ?_
  refine g_aload_n h d_Cor_init_21 rfl rfl ?_
  refine g_iconst (v := 0) h d_Cor_init_22 (by decide) ?_
  refine g_put h i_Cor 0 (by decide) rfl rfl 3 (by decide) t_Cor t_Cor_ok n_Cor f_Cor_22 rfl rfl rfl (Nat.le_of_ble_eq_true rfl) d_Cor_init_23 ?_
  refine g_aload_n h d_Cor_init_26 rfl rfl ?_
  refine g_iconst (v := 0) h d_Cor_init_27 (by decide) ?_
  refine g_put h i_Cor 0 (by decide) rfl rfl 4 (by decide) t_Cor t_Cor_ok n_Cor f_Cor_25 rfl rfl rfl (Nat.le_of_ble_eq_true rfl) d_Cor_init_28 ?_
  refine g_aload_n h d_Cor_init_31 rfl rfl ?_
  refine g_iconst (v := 0) h d_Cor_init_32 (by decide) ?_
  refine g_put h i_Cor 0 (by decide) rfl rfl 5 (by decide) t_Cor t_Cor_ok n_Cor f_Cor_28 rfl rfl rfl (Nat.le_of_ble_eq_true rfl) d_Cor_init_33 ?_
  exact g_vretN h r d_Cor_init_36 (fun k hk => by
    have : k = 0 := by omega
    subst this
    rfl) (fun k hk => by
    rcases (show k = 0 ∨ k = 1 by omega) with rfl | rfl <;> rfl)
set_option maxHeartbeats 4000000 in
set_option maxRecDepth 100000 in
theorem n_Cell_init {l : Launch} {D : va_G} {t : Nat → ClassId} {ad : Nat → Nat} {σ : Nat → va_E} (hσ : σ 0 = .inr (0, [.null, .null, .int 0, .int 0])) : Cn l D t (tyc t) 6 ad y_Cell_init b_Cell_init 1 { frames := 2, cells := 5, slots := 26, locals := 60 } [.ref (ad 0)] σ 5 26 (fun ad2 => wCell ad2 t) := by
  refine ctn_of (by decide) (Nat.le_of_ble_eq_true rfl) ?_
  intro Γ hL hDD hN h r hao hnm
  refine g_world (σ' := fun _ => .inr (0, [.null, .null, .int 0, .int 0])) (one_cell hσ) ?_
  refine g_at (L' := [some (.ref (ad 0))]) rfl rfl rfl ?_
  refine g_aload_n h d_Cell_init_0 rfl rfl ?_
  refine g_objInit h oi_Cell oi_in oi_cd ⟨by decide, by decide⟩ (by decide) d_Cell_init_1 ?_
  refine g_aload_n h d_Cell_init_4 rfl rfl ?_
  refine g_new (ci := 5) (fs := [.null, .null, .int 0, .int 0]) h i_Tab t_Tab t_Tab_ok cl_Cell_9 ic_Tab ii_Tab rfl (by decide) ⟨by show _ ≤ 5; decide, by show _ ≤ 26; decide⟩ d_Cell_init_5 (fun q5 => ?_)
  refine g_dup h d_Cell_init_8 rfl ?_
  refine g_initN (q := 1) h tb_good hao (by rw [hL, hDD]; exact n_Tab_init rfl) nl_Cell_11 wi_Tab rfl nm_Tab_init rfl ⟨rfl, rfl, by decide, by decide, by show _ ≤ 5; decide, by show _ ≤ 26; decide⟩ rfl (Nat.le_of_ble_eq_true rfl) d_Cell_init_9 ?_
  intro ad9 σ9 ea9 es9
  refine g_world (sgj_1 (fun k hk => rfl) es9) ?_
  refine g_putF h i_Cell 0 (by decide) rfl rfl 0 (by decide) t_Cell t_Cell_ok n_Cell f_Cell_12 rfl hnm rfl rfl rfl (Nat.le_of_ble_eq_true rfl) d_Cell_init_12 ?_
  refine g_aload_n h d_Cell_init_15 rfl rfl ?_
  refine g_new (ci := 1) (fs := [.null, .int 0, .int 0, .int 0, .int 0, .int 0]) h i_Cor t_Cor t_Cor_ok cl_Cell_18 ic_Cor ii_Cor rfl (by decide) ⟨by show _ ≤ 5; decide, by show _ ≤ 26; decide⟩ d_Cell_init_16 (fun q16 => ?_)
  refine g_dup h d_Cell_init_19 rfl ?_
  refine g_initN (q := 4) h tb_good hao (by rw [hL, hDD]; exact n_Cor_init rfl) nl_Cell_20 wi_Cor rfl nm_Cor_init rfl ⟨rfl, rfl, by decide, by decide, by show _ ≤ 5; decide, by show _ ≤ 26; decide⟩ rfl (Nat.le_of_ble_eq_true rfl) d_Cell_init_20 ?_
  intro ad20 σ20 ea20 es20
  refine g_world (sgj_1 (fun k hk => rfl) es20) ?_
  refine g_putF h i_Cell 0 (by decide) rfl rfl 1 (by decide) t_Cell t_Cell_ok n_Cell f_Cell_21 rfl hnm rfl rfl rfl (Nat.le_of_ble_eq_true rfl) d_Cell_init_23 ?_
  refine g_aload_n h d_Cell_init_26 rfl rfl ?_
  refine g_iconst (v := 0) h d_Cell_init_27 (by decide) ?_
  refine g_put h i_Cell 0 (by decide) rfl rfl 2 (by decide) t_Cell t_Cell_ok n_Cell f_Cell_25 rfl rfl rfl (Nat.le_of_ble_eq_true rfl) d_Cell_init_28 ?_
  refine g_aload_n h d_Cell_init_31 rfl rfl ?_
  refine g_iconst (v := 0) h d_Cell_init_32 (by decide) ?_
  refine g_put h i_Cell 0 (by decide) rfl rfl 3 (by decide) t_Cell t_Cell_ok n_Cell f_Cell_29 rfl rfl rfl (Nat.le_of_ble_eq_true rfl) d_Cell_init_33 ?_
  refine g_vretN h r d_Cell_init_36 (fun k hk => ?_) (fun k hk => ?_)
  · have z : k = 0 := by omega
    subst z
    rfl
  · rcases (show k = 0 ∨ k = 1 ∨ k = 2 ∨ k = 3 ∨ k = 4 ∨ k = 5 by omega) with rfl | rfl | rfl | rfl | rfl | rfl
    · show Sum.inr (0, [Value.ref q5, Value.ref q16, Value.int 0, Value.int 0]) = Sum.inr (0, [Value.ref (ad9 0), Value.ref (ad20 0), Value.int 0, Value.int 0])
      rw [ea9, ea20]
      rfl
    · rfl
    · rfl
    · rfl
    · rfl
    · rfl
end

-- part 9o.heapinit
section
/-! Heap's constructor -/
theorem arrV_eq {cA : ClassId} {n : Nat} {f g : Nat → Value} (e : ∀ j, j < n → f j = g j) : arrV cA n f = arrV cA n g := by
  unfold arrV
  congr 1
  congr 1
  funext j
  exact e j.val j.isLt
section ArrQ
variable {Γ : GT} {kc ks N pc : Nat} {ad : Nat → Nat} {σ : Nat → va_E} {L : List (Option Value)} {st : List Value}
theorem g_arrq {q n : Nat} {cA : ClassId} {f f' : Nat → Option Nat} (hq : q < N) (he : σ q = .inl (cA, n, .inr (.inr (.inr (.inr f))))) (e : ∀ j, j < n → f j = f' j) (k : G Γ kc ks N ad (va_up σ q (.inl (cA, n, .inr (.inr (.inr (.inr f')))))) pc L st) : G Γ kc ks N ad σ pc L st := by
  intro H locs ls hP hD hS hl
  refine k H locs ls (fun j x hx => ?_) (mrg_D hD) hS hl
  obtain ⟨g1, g2⟩ := gl_out hx
  subst g2
  have h0 := hP j _ (gl_at g1)
  unfold va_up
  by_cases z : j = q
  · subst z
    rw [if_pos rfl]
    rw [he] at h0
    have h1 : H[ad j]? = some (vp_cell cA (n, .inr (.inr (.inr (.inr f))))) := h0
    show H[ad j]? = some (vp_cell cA (n, .inr (.inr (.inr (.inr f')))))
    rw [h1, vp_cell_q, vp_cell_q, arrV_eq (fun i hi => by rw [e i hi])]
  · rw [if_neg z]
    exact h0
/-- the same addresses and cells, written in another way -/
theorem g_same {ad' : Nat → Nat} {σ' : Nat → va_E} (h3 : ∀ k, k < N → ad' k = ad k ∧ σ' k = σ k) (k : G Γ kc ks N ad' σ' pc L st) : G Γ kc ks N ad σ pc L st := g_re (fun k => k) (fun _ h => h) (fun _ _ _ _ h => h) h3 k
end ArrQ
set_option maxHeartbeats 4000000 in
set_option maxRecDepth 100000 in
theorem c_fillG {l : Launch} {D : va_G} {tys : List (ClassId × FieldType)} {N q : Nat} {ad : Nat → Nat} {σ : Nat → va_E} {cA : ClassId} {f : Nat → Int64} {v : Int64} (ht : tys[0]? = some (cA, .long)) (hq : q < N) (he : σ q = .inl (cA, 6, .inr (.inl f))) : Ct l D CL tys NL N ad y_Arr_fill (.code y_Arr_fill b_Arr_fill 5 none :: TB) { frames := 0, cells := 0, slots := 0, locals := 0 } [.ref (ad q), .long v] σ (fun v0 σ2 => v0 = none ∧ σ2 = va_up σ q (.inl (cA, 6, .inr (.inl (fun j => if j < 6 then v else f j))))) := by
  refine ct_of (by decide) (Nat.le_of_ble_eq_true rfl) ?_
  intro Γ hL hDD hN h r
  have loop : ∀ (c i : Nat) (g : Nat → Int64), i + c = 6 → (∀ j, g j = if j < i then v else f j) → G Γ 0 0 N ad (va_up σ q (.inl (cA, 6, .inr (.inl g)))) 6 [some (.ref (ad q)), some (.long v), none, some (.int (nI i)), some (.int 6)] [] := by
    intro c
    induction c with
    | zero =>
      intro i g hi hg
      refine g_iload_n h d_Arr_fill_6 rfl rfl ?_
      refine g_iload h d_Arr_fill_7 rfl ?_
      refine g_icmp_ge (tgt := 22) h d_Arr_fill_9 (by decide) (fun c_9 => ?_) (fun c_9 => ?_)
      · refine g_vret h r d_Arr_fill_22 ⟨rfl, ?_⟩
        rw [show g = fun j => if j < 6 then v else f j from funext (fun j => by rw [hg, show i = 6 by omega])]
      · exact absurd (show nI 6 ≤ nI i from nI_le (by omega) (by omega)) c_9
    | succ c ih =>
      intro i g hi hg
      refine g_iload_n h d_Arr_fill_6 rfl rfl ?_
      refine g_iload h d_Arr_fill_7 rfl ?_
      refine g_icmp_ge (tgt := 22) h d_Arr_fill_9 (by decide) (fun c_9 => ?_) (fun c_9 => ?_)
      · exact absurd c_9 (nI_ge (b := 6) (by omega) (by omega))
      · refine g_aload_n h d_Arr_fill_12 rfl rfl ?_
        refine g_iload_n h d_Arr_fill_13 rfl rfl ?_
        refine g_lload_n h d_Arr_fill_14 rfl rfl ?_
        refine g_lastore h q 0 hq (if_pos rfl) ht (vp_in_nI (by omega) (by decide)) d_Arr_fill_15 ?_
        rw [bx_uu, nI_clamp (by omega)]
        refine g_iinc (v := nI (i + 1)) h d_Arr_fill_16 rfl (by rw [nI_succ]; rfl) rfl (by rw [hN]; decide) ?_
        refine g_goto (tgt := 6) h d_Arr_fill_19 (by decide) ?_
        refine ih (i + 1) _ (by omega) (fun j => ?_)
        unfold vp_updL
        by_cases z : j = i
        · rw [if_pos z, if_pos (by omega)]
        · rw [if_neg z, hg]
          by_cases y : j < i
          · rw [if_pos y, if_pos (by omega)]
          · rw [if_neg y, if_neg (by omega)]
  refine g_at (L' := [some (.ref (ad q)), some (.long v), none, none, none]) rfl rfl rfl ?_
  refine g_iconst (v := 0) h d_Arr_fill_0 (by decide) ?_
  refine g_istore_n h d_Arr_fill_1 rfl rfl (by rw [hN]; decide) ?_
  refine g_aload_n h d_Arr_fill_2 rfl rfl ?_
  refine g_alen h q 0 hq he ht (v := 6) rfl d_Arr_fill_3 ?_
  refine g_istore h d_Arr_fill_4 rfl (by rw [hN]; decide) ?_
  refine g_world (σ' := va_up σ q (.inl (cA, 6, .inr (.inl f)))) (fun k hk => ?_) ?_
  · unfold va_up
    by_cases z : k = q
    · rw [if_pos z, z, he]
    · rw [if_neg z]
  · exact loop 6 0 f (by omega) (fun j => by rw [if_neg (by omega)])
def wH (ad : Nat → Nat) (t : Nat → ClassId) (i k : Nat) : va_E := if k = 0 then .inr (2, [.ref (ad 1), .ref (ad 2), .int 0, .int 0, .int 0, .int 0, .int 0, .int 0, .long (-1000000000000)]) else if k = 1 then .inl (t 0, 6, .inr (.inl (fun j => if j < 6 then (-1000000000000) else 0))) else if k = 2 then .inl (t 1, 16, .inr (.inr (.inr (.inr (fun j => if j < i then some (ad (3 + 6 * j)) else none))))) else wCell (fun j => ad (3 + 6 * ((k - 3) / 6) + j)) t ((k - 3) % 6)
/-- the heap's 99 cells as they are at the end -/
def wHeap (ad : Nat → Nat) (t : Nat → ClassId) (k : Nat) : va_E := if k = 2 then .inl (t 1, 16, .inr (.inr (.inr (.inr (fun j => some (ad (3 + 6 * j))))))) else wH ad t 16 k
theorem wCell_ad {a b : Nat → Nat} {t : Nat → ClassId} {r : Nat} (h : ∀ j, j < 6 → a j = b j) (hr : r < 6) : wCell a t r = wCell b t r := by
  rcases (show r = 0 ∨ r = 1 ∨ r = 2 ∨ r = 3 ∨ r = 4 ∨ r = 5 by omega) with rfl | rfl | rfl | rfl | rfl | rfl
  · simp only [wCell]; rw [h 1 (by decide), h 4 (by decide)]
  · simp only [wCell]; rw [h 2 (by decide), h 3 (by decide)]
  · rfl
  · rfl
  · simp only [wCell]; rw [h 5 (by decide)]
  · rfl
theorem wH_ad {a b : Nat → Nat} {t : Nat → ClassId} {i k : Nat} (h : ∀ j, j < 3 + 6 * i → a j = b j) (hk : k < 3 + 6 * i) : wH a t i k = wH b t i k := by
  unfold wH
  by_cases z0 : k = 0
  · rw [if_pos z0, if_pos z0, h 1 (by omega), h 2 (by omega)]
  by_cases z1 : k = 1
  · rw [if_neg z0, if_neg z0, if_pos z1, if_pos z1]
  by_cases z2 : k = 2
  · rw [if_neg z0, if_neg z0, if_neg z1, if_neg z1, if_pos z2, if_pos z2]
    rw [show (fun j => if j < i then some (a (3 + 6 * j)) else none) = (fun j => if j < i then some (b (3 + 6 * j)) else none) from funext (fun j => by
      by_cases y : j < i
      · rw [if_pos y, if_pos y, h _ (by omega)]
      · rw [if_neg y, if_neg y])]
  rw [if_neg z0, if_neg z0, if_neg z1, if_neg z1, if_neg z2, if_neg z2]
  exact wCell_ad (fun j hj => h _ (by omega)) (Nat.mod_lt _ (by decide))
/-- one more Cell -/
theorem wH_next {ad : Nat → Nat} {t : Nat → ClassId} {i k : Nat} (hk : k < 3 + 6 * (i + 1)) : wH ad t (i + 1) k = if k = 2 then .inl (t 1, 16, .inr (.inr (.inr (.inr (va_up (fun j => if j < i then some (ad (3 + 6 * j)) else none) i (some (ad (3 + 6 * i)))))))) else if k < 3 + 6 * i then wH ad t i k else wCell (fun j => ad (3 + 6 * i + j)) t (k - (3 + 6 * i)) := by
  by_cases z2 : k = 2
  · rw [if_pos z2]
    subst z2
    unfold wH
    rw [if_neg (by decide), if_neg (by decide), if_pos rfl]
    rw [show (fun j => if j < i + 1 then some (ad (3 + 6 * j)) else none) = va_up (fun j => if j < i then some (ad (3 + 6 * j)) else none) i (some (ad (3 + 6 * i))) from funext (fun j => by
      unfold va_up
      by_cases y : j = i
      · rw [if_pos y, if_pos (by omega), y]
      · rw [if_neg y]
        show _ = if j < i then some (ad (3 + 6 * j)) else none
        by_cases x : j < i
        · rw [if_pos x, if_pos (by omega)]
        · rw [if_neg x, if_neg (by omega)])]
  rw [if_neg z2]
  by_cases z : k < 3 + 6 * i
  · rw [if_pos z]
    unfold wH
    rw [if_neg z2, if_neg z2]
  · rw [if_neg z]
    unfold wH
    rw [if_neg (by omega), if_neg (by omega), if_neg z2, show (k - 3) / 6 = i by omega, show (k - 3) % 6 = k - (3 + 6 * i) by omega]
end

-- part 9p.heapinit2
section
set_option maxHeartbeats 4000000 in
set_option maxRecDepth 100000 in
theorem n_Heap_init {l : Launch} {D : va_G} {t : Nat → ClassId} {ad : Nat → Nat} {σ : Nat → va_E} (hσ : σ 0 = .inr (2, [.null, .null, .int 0, .int 0, .int 0, .int 0, .int 0, .int 0, .long 0])) : Cn l D t (tyc t) 99 ad y_Heap_init b_Heap_init 2 { frames := 3, cells := 98, slots := 502, locals := 100 } [.ref (ad 0)] σ 98 502 (fun ad2 => wHeap ad2 t) := by
  refine ctn_of (by decide) (Nat.le_of_ble_eq_true rfl) ?_
  intro Γ hL hDD hN h r hao hnm
  have loop : ∀ (c i : Nat) (a : Nat → Nat), i + c = 16 → a 0 = ad 0 → G Γ (2 + 6 * i) (22 + 30 * i) (3 + 6 * i) a (wH a t i) 70 [some (.ref (ad 0)), some (.int (nI i))] [] := by
    intro c
    induction c with
    | zero =>
      intro i a hi e0
      obtain rfl : i = 16 := by omega
      refine g_iload_n h d_Heap_init_70 rfl rfl ?_
      refine g_bipush (v := 16) h d_Heap_init_71 (by decide) ?_
      refine g_icmp_ge (tgt := 95) h d_Heap_init_73 (by decide) (fun c_ => ?_) (fun c_ => absurd (show nI 16 ≤ nI 16 from nI_le (by omega) (by omega)) c_)
      refine g_arrq (q := 2) (n := 16) (f' := fun j => some (a (3 + 6 * j))) (by decide) rfl (fun j hj => if_pos hj) ?_
      refine g_vretN h r d_Heap_init_95 (fun k hk => ?_) (fun k hk => ?_)
      · have z : k = 0 := by omega
        subst z
        exact e0
      · rfl
    | succ c ih =>
      intro i a hi e0
      refine g_iload_n h d_Heap_init_70 rfl rfl ?_
      refine g_bipush (v := 16) h d_Heap_init_71 (by decide) ?_
      refine g_icmp_ge (tgt := 95) h d_Heap_init_73 (by decide) (fun c_ => absurd c_ (nI_ge (b := 16) (by omega) (by omega))) (fun c_ => ?_)
      refine g_aload_n h d_Heap_init_76 rfl rfl ?_
      refine g_at (st' := [.ref (a 0)]) rfl rfl (by rw [e0]) ?_
      refine g_get h i_Heap 0 (by omega) rfl rfl 1 (by decide) f_Heap_17 rfl d_Heap_init_77 ?_
      refine g_iload_n h d_Heap_init_80 rfl rfl ?_
      refine g_new (ci := 0) (fs := [.null, .null, .int 0, .int 0]) h i_Cell t_Cell t_Cell_ok cl_Heap_15 ic_Cell ii_Cell rfl (by decide) ⟨by show _ ≤ 98; omega, by show _ ≤ 502; omega⟩ d_Heap_init_81 (fun qn => ?_)
      have eq : va_up a (3 + 6 * i) qn (3 + 6 * i) = qn := if_pos rfl
      refine g_dup h d_Heap_init_84 rfl ?_
      refine g_initN (q := 3 + 6 * i) (mc := 5) (ms := 26) (As := []) (rest := [.ref qn, .int (nI i), .ref (a 2)]) h tb_good hao (by rw [hL, hDD]; exact n_Cell_init (if_pos rfl)) nl_Heap_52 wi_Cell rfl nm_Cell_init rfl ⟨rfl, rfl, by decide, by decide, by show _ ≤ 98; omega, by show _ ≤ 502; omega⟩ (by rw [eq]; rfl) (Nat.le_of_ble_eq_true rfl) d_Heap_init_85 ?_
      intro a2 σ2 ea es
      rw [eq] at ea
      have bl : ∀ k, k < 3 + 6 * i → adj (3 + 6 * i) a a2 k = a k := fun k hk => if_pos hk
      have bh : ∀ j, adj (3 + 6 * i) a a2 (3 + 6 * i + j) = a2 j := fun j => by
        unfold adj
        rw [if_neg (by omega), Nat.add_sub_cancel_left]
      refine g_same (ad' := adj (3 + 6 * i) a a2) (σ' := fun k => if k < 3 + 6 * i then wH (adj (3 + 6 * i) a a2) t i k else wCell (fun j => adj (3 + 6 * i) a a2 (3 + 6 * i + j)) t (k - (3 + 6 * i))) (fun k hk => ⟨?_, ?_⟩) ?_
      · unfold adj
        by_cases z : k < 3 + 6 * i
        · rw [if_pos z, if_pos z]
          exact (if_neg (by omega)).symm
        · rw [if_neg z, if_neg z]
      · show (if k < 3 + 6 * i then _ else _) = sgj _ _ _ k
        unfold sgj
        by_cases z : k < 3 + 6 * i
        · rw [if_pos z, if_pos z, wH_ad bl z]
          exact (if_neg (by omega)).symm
        · rw [if_neg z, if_neg z, es _ (by omega)]
          exact wCell_ad (fun j _ => bh j) (by omega)
      refine g_at (st' := [.ref (adj (3 + 6 * i) a a2 (3 + 6 * i)), .int (nI i), .ref (adj (3 + 6 * i) a a2 2)]) rfl rfl (by rw [bl 2 (by omega), show adj (3 + 6 * i) a a2 (3 + 6 * i) = a2 0 from bh 0, ea]) ?_
      refine g_aastore h 2 1 (3 + 6 * i) (ci := 0) (by omega) (by omega) (if_pos (by omega)) rfl ((if_neg (by omega)).trans (by rw [Nat.sub_self]; rfl)) rfl (vp_in_nI (by omega) (by decide)) d_Heap_init_88 ?_
      rw [nI_clamp (by omega)]
      refine g_iinc (v := nI (i + 1)) h d_Heap_init_89 rfl (by rw [nI_succ]; rfl) rfl (by rw [hN]; decide) ?_
      refine g_goto (tgt := 70) h d_Heap_init_92 (by decide) ?_
      refine g_world (σ' := wH (adj (3 + 6 * i) a a2) t (i + 1)) (fun k hk => ?_) ?_
      · rw [wH_next (by omega)]
        rfl
      refine g_widen (k2 := 2 + 6 * (i + 1)) (n2 := 22 + 30 * (i + 1)) (by omega) (by omega) ?_
      exact ih (i + 1) _ (by omega) ((bl 0 (by omega)).trans e0)
  refine g_world (σ' := fun _ => .inr (2, [.null, .null, .int 0, .int 0, .int 0, .int 0, .int 0, .int 0, .long 0])) (one_cell hσ) ?_
  refine g_at (L' := [some (.ref (ad 0)), none]) rfl rfl rfl ?_
  refine g_aload_n h d_Heap_init_0 rfl rfl ?_
  refine g_objInit h oi_Heap oi_in oi_cd ⟨by decide, by decide⟩ (by decide) d_Heap_init_1 ?_
  refine g_aload_n h d_Heap_init_4 rfl rfl ?_
  refine g_bipush (v := 6) h d_Heap_init_5 (by decide) ?_
  refine g_newl h 0 rfl ac_long (m := 6) (by decide) (by decide) (by decide) ⟨by show _ ≤ 98; decide, by show _ ≤ 502; decide⟩ d_Heap_init_7 (fun q7 => ?_)
  refine g_putF h i_Heap 0 (by decide) rfl rfl 0 (by decide) t_Heap t_Heap_ok n_Heap f_Heap_9 rfl hnm rfl rfl rfl (Nat.le_of_ble_eq_true rfl) d_Heap_init_9 ?_
  refine g_aload_n h d_Heap_init_12 rfl rfl ?_
  refine g_bipush (v := 16) h d_Heap_init_13 (by decide) ?_
  refine g_newq h 1 rfl cl_Heap_15 (hao _ (by decide)) (m := 16) (by decide) (by decide) (by decide) ⟨by show _ ≤ 98; decide, by show _ ≤ 502; decide⟩ d_Heap_init_15 (fun q15 => ?_)
  refine g_putF h i_Heap 0 (by decide) rfl rfl 1 (by decide) t_Heap t_Heap_ok n_Heap f_Heap_17 rfl hnm rfl rfl rfl (Nat.le_of_ble_eq_true rfl) d_Heap_init_18 ?_
  refine g_aload_n h d_Heap_init_21 rfl rfl ?_
  refine g_iconst (v := 0) h d_Heap_init_22 (by decide) ?_
  refine g_put h i_Heap 0 (by decide) rfl rfl 2 (by decide) t_Heap t_Heap_ok n_Heap f_Heap_21 rfl rfl rfl (Nat.le_of_ble_eq_true rfl) d_Heap_init_23 ?_
  refine g_aload_n h d_Heap_init_26 rfl rfl ?_
  refine g_iconst (v := 0) h d_Heap_init_27 (by decide) ?_
  refine g_put h i_Heap 0 (by decide) rfl rfl 3 (by decide) t_Heap t_Heap_ok n_Heap f_Heap_25 rfl rfl rfl (Nat.le_of_ble_eq_true rfl) d_Heap_init_28 ?_
  refine g_aload_n h d_Heap_init_31 rfl rfl ?_
  refine g_iconst (v := 0) h d_Heap_init_32 (by decide) ?_
  refine g_put h i_Heap 0 (by decide) rfl rfl 4 (by decide) t_Heap t_Heap_ok n_Heap f_Heap_28 rfl rfl rfl (Nat.le_of_ble_eq_true rfl) d_Heap_init_33 ?_
  refine g_aload_n h d_Heap_init_36 rfl rfl ?_
  refine g_iconst (v := 0) h d_Heap_init_37 (by decide) ?_
  refine g_put h i_Heap 0 (by decide) rfl rfl 5 (by decide) t_Heap t_Heap_ok n_Heap f_Heap_31 rfl rfl rfl (Nat.le_of_ble_eq_true rfl) d_Heap_init_38 ?_
  refine g_aload_n h d_Heap_init_41 rfl rfl ?_
  refine g_iconst (v := 0) h d_Heap_init_42 (by decide) ?_
  refine g_put h i_Heap 0 (by decide) rfl rfl 6 (by decide) t_Heap t_Heap_ok n_Heap f_Heap_34 rfl rfl rfl (Nat.le_of_ble_eq_true rfl) d_Heap_init_43 ?_
  refine g_aload_n h d_Heap_init_46 rfl rfl ?_
  refine g_iconst (v := 0) h d_Heap_init_47 (by decide) ?_
  refine g_put h i_Heap 0 (by decide) rfl rfl 7 (by decide) t_Heap t_Heap_ok n_Heap f_Heap_37 rfl rfl rfl (Nat.le_of_ble_eq_true rfl) d_Heap_init_48 ?_
  refine g_aload_n h d_Heap_init_51 rfl rfl ?_
  refine g_ldc2 (v := -1000000000000) h d_Heap_init_52 k_Heap_40 ?_
  refine g_put h i_Heap 0 (by decide) rfl rfl 8 (by decide) t_Heap t_Heap_ok n_Heap f_Heap_42 rfl rfl rfl (Nat.le_of_ble_eq_true rfl) d_Heap_init_55 ?_
  refine g_aload_n h d_Heap_init_58 rfl rfl ?_
  refine g_get h i_Heap 0 (by decide) rfl rfl 0 (by decide) f_Heap_9 rfl d_Heap_init_59 ?_
  refine g_ldc2 (v := -1000000000000) h d_Heap_init_62 k_Heap_40 ?_
  refine g_callS h tb_good (c_fillG (q := 1) (v := -1000000000000) rfl (by decide) rfl) v_Heap_46 nm_Arr_fill rfl ⟨rfl, rfl, by decide, by decide, by show _ ≤ 98; decide, by show _ ≤ 502; decide⟩ rfl (Nat.le_of_ble_eq_true rfl) d_Heap_init_65 ?_
  rintro v σ2 ⟨rfl, rfl⟩
  refine g_iconst (v := 0) h d_Heap_init_68 (by decide) ?_
  refine g_istore_n h d_Heap_init_69 rfl rfl (by rw [hN]; decide) ?_
  refine g_world (σ' := wH (va_up (va_up ad 1 q7) 2 q15) t 0) (fun k hk => ?_) ?_
  · rcases (show k = 0 ∨ k = 1 ∨ k = 2 by omega) with rfl | rfl | rfl <;> rfl
  exact loop 16 0 _ (by omega) rfl
end

-- part 9q.proinit
section
/-! Processor's constructor -/
def wP (ad : Nat → Nat) (t : Nat → ClassId) (hp i k : Nat) : va_E := if k = 0 then .inr (4, [.ref hp, .ref (ad 1), .ref (ad 2), .int 0, .int 0, .int 0, .long (-1000000000000)]) else if k = 1 then .inl (t 2, 68, .inr (.inr (.inr (.inr (fun j => if j < i then some (ad (3 + j)) else none))))) else if k = 2 then .inl (t 3, 5, .inr (.inr (.inr (.inr (fun _ => none))))) else wIns
def wPro (ad : Nat → Nat) (t : Nat → ClassId) (hp k : Nat) : va_E := wP ad t hp 68 k
theorem wP_ad {a b : Nat → Nat} {t : Nat → ClassId} {hp i k : Nat} (h : ∀ j, j < 3 + i → a j = b j) : wP a t hp i k = wP b t hp i k := by
  unfold wP
  rw [h 1 (by omega), h 2 (by omega)]
  rw [show (fun j => if j < i then some (a (3 + j)) else none) = (fun j => if j < i then some (b (3 + j)) else none) from funext (fun j => by
    by_cases y : j < i
    · rw [if_pos y, if_pos y, h _ (by omega)]
    · rw [if_neg y, if_neg y])]
theorem wP_next {ad : Nat → Nat} {t : Nat → ClassId} {hp i k : Nat} : wP ad t hp (i + 1) k = if k = 1 then .inl (t 2, 68, .inr (.inr (.inr (.inr (va_up (fun j => if j < i then some (ad (3 + j)) else none) i (some (ad (3 + i)))))))) else wP ad t hp i k := by
  by_cases z : k = 1
  · rw [if_pos z]
    subst z
    unfold wP
    rw [if_neg (by decide), if_pos rfl]
    rw [show (fun j => if j < i + 1 then some (ad (3 + j)) else none) = va_up (fun j => if j < i then some (ad (3 + j)) else none) i (some (ad (3 + i))) from funext (fun j => by
      unfold va_up
      by_cases y : j = i
      · rw [if_pos y, if_pos (by omega), y]
      · rw [if_neg y]
        show _ = if j < i then some (ad (3 + j)) else none
        by_cases x : j < i
        · rw [if_pos x, if_pos (by omega)]
        · rw [if_neg x, if_neg (by omega)])]
  · rw [if_neg z]
    unfold wP
    rw [if_neg z, if_neg z]
set_option maxHeartbeats 4000000 in
set_option maxRecDepth 100000 in
theorem n_Pro_init {l : Launch} {D : va_G} {t : Nat → ClassId} {ad : Nat → Nat} {σ : Nat → va_E} {hp : Nat} (hσ : σ 0 = .inr (4, [.null, .null, .null, .int 0, .int 0, .int 0, .long 0])) : Cn l D t (tyc t) 71 ad y_Pro_init b_Pro_init 3 { frames := 2, cells := 70, slots := 345, locals := 60 } [.ref (ad 0), .ref hp] σ 70 345 (fun ad2 => wPro ad2 t hp) := by
  refine ctn_of (by decide) (Nat.le_of_ble_eq_true rfl) ?_
  intro Γ hL hDD hN h r hao hnm
  have loop : ∀ (c i : Nat) (a : Nat → Nat), i + c = 68 → a 0 = ad 0 → G Γ (2 + i) (73 + 4 * i) (3 + i) a (wP a t hp i) 50 [some (.ref (ad 0)), some (.ref hp), some (.int (nI i))] [] := by
    intro c
    induction c with
    | zero =>
      intro i a hi e0
      obtain rfl : i = 68 := by omega
      refine g_iload_n h d_Pro_init_50 rfl rfl ?_
      refine g_bipush (v := 68) h d_Pro_init_51 (by decide) ?_
      refine g_icmp_ge (tgt := 75) h d_Pro_init_53 (by decide) (fun c_ => ?_) (fun c_ => absurd (show nI 68 ≤ nI 68 from nI_le (by omega) (by omega)) c_)
      refine g_vretN h r d_Pro_init_75 (fun k hk => ?_) (fun k hk => rfl)
      have z : k = 0 := by omega
      subst z
      exact e0
    | succ c ih =>
      intro i a hi e0
      refine g_iload_n h d_Pro_init_50 rfl rfl ?_
      refine g_bipush (v := 68) h d_Pro_init_51 (by decide) ?_
      refine g_icmp_ge (tgt := 75) h d_Pro_init_53 (by decide) (fun c_ => absurd c_ (nI_ge (b := 68) (by omega) (by omega))) (fun c_ => ?_)
      refine g_aload_n h d_Pro_init_56 rfl rfl ?_
      refine g_at (st' := [.ref (a 0)]) rfl rfl (by rw [e0]) ?_
      refine g_get h i_Pro 0 (by omega) rfl rfl 1 (by decide) f_Pro_13 rfl d_Pro_init_57 ?_
      refine g_iload_n h d_Pro_init_60 rfl rfl ?_
      refine g_new (ci := 3) (fs := [.int 0, .int 0, .int 0, .int 0]) h i_Ins t_Ins t_Ins_ok cl_Pro_11 ic_Ins ii_Ins rfl (by decide) ⟨by show _ ≤ 70; omega, by show _ ≤ 345; omega⟩ d_Pro_init_61 (fun qn => ?_)
      have eq : va_up a (3 + i) qn (3 + i) = qn := if_pos rfl
      refine g_dup h d_Pro_init_64 rfl ?_
      refine g_initN (q := 3 + i) (mc := 0) (ms := 0) (As := []) (rest := [.ref qn, .int (nI i), .ref (a 1)]) h tb_good hao (by rw [hL, hDD]; exact n_Ins_init (if_pos rfl)) nl_Pro_43 wi_Ins rfl nm_Ins_init rfl ⟨rfl, rfl, by decide, by decide, by show _ ≤ 70; omega, by show _ ≤ 345; omega⟩ (by rw [eq]; rfl) (Nat.le_of_ble_eq_true rfl) d_Pro_init_65 ?_
      intro a2 σ2 ea es
      rw [eq] at ea
      have bl : ∀ k, k < 3 + i → adj (3 + i) a a2 k = a k := fun k hk => if_pos hk
      have bh : ∀ j, adj (3 + i) a a2 (3 + i + j) = a2 j := fun j => by
        unfold adj
        rw [if_neg (by omega), Nat.add_sub_cancel_left]
      refine g_same (ad' := adj (3 + i) a a2) (σ' := wP (adj (3 + i) a a2) t hp i) (fun k hk => ⟨?_, ?_⟩) ?_
      · unfold adj
        by_cases z : k < 3 + i
        · rw [if_pos z, if_pos z]
          exact (if_neg (by omega)).symm
        · rw [if_neg z, if_neg z]
      · rw [wP_ad bl]
        unfold sgj
        by_cases z : k < 3 + i
        · rw [if_pos z]
          exact (if_neg (by omega)).symm
        · rw [if_neg z, es _ (by omega)]
          unfold wP
          rw [if_neg (by omega), if_neg (by omega), if_neg (by omega)]
      refine g_at (st' := [.ref (adj (3 + i) a a2 (3 + i)), .int (nI i), .ref (adj (3 + i) a a2 1)]) rfl rfl (by rw [bl 1 (by omega), show adj (3 + i) a a2 (3 + i) = a2 0 from bh 0, ea]) ?_
      refine g_aastore h 1 2 (3 + i) (ci := 3) (by omega) (by omega) rfl rfl (show wP _ _ _ _ (3 + i) = _ from by
        unfold wP
        rw [if_neg (by omega), if_neg (by omega), if_neg (by omega)]
        rfl) rfl (vp_in_nI (by omega) (by decide)) d_Pro_init_68 ?_
      rw [nI_clamp (by omega)]
      refine g_iinc (v := nI (i + 1)) h d_Pro_init_69 rfl (by rw [nI_succ]; rfl) rfl (by rw [hN]; decide) ?_
      refine g_goto (tgt := 50) h d_Pro_init_72 (by decide) ?_
      refine g_world (σ' := wP (adj (3 + i) a a2) t hp (i + 1)) (fun k hk => ?_) ?_
      · rw [wP_next]
        rfl
      refine g_widen (k2 := 2 + (i + 1)) (n2 := 73 + 4 * (i + 1)) (by omega) (by omega) ?_
      exact ih (i + 1) _ (by omega) ((bl 0 (by omega)).trans e0)
  refine g_world (σ' := fun _ => .inr (4, [.null, .null, .null, .int 0, .int 0, .int 0, .long 0])) (one_cell hσ) ?_
  refine g_at (L' := [some (.ref (ad 0)), some (.ref hp), none]) rfl rfl rfl ?_
  refine g_aload_n h d_Pro_init_0 rfl rfl ?_
  refine g_objInit h oi_Pro oi_in oi_cd ⟨by decide, by decide⟩ (by decide) d_Pro_init_1 ?_
  refine g_aload_n h d_Pro_init_4 rfl rfl ?_
  refine g_bipush (v := 68) h d_Pro_init_5 (by decide) ?_
  refine g_newq h 2 rfl cl_Pro_11 (hao _ (by decide)) (m := 68) (by decide) (by decide) (by decide) ⟨by show _ ≤ 70; decide, by show _ ≤ 345; decide⟩ d_Pro_init_7 (fun q7 => ?_)
  refine g_putF h i_Pro 0 (by decide) rfl rfl 1 (by decide) t_Pro t_Pro_ok n_Pro f_Pro_13 rfl hnm rfl rfl rfl (Nat.le_of_ble_eq_true rfl) d_Pro_init_10 ?_
  refine g_aload_n h d_Pro_init_13 rfl rfl ?_
  refine g_iconst (v := 5) h d_Pro_init_14 (by decide) ?_
  refine g_newq h 3 rfl cl_Pro_17 (hao _ (by decide)) (m := 5) (by decide) (by decide) (by decide) ⟨by show _ ≤ 70; decide, by show _ ≤ 345; decide⟩ d_Pro_init_15 (fun q15 => ?_)
  refine g_putF h i_Pro 0 (by decide) rfl rfl 2 (by decide) t_Pro t_Pro_ok n_Pro f_Pro_19 rfl hnm rfl rfl rfl (Nat.le_of_ble_eq_true rfl) d_Pro_init_18 ?_
  refine g_aload_n h d_Pro_init_21 rfl rfl ?_
  refine g_iconst (v := 0) h d_Pro_init_22 (by decide) ?_
  refine g_put h i_Pro 0 (by decide) rfl rfl 3 (by decide) t_Pro t_Pro_ok n_Pro f_Pro_23 rfl rfl rfl (Nat.le_of_ble_eq_true rfl) d_Pro_init_23 ?_
  refine g_aload_n h d_Pro_init_26 rfl rfl ?_
  refine g_iconst (v := 0) h d_Pro_init_27 (by decide) ?_
  refine g_put h i_Pro 0 (by decide) rfl rfl 4 (by decide) t_Pro t_Pro_ok n_Pro f_Pro_27 rfl rfl rfl (Nat.le_of_ble_eq_true rfl) d_Pro_init_28 ?_
  refine g_aload_n h d_Pro_init_31 rfl rfl ?_
  refine g_iconst (v := 0) h d_Pro_init_32 (by decide) ?_
  refine g_put h i_Pro 0 (by decide) rfl rfl 5 (by decide) t_Pro t_Pro_ok n_Pro f_Pro_30 rfl rfl rfl (Nat.le_of_ble_eq_true rfl) d_Pro_init_33 ?_
  refine g_aload_n h d_Pro_init_36 rfl rfl ?_
  refine g_ldc2 (v := -1000000000000) h d_Pro_init_37 k_Pro_33 ?_
  refine g_put h i_Pro 0 (by decide) rfl rfl 6 (by decide) t_Pro t_Pro_ok n_Pro f_Pro_35 rfl rfl rfl (Nat.le_of_ble_eq_true rfl) d_Pro_init_40 ?_
  refine g_aload_n h d_Pro_init_43 rfl rfl ?_
  refine g_aload_n h d_Pro_init_44 rfl rfl ?_
  refine g_putF h i_Pro 0 (by decide) rfl rfl 0 (by decide) t_Pro t_Pro_ok n_Pro f_Pro_39 rfl hnm rfl rfl rfl (Nat.le_of_ble_eq_true rfl) d_Pro_init_45 ?_
  refine g_iconst (v := 0) h d_Pro_init_48 (by decide) ?_
  refine g_istore_n h d_Pro_init_49 rfl rfl (by rw [hN]; decide) ?_
  refine g_world (σ' := wP (va_up (va_up ad 1 q7) 2 q15) t hp 0) (fun k hk => ?_) ?_
  · rcases (show k = 0 ∨ k = 1 ∨ k = 2 by omega) with rfl | rfl | rfl <;> rfl
  exact loop 68 0 _ (by omega) rfl
end

-- part 9r.tcminit
section
/-! the class's constructor: the 171 cells of a new object -/
def C00 : CS := (fun f _ => if f = 3 ∨ f = 9 then -1 else 0, fun f n i => if (f = 0 ∧ n = 0 ∧ i < 6) ∨ f = 4 ∨ f = 5 then -1000000000000 else 0, fun _ => none)
theorem C00_g : C00.2.1 0 0 = fun j => if j < 6 then (-1000000000000) else 0 := funext (fun j => by simp [C00])
theorem C00_z {f n : Nat} (h0 : f ≠ 0) (h4 : f ≠ 4) (h5 : f ≠ 5) : C00.2.1 f n = fun _ => 0 := funext (fun j => by simp [C00, h0, h4, h5])
/-- the heap's and the processor's cells, in the class's world -/
theorem wc_heap {a a8 : Nat → Nat} {t : Nat → ClassId} (ha : ∀ j, j < 99 → a (1 + j) = a8 j) {k : Nat} (h1 : 1 ≤ k) (h2 : k < 100) (h3 : ¬ k = 3) : wHeap a8 t (k - 1) = wc a t C00 k := by
  have A : ∀ j, 1 ≤ j → j < 100 → a j = a8 (j - 1) := fun j z1 z2 => by
    rw [← ha (j - 1) (by omega), show 1 + (j - 1) = j by omega]
  unfold wHeap
  rw [if_neg (by omega)]
  unfold wc
  rcases (show k = 1 ∨ k = 2 ∨ 4 ≤ k by omega) with rfl | rfl | h4
  · show wH a8 t 16 0 = ob a t C00 1 0
    simp only [wH, ob, ix, if_true]
    rw [A 2 (by omega) (by omega), A 3 (by omega) (by omega)]
    rfl
  · show wH a8 t 16 1 = ob a t C00 2 0
    show _ = (Sum.inl (t 0, 6, Sum.inr (Sum.inl (C00.2.1 0 0))) : va_E)
    rw [C00_g]
    rfl
  · obtain ⟨n, r, hn, hr, rfl⟩ : ∃ n r, n < 16 ∧ r < 6 ∧ k = 4 + 6 * n + r := ⟨(k - 4) / 6, (k - 4) % 6, by omega, Nat.mod_lt _ (by decide), by omega⟩
    have ek : kd (4 + 6 * n + r) = (4 + r, n) := by
      unfold kd
      rw [if_neg (by omega), if_pos (by omega), show (4 + 6 * n + r - 4) % 6 = r by omega, show (4 + 6 * n + r - 4) / 6 = n by omega]
    rw [ek]
    unfold wH
    rw [if_neg (by omega), if_neg (by omega), if_neg (by omega), show (4 + 6 * n + r - 1 - 3) / 6 = n by omega, show (4 + 6 * n + r - 1 - 3) % 6 = r by omega]
    have B : ∀ j, j < 6 → a8 (3 + 6 * n + j) = a (4 + 6 * n + j) := fun j hj => by rw [A _ (by omega) (by omega), show 4 + 6 * n + j - 1 = 3 + 6 * n + j by omega]
    rw [wCell_ad (b := fun j => a (4 + 6 * n + j)) B hr]
    rcases (show r = 0 ∨ r = 1 ∨ r = 2 ∨ r = 3 ∨ r = 4 ∨ r = 5 by omega) with rfl | rfl | rfl | rfl | rfl | rfl
    · simp only [wCell, ob, ix, C00]
      rw [show 4 + 6 * n + 1 = 5 + 6 * n by omega, show 4 + 6 * n + 4 = 8 + 6 * n by omega]
      rfl
    · simp only [wCell, ob, ix, C00]
      rw [show 4 + 6 * n + 2 = 6 + 6 * n by omega, show 4 + 6 * n + 3 = 7 + 6 * n by omega]
      rfl
    · show Z6 t = (Sum.inl (t 0, 6, Sum.inr (Sum.inl (C00.2.1 1 n))) : va_E)
      rw [C00_z (by decide) (by decide) (by decide)]
    · show Z6 t = (Sum.inl (t 0, 6, Sum.inr (Sum.inl (C00.2.1 2 n))) : va_E)
      rw [C00_z (by decide) (by decide) (by decide)]
    · simp only [wCell, ob, ix, C00]
      rw [show 4 + 6 * n + 5 = 9 + 6 * n by omega]
      rfl
    · show Z4 t = (Sum.inl (t 0, 4, Sum.inr (Sum.inl (C00.2.1 3 n))) : va_E)
      rw [C00_z (by decide) (by decide) (by decide)]
theorem wc_pro {a a23 : Nat → Nat} {t : Nat → ClassId} {hp : Nat} (ha : ∀ j, j < 71 → a (100 + j) = a23 j) (hh : a 1 = hp) {k : Nat} (h1 : 100 ≤ k) (h2 : k < 171) (h3 : ¬ k = 101) : wPro a23 t hp (k - 100) = wc a t C00 k := by
  unfold wPro wc
  rcases (show k = 100 ∨ k = 102 ∨ 103 ≤ k by omega) with rfl | rfl | h4
  · show wP a23 t hp 68 0 = ob a t C00 10 0
    simp only [wP, ob, ix, if_true]
    rw [show a 101 = a23 1 from ha 1 (by decide), show a 102 = a23 2 from ha 2 (by decide), hh]
    rfl
  · show wP a23 t hp 68 2 = ob a t C00 12 0
    simp only [wP, ob, C00]
    rfl
  · have ek : kd k = (13, k - 103) := by
      unfold kd
      rw [if_neg (by omega), if_neg (by omega), if_neg (by omega)]
    rw [ek]
    unfold wP
    rw [if_neg (by omega), if_neg (by omega), if_neg (by omega)]
    rfl
set_option maxHeartbeats 4000000 in
set_option maxRecDepth 100000 in
theorem n_TCM_init {l : Launch} {D : va_G} {t : Nat → ClassId} {ad : Nat → Nat} {σ : Nat → va_E} (hσ : σ 0 = .inr (6, [.null, .null])) : Cn l D t (tyc t) 171 ad y_TCM_init b_TCM_init 2 { frames := 4, cells := 170, slots := 863, locals := 140 } [.ref (ad 0)] σ 170 863 (fun ad2 => wc ad2 t C00) := by
  refine ctn_of (by decide) (Nat.le_of_ble_eq_true rfl) ?_
  intro Γ hL hDD hN h r hao hnm
  refine g_world (σ' := fun _ => .inr (6, [.null, .null])) (one_cell hσ) ?_
  refine g_at (L' := [some (.ref (ad 0)), none]) rfl rfl rfl ?_
  refine g_aload_n h d_TCM_init_0 rfl rfl ?_
  refine g_objInit h oi_TCM oi_in oi_cd ⟨by decide, by decide⟩ (by decide) d_TCM_init_1 ?_
  refine g_new (ci := 2) (fs := [.null, .null, .int 0, .int 0, .int 0, .int 0, .int 0, .int 0, .long 0]) h i_Heap t_Heap t_Heap_ok cl_TCM_9 ic_Heap ii_Heap rfl (by decide) ⟨by show _ ≤ 170; decide, by show _ ≤ 863; decide⟩ d_TCM_init_4 (fun q4 => ?_)
  refine g_dup h d_TCM_init_7 rfl ?_
  refine g_init (q := 1) h tb_good hao (by rw [hL, hDD]; exact n_Heap_init rfl) ⟨ml_TCM_11, wi_Heap.1, wi_Heap.2.1, wi_Heap.2.2⟩ rfl nm_Heap_init rfl ⟨rfl, rfl, by decide, by decide, by show _ ≤ 170; decide, by show _ ≤ 863; decide⟩ rfl (Nat.le_of_ble_eq_true rfl) d_TCM_init_8 ?_
  intro ad8 σ8 ea8 es8
  refine g_world (sgj_1 (fun k hk => rfl) es8) ?_
  refine g_astore_n h d_TCM_init_11 rfl rfl (by rw [hN]; decide) ?_
  refine g_aload_n h d_TCM_init_12 rfl rfl ?_
  refine g_aload_n h d_TCM_init_13 rfl rfl ?_
  refine g_putF h i_TCM 0 (by decide) rfl rfl 1 (by decide) t_TCM t_TCM_ok n_TCM f_TCM_12 rfl hnm rfl rfl rfl (Nat.le_of_ble_eq_true rfl) d_TCM_init_14 ?_
  refine g_aload_n h d_TCM_init_17 rfl rfl ?_
  refine g_new (ci := 4) (fs := [.null, .null, .null, .int 0, .int 0, .int 0, .long 0]) h i_Pro t_Pro t_Pro_ok cl_TCM_16 ic_Pro ii_Pro rfl (by decide) ⟨by show _ ≤ 170; decide, by show _ ≤ 863; decide⟩ d_TCM_init_18 (fun q18 => ?_)
  refine g_dup h d_TCM_init_21 rfl ?_
  refine g_aload_n h d_TCM_init_22 rfl rfl ?_
  refine g_init (q := 100) h tb_good hao (by rw [hL, hDD]; exact n_Pro_init (hp := q4) rfl) ⟨ml_TCM_18, wi_Pro.1, wi_Pro.2.1, wi_Pro.2.2⟩ rfl nm_Pro_init rfl ⟨rfl, rfl, by decide, by decide, by show _ ≤ 170; decide, by show _ ≤ 863; decide⟩ rfl (Nat.le_of_ble_eq_true rfl) d_TCM_init_23 ?_
  intro ad23 σ23 ea23 es23
  refine g_world (sgj_1 (fun k hk => rfl) es23) ?_
  refine g_putF h i_TCM 0 (by decide) rfl rfl 0 (by decide) t_TCM t_TCM_ok n_TCM f_TCM_21 rfl hnm rfl rfl rfl (Nat.le_of_ble_eq_true rfl) d_TCM_init_26 ?_
  have hA1 : ∀ j, j < 99 → adj 100 (va_up (adj 1 (va_up ad 1 q4) ad8) (1 + 99) q18) ad23 (1 + j) = ad8 j := fun j hj => by
    unfold adj va_up
    rw [if_pos (by omega), if_neg (by omega)]
    show (if 1 + j < 1 then _ else ad8 (1 + j - 1)) = ad8 j
    rw [if_neg (by omega), Nat.add_sub_cancel_left]
  have hA2 : ∀ j, j < 71 → adj 100 (va_up (adj 1 (va_up ad 1 q4) ad8) (1 + 99) q18) ad23 (100 + j) = ad23 j := fun j hj => by
    unfold adj
    rw [if_neg (by omega), Nat.add_sub_cancel_left]
  have e8 : ad8 0 = q4 := ea8
  have e23 : ad23 0 = q18 := ea23
  generalize hb : adj 100 (va_up (adj 1 (va_up ad 1 q4) ad8) (1 + 99) q18) ad23 = b at hA1 hA2 ⊢
  have hb0 : b 0 = ad 0 := by rw [← hb]; rfl
  refine g_arrq (q := 3) (n := 16) (f' := fun j => some (b (ix 4 j))) (by decide) rfl (fun j hj => ?_) ?_
  · show some (ad8 (3 + 6 * j)) = some (b (4 + 6 * j))
    rw [← hA1 _ (by omega), show 1 + (3 + 6 * j) = 4 + 6 * j by omega]
  refine g_arrq (q := 101) (n := 68) (f' := fun j => some (b (ix 13 j))) (by decide) rfl (fun j hj => ?_) ?_
  · show (if j < 68 then some (ad23 (3 + j)) else none) = some (b (103 + j))
    rw [if_pos hj, ← hA2 _ (by omega), show 100 + (3 + j) = 103 + j by omega]
  refine g_vretN h r d_TCM_init_29 (fun k hk => ?_) (fun k hk => ?_)
  · have z : k = 0 := by omega
    subst z
    exact hb0
  · show va_up _ 101 _ k = wc b t C00 k
    by_cases z101 : k = 101
    · subst z101
      rfl
    refine (if_neg z101).trans ?_
    by_cases z3 : k = 3
    · subst z3
      rfl
    refine (if_neg z3).trans ?_
    by_cases z0 : k = 0
    · subst z0
      show Sum.inr (6, [Value.ref q18, Value.ref q4]) = Sum.inr (6, [Value.ref (b 100), Value.ref (b 1)])
      rw [show b 100 = ad23 0 from hA2 0 (by decide), show b 1 = ad8 0 from hA1 0 (by decide), e8, e23]
    refine (if_neg z0).trans ?_
    by_cases z : k < 100
    · refine (if_pos z).trans ?_
      refine (if_neg (show ¬ k = 1 + 99 by omega)).trans ?_
      refine (if_neg z0).trans ?_
      refine (if_neg (show ¬ k < 1 by omega)).trans ?_
      exact wc_heap hA1 (by omega) z z3
    · refine (if_neg z).trans ?_
      exact wc_pro hA2 ((hA1 0 (by decide)).trans e8) (by omega) (by omega) z101
end

-- part 9s.modinit
section
/-! the reference's constructor -/
def M0i (i j : Nat) : CS := (fun f b => if f = 0 ∧ b < i then -1 else 0, fun f n b => if f = 0 ∧ n = 0 ∧ b < j then -1000000000000 else 0, fun _ => none)
theorem M0_I {i j : Nat} : sI (M0i i j) 0 i (-1) = M0i (i + 1) j := by
  refine Prod.ext (funext fun f => funext fun b => ?_) rfl
  show (if f = 0 ∧ b = i then -1 else if f = 0 ∧ b < i then (-1 : Int32) else 0) = if f = 0 ∧ b < i + 1 then -1 else 0
  by_cases z : f = 0
  · subst z
    by_cases y : b = i
    · rw [if_pos ⟨rfl, y⟩, if_pos ⟨rfl, by omega⟩]
    · rw [if_neg (fun q => y q.2)]
      by_cases x : b < i
      · rw [if_pos ⟨rfl, x⟩, if_pos ⟨rfl, by omega⟩]
      · rw [if_neg (fun q => x q.2), if_neg (fun q => by have := q.2; omega)]
  · rw [if_neg (fun q => z q.1), if_neg (fun q => z q.1), if_neg (fun q => z q.1)]
theorem M0_J {i j : Nat} : sJ (M0i i j) 0 0 j (-1000000000000) = M0i i (j + 1) := by
  refine Prod.ext rfl (Prod.ext (funext fun f => funext fun n => funext fun b => ?_) rfl)
  show (if f = 0 ∧ n = 0 ∧ b = j then -1000000000000 else if f = 0 ∧ n = 0 ∧ b < j then (-1000000000000 : Int64) else 0) = if f = 0 ∧ n = 0 ∧ b < j + 1 then -1000000000000 else 0
  by_cases z : f = 0 ∧ n = 0
  · by_cases y : b = j
    · rw [if_pos ⟨z.1, z.2, y⟩, if_pos ⟨z.1, z.2, by omega⟩]
    · rw [if_neg (fun q => y q.2.2)]
      by_cases x : b < j
      · rw [if_pos ⟨z.1, z.2, x⟩, if_pos ⟨z.1, z.2, by omega⟩]
      · rw [if_neg (fun q => x q.2.2), if_neg (fun q => by have := q.2.2; omega)]
  · rw [if_neg (fun q => z ⟨q.1, q.2.1⟩), if_neg (fun q => z ⟨q.1, q.2.1⟩), if_neg (fun q => z ⟨q.1, q.2.1⟩)]
theorem M0_z : (∀ f, (M0i 0 0).1 f = fun _ => 0) ∧ ∀ f, (M0i 0 0).2.1 f 0 = fun _ => 0 := ⟨fun f => funext fun b => if_neg (fun q => by have := q.2; omega), fun f => funext fun b => if_neg (fun q => by have := q.2.2; omega)⟩
set_option maxHeartbeats 4000000 in
set_option maxRecDepth 100000 in
theorem n_Mod_init {l : Launch} {D : va_G} {t u : Nat → ClassId} {ad : Nat → Nat} {σ : Nat → va_E} (hσ : σ 0 = .inr (7, [.null, .null, .null, .null, .null, .null, .null, .null, .null, .null, .null, .null, .null, .null, .null, .null, .null, .int 0, .int 0, .int 0, .int 0, .int 0, .int 0, .int 0, .int 0, .int 0, .int 0, .long 0])) : Cn l D t (tym u) 18 ad y_Mod_init b_Mod_init 2 { frames := 1, cells := 17, slots := 652, locals := 20 } [.ref (ad 0)] σ 17 652 (fun ad2 => mob ad2 u (M0i 64 6)) := by
  refine ctn_of (by decide) (Nat.le_of_ble_eq_true rfl) ?_
  intro Γ hL hDD hN h r hao hnm
  have loop2 : ∀ (c i : Nat) (a : Nat → Nat), i + c = 6 → a 0 = ad 0 → G Γ 17 652 18 a (mob a u (M0i 64 i)) 163 [some (.ref (a 0)), some (.int (nI i))] [] := by
    intro c
    induction c with
    | zero =>
      intro i a hi e0
      obtain rfl : i = 6 := by omega
      refine g_iload_n h d_Mod_init_163 rfl rfl ?_
      refine g_bipush (v := 6) h d_Mod_init_164 (by decide) ?_
      refine g_icmp_ge (tgt := 184) h d_Mod_init_166 (by decide) (fun c_ => ?_) (fun c_ => absurd (show nI 6 ≤ nI 6 from nI_le (by omega) (by omega)) c_)
      refine g_vretN h r d_Mod_init_184 (fun k hk => ?_) (fun k hk => rfl)
      have z : k = 0 := by omega
      subst z
      exact e0
    | succ c ih =>
      intro i a hi e0
      refine g_iload_n h d_Mod_init_163 rfl rfl ?_
      refine g_bipush (v := 6) h d_Mod_init_164 (by decide) ?_
      refine g_icmp_ge (tgt := 184) h d_Mod_init_166 (by decide) (fun c_ => absurd c_ (nI_ge (b := 6) (by omega) (by omega))) (fun c_ => ?_)
      refine g_aload_n h d_Mod_init_169 rfl rfl ?_
      refine gf_Mod_globals h f_Mod_22 d_Mod_init_170 ?_
      refine g_iload_n h d_Mod_init_173 rfl rfl ?_
      refine g_ldc2 (v := -1000000000000) h d_Mod_init_174 k_Mod_62 ?_
      refine pj_globals h rfl (show i < 6 by omega) d_Mod_init_177 ?_
      rw [M0_J]
      refine g_iinc (v := nI (i + 1)) h d_Mod_init_178 rfl (by rw [nI_succ]; rfl) rfl (by rw [hN]; decide) ?_
      refine g_goto (tgt := 163) h d_Mod_init_181 (by decide) ?_
      exact ih (i + 1) a (by omega) e0
  have loop1 : ∀ (c i : Nat) (a : Nat → Nat), i + c = 64 → a 0 = ad 0 → G Γ 17 652 18 a (mob a u (M0i i 0)) 142 [some (.ref (a 0)), some (.int (nI i))] [] := by
    intro c
    induction c with
    | zero =>
      intro i a hi e0
      obtain rfl : i = 64 := by omega
      refine g_iload_n h d_Mod_init_142 rfl rfl ?_
      refine g_bipush (v := 64) h d_Mod_init_143 (by decide) ?_
      refine g_icmp_ge (tgt := 161) h d_Mod_init_145 (by decide) (fun c_ => ?_) (fun c_ => absurd (show nI 64 ≤ nI 64 from nI_le (by omega) (by omega)) c_)
      refine g_iconst (v := 0) h d_Mod_init_161 (by decide) ?_
      refine g_istore_n h d_Mod_init_162 rfl rfl (by rw [hN]; decide) ?_
      exact loop2 6 0 a (by omega) e0
    | succ c ih =>
      intro i a hi e0
      refine g_iload_n h d_Mod_init_142 rfl rfl ?_
      refine g_bipush (v := 64) h d_Mod_init_143 (by decide) ?_
      refine g_icmp_ge (tgt := 161) h d_Mod_init_145 (by decide) (fun c_ => absurd c_ (nI_ge (b := 64) (by omega) (by omega))) (fun c_ => ?_)
      refine g_aload_n h d_Mod_init_148 rfl rfl ?_
      refine gf_Mod_ops h f_Mod_7 d_Mod_init_149 ?_
      refine g_iload_n h d_Mod_init_152 rfl rfl ?_
      refine g_iconst (v := -1) h d_Mod_init_153 (by decide) ?_
      refine pi_ops h rfl (show i < 64 by omega) d_Mod_init_154 ?_
      rw [M0_I]
      refine g_iinc (v := nI (i + 1)) h d_Mod_init_155 rfl (by rw [nI_succ]; rfl) rfl (by rw [hN]; decide) ?_
      refine g_goto (tgt := 142) h d_Mod_init_158 (by decide) ?_
      exact ih (i + 1) a (by omega) e0
  refine g_world (σ' := fun _ => .inr (7, [.null, .null, .null, .null, .null, .null, .null, .null, .null, .null, .null, .null, .null, .null, .null, .null, .null, .int 0, .int 0, .int 0, .int 0, .int 0, .int 0, .int 0, .int 0, .int 0, .int 0, .long 0])) (one_cell hσ) ?_
  refine g_at (L' := [some (.ref (ad 0)), none]) rfl rfl rfl ?_
  refine g_aload_n h d_Mod_init_0 rfl rfl ?_
  refine g_objInit h oi_Mod oi_in oi_cd ⟨by decide, by decide⟩ (by decide) d_Mod_init_1 ?_
  refine g_aload_n h d_Mod_init_4 rfl rfl ?_
  refine g_bipush (v := 64) h d_Mod_init_5 (by decide) ?_
  refine g_newi h 0 rfl ac_int (m := 64) (by decide) (by decide) (by decide) ⟨by show _ ≤ 17; decide, by show _ ≤ 652; decide⟩ d_Mod_init_7 (fun q7 => ?_)
  refine g_putF h i_Mod 0 (by decide) rfl rfl 0 (by decide) t_Mod t_Mod_ok n_Mod f_Mod_7 rfl hnm rfl rfl rfl (Nat.le_of_ble_eq_true rfl) d_Mod_init_9 ?_
  refine g_aload_n h d_Mod_init_12 rfl rfl ?_
  refine g_bipush (v := 64) h d_Mod_init_13 (by decide) ?_
  refine g_newi h 0 rfl ac_int (m := 64) (by decide) (by decide) (by decide) ⟨by show _ ≤ 17; decide, by show _ ≤ 652; decide⟩ d_Mod_init_15 (fun q15 => ?_)
  refine g_putF h i_Mod 0 (by decide) rfl rfl 1 (by decide) t_Mod t_Mod_ok n_Mod f_Mod_13 rfl hnm rfl rfl rfl (Nat.le_of_ble_eq_true rfl) d_Mod_init_17 ?_
  refine g_aload_n h d_Mod_init_20 rfl rfl ?_
  refine g_bipush (v := 64) h d_Mod_init_21 (by decide) ?_
  refine g_newi h 0 rfl ac_int (m := 64) (by decide) (by decide) (by decide) ⟨by show _ ≤ 17; decide, by show _ ≤ 652; decide⟩ d_Mod_init_23 (fun q23 => ?_)
  refine g_putF h i_Mod 0 (by decide) rfl rfl 2 (by decide) t_Mod t_Mod_ok n_Mod f_Mod_16 rfl hnm rfl rfl rfl (Nat.le_of_ble_eq_true rfl) d_Mod_init_25 ?_
  refine g_aload_n h d_Mod_init_28 rfl rfl ?_
  refine g_bipush (v := 64) h d_Mod_init_29 (by decide) ?_
  refine g_newi h 0 rfl ac_int (m := 64) (by decide) (by decide) (by decide) ⟨by show _ ≤ 17; decide, by show _ ≤ 652; decide⟩ d_Mod_init_31 (fun q31 => ?_)
  refine g_putF h i_Mod 0 (by decide) rfl rfl 3 (by decide) t_Mod t_Mod_ok n_Mod f_Mod_19 rfl hnm rfl rfl rfl (Nat.le_of_ble_eq_true rfl) d_Mod_init_33 ?_
  refine g_aload_n h d_Mod_init_36 rfl rfl ?_
  refine g_bipush (v := 6) h d_Mod_init_37 (by decide) ?_
  refine g_newl h 1 rfl ac_long (m := 6) (by decide) (by decide) (by decide) ⟨by show _ ≤ 17; decide, by show _ ≤ 652; decide⟩ d_Mod_init_39 (fun q39 => ?_)
  refine g_putF h i_Mod 0 (by decide) rfl rfl 4 (by decide) t_Mod t_Mod_ok n_Mod f_Mod_22 rfl hnm rfl rfl rfl (Nat.le_of_ble_eq_true rfl) d_Mod_init_41 ?_
  refine g_aload_n h d_Mod_init_44 rfl rfl ?_
  refine g_bipush (v := 16) h d_Mod_init_45 (by decide) ?_
  refine g_newi h 0 rfl ac_int (m := 16) (by decide) (by decide) (by decide) ⟨by show _ ≤ 17; decide, by show _ ≤ 652; decide⟩ d_Mod_init_47 (fun q47 => ?_)
  refine g_putF h i_Mod 0 (by decide) rfl rfl 5 (by decide) t_Mod t_Mod_ok n_Mod f_Mod_26 rfl hnm rfl rfl rfl (Nat.le_of_ble_eq_true rfl) d_Mod_init_49 ?_
  refine g_aload_n h d_Mod_init_52 rfl rfl ?_
  refine g_bipush (v := 16) h d_Mod_init_53 (by decide) ?_
  refine g_newi h 0 rfl ac_int (m := 16) (by decide) (by decide) (by decide) ⟨by show _ ≤ 17; decide, by show _ ≤ 652; decide⟩ d_Mod_init_55 (fun q55 => ?_)
  refine g_putF h i_Mod 0 (by decide) rfl rfl 6 (by decide) t_Mod t_Mod_ok n_Mod f_Mod_29 rfl hnm rfl rfl rfl (Nat.le_of_ble_eq_true rfl) d_Mod_init_57 ?_
  refine g_aload_n h d_Mod_init_60 rfl rfl ?_
  refine g_bipush (v := 16) h d_Mod_init_61 (by decide) ?_
  refine g_newi h 0 rfl ac_int (m := 16) (by decide) (by decide) (by decide) ⟨by show _ ≤ 17; decide, by show _ ≤ 652; decide⟩ d_Mod_init_63 (fun q63 => ?_)
  refine g_putF h i_Mod 0 (by decide) rfl rfl 7 (by decide) t_Mod t_Mod_ok n_Mod f_Mod_32 rfl hnm rfl rfl rfl (Nat.le_of_ble_eq_true rfl) d_Mod_init_65 ?_
  refine g_aload_n h d_Mod_init_68 rfl rfl ?_
  refine g_bipush (v := 16) h d_Mod_init_69 (by decide) ?_
  refine g_newi h 0 rfl ac_int (m := 16) (by decide) (by decide) (by decide) ⟨by show _ ≤ 17; decide, by show _ ≤ 652; decide⟩ d_Mod_init_71 (fun q71 => ?_)
  refine g_putF h i_Mod 0 (by decide) rfl rfl 8 (by decide) t_Mod t_Mod_ok n_Mod f_Mod_35 rfl hnm rfl rfl rfl (Nat.le_of_ble_eq_true rfl) d_Mod_init_73 ?_
  refine g_aload_n h d_Mod_init_76 rfl rfl ?_
  refine g_bipush (v := 96) h d_Mod_init_77 (by decide) ?_
  refine g_newl h 1 rfl ac_long (m := 96) (by decide) (by decide) (by decide) ⟨by show _ ≤ 17; decide, by show _ ≤ 652; decide⟩ d_Mod_init_79 (fun q79 => ?_)
  refine g_putF h i_Mod 0 (by decide) rfl rfl 9 (by decide) t_Mod t_Mod_ok n_Mod f_Mod_38 rfl hnm rfl rfl rfl (Nat.le_of_ble_eq_true rfl) d_Mod_init_81 ?_
  refine g_aload_n h d_Mod_init_84 rfl rfl ?_
  refine g_bipush (v := 96) h d_Mod_init_85 (by decide) ?_
  refine g_newl h 1 rfl ac_long (m := 96) (by decide) (by decide) (by decide) ⟨by show _ ≤ 17; decide, by show _ ≤ 652; decide⟩ d_Mod_init_87 (fun q87 => ?_)
  refine g_putF h i_Mod 0 (by decide) rfl rfl 10 (by decide) t_Mod t_Mod_ok n_Mod f_Mod_41 rfl hnm rfl rfl rfl (Nat.le_of_ble_eq_true rfl) d_Mod_init_89 ?_
  refine g_aload_n h d_Mod_init_92 rfl rfl ?_
  refine g_bipush (v := 64) h d_Mod_init_93 (by decide) ?_
  refine g_newl h 1 rfl ac_long (m := 64) (by decide) (by decide) (by decide) ⟨by show _ ≤ 17; decide, by show _ ≤ 652; decide⟩ d_Mod_init_95 (fun q95 => ?_)
  refine g_putF h i_Mod 0 (by decide) rfl rfl 11 (by decide) t_Mod t_Mod_ok n_Mod f_Mod_44 rfl hnm rfl rfl rfl (Nat.le_of_ble_eq_true rfl) d_Mod_init_97 ?_
  refine g_aload_n h d_Mod_init_100 rfl rfl ?_
  refine g_bipush (v := 16) h d_Mod_init_101 (by decide) ?_
  refine g_newi h 0 rfl ac_int (m := 16) (by decide) (by decide) (by decide) ⟨by show _ ≤ 17; decide, by show _ ≤ 652; decide⟩ d_Mod_init_103 (fun q103 => ?_)
  refine g_putF h i_Mod 0 (by decide) rfl rfl 12 (by decide) t_Mod t_Mod_ok n_Mod f_Mod_47 rfl hnm rfl rfl rfl (Nat.le_of_ble_eq_true rfl) d_Mod_init_105 ?_
  refine g_aload_n h d_Mod_init_108 rfl rfl ?_
  refine g_bipush (v := 16) h d_Mod_init_109 (by decide) ?_
  refine g_newi h 0 rfl ac_int (m := 16) (by decide) (by decide) (by decide) ⟨by show _ ≤ 17; decide, by show _ ≤ 652; decide⟩ d_Mod_init_111 (fun q111 => ?_)
  refine g_putF h i_Mod 0 (by decide) rfl rfl 13 (by decide) t_Mod t_Mod_ok n_Mod f_Mod_50 rfl hnm rfl rfl rfl (Nat.le_of_ble_eq_true rfl) d_Mod_init_113 ?_
  refine g_aload_n h d_Mod_init_116 rfl rfl ?_
  refine g_bipush (v := 16) h d_Mod_init_117 (by decide) ?_
  refine g_newi h 0 rfl ac_int (m := 16) (by decide) (by decide) (by decide) ⟨by show _ ≤ 17; decide, by show _ ≤ 652; decide⟩ d_Mod_init_119 (fun q119 => ?_)
  refine g_putF h i_Mod 0 (by decide) rfl rfl 14 (by decide) t_Mod t_Mod_ok n_Mod f_Mod_53 rfl hnm rfl rfl rfl (Nat.le_of_ble_eq_true rfl) d_Mod_init_121 ?_
  refine g_aload_n h d_Mod_init_124 rfl rfl ?_
  refine g_bipush (v := 16) h d_Mod_init_125 (by decide) ?_
  refine g_newi h 0 rfl ac_int (m := 16) (by decide) (by decide) (by decide) ⟨by show _ ≤ 17; decide, by show _ ≤ 652; decide⟩ d_Mod_init_127 (fun q127 => ?_)
  refine g_putF h i_Mod 0 (by decide) rfl rfl 15 (by decide) t_Mod t_Mod_ok n_Mod f_Mod_56 rfl hnm rfl rfl rfl (Nat.le_of_ble_eq_true rfl) d_Mod_init_129 ?_
  refine g_aload_n h d_Mod_init_132 rfl rfl ?_
  refine g_bipush (v := 6) h d_Mod_init_133 (by decide) ?_
  refine g_newi h 0 rfl ac_int (m := 6) (by decide) (by decide) (by decide) ⟨by show _ ≤ 17; decide, by show _ ≤ 652; decide⟩ d_Mod_init_135 (fun q135 => ?_)
  refine g_putF h i_Mod 0 (by decide) rfl rfl 16 (by decide) t_Mod t_Mod_ok n_Mod f_Mod_59 rfl hnm rfl rfl rfl (Nat.le_of_ble_eq_true rfl) d_Mod_init_137 ?_
  refine g_iconst (v := 0) h d_Mod_init_140 (by decide) ?_
  refine g_istore_n h d_Mod_init_141 rfl rfl (by rw [hN]; decide) ?_
  refine g_world (σ' := mob (va_up (va_up (va_up (va_up (va_up (va_up (va_up (va_up (va_up (va_up (va_up (va_up (va_up (va_up (va_up (va_up (va_up ad 1 q7) 2 q15) 3 q23) 4 q31) 5 q39) 6 q47) 7 q55) 8 q63) 9 q71) 10 q79) 11 q87) 12 q95) 13 q103) 14 q111) 15 q119) 16 q127) 17 q135) u (M0i 0 0)) (fun k hk => ?_) ?_
  · obtain ⟨z1, z2⟩ := M0_z
    rcases (show k = 0 ∨ k = 1 ∨ k = 2 ∨ k = 3 ∨ k = 4 ∨ k = 5 ∨ k = 6 ∨ k = 7 ∨ k = 8 ∨ k = 9 ∨ k = 10 ∨ k = 11 ∨ k = 12 ∨ k = 13 ∨ k = 14 ∨ k = 15 ∨ k = 16 ∨ k = 17 by omega) with rfl | rfl | rfl | rfl | rfl | rfl | rfl | rfl | rfl | rfl | rfl | rfl | rfl | rfl | rfl | rfl | rfl | rfl
    all_goals first | rfl | (simp only [mob]; rw [z1]; rfl) | (simp only [mob]; rw [z2]; rfl)
  exact loop1 64 0 _ (by omega) rfl
end

-- part 9t.newRR
section
/-! a new object on both sides -/
theorem C0_0 {f n : Nat} (h3 : f ≠ 3) (h9 : f ≠ 9) : C00.1 f n = 0 := if_neg (fun z => z.elim h3 h9)
theorem M0_0 {f n : Nat} (h : f ≠ 0) : (M0i 64 6).1 f n = 0 := if_neg (fun z => h z.1)
theorem M0_lz {f n i : Nat} (h : f ≠ 0) : (M0i 64 6).2.1 f n i = 0 := if_neg (fun z => h z.1)
theorem nil_ne {m : Nat} (hm : m < 16) : ¬ (-1000000000000 : Int64) = oV m := fun e => (lv_nil (C := C00) m hm e).1 (C0_0 (by decide) (by decide))
theorem C0_long (f n i : Nat) : C00.2.1 f n i = -1000000000000 ∨ C00.2.1 f n i = 0 := by
  show (if _ then _ else _) = _ ∨ (if _ then _ else _) = _
  split
  · exact .inl rfl
  · exact .inr rfl
theorem M0_long (f n i : Nat) : (M0i 64 6).2.1 f n i = -1000000000000 ∨ (M0i 64 6).2.1 f n i = 0 := by
  show (if _ then _ else _) = _ ∨ (if _ then _ else _) = _
  split
  · exact .inl rfl
  · exact .inr rfl
theorem ok_nz {v : Int64} (h : v = -1000000000000 ∨ v = 0) : okV v := by
  rcases h with rfl | rfl
  · exact okV_nil
  · exact .inl (by decide)
theorem RR_new : RR C00 (M0i 64 6) := by
  have k0 : ∀ n, C00.1 0 n = 0 := fun n => C0_0 (by decide) (by decide)
  have nact : ∀ n, cactive C00 n = false := fun n => by
    unfold cactive
    rw [k0]
    rfl
  have nl : ∀ n, ¬ live C00 n := fun n z => z.1 (k0 n)
  refine ⟨⟨?_, ?_, ⟨?_, ?_, ?_, ?_⟩, ⟨?_, ?_, ?_, ?_⟩, ?_, ?_, ?_⟩, ?_⟩
  · exact ⟨fun n hn => ⟨⟨0, by omega, C0_0 (by decide) (by decide)⟩, .inl rfl, ⟨0, by omega, C0_0 (by decide) (by decide)⟩, ⟨0, by omega, C0_0 (by decide) (by decide)⟩, ⟨0, by omega, C0_0 (by decide) (by decide)⟩, ⟨0, by omega, C0_0 (by decide) (by decide)⟩⟩, fun f n i => ok_nz (C0_long f n i), ⟨0, by omega, C0_0 (by decide) (by decide)⟩, ⟨0, by omega, C0_0 (by decide) (by decide), fun i hi => by omega⟩⟩
  · exact ⟨fun n hn => ⟨⟨0, by omega, M0_0 (by decide)⟩, .inr ⟨0, by omega, M0_0 (by decide)⟩, ⟨0, by omega, M0_0 (by decide)⟩, ⟨0, by omega, M0_0 (by decide)⟩⟩, fun f j => ok_nz (M0_long f 0 j), ⟨0, by omega, M0_0 (by decide)⟩, ⟨0, by omega, M0_0 (by decide)⟩, fun k hk => ⟨0, by omega, M0_0 (by decide)⟩⟩
  · exact fun n hn => ⟨.inl (k0 n), .inl (C0_0 (by decide) (by decide)), fun _ => C0_0 (by decide) (by decide), .inl (C0_0 (by decide) (by decide))⟩
  · exact ⟨.inl (C0_0 (by decide) (by decide)), fun _ => C0_0 (by decide) (by decide), fun _ n hn => C0_0 (by decide) (by decide), fun _ n hn => C0_0 (by decide) (by decide)⟩
  · unfold Sm3
    decide +kernel
  · exact ⟨fun k hk => .inl rfl, fun f hf => rfl⟩
  · intro m hm z
    rcases z with ⟨j, hj, z⟩ | ⟨n, hn, z, -⟩
    · rw [show C00.2.1 0 0 j = -1000000000000 from if_pos (.inl ⟨rfl, rfl, hj⟩)] at z
      exact (nil_ne hm z).elim
    · rw [nact] at z
      cases z
  · exact fun n m hn hm z => (nl n z).elim
  · intro z
    rw [C0_0 (by decide) (by decide)] at z
    exact absurd z (by decide)
  · exact fun n m hn hm z => (nl n z).elim
  · intro n hn
    refine ⟨⟨(k0 n).trans (M0_0 (by decide)).symm, (C0_0 (by decide) (by decide)).trans (M0_0 (by decide)).symm⟩, fun z => ?_, fun z => ?_, fun z => ?_, fun i hi => ⟨?_, ?_⟩⟩
    · rw [k0] at z
      exact absurd z (by decide)
    · rw [k0] at z
      exact absurd z (by decide)
    · rw [k0] at z
      exact absurd z (by decide)
    · rw [C00_z (by decide) (by decide) (by decide)]
      exact (M0_lz (by decide)).symm
    · rw [C00_z (by decide) (by decide) (by decide)]
      exact (M0_lz (by decide)).symm
  · refine ⟨fun i hi => ?_, ?_, ?_, ?_, ?_, ?_, ?_, ?_⟩
    · rw [C00_g]
      show (if i < 6 then _ else _) = _
      rw [if_pos hi]
      exact (if_pos ⟨rfl, rfl, hi⟩).symm
    all_goals exact (C0_0 (by decide) (by decide)).trans (M0_0 (by decide)).symm
  · intro f i hf hi
    exact ⟨(if_pos ⟨rfl, by omega⟩).symm, (C0_0 (by decide) (by decide)).trans (M0_0 (by decide)).symm, (C0_0 (by decide) (by decide)).trans (M0_0 (by decide)).symm, (C0_0 (by decide) (by decide)).trans (M0_0 (by decide)).symm⟩
  · exact ⟨by omega, C0_0 (by decide) (by decide), M0_0 (by decide), fun i hi => by omega, fun i j hi => by omega, fun n hn z => by rw [nact] at z; cases z⟩
end

-- part 9u.start
section
/-! what the tables give the law -/
theorem zq_of {args : Array Value} {s : State} {C n d : String} {A : Nat → Prop} (hl : (Cond.laysStatic C n d).before args s = true) (hini : (Cond.initialized C).before args s = true) (h : (Cond.isRef (.static C n d)).before args s = true) (hA : ∀ a : Nat, a < s.heap.size → ¬ A a) : zq C n d A s s.heap := ⟨va_Zqof hl hini h hA, by
  obtain ⟨c, k, i, f, a, cell, hc, hi, hst, ha, hcell, hs, hcls, hlt, hty⟩ := Cond.laysStatic_spec hl
  exact ⟨c, k, i, f, a, cell, ⟨hc, hi, hst, ha, hty⟩, hcell, ⟨hs, hcls, hlt⟩, hA a (Array.getElem?_eq_some_iff.mp hcell).1⟩⟩
theorem nc_of {A B : String} {args : Array Value} {s : State} {n : Nat} (h : (Cond.not (.castable A B)).before args s = true) (hi : (Cond.instantiable B n).before args s = true) : nc A B s := by
  obtain ⟨d, k, h1, h2, -⟩ := Cond.instantiable_spec hi
  simp only [Cond.before, Cond.holds, Cond.value, h1] at h
  cases hc : s.vm.findClass A with
  | none => simp [hc] at h
  | some c =>
    simp [hc] at h
    exact ⟨c, d, hc, h1, ⟨k, h2⟩, h⟩
theorem arr_of {args : Array Value} {s : State} {ty : FieldType} (h : (Cond.arrayClass ty).before args s = true) (hp : ∀ cA, s.vm.findClass ("[" ++ ty.toString) = some cA → va_RA s cA ty) : ∃ cA, ArrOfT s cA ty ∧ va_RA s cA ty := by
  obtain ⟨c, k, comp, h1, h2, h3⟩ := Cond.arrayClass_spec h
  exact ⟨c, fun n z => ⟨fun k h => (by cases h), k, h2, comp, h3⟩, hp c h1⟩
theorem arrq_of {s : State} {C : String} (h : va_AO C s) : ∃ cA, ArrOfT s cA (.object C) ∧ va_RA s cA (.object C) := by
  obtain ⟨comp, c, k, h1, h2, h3, h4, h5⟩ := Cond.arrayOver_spec h
  exact ⟨c, fun n z => ⟨fun k h => (by cases h), k, h3, comp, h4⟩, k, comp, h3, h4, h1, h5⟩
theorem nl_tbl : ∀ q ∈ NL, Cond.methodLinkNest q.1 q.2.1 q.2.2.1 q.2.2.2 ∈ lw_tbl := by decide +kernel
theorem ao_tbl : ∀ C ∈ aoL, Cond.arrayOver (.object C) ∈ lw_tbl := by decide +kernel
theorem law_known {args : Array Value} {s : State} (hts : ∀ w ∈ lw_tbl, w.before args s = true) : ∃ (D : va_G) (t : Nat → ClassId), va_K D CL (tyl t) s ∧ aos s ∧ ∀ q ∈ NL, va_Nw (.methodLinkNest q.1 q.2.1 q.2.2.1 q.2.2.2) s := by
  have hT : ∀ w ∈ TB, w.before args s = true := fun w hw => hts w (tb_tbl hw)
  have hao : aos s := fun C hC => va_AO.of (hts _ (ao_tbl C hC))
  obtain ⟨c0, j0, k0⟩ := u_known (C := R_Cell) (T := F_Cell) (N := 4) (n := 4) hT i_Cell (hT _ ic_Cell)
  obtain ⟨c1, j1, k1⟩ := u_known (C := R_Cor) (T := F_Cor) (N := 6) (n := 6) hT i_Cor (hT _ ic_Cor)
  obtain ⟨c2, j2, k2⟩ := u_known (C := R_Heap) (T := F_Heap) (N := 9) (n := 9) hT i_Heap (hT _ ic_Heap)
  obtain ⟨c3, j3, k3⟩ := u_known (C := R_Ins) (T := F_Ins) (N := 4) (n := 4) hT i_Ins (hT _ ic_Ins)
  obtain ⟨c4, j4, k4⟩ := u_known (C := R_Pro) (T := F_Pro) (N := 7) (n := 7) hT i_Pro (hT _ ic_Pro)
  obtain ⟨c5, j5, k5⟩ := u_known (C := R_Tab) (T := F_Tab) (N := 4) (n := 4) hT i_Tab (hT _ ic_Tab)
  obtain ⟨c6, j6, k6⟩ := u_known (C := R_TCM) (T := F_TCM) (N := 2) (n := 2) hT i_TCM (hT _ ic_TCM)
  obtain ⟨c7, j7, k7⟩ := u_known (C := R_Mod) (T := F_Mod) (N := 28) (n := 28) hT i_Mod (hT _ ic_Mod)
  obtain ⟨t0, u0, v0⟩ := arr_of (ty := .long) (hT _ ac_long) (fun _ h => h)
  obtain ⟨t4, u4, v4⟩ := arr_of (ty := .int) (hT _ ac_int) (fun _ h => h)
  obtain ⟨t1, u1, v1⟩ := arrq_of (hao "TriColourMachine$Cell" (by decide))
  obtain ⟨t2, u2, v2⟩ := arrq_of (hao "TriColourMachine$Instruction" (by decide))
  obtain ⟨t3, u3, v3⟩ := arrq_of (hao "TriColourMachine$Coroutine" (by decide))
  refine ⟨(fun k => match k with | 0 => c0 | 1 => c1 | 2 => c2 | 3 => c3 | 4 => c4 | 5 => c5 | 6 => c6 | _ => c7, fun k => match k with | 0 => j0 | 1 => j1 | 2 => j2 | 3 => j3 | 4 => j4 | 5 => j5 | 6 => j6 | _ => j7), fun k => match k with | 0 => t0 | 1 => t1 | 2 => t2 | 3 => t3 | _ => t4, ⟨fun k q hq => ?_, fun k q hq => ?_⟩, hao, fun q hq => va_Nw.of rfl (hts _ (nl_tbl q hq))⟩
  · match k, hq with
    | 0, hq => cases hq; exact k0
    | 1, hq => cases hq; exact k1
    | 2, hq => cases hq; exact k2
    | 3, hq => cases hq; exact k3
    | 4, hq => cases hq; exact k4
    | 5, hq => cases hq; exact k5
    | 6, hq => cases hq; exact k6
    | 7, hq => cases hq; exact k7
    | k + 8, hq => cases hq
  · match k, hq with
    | 0, hq => cases hq; exact ⟨u0, v0⟩
    | 1, hq => cases hq; exact ⟨u1, v1⟩
    | 2, hq => cases hq; exact ⟨u2, v2⟩
    | 3, hq => cases hq; exact ⟨u3, v3⟩
    | 4, hq => cases hq; exact ⟨u4, v4⟩
    | k + 5, hq => cases hq
theorem ctn_sub {l : Launch} {D : va_G} {cl : List vw_C} {tys tys' : List (ClassId × FieldType)} {nl : List (String × Nat × MethodName × String)} {N N2 : Nat} {ad : Nat → Nat} {y : MethodName} {ws : List Cond} {rm : Room} {As : List Value} {σ : Nat → va_E} {mc ms : Nat} {Rr : (Nat → Nat) → (Nat → va_E) → Prop} (is : List Nat) (hs : is.filterMap (fun i => tys[i]?) = tys') (h : Ctn l D cl tys' nl N N2 ad y ws rm As σ mc ms Rr) : Ctn l D cl tys nl N N2 ad y ws rm As σ mc ms Rr := by
  intro sz p e' h1 h2 h3 s m args below h4 h5 hP hK
  obtain ⟨q0, ⟨q1, q2, q3, q4⟩, q5⟩ := hP
  exact h sz p e' h1 h2 h3 s m args below h4 h5 ⟨q0, ⟨q1, q2, q3.sub is hs, q4⟩, q5⟩ hK
theorem wc_ad {a b : Nat → Nat} {t : Nat → ClassId} (h : ∀ j, j < 171 → a j = b j) {k : Nat} (hk : k < 171) (h3 : ¬ k = 3) (h101 : ¬ k = 101) : wc a t C00 k = wc b t C00 k := by
  unfold wc
  rcases (show k = 0 ∨ k = 1 ∨ k = 2 ∨ (4 ≤ k ∧ k < 100) ∨ k = 100 ∨ k = 102 ∨ 103 ≤ k by omega) with rfl | rfl | rfl | ⟨h4, h5⟩ | rfl | rfl | h4
  · show ob a t C00 0 0 = ob b t C00 0 0
    simp only [ob, ix]
    rw [h 100 (by omega), h 1 (by omega)]
  · show ob a t C00 1 0 = ob b t C00 1 0
    simp only [ob, ix]
    rw [h 2 (by omega), h 3 (by omega)]
  · rfl
  · obtain ⟨n, r, hn, hr, rfl⟩ : ∃ n r, n < 16 ∧ r < 6 ∧ k = 4 + 6 * n + r := ⟨(k - 4) / 6, (k - 4) % 6, by omega, Nat.mod_lt _ (by decide), by omega⟩
    have ek : kd (4 + 6 * n + r) = (4 + r, n) := by
      unfold kd
      rw [if_neg (by omega), if_pos (by omega), show (4 + 6 * n + r - 4) % 6 = r by omega, show (4 + 6 * n + r - 4) / 6 = n by omega]
    rw [ek]
    rcases (show r = 0 ∨ r = 1 ∨ r = 2 ∨ r = 3 ∨ r = 4 ∨ r = 5 by omega) with rfl | rfl | rfl | rfl | rfl | rfl
    · simp only [ob, ix]
      rw [h (5 + 6 * n) (by omega), h (8 + 6 * n) (by omega)]
    · simp only [ob, ix]
      rw [h (6 + 6 * n) (by omega), h (7 + 6 * n) (by omega)]
    · rfl
    · rfl
    · simp only [ob, ix]
      rw [h (9 + 6 * n) (by omega)]
    · rfl
  · show ob a t C00 10 0 = ob b t C00 10 0
    simp only [ob, ix]
    rw [h 1 (by omega), h 101 (by omega), h 102 (by omega)]
  · rfl
  · have ek : kd k = (13, k - 103) := by
      unfold kd
      rw [if_neg (by omega), if_neg (by omega), if_neg (by omega)]
    rw [ek]
    rfl
end
