theorem one_cell {σ : Nat → va_E} {e : va_E} (h : σ 0 = e) : ∀ k, k < 1 → σ k = (fun _ => e) k := fun k hk => by
  have z : k = 0 := by omega
  subst z
  exact h
abbrev Z6 (t : Nat → ClassId) : va_E := .inl (t 0, 6, .inr (.inl (fun _ => 0)))
abbrev Z4 (t : Nat → ClassId) : va_E := .inl (t 0, 4, .inr (.inl (fun _ => 0)))
def wIns : va_E := .inr (3, [.int (-1), .int 0, .int 0, .int 0])
def wTab (ad : Nat → Nat) (t : Nat → ClassId) (k : Nat) : va_E := match k with
  | 0 => .inr (5, [.ref (ad 1), .ref (ad 2), .int 0, .int (-1)])
  | _ => Z6 t
def wCor (ad : Nat → Nat) (t : Nat → ClassId) (k : Nat) : va_E := match k with
  | 0 => .inr (1, [.ref (ad 1), .int 0, .int 0, .int 0, .int 0, .int 0])
  | _ => Z4 t
def wCell (ad : Nat → Nat) (t : Nat → ClassId) (k : Nat) : va_E := match k with
  | 0 => .inr (0, [.ref (ad 1), .ref (ad 4), .int 0, .int 0])
  | 1 => .inr (5, [.ref (ad 2), .ref (ad 3), .int 0, .int (-1)])
  | 2 => Z6 t
  | 3 => Z6 t
  | 4 => .inr (1, [.ref (ad 5), .int 0, .int 0, .int 0, .int 0, .int 0])
  | _ => Z4 t
theorem sgj_1 {q N2 : Nat} {σ σ' τ τ' : Nat → va_E} (h1 : ∀ k, k < q → σ k = σ' k) (h2 : ∀ k, k < N2 → τ k = τ' k) : ∀ k, k < q + N2 → sgj q σ τ k = sgj q σ' τ' k := fun k hk => by
  unfold sgj
  by_cases z : k < q
  · rw [if_pos z, if_pos z]; exact h1 k z
  · rw [if_neg z, if_neg z]; exact h2 _ (by omega)
/-- the contract of a constructor of the class's that begins with the one cell -/
abbrev Cn (l : Launch) (D : va_G) (t : Nat → ClassId) (tys : List (ClassId × FieldType)) (N2 : Nat) (ad : Nat → Nat) (y : MethodName) (b : ByteArray) (n : Nat) (rm : Room) (As : List Value) (σ : Nat → va_E) (mc ms : Nat) (w : (Nat → Nat) → Nat → va_E) : Prop := Ctn l D CL tys NL 1 N2 ad y (.code y b n none :: TB) rm As σ mc ms (fun ad2 σ2 => ∀ k, k < N2 → σ2 k = w ad2 k)
theorem ac_long : Cond.arrayClass .long ∈ TB := tb_mem 114 (by decide +kernel) (by decide +kernel)
theorem ac_int : Cond.arrayClass .int ∈ TB := tb_mem 767 (by decide +kernel) (by decide +kernel)
theorem oi_in : Cond.instanceMethod Lib.objectInit ∈ TB := tb_mem 67 (by decide +kernel) (by decide +kernel)
theorem oi_cd : Cond.code Lib.objectInit ⟨#[0xb1]⟩ 1 none ∈ TB := tb_mem 68 (by decide +kernel) (by decide +kernel)
theorem oi_Ins : Cond.methodLink "TriColourMachine$Instruction" 3 Lib.objectInit ∈ TB := tb_mem 228 (by decide +kernel) (by decide +kernel)
theorem ic_Ins : Cond.instantiable "TriColourMachine$Instruction" 4 ∈ TB := tb_mem 224 (by decide +kernel) (by decide +kernel)
theorem ii_Ins : Cond.initialized "TriColourMachine$Instruction" ∈ TB := tb_mem 50 (by decide +kernel) (by decide +kernel)
set_option maxRecDepth 100000 in
theorem wi_Ins : Cond.instanceMethod y_Ins_init ∈ TB ∧ Cond.initialized y_Ins_init.cls ∈ TB ∧ Cond.code y_Ins_init b_Ins_init 1 none ∈ TB := ⟨tb_mem 226 (by decide +kernel) (by decide +kernel), tb_mem 50 (by decide +kernel) (by decide +kernel), List.mem_filter.mpr ⟨List.mem_of_getElem? (i := 227) rfl, rfl⟩⟩
theorem oi_Tab : Cond.methodLink "TriColourMachine$Table" 3 Lib.objectInit ∈ TB := tb_mem 91 (by decide +kernel) (by decide +kernel)
theorem ic_Tab : Cond.instantiable "TriColourMachine$Table" 4 ∈ TB := tb_mem 87 (by decide +kernel) (by decide +kernel)
theorem ii_Tab : Cond.initialized "TriColourMachine$Table" ∈ TB := tb_mem 47 (by decide +kernel) (by decide +kernel)
set_option maxRecDepth 100000 in
theorem wi_Tab : Cond.instanceMethod y_Tab_init ∈ TB ∧ Cond.initialized y_Tab_init.cls ∈ TB ∧ Cond.code y_Tab_init b_Tab_init 1 none ∈ TB := ⟨tb_mem 89 (by decide +kernel) (by decide +kernel), tb_mem 47 (by decide +kernel) (by decide +kernel), List.mem_filter.mpr ⟨List.mem_of_getElem? (i := 90) rfl, rfl⟩⟩
theorem oi_Cor : Cond.methodLink "TriColourMachine$Coroutine" 3 Lib.objectInit ∈ TB := tb_mem 120 (by decide +kernel) (by decide +kernel)
theorem ic_Cor : Cond.instantiable "TriColourMachine$Coroutine" 6 ∈ TB := tb_mem 116 (by decide +kernel) (by decide +kernel)
theorem ii_Cor : Cond.initialized "TriColourMachine$Coroutine" ∈ TB := tb_mem 48 (by decide +kernel) (by decide +kernel)
set_option maxRecDepth 100000 in
theorem wi_Cor : Cond.instanceMethod y_Cor_init ∈ TB ∧ Cond.initialized y_Cor_init.cls ∈ TB ∧ Cond.code y_Cor_init b_Cor_init 1 none ∈ TB := ⟨tb_mem 118 (by decide +kernel) (by decide +kernel), tb_mem 48 (by decide +kernel) (by decide +kernel), List.mem_filter.mpr ⟨List.mem_of_getElem? (i := 119) rfl, rfl⟩⟩
theorem oi_Cell : Cond.methodLink "TriColourMachine$Cell" 3 Lib.objectInit ∈ TB := tb_mem 85 (by decide +kernel) (by decide +kernel)
theorem ic_Cell : Cond.instantiable "TriColourMachine$Cell" 4 ∈ TB := tb_mem 81 (by decide +kernel) (by decide +kernel)
theorem ii_Cell : Cond.initialized "TriColourMachine$Cell" ∈ TB := tb_mem 46 (by decide +kernel) (by decide +kernel)
set_option maxRecDepth 100000 in
theorem wi_Cell : Cond.instanceMethod y_Cell_init ∈ TB ∧ Cond.initialized y_Cell_init.cls ∈ TB ∧ Cond.code y_Cell_init b_Cell_init 1 none ∈ TB := ⟨tb_mem 83 (by decide +kernel) (by decide +kernel), tb_mem 46 (by decide +kernel) (by decide +kernel), List.mem_filter.mpr ⟨List.mem_of_getElem? (i := 84) rfl, rfl⟩⟩
theorem oi_Heap : Cond.methodLink "TriColourMachine$Heap" 3 Lib.objectInit ∈ TB := tb_mem 74 (by decide +kernel) (by decide +kernel)
theorem ic_Heap : Cond.instantiable "TriColourMachine$Heap" 9 ∈ TB := tb_mem 70 (by decide +kernel) (by decide +kernel)
theorem ii_Heap : Cond.initialized "TriColourMachine$Heap" ∈ TB := tb_mem 44 (by decide +kernel) (by decide +kernel)
set_option maxRecDepth 100000 in
theorem wi_Heap : Cond.instanceMethod y_Heap_init ∈ TB ∧ Cond.initialized y_Heap_init.cls ∈ TB ∧ Cond.code y_Heap_init b_Heap_init 2 none ∈ TB := ⟨tb_mem 72 (by decide +kernel) (by decide +kernel), tb_mem 44 (by decide +kernel) (by decide +kernel), List.mem_filter.mpr ⟨List.mem_of_getElem? (i := 73) rfl, rfl⟩⟩
theorem oi_Pro : Cond.methodLink "TriColourMachine$Processor" 3 Lib.objectInit ∈ TB := tb_mem 218 (by decide +kernel) (by decide +kernel)
theorem ic_Pro : Cond.instantiable "TriColourMachine$Processor" 7 ∈ TB := tb_mem 214 (by decide +kernel) (by decide +kernel)
theorem ii_Pro : Cond.initialized "TriColourMachine$Processor" ∈ TB := tb_mem 49 (by decide +kernel) (by decide +kernel)
set_option maxRecDepth 100000 in
theorem wi_Pro : Cond.instanceMethod y_Pro_init ∈ TB ∧ Cond.initialized y_Pro_init.cls ∈ TB ∧ Cond.code y_Pro_init b_Pro_init 3 none ∈ TB := ⟨tb_mem 216 (by decide +kernel) (by decide +kernel), tb_mem 49 (by decide +kernel) (by decide +kernel), List.mem_filter.mpr ⟨List.mem_of_getElem? (i := 217) rfl, rfl⟩⟩
theorem oi_TCM : Cond.methodLink "TriColourMachine" 3 Lib.objectInit ∈ TB := tb_mem 66 (by decide +kernel) (by decide +kernel)
theorem ic_TCM : Cond.instantiable "TriColourMachine" 2 ∈ TB := tb_mem 62 (by decide +kernel) (by decide +kernel)
theorem ii_TCM : Cond.initialized "TriColourMachine" ∈ TB := tb_mem 43 (by decide +kernel) (by decide +kernel)
set_option maxRecDepth 100000 in
theorem wi_TCM : Cond.instanceMethod y_TCM_init ∈ TB ∧ Cond.initialized y_TCM_init.cls ∈ TB ∧ Cond.code y_TCM_init b_TCM_init 2 none ∈ TB := ⟨tb_mem 64 (by decide +kernel) (by decide +kernel), tb_mem 43 (by decide +kernel) (by decide +kernel), List.mem_filter.mpr ⟨List.mem_of_getElem? (i := 65) rfl, rfl⟩⟩
theorem oi_Mod : Cond.methodLink "TriColourMachineModel" 1 Lib.objectInit ∈ TB := tb_mem 680 (by decide +kernel) (by decide +kernel)
theorem ic_Mod : Cond.instantiable "TriColourMachineModel" 28 ∈ TB := tb_mem 676 (by decide +kernel) (by decide +kernel)
theorem ii_Mod : Cond.initialized "TriColourMachineModel" ∈ TB := tb_mem 51 (by decide +kernel) (by decide +kernel)
set_option maxRecDepth 100000 in
theorem wi_Mod : Cond.instanceMethod y_Mod_init ∈ TB ∧ Cond.initialized y_Mod_init.cls ∈ TB ∧ Cond.code y_Mod_init b_Mod_init 2 none ∈ TB := ⟨tb_mem 678 (by decide +kernel) (by decide +kernel), tb_mem 51 (by decide +kernel) (by decide +kernel), List.mem_filter.mpr ⟨List.mem_of_getElem? (i := 679) rfl, rfl⟩⟩
theorem cl_Law_8 : Cond.classLink "TriColourMachineLaw" 8 "TriColourMachine" ∈ TB := tb_mem 61 (by decide +kernel) (by decide +kernel)
theorem ml_Law_61 : Cond.methodLink "TriColourMachineLaw" 61 y_TCM_init ∈ TB := tb_mem 63 (by decide +kernel) (by decide +kernel)
theorem cl_TCM_9 : Cond.classLink "TriColourMachine" 9 "TriColourMachine$Heap" ∈ TB := tb_mem 69 (by decide +kernel) (by decide +kernel)
theorem ml_TCM_11 : Cond.methodLink "TriColourMachine" 11 y_Heap_init ∈ TB := tb_mem 71 (by decide +kernel) (by decide +kernel)
theorem cl_Heap_15 : Cond.classLink "TriColourMachine$Heap" 15 "TriColourMachine$Cell" ∈ TB := tb_mem 75 (by decide +kernel) (by decide +kernel)
theorem cl_Cell_9 : Cond.classLink "TriColourMachine$Cell" 9 "TriColourMachine$Table" ∈ TB := tb_mem 86 (by decide +kernel) (by decide +kernel)
theorem cl_Cell_18 : Cond.classLink "TriColourMachine$Cell" 18 "TriColourMachine$Coroutine" ∈ TB := tb_mem 115 (by decide +kernel) (by decide +kernel)
theorem cl_TCM_16 : Cond.classLink "TriColourMachine" 16 "TriColourMachine$Processor" ∈ TB := tb_mem 213 (by decide +kernel) (by decide +kernel)
theorem ml_TCM_18 : Cond.methodLink "TriColourMachine" 18 y_Pro_init ∈ TB := tb_mem 215 (by decide +kernel) (by decide +kernel)
theorem cl_Pro_11 : Cond.classLink "TriColourMachine$Processor" 11 "TriColourMachine$Instruction" ∈ TB := tb_mem 219 (by decide +kernel) (by decide +kernel)
theorem cl_Pro_17 : Cond.classLink "TriColourMachine$Processor" 17 "TriColourMachine$Coroutine" ∈ TB := tb_mem 221 (by decide +kernel) (by decide +kernel)
theorem cl_Law_62 : Cond.classLink "TriColourMachineLaw" 62 "TriColourMachineModel" ∈ TB := tb_mem 675 (by decide +kernel) (by decide +kernel)
theorem ml_Law_64 : Cond.methodLink "TriColourMachineLaw" 64 y_Mod_init ∈ TB := tb_mem 677 (by decide +kernel) (by decide +kernel)
set_option maxHeartbeats 4000000 in
set_option maxRecDepth 100000 in
theorem n_Ins_init {l : Launch} {D : va_G} {t : Nat → ClassId} {ad : Nat → Nat} {σ : Nat → va_E} (hσ : σ 0 = .inr (3, [.int 0, .int 0, .int 0, .int 0])) : Cn l D t (tyc t) 1 ad y_Ins_init b_Ins_init 1 { frames := 1, cells := 0, slots := 0, locals := 20 } [.ref (ad 0)] σ 0 0 (fun _ _ => wIns) := by
  refine ctn_of (by decide) (Nat.le_of_ble_eq_true rfl) ?_
  intro Γ hL hDD hN h r hao hnm
  refine g_world (σ' := fun _ => .inr (3, [.int 0, .int 0, .int 0, .int 0])) (one_cell hσ) ?_
  refine g_at (L' := [some (.ref (ad 0))]) rfl rfl rfl ?_
  refine g_aload_n h d_Ins_init_0 rfl rfl ?_
  refine g_objInit h oi_Ins oi_in oi_cd ⟨by decide, by decide⟩ (by decide) d_Ins_init_1 ?_
  refine g_aload_n h d_Ins_init_4 rfl rfl ?_
  refine g_iconst (v := -1) h d_Ins_init_5 (by decide) ?_
  refine g_put h i_Ins 0 (by decide) rfl rfl 0 (by decide) t_Ins t_Ins_ok n_Ins f_Ins_9 rfl rfl rfl (Nat.le_of_ble_eq_true rfl) d_Ins_init_6 ?_
  refine g_aload_n h d_Ins_init_9 rfl rfl ?_
  refine g_iconst (v := 0) h d_Ins_init_10 (by decide) ?_
  refine g_put h i_Ins 0 (by decide) rfl rfl 1 (by decide) t_Ins t_Ins_ok n_Ins f_Ins_15 rfl rfl rfl (Nat.le_of_ble_eq_true rfl) d_Ins_init_11 ?_
  refine g_aload_n h d_Ins_init_14 rfl rfl ?_
  refine g_iconst (v := 0) h d_Ins_init_15 (by decide) ?_
  refine g_put h i_Ins 0 (by decide) rfl rfl 2 (by decide) t_Ins t_Ins_ok n_Ins f_Ins_18 rfl rfl rfl (Nat.le_of_ble_eq_true rfl) d_Ins_init_16 ?_
  refine g_aload_n h d_Ins_init_19 rfl rfl ?_
  refine g_iconst (v := 0) h d_Ins_init_20 (by decide) ?_
  refine g_put h i_Ins 0 (by decide) rfl rfl 3 (by decide) t_Ins t_Ins_ok n_Ins f_Ins_21 rfl rfl rfl (Nat.le_of_ble_eq_true rfl) d_Ins_init_21 ?_
  exact g_vretN h r d_Ins_init_24 (fun _ _ => rfl) (fun k hk => by
    have : k = 0 := by omega
    subst this
    rfl)
set_option maxHeartbeats 4000000 in
set_option maxRecDepth 100000 in
theorem n_Tab_init {l : Launch} {D : va_G} {t : Nat → ClassId} {ad : Nat → Nat} {σ : Nat → va_E} (hσ : σ 0 = .inr (5, [.null, .null, .int 0, .int 0])) : Cn l D t (tyc t) 3 ad y_Tab_init b_Tab_init 1 { frames := 1, cells := 2, slots := 12, locals := 20 } [.ref (ad 0)] σ 2 12 (fun ad2 => wTab ad2 t) := by
  refine ctn_of (by decide) (Nat.le_of_ble_eq_true rfl) ?_
  intro Γ hL hDD hN h r hao hnm
  refine g_world (σ' := fun _ => .inr (5, [.null, .null, .int 0, .int 0])) (one_cell hσ) ?_
  refine g_at (L' := [some (.ref (ad 0))]) rfl rfl rfl ?_
  refine g_aload_n h d_Tab_init_0 rfl rfl ?_
  refine g_objInit h oi_Tab oi_in oi_cd ⟨by decide, by decide⟩ (by decide) d_Tab_init_1 ?_
  refine g_aload_n h d_Tab_init_4 rfl rfl ?_
  refine g_bipush (v := 6) h d_Tab_init_5 (by decide) ?_
  refine g_newl h 0 rfl ac_long (m := 6) (by decide) (by decide) (by decide) ⟨by show _ ≤ 2; decide, by show _ ≤ 12; decide⟩ d_Tab_init_7 (fun q7 => ?_)
  refine g_putF h i_Tab 0 (by decide) rfl rfl 0 (by decide) t_Tab t_Tab_ok n_Tab f_Tab_9 rfl hnm rfl rfl rfl (Nat.le_of_ble_eq_true rfl) d_Tab_init_9 ?_
  refine g_aload_n h d_Tab_init_12 rfl rfl ?_
  refine g_bipush (v := 6) h d_Tab_init_13 (by decide) ?_
  refine g_newl h 0 rfl ac_long (m := 6) (by decide) (by decide) (by decide) ⟨by show _ ≤ 2; decide, by show _ ≤ 12; decide⟩ d_Tab_init_15 (fun q15 => ?_)
  refine g_putF h i_Tab 0 (by decide) rfl rfl 1 (by decide) t_Tab t_Tab_ok n_Tab f_Tab_15 rfl hnm rfl rfl rfl (Nat.le_of_ble_eq_true rfl) d_Tab_init_17 ?_
  refine g_aload_n h d_Tab_init_20 rfl rfl ?_
  refine g_iconst (v := 0) h d_Tab_init_21 (by decide) ?_
  refine g_put h i_Tab 0 (by decide) rfl rfl 2 (by decide) t_Tab t_Tab_ok n_Tab f_Tab_18 rfl rfl rfl (Nat.le_of_ble_eq_true rfl) d_Tab_init_22 ?_
  refine g_aload_n h d_Tab_init_25 rfl rfl ?_
  refine g_iconst (v := -1) h d_Tab_init_26 (by decide) ?_
  refine g_put h i_Tab 0 (by decide) rfl rfl 3 (by decide) t_Tab t_Tab_ok n_Tab f_Tab_22 rfl rfl rfl (Nat.le_of_ble_eq_true rfl) d_Tab_init_27 ?_
  exact g_vretN h r d_Tab_init_30 (fun k hk => by
    have : k = 0 := by omega
    subst this
    rfl) (fun k hk => by
    rcases (show k = 0 ∨ k = 1 ∨ k = 2 by omega) with rfl | rfl | rfl <;> rfl)
set_option maxHeartbeats 4000000 in
set_option maxRecDepth 100000 in
theorem n_Cor_init {l : Launch} {D : va_G} {t : Nat → ClassId} {ad : Nat → Nat} {σ : Nat → va_E} (hσ : σ 0 = .inr (1, [.null, .int 0, .int 0, .int 0, .int 0, .int 0])) : Cn l D t (tyc t) 2 ad y_Cor_init b_Cor_init 1 { frames := 1, cells := 1, slots := 4, locals := 20 } [.ref (ad 0)] σ 1 4 (fun ad2 => wCor ad2 t) := by
  refine ctn_of (by decide) (Nat.le_of_ble_eq_true rfl) ?_
  intro Γ hL hDD hN h r hao hnm
  refine g_world (σ' := fun _ => .inr (1, [.null, .int 0, .int 0, .int 0, .int 0, .int 0])) (one_cell hσ) ?_
  refine g_at (L' := [some (.ref (ad 0))]) rfl rfl rfl ?_
  refine g_aload_n h d_Cor_init_0 rfl rfl ?_
  refine g_objInit h oi_Cor oi_in oi_cd ⟨by decide, by decide⟩ (by decide) d_Cor_init_1 ?_
  refine g_aload_n h d_Cor_init_4 rfl rfl ?_
  refine g_iconst (v := 4) h d_Cor_init_5 (by decide) ?_
  refine g_newl h 0 rfl ac_long (m := 4) (by decide) (by decide) (by decide) ⟨by show _ ≤ 1; decide, by show _ ≤ 4; decide⟩ d_Cor_init_6 (fun q6 => ?_)
  refine g_putF h i_Cor 0 (by decide) rfl rfl 0 (by decide) t_Cor t_Cor_ok n_Cor f_Cor_9 rfl hnm rfl rfl rfl (Nat.le_of_ble_eq_true rfl) d_Cor_init_8 ?_
  refine g_aload_n h d_Cor_init_11 rfl rfl ?_
  refine g_iconst (v := 0) h d_Cor_init_12 (by decide) ?_
  refine g_put h i_Cor 0 (by decide) rfl rfl 1 (by decide) t_Cor t_Cor_ok n_Cor f_Cor_15 rfl rfl rfl (Nat.le_of_ble_eq_true rfl) d_Cor_init_13 ?_
  refine g_aload_n h d_Cor_init_16 rfl rfl ?_
  refine g_iconst (v := 0) h d_Cor_init_17 (by decide) ?_
  refine g_put h i_Cor 0 (by decide) rfl rfl 2 (by decide) t_Cor t_Cor_ok n_Cor f_Cor_19 rfl rfl rfl (Nat.le_of_ble_eq_true rfl) d_Cor_init_18 ?_
  refine g_aload_n h d_Cor_init_21 rfl rfl ?_
  refine g_iconst (v := 0) h d_Cor_init_22 (by decide) ?_
  refine g_put h i_Cor 0 (by decide) rfl rfl 3 (by decide) t_Cor t_Cor_ok n_Cor f_Cor_22 rfl rfl rfl (Nat.le_of_ble_eq_true rfl) d_Cor_init_23 ?_
  refine g_aload_n h d_Cor_init_26 rfl rfl ?_
  refine g_iconst (v := 0) h d_Cor_init_27 (by decide) ?_
  refine g_put h i_Cor 0 (by decide) rfl rfl 4 (by decide) t_Cor t_Cor_ok n_Cor f_Cor_25 rfl rfl rfl (Nat.le_of_ble_eq_true rfl) d_Cor_init_28 ?_
  refine g_aload_n h d_Cor_init_31 rfl rfl ?_
  refine g_iconst (v := 0) h d_Cor_init_32 (by decide) ?_
  refine g_put h i_Cor 0 (by decide) rfl rfl 5 (by decide) t_Cor t_Cor_ok n_Cor f_Cor_28 rfl rfl rfl (Nat.le_of_ble_eq_true rfl) d_Cor_init_33 ?_
  exact g_vretN h r d_Cor_init_36 (fun k hk => by
    have : k = 0 := by omega
    subst this
    rfl) (fun k hk => by
    rcases (show k = 0 ∨ k = 1 by omega) with rfl | rfl <;> rfl)
set_option maxHeartbeats 4000000 in
set_option maxRecDepth 100000 in
theorem n_Cell_init {l : Launch} {D : va_G} {t : Nat → ClassId} {ad : Nat → Nat} {σ : Nat → va_E} (hσ : σ 0 = .inr (0, [.null, .null, .int 0, .int 0])) : Cn l D t (tyc t) 6 ad y_Cell_init b_Cell_init 1 { frames := 2, cells := 5, slots := 26, locals := 60 } [.ref (ad 0)] σ 5 26 (fun ad2 => wCell ad2 t) := by
  refine ctn_of (by decide) (Nat.le_of_ble_eq_true rfl) ?_
  intro Γ hL hDD hN h r hao hnm
  refine g_world (σ' := fun _ => .inr (0, [.null, .null, .int 0, .int 0])) (one_cell hσ) ?_
  refine g_at (L' := [some (.ref (ad 0))]) rfl rfl rfl ?_
  refine g_aload_n h d_Cell_init_0 rfl rfl ?_
  refine g_objInit h oi_Cell oi_in oi_cd ⟨by decide, by decide⟩ (by decide) d_Cell_init_1 ?_
  refine g_aload_n h d_Cell_init_4 rfl rfl ?_
  refine g_new (ci := 5) (fs := [.null, .null, .int 0, .int 0]) h i_Tab t_Tab t_Tab_ok cl_Cell_9 ic_Tab ii_Tab rfl (by decide) ⟨by show _ ≤ 5; decide, by show _ ≤ 26; decide⟩ d_Cell_init_5 (fun q5 => ?_)
  refine g_dup h d_Cell_init_8 rfl ?_
  refine g_initN (q := 1) h tb_good hao (by rw [hL, hDD]; exact n_Tab_init rfl) nl_Cell_11 wi_Tab rfl nm_Tab_init rfl ⟨rfl, rfl, by decide, by decide, by show _ ≤ 5; decide, by show _ ≤ 26; decide⟩ rfl (Nat.le_of_ble_eq_true rfl) d_Cell_init_9 ?_
  intro ad9 σ9 ea9 es9
  refine g_world (sgj_1 (fun k hk => rfl) es9) ?_
  refine g_putF h i_Cell 0 (by decide) rfl rfl 0 (by decide) t_Cell t_Cell_ok n_Cell f_Cell_12 rfl hnm rfl rfl rfl (Nat.le_of_ble_eq_true rfl) d_Cell_init_12 ?_
  refine g_aload_n h d_Cell_init_15 rfl rfl ?_
  refine g_new (ci := 1) (fs := [.null, .int 0, .int 0, .int 0, .int 0, .int 0]) h i_Cor t_Cor t_Cor_ok cl_Cell_18 ic_Cor ii_Cor rfl (by decide) ⟨by show _ ≤ 5; decide, by show _ ≤ 26; decide⟩ d_Cell_init_16 (fun q16 => ?_)
  refine g_dup h d_Cell_init_19 rfl ?_
  refine g_initN (q := 4) h tb_good hao (by rw [hL, hDD]; exact n_Cor_init rfl) nl_Cell_20 wi_Cor rfl nm_Cor_init rfl ⟨rfl, rfl, by decide, by decide, by show _ ≤ 5; decide, by show _ ≤ 26; decide⟩ rfl (Nat.le_of_ble_eq_true rfl) d_Cell_init_20 ?_
  intro ad20 σ20 ea20 es20
  refine g_world (sgj_1 (fun k hk => rfl) es20) ?_
  refine g_putF h i_Cell 0 (by decide) rfl rfl 1 (by decide) t_Cell t_Cell_ok n_Cell f_Cell_21 rfl hnm rfl rfl rfl (Nat.le_of_ble_eq_true rfl) d_Cell_init_23 ?_
  refine g_aload_n h d_Cell_init_26 rfl rfl ?_
  refine g_iconst (v := 0) h d_Cell_init_27 (by decide) ?_
  refine g_put h i_Cell 0 (by decide) rfl rfl 2 (by decide) t_Cell t_Cell_ok n_Cell f_Cell_25 rfl rfl rfl (Nat.le_of_ble_eq_true rfl) d_Cell_init_28 ?_
  refine g_aload_n h d_Cell_init_31 rfl rfl ?_
  refine g_iconst (v := 0) h d_Cell_init_32 (by decide) ?_
  refine g_put h i_Cell 0 (by decide) rfl rfl 3 (by decide) t_Cell t_Cell_ok n_Cell f_Cell_29 rfl rfl rfl (Nat.le_of_ble_eq_true rfl) d_Cell_init_33 ?_
  refine g_vretN h r d_Cell_init_36 (fun k hk => ?_) (fun k hk => ?_)
  · have z : k = 0 := by omega
    subst z
    rfl
  · rcases (show k = 0 ∨ k = 1 ∨ k = 2 ∨ k = 3 ∨ k = 4 ∨ k = 5 by omega) with rfl | rfl | rfl | rfl | rfl | rfl
    · show Sum.inr (0, [Value.ref q5, Value.ref q16, Value.int 0, Value.int 0]) = Sum.inr (0, [Value.ref (ad9 0), Value.ref (ad20 0), Value.int 0, Value.int 0])
      rw [ea9, ea20]
      rfl
    · rfl
    · rfl
    · rfl
    · rfl
    · rfl
