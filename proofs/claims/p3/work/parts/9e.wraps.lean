/-! the law's wrappers: what they answer and leave, out of what the class's method does -/
abbrev rmW : Room := { frames := 9, cells := 1, slots := 6, locals := 220 }
/-- the class's world and the array of one long behind it -/
def wo (ad : Nat → Nat) (t : Nat → ClassId) (C : CS) (f : Nat → Int64) : Nat → va_E := mrg 171 (wc ad t C) (fun _ => .inl (t 0, 1, .inr (.inl f)))
abbrev Cw (l : Launch) (D : va_G) (t : Nat → ClassId) (ad : Nat → Nat) (y : MethodName) (b : ByteArray) (n : Nat) (hh : List (Nat × Nat × Nat × Nat)) (As : List Value) (C : CS) (r : Int32) (C2 : CS) : Prop := Ctk l D CL (tyc t) NL 171 ad y (.codeWith y b n (some .int) hh :: TB) rmW As (wc ad t C) (fun v σ2 => v = some (.int r) ∧ σ2 = wc ad t C2)
abbrev Cwo (l : Launch) (D : va_G) (t : Nat → ClassId) (ad : Nat → Nat) (y : MethodName) (b : ByteArray) (n : Nat) (hh : List (Nat × Nat × Nat × Nat)) (As : List Value) (C : CS) (f : Nat → Int64) (r : Int32) (C2 : CS) (f2 : Nat → Int64) : Prop := Ctk l D CL (tyc t) NL 172 ad y (.codeWith y b n (some .int) hh :: TB) rmW As (wo ad t C f) (fun v σ2 => v = some (.int r) ∧ σ2 = wo ad t C2 f2)
theorem gl_mrg {N : Nat} {ad : Nat → Nat} {σ τ : Nat → va_E} : gl N ad (mrg N τ σ) = gl N ad τ := gl_congr (fun k hk => ⟨rfl, if_pos hk⟩)
theorem wo_gl {ad : Nat → Nat} {t : Nat → ClassId} {C : CS} {f : Nat → Int64} : gl 171 ad (wo ad t C f) = gl 171 ad (wc ad t C) := gl_mrg
theorem ct_mrg {l : Launch} {D : va_G} {cl : List vw_C} {tys : List (ClassId × FieldType)} {nl : List (String × Nat × MethodName × String)} {N : Nat} {ad : Nat → Nat} {y : MethodName} {ws : List Cond} {rm : Room} {As : List Value} {σ τ : Nat → va_E} {Rr : Option Value → (Nat → va_E) → Prop} (h : Ct l D cl tys nl N ad y ws rm As τ Rr) : Ct l D cl tys nl N ad y ws rm As (mrg N τ σ) Rr := by
  unfold Ct cPc at h ⊢
  rw [gl_mrg]
  exact h
theorem cx_mrg {l : Launch} {D : va_G} {cl : List vw_C} {tys : List (ClassId × FieldType)} {nl : List (String × Nat × MethodName × String)} {N : Nat} {ad : Nat → Nat} {y : MethodName} {ws : List Cond} {rm : Room} {As : List Value} {σ τ : Nat → va_E} {Rr : String → (Nat → va_E) → Prop} (h : CtX l D cl tys nl N ad y ws rm As τ Rr) : CtX l D cl tys nl N ad y ws rm As (mrg N τ σ) Rr := by
  unfold CtX cPc at h ⊢
  rw [gl_mrg]
  exact h
theorem wo_put {ad : Nat → Nat} {t : Nat → ClassId} {C C2 : CS} {f g : Nat → Int64} : ∀ k, k < 172 → va_up (mrg 171 (wc ad t C2) (wo ad t C f)) 171 (.inl (t 0, 1, .inr (.inl g))) k = wo ad t C2 g k := fun k hk => by
  unfold va_up wo mrg
  by_cases z : k = 171
  · subst z; simp
  · have : k < 171 := by omega
    simp [z, this]
theorem wo_thr {ad : Nat → Nat} {t : Nat → ClassId} {C C2 : CS} {f : Nat → Int64} : ∀ k, k < 172 → mrg 171 (wc ad t C2) (wo ad t C f) k = wo ad t C2 f k := fun k hk => by
  unfold wo mrg
  by_cases z : k < 171 <;> simp [z]
theorem wc_thr {ad : Nat → Nat} {t : Nat → ClassId} {C C2 : CS} : ∀ k, k < 171 → mrg 171 (wc ad t C2) (wc ad t C) k = wc ad t C2 k := fun k hk => if_pos hk
theorem wo_head {ad : Nat → Nat} {t : Nat → ClassId} {C : CS} {f : Nat → Int64} : wo ad t C f (ix 0 0) = wc ad t C (ix 0 0) := rfl
theorem wo_out {ad : Nat → Nat} {t : Nat → ClassId} {C C2 : CS} {f : Nat → Int64} : mrg 171 (wc ad t C2) (wo ad t C f) 171 = .inl (t 0, 1, .inr (.inl f)) := rfl
set_option maxRecDepth 100000 in
theorem w_Law_code {l : Launch} {D : va_G} {t : Nat → ClassId} {ad : Nat → Nat} {C C2 : CS} {rmY : Room} {a1 a2 a3 a4 a5 a6 : Int32} (hM : Cd l D t ad y_TCM_code b_TCM_code 8 none rmY [.ref (ad (ix 0 0)), .int a1, .int a2, .int a3, .int a4, .int a5, .int a6] C (none) C2) (hr : cRm rmY rmW 8 0 0) : Cw l D t ad y_Law_code b_Law_code 8 [(0, 13, 16, 13)] [.ref (ad (ix 0 0)), .int a1, .int a2, .int a3, .int a4, .int a5, .int a6] C 0 C2 := by
  refine ctW_of (by decide) (Nat.le_of_ble_eq_true rfl) ?_
  intro Γ hL hDD hN h r hx
  refine g_at (L' := [some (.ref (ad (ix 0 0))), some (.int a1), some (.int a2), some (.int a3), some (.int a4), some (.int a5), some (.int a6), none]) rfl rfl rfl ?_
  refine g_aload_n h d_Law_code_0 rfl rfl ?_
  refine g_iload_n h d_Law_code_1 rfl rfl ?_
  refine g_iload_n h d_Law_code_2 rfl rfl ?_
  refine g_iload_n h d_Law_code_3 rfl rfl ?_
  refine g_iload h d_Law_code_4 rfl ?_
  refine g_iload h d_Law_code_6 rfl ?_
  refine g_iload h d_Law_code_8 rfl ?_
  refine g_callVP h tb_good (N1 := 171) (Nat.le_of_ble_eq_true rfl) (by rw [hL, hDD]; exact hM) (ix_lt 0 (by decide) _ (by decide)) (wc_at (by decide) (by decide)) rfl v_Law_7 nm_TCM_code rfl hr rfl (Nat.le_of_ble_eq_true rfl) d_Law_code_10 ?_
  rintro v0 σ2 ⟨rfl, rfl⟩
  refine g_world (σ' := wc ad t C2) wc_thr ?_
  refine g_goto (tgt := 20) h d_Law_code_13 (by decide) ?_
  refine g_iconst (v := 0) h d_Law_code_20 (by decide) ?_
  refine g_widen (k2 := 1) (n2 := 6) (by decide) (by decide) ?_
  exact g_iret h r d_Law_code_21 (⟨rfl, rfl⟩)
set_option maxRecDepth 100000 in
theorem w_Law_code_IAE {l : Launch} {D : va_G} {t : Nat → ClassId} {ad : Nat → Nat} {C C2 : CS} {rmY : Room} {a1 a2 a3 a4 a5 a6 : Int32} (hM : Ce l D t ad y_TCM_code b_TCM_code 8 none rmY [.ref (ad (ix 0 0)), .int a1, .int a2, .int a3, .int a4, .int a5, .int a6] C X_IAE C2) (hr : cRx rmY rmW 8) : Cw l D t ad y_Law_code b_Law_code 8 [(0, 13, 16, 13)] [.ref (ad (ix 0 0)), .int a1, .int a2, .int a3, .int a4, .int a5, .int a6] C 1 C2 := by
  refine ctW_of (by decide) (Nat.le_of_ble_eq_true rfl) ?_
  intro Γ hL hDD hN h r hx
  refine g_at (L' := [some (.ref (ad (ix 0 0))), some (.int a1), some (.int a2), some (.int a3), some (.int a4), some (.int a5), some (.int a6), none]) rfl rfl rfl ?_
  refine g_aload_n h d_Law_code_0 rfl rfl ?_
  refine g_iload_n h d_Law_code_1 rfl rfl ?_
  refine g_iload_n h d_Law_code_2 rfl rfl ?_
  refine g_iload_n h d_Law_code_3 rfl rfl ?_
  refine g_iload h d_Law_code_4 rfl ?_
  refine g_iload h d_Law_code_6 rfl ?_
  refine g_iload h d_Law_code_8 rfl ?_
  refine g_catchV (p := []) (r := []) (a0 := 0) (a1 := 13) (hpc := 16) (ty := 13) (X := X_IAE) (τ := wc ad t C2) h tb_good (N1 := 171) (Nat.le_of_ble_eq_true rfl) hx (fun z hz => absurd hz (List.not_mem_nil)) ⟨⟨Nat.zero_le _, by decide⟩, by decide, xl_Law_13, xin_IAE⟩ (by rw [hL, hDD]; exact hM) (ix_lt 0 (by decide) _ (by decide)) (wc_at (by decide) (by decide)) rfl v_Law_7 nm_TCM_code rfl hr rfl (Nat.le_of_ble_eq_true rfl) d_Law_code_10 ?_
  intro x
  refine g_world (σ' := wc ad t C2) wc_thr ?_
  refine g_astore h d_Law_code_16 rfl (by rw [hN]; decide) ?_
  refine g_iconst (v := 1) h d_Law_code_18 (by decide) ?_
  exact g_iret h r d_Law_code_19 (⟨rfl, rfl⟩)
set_option maxRecDepth 100000 in
theorem w_Law_number {l : Launch} {D : va_G} {t : Nat → ClassId} {ad : Nat → Nat} {C C2 : CS} {rmY : Room} {a1 a2 : Int32} (hM : Cd l D t ad y_TCM_number b_TCM_number 3 none rmY [.ref (ad (ix 0 0)), .int a1, .int a2] C (none) C2) (hr : cRm rmY rmW 3 0 0) : Cw l D t ad y_Law_number b_Law_number 4 [(0, 6, 9, 13)] [.ref (ad (ix 0 0)), .int a1, .int a2] C 0 C2 := by
  refine ctW_of (by decide) (Nat.le_of_ble_eq_true rfl) ?_
  intro Γ hL hDD hN h r hx
  refine g_at (L' := [some (.ref (ad (ix 0 0))), some (.int a1), some (.int a2), none]) rfl rfl rfl ?_
  refine g_aload_n h d_Law_number_0 rfl rfl ?_
  refine g_iload_n h d_Law_number_1 rfl rfl ?_
  refine g_iload_n h d_Law_number_2 rfl rfl ?_
  refine g_callVP h tb_good (N1 := 171) (Nat.le_of_ble_eq_true rfl) (by rw [hL, hDD]; exact hM) (ix_lt 0 (by decide) _ (by decide)) (wc_at (by decide) (by decide)) rfl v_Law_15 nm_TCM_number rfl hr rfl (Nat.le_of_ble_eq_true rfl) d_Law_number_3 ?_
  rintro v0 σ2 ⟨rfl, rfl⟩
  refine g_world (σ' := wc ad t C2) wc_thr ?_
  refine g_goto (tgt := 12) h d_Law_number_6 (by decide) ?_
  refine g_iconst (v := 0) h d_Law_number_12 (by decide) ?_
  refine g_widen (k2 := 1) (n2 := 6) (by decide) (by decide) ?_
  exact g_iret h r d_Law_number_13 (⟨rfl, rfl⟩)
set_option maxRecDepth 100000 in
theorem w_Law_number_IAE {l : Launch} {D : va_G} {t : Nat → ClassId} {ad : Nat → Nat} {C C2 : CS} {rmY : Room} {a1 a2 : Int32} (hM : Ce l D t ad y_TCM_number b_TCM_number 3 none rmY [.ref (ad (ix 0 0)), .int a1, .int a2] C X_IAE C2) (hr : cRx rmY rmW 3) : Cw l D t ad y_Law_number b_Law_number 4 [(0, 6, 9, 13)] [.ref (ad (ix 0 0)), .int a1, .int a2] C 1 C2 := by
  refine ctW_of (by decide) (Nat.le_of_ble_eq_true rfl) ?_
  intro Γ hL hDD hN h r hx
  refine g_at (L' := [some (.ref (ad (ix 0 0))), some (.int a1), some (.int a2), none]) rfl rfl rfl ?_
  refine g_aload_n h d_Law_number_0 rfl rfl ?_
  refine g_iload_n h d_Law_number_1 rfl rfl ?_
  refine g_iload_n h d_Law_number_2 rfl rfl ?_
  refine g_catchV (p := []) (r := []) (a0 := 0) (a1 := 6) (hpc := 9) (ty := 13) (X := X_IAE) (τ := wc ad t C2) h tb_good (N1 := 171) (Nat.le_of_ble_eq_true rfl) hx (fun z hz => absurd hz (List.not_mem_nil)) ⟨⟨Nat.zero_le _, by decide⟩, by decide, xl_Law_13, xin_IAE⟩ (by rw [hL, hDD]; exact hM) (ix_lt 0 (by decide) _ (by decide)) (wc_at (by decide) (by decide)) rfl v_Law_15 nm_TCM_number rfl hr rfl (Nat.le_of_ble_eq_true rfl) d_Law_number_3 ?_
  intro x
  refine g_world (σ' := wc ad t C2) wc_thr ?_
  refine g_astore_n h d_Law_number_9 rfl rfl (by rw [hN]; decide) ?_
  refine g_iconst (v := 1) h d_Law_number_10 (by decide) ?_
  exact g_iret h r d_Law_number_11 (⟨rfl, rfl⟩)
set_option maxRecDepth 100000 in
theorem w_Law_move {l : Launch} {D : va_G} {t : Nat → ClassId} {ad : Nat → Nat} {C C2 : CS} {rmY : Room} {a1 a2 : Int32} (hM : Cd l D t ad y_TCM_move b_TCM_move 3 none rmY [.ref (ad (ix 0 0)), .int a1, .int a2] C (none) C2) (hr : cRm rmY rmW 3 0 0) : Cw l D t ad y_Law_move b_Law_move 4 [(0, 6, 9, 13)] [.ref (ad (ix 0 0)), .int a1, .int a2] C 0 C2 := by
  refine ctW_of (by decide) (Nat.le_of_ble_eq_true rfl) ?_
  intro Γ hL hDD hN h r hx
  refine g_at (L' := [some (.ref (ad (ix 0 0))), some (.int a1), some (.int a2), none]) rfl rfl rfl ?_
  refine g_aload_n h d_Law_move_0 rfl rfl ?_
  refine g_iload_n h d_Law_move_1 rfl rfl ?_
  refine g_iload_n h d_Law_move_2 rfl rfl ?_
  refine g_callVP h tb_good (N1 := 171) (Nat.le_of_ble_eq_true rfl) (by rw [hL, hDD]; exact hM) (ix_lt 0 (by decide) _ (by decide)) (wc_at (by decide) (by decide)) rfl v_Law_19 nm_TCM_move rfl hr rfl (Nat.le_of_ble_eq_true rfl) d_Law_move_3 ?_
  rintro v0 σ2 ⟨rfl, rfl⟩
  refine g_world (σ' := wc ad t C2) wc_thr ?_
  refine g_goto (tgt := 12) h d_Law_move_6 (by decide) ?_
  refine g_iconst (v := 0) h d_Law_move_12 (by decide) ?_
  refine g_widen (k2 := 1) (n2 := 6) (by decide) (by decide) ?_
  exact g_iret h r d_Law_move_13 (⟨rfl, rfl⟩)
set_option maxRecDepth 100000 in
theorem w_Law_move_IAE {l : Launch} {D : va_G} {t : Nat → ClassId} {ad : Nat → Nat} {C C2 : CS} {rmY : Room} {a1 a2 : Int32} (hM : Ce l D t ad y_TCM_move b_TCM_move 3 none rmY [.ref (ad (ix 0 0)), .int a1, .int a2] C X_IAE C2) (hr : cRx rmY rmW 3) : Cw l D t ad y_Law_move b_Law_move 4 [(0, 6, 9, 13)] [.ref (ad (ix 0 0)), .int a1, .int a2] C 1 C2 := by
  refine ctW_of (by decide) (Nat.le_of_ble_eq_true rfl) ?_
  intro Γ hL hDD hN h r hx
  refine g_at (L' := [some (.ref (ad (ix 0 0))), some (.int a1), some (.int a2), none]) rfl rfl rfl ?_
  refine g_aload_n h d_Law_move_0 rfl rfl ?_
  refine g_iload_n h d_Law_move_1 rfl rfl ?_
  refine g_iload_n h d_Law_move_2 rfl rfl ?_
  refine g_catchV (p := []) (r := []) (a0 := 0) (a1 := 6) (hpc := 9) (ty := 13) (X := X_IAE) (τ := wc ad t C2) h tb_good (N1 := 171) (Nat.le_of_ble_eq_true rfl) hx (fun z hz => absurd hz (List.not_mem_nil)) ⟨⟨Nat.zero_le _, by decide⟩, by decide, xl_Law_13, xin_IAE⟩ (by rw [hL, hDD]; exact hM) (ix_lt 0 (by decide) _ (by decide)) (wc_at (by decide) (by decide)) rfl v_Law_19 nm_TCM_move rfl hr rfl (Nat.le_of_ble_eq_true rfl) d_Law_move_3 ?_
  intro x
  refine g_world (σ' := wc ad t C2) wc_thr ?_
  refine g_astore_n h d_Law_move_9 rfl rfl (by rw [hN]; decide) ?_
  refine g_iconst (v := 1) h d_Law_move_10 (by decide) ?_
  exact g_iret h r d_Law_move_11 (⟨rfl, rfl⟩)
set_option maxRecDepth 100000 in
theorem w_Law_make {l : Launch} {D : va_G} {t : Nat → ClassId} {ad : Nat → Nat} {C C2 : CS} {rmY : Room} {a1 a2 : Int32} {f : Nat → Int64} {v : Int32} (hM : Cd l D t ad y_TCM_make b_TCM_make 3 (some .int) rmY [.ref (ad (ix 0 0)), .int a1, .int a2] C (some (.int v)) C2) (hr : cRm rmY rmW 3 0 0) : Cwo l D t ad y_Law_make b_Law_make 5 [(0, 10, 13, 13), (0, 10, 17, 26)] [.ref (ad (ix 0 0)), .int a1, .int a2, .ref (ad 171)] C f 0 C2 (vp_updL f 0 v.toInt64) := by
  refine ctW_of (by decide) (Nat.le_of_ble_eq_true rfl) ?_
  intro Γ hL hDD hN h r hx
  refine g_at (L' := [some (.ref (ad (ix 0 0))), some (.int a1), some (.int a2), some (.ref (ad 171)), none]) rfl rfl rfl ?_
  refine g_aload_n h d_Law_make_0 rfl rfl ?_
  refine g_iconst (v := 0) h d_Law_make_1 (by decide) ?_
  refine g_aload_n h d_Law_make_2 rfl rfl ?_
  refine g_iload_n h d_Law_make_3 rfl rfl ?_
  refine g_iload_n h d_Law_make_4 rfl rfl ?_
  refine g_callVP h tb_good (N1 := 171) (Nat.le_of_ble_eq_true rfl) (by rw [hL, hDD]; exact ct_mrg hM) (ix_lt 0 (by decide) _ (by decide)) (wo_head.trans (wc_at (by decide) (by decide))) rfl v_Law_22 nm_TCM_make rfl hr rfl (Nat.le_of_ble_eq_true rfl) d_Law_make_5 ?_
  rintro v0 σ2 ⟨rfl, rfl⟩
  refine g_at (st' := .int v :: [.int 0, .ref (ad 171)]) rfl rfl rfl ?_
  refine g_i2l h d_Law_make_8 ?_
  refine g_lastore h 171 0 (Nat.lt_of_lt_of_le (by decide) (Nat.le_refl 172)) wo_out rfl (i := nI 0) (vp_in_nI (by decide) (by decide)) d_Law_make_9 ?_
  refine g_world (σ' := wo ad t C2 (vp_updL f 0 v.toInt64)) wo_put ?_
  refine g_goto (tgt := 21) h d_Law_make_10 (by decide) ?_
  refine g_iconst (v := 0) h d_Law_make_21 (by decide) ?_
  refine g_widen (k2 := 1) (n2 := 6) (by decide) (by decide) ?_
  exact g_iret h r d_Law_make_22 (⟨rfl, rfl⟩)
set_option maxRecDepth 100000 in
theorem w_Law_make_IAE {l : Launch} {D : va_G} {t : Nat → ClassId} {ad : Nat → Nat} {C C2 : CS} {rmY : Room} {a1 a2 : Int32} {f : Nat → Int64} (hM : Ce l D t ad y_TCM_make b_TCM_make 3 (some .int) rmY [.ref (ad (ix 0 0)), .int a1, .int a2] C X_IAE C2) (hr : cRx rmY rmW 3) : Cwo l D t ad y_Law_make b_Law_make 5 [(0, 10, 13, 13), (0, 10, 17, 26)] [.ref (ad (ix 0 0)), .int a1, .int a2, .ref (ad 171)] C f 1 C2 f := by
  refine ctW_of (by decide) (Nat.le_of_ble_eq_true rfl) ?_
  intro Γ hL hDD hN h r hx
  refine g_at (L' := [some (.ref (ad (ix 0 0))), some (.int a1), some (.int a2), some (.ref (ad 171)), none]) rfl rfl rfl ?_
  refine g_aload_n h d_Law_make_0 rfl rfl ?_
  refine g_iconst (v := 0) h d_Law_make_1 (by decide) ?_
  refine g_aload_n h d_Law_make_2 rfl rfl ?_
  refine g_iload_n h d_Law_make_3 rfl rfl ?_
  refine g_iload_n h d_Law_make_4 rfl rfl ?_
  refine g_catchV (p := []) (r := [(0, 10, 17, 26)]) (a0 := 0) (a1 := 10) (hpc := 13) (ty := 13) (X := X_IAE) (τ := wc ad t C2) h tb_good (N1 := 171) (Nat.le_of_ble_eq_true rfl) hx (fun z hz => absurd hz (List.not_mem_nil)) ⟨⟨Nat.zero_le _, by decide⟩, by decide, xl_Law_13, xin_IAE⟩ (by rw [hL, hDD]; exact cx_mrg hM) (ix_lt 0 (by decide) _ (by decide)) (wo_head.trans (wc_at (by decide) (by decide))) rfl v_Law_22 nm_TCM_make rfl hr rfl (Nat.le_of_ble_eq_true rfl) d_Law_make_5 ?_
  intro x
  refine g_world (σ' := wo ad t C2 f) wo_thr ?_
  refine g_astore h d_Law_make_13 rfl (by rw [hN]; decide) ?_
  refine g_iconst (v := 1) h d_Law_make_15 (by decide) ?_
  exact g_iret h r d_Law_make_16 (⟨rfl, rfl⟩)
set_option maxRecDepth 100000 in
theorem w_Law_make_ISE {l : Launch} {D : va_G} {t : Nat → ClassId} {ad : Nat → Nat} {C C2 : CS} {rmY : Room} {a1 a2 : Int32} {f : Nat → Int64} (hM : Ce l D t ad y_TCM_make b_TCM_make 3 (some .int) rmY [.ref (ad (ix 0 0)), .int a1, .int a2] C X_ISE C2) (hr : cRx rmY rmW 3) : Cwo l D t ad y_Law_make b_Law_make 5 [(0, 10, 13, 13), (0, 10, 17, 26)] [.ref (ad (ix 0 0)), .int a1, .int a2, .ref (ad 171)] C f 2 C2 f := by
  refine ctW_of (by decide) (Nat.le_of_ble_eq_true rfl) ?_
  intro Γ hL hDD hN h r hx
  refine g_at (L' := [some (.ref (ad (ix 0 0))), some (.int a1), some (.int a2), some (.ref (ad 171)), none]) rfl rfl rfl ?_
  refine g_aload_n h d_Law_make_0 rfl rfl ?_
  refine g_iconst (v := 0) h d_Law_make_1 (by decide) ?_
  refine g_aload_n h d_Law_make_2 rfl rfl ?_
  refine g_iload_n h d_Law_make_3 rfl rfl ?_
  refine g_iload_n h d_Law_make_4 rfl rfl ?_
  refine g_catchV (p := [(0, 10, 13, 13)]) (r := []) (a0 := 0) (a1 := 10) (hpc := 17) (ty := 26) (X := X_ISE) (τ := wc ad t C2) h tb_good (N1 := 171) (Nat.le_of_ble_eq_true rfl) hx (by
      intro z hz
      simp only [List.mem_cons, List.not_mem_nil, or_false] at hz
      subst hz
      · exact ⟨⟨Nat.zero_le _, by decide⟩, by decide, X_IAE, xl_Law_13, by decide⟩) ⟨⟨Nat.zero_le _, by decide⟩, by decide, xl_Law_26, xin_ISE⟩ (by rw [hL, hDD]; exact cx_mrg hM) (ix_lt 0 (by decide) _ (by decide)) (wo_head.trans (wc_at (by decide) (by decide))) rfl v_Law_22 nm_TCM_make rfl hr rfl (Nat.le_of_ble_eq_true rfl) d_Law_make_5 ?_
  intro x
  refine g_world (σ' := wo ad t C2 f) wo_thr ?_
  refine g_astore h d_Law_make_17 rfl (by rw [hN]; decide) ?_
  refine g_iconst (v := 2) h d_Law_make_19 (by decide) ?_
  exact g_iret h r d_Law_make_20 (⟨rfl, rfl⟩)
set_option maxRecDepth 100000 in
theorem w_Law_set {l : Launch} {D : va_G} {t : Nat → ClassId} {ad : Nat → Nat} {C C2 : CS} {rmY : Room} {a1 a2 a3 : Int32} (hM : Cd l D t ad y_TCM_set b_TCM_set 4 none rmY [.ref (ad (ix 0 0)), .int a1, .int a2, .int a3] C (none) C2) (hr : cRm rmY rmW 4 0 0) : Cw l D t ad y_Law_set b_Law_set 5 [(0, 7, 10, 13), (0, 7, 14, 26), (0, 7, 18, 32)] [.ref (ad (ix 0 0)), .int a1, .int a2, .int a3] C 0 C2 := by
  refine ctW_of (by decide) (Nat.le_of_ble_eq_true rfl) ?_
  intro Γ hL hDD hN h r hx
  refine g_at (L' := [some (.ref (ad (ix 0 0))), some (.int a1), some (.int a2), some (.int a3), none]) rfl rfl rfl ?_
  refine g_aload_n h d_Law_set_0 rfl rfl ?_
  refine g_iload_n h d_Law_set_1 rfl rfl ?_
  refine g_iload_n h d_Law_set_2 rfl rfl ?_
  refine g_iload_n h d_Law_set_3 rfl rfl ?_
  refine g_callVP h tb_good (N1 := 171) (Nat.le_of_ble_eq_true rfl) (by rw [hL, hDD]; exact hM) (ix_lt 0 (by decide) _ (by decide)) (wc_at (by decide) (by decide)) rfl v_Law_28 nm_TCM_set rfl hr rfl (Nat.le_of_ble_eq_true rfl) d_Law_set_4 ?_
  rintro v0 σ2 ⟨rfl, rfl⟩
  refine g_world (σ' := wc ad t C2) wc_thr ?_
  refine g_goto (tgt := 22) h d_Law_set_7 (by decide) ?_
  refine g_iconst (v := 0) h d_Law_set_22 (by decide) ?_
  refine g_widen (k2 := 1) (n2 := 6) (by decide) (by decide) ?_
  exact g_iret h r d_Law_set_23 (⟨rfl, rfl⟩)
set_option maxRecDepth 100000 in
theorem w_Law_set_IAE {l : Launch} {D : va_G} {t : Nat → ClassId} {ad : Nat → Nat} {C C2 : CS} {rmY : Room} {a1 a2 a3 : Int32} (hM : Ce l D t ad y_TCM_set b_TCM_set 4 none rmY [.ref (ad (ix 0 0)), .int a1, .int a2, .int a3] C X_IAE C2) (hr : cRx rmY rmW 4) : Cw l D t ad y_Law_set b_Law_set 5 [(0, 7, 10, 13), (0, 7, 14, 26), (0, 7, 18, 32)] [.ref (ad (ix 0 0)), .int a1, .int a2, .int a3] C 1 C2 := by
  refine ctW_of (by decide) (Nat.le_of_ble_eq_true rfl) ?_
  intro Γ hL hDD hN h r hx
  refine g_at (L' := [some (.ref (ad (ix 0 0))), some (.int a1), some (.int a2), some (.int a3), none]) rfl rfl rfl ?_
  refine g_aload_n h d_Law_set_0 rfl rfl ?_
  refine g_iload_n h d_Law_set_1 rfl rfl ?_
  refine g_iload_n h d_Law_set_2 rfl rfl ?_
  refine g_iload_n h d_Law_set_3 rfl rfl ?_
  refine g_catchV (p := []) (r := [(0, 7, 14, 26), (0, 7, 18, 32)]) (a0 := 0) (a1 := 7) (hpc := 10) (ty := 13) (X := X_IAE) (τ := wc ad t C2) h tb_good (N1 := 171) (Nat.le_of_ble_eq_true rfl) hx (fun z hz => absurd hz (List.not_mem_nil)) ⟨⟨Nat.zero_le _, by decide⟩, by decide, xl_Law_13, xin_IAE⟩ (by rw [hL, hDD]; exact hM) (ix_lt 0 (by decide) _ (by decide)) (wc_at (by decide) (by decide)) rfl v_Law_28 nm_TCM_set rfl hr rfl (Nat.le_of_ble_eq_true rfl) d_Law_set_4 ?_
  intro x
  refine g_world (σ' := wc ad t C2) wc_thr ?_
  refine g_astore h d_Law_set_10 rfl (by rw [hN]; decide) ?_
  refine g_iconst (v := 1) h d_Law_set_12 (by decide) ?_
  exact g_iret h r d_Law_set_13 (⟨rfl, rfl⟩)
set_option maxRecDepth 100000 in
theorem w_Law_set_ISE {l : Launch} {D : va_G} {t : Nat → ClassId} {ad : Nat → Nat} {C C2 : CS} {rmY : Room} {a1 a2 a3 : Int32} (hM : Ce l D t ad y_TCM_set b_TCM_set 4 none rmY [.ref (ad (ix 0 0)), .int a1, .int a2, .int a3] C X_ISE C2) (hr : cRx rmY rmW 4) : Cw l D t ad y_Law_set b_Law_set 5 [(0, 7, 10, 13), (0, 7, 14, 26), (0, 7, 18, 32)] [.ref (ad (ix 0 0)), .int a1, .int a2, .int a3] C 2 C2 := by
  refine ctW_of (by decide) (Nat.le_of_ble_eq_true rfl) ?_
  intro Γ hL hDD hN h r hx
  refine g_at (L' := [some (.ref (ad (ix 0 0))), some (.int a1), some (.int a2), some (.int a3), none]) rfl rfl rfl ?_
  refine g_aload_n h d_Law_set_0 rfl rfl ?_
  refine g_iload_n h d_Law_set_1 rfl rfl ?_
  refine g_iload_n h d_Law_set_2 rfl rfl ?_
  refine g_iload_n h d_Law_set_3 rfl rfl ?_
  refine g_catchV (p := [(0, 7, 10, 13)]) (r := [(0, 7, 18, 32)]) (a0 := 0) (a1 := 7) (hpc := 14) (ty := 26) (X := X_ISE) (τ := wc ad t C2) h tb_good (N1 := 171) (Nat.le_of_ble_eq_true rfl) hx (by
      intro z hz
      simp only [List.mem_cons, List.not_mem_nil, or_false] at hz
      subst hz
      · exact ⟨⟨Nat.zero_le _, by decide⟩, by decide, X_IAE, xl_Law_13, by decide⟩) ⟨⟨Nat.zero_le _, by decide⟩, by decide, xl_Law_26, xin_ISE⟩ (by rw [hL, hDD]; exact hM) (ix_lt 0 (by decide) _ (by decide)) (wc_at (by decide) (by decide)) rfl v_Law_28 nm_TCM_set rfl hr rfl (Nat.le_of_ble_eq_true rfl) d_Law_set_4 ?_
  intro x
  refine g_world (σ' := wc ad t C2) wc_thr ?_
  refine g_astore h d_Law_set_14 rfl (by rw [hN]; decide) ?_
  refine g_iconst (v := 2) h d_Law_set_16 (by decide) ?_
  exact g_iret h r d_Law_set_17 (⟨rfl, rfl⟩)
set_option maxRecDepth 100000 in
theorem w_Law_set_UOE {l : Launch} {D : va_G} {t : Nat → ClassId} {ad : Nat → Nat} {C C2 : CS} {rmY : Room} {a1 a2 a3 : Int32} (hM : Ce l D t ad y_TCM_set b_TCM_set 4 none rmY [.ref (ad (ix 0 0)), .int a1, .int a2, .int a3] C X_UOE C2) (hr : cRx rmY rmW 4) : Cw l D t ad y_Law_set b_Law_set 5 [(0, 7, 10, 13), (0, 7, 14, 26), (0, 7, 18, 32)] [.ref (ad (ix 0 0)), .int a1, .int a2, .int a3] C 3 C2 := by
  refine ctW_of (by decide) (Nat.le_of_ble_eq_true rfl) ?_
  intro Γ hL hDD hN h r hx
  refine g_at (L' := [some (.ref (ad (ix 0 0))), some (.int a1), some (.int a2), some (.int a3), none]) rfl rfl rfl ?_
  refine g_aload_n h d_Law_set_0 rfl rfl ?_
  refine g_iload_n h d_Law_set_1 rfl rfl ?_
  refine g_iload_n h d_Law_set_2 rfl rfl ?_
  refine g_iload_n h d_Law_set_3 rfl rfl ?_
  refine g_catchV (p := [(0, 7, 10, 13), (0, 7, 14, 26)]) (r := []) (a0 := 0) (a1 := 7) (hpc := 18) (ty := 32) (X := X_UOE) (τ := wc ad t C2) h tb_good (N1 := 171) (Nat.le_of_ble_eq_true rfl) hx (by
      intro z hz
      simp only [List.mem_cons, List.not_mem_nil, or_false] at hz
      rcases hz with rfl | rfl
      · exact ⟨⟨Nat.zero_le _, by decide⟩, by decide, X_IAE, xl_Law_13, by decide⟩
      · exact ⟨⟨Nat.zero_le _, by decide⟩, by decide, X_ISE, xl_Law_26, by decide⟩) ⟨⟨Nat.zero_le _, by decide⟩, by decide, xl_Law_32, xin_UOE⟩ (by rw [hL, hDD]; exact hM) (ix_lt 0 (by decide) _ (by decide)) (wc_at (by decide) (by decide)) rfl v_Law_28 nm_TCM_set rfl hr rfl (Nat.le_of_ble_eq_true rfl) d_Law_set_4 ?_
  intro x
  refine g_world (σ' := wc ad t C2) wc_thr ?_
  refine g_astore h d_Law_set_18 rfl (by rw [hN]; decide) ?_
  refine g_iconst (v := 3) h d_Law_set_20 (by decide) ?_
  exact g_iret h r d_Law_set_21 (⟨rfl, rfl⟩)
set_option maxRecDepth 100000 in
theorem w_Law_get {l : Launch} {D : va_G} {t : Nat → ClassId} {ad : Nat → Nat} {C C2 : CS} {rmY : Room} {a1 a2 a3 : Int32} {f : Nat → Int64} {v : Int64} (hM : Cd l D t ad y_TCM_get b_TCM_get 4 (some .long) rmY [.ref (ad (ix 0 0)), .int a1, .int a2, .int a3] C (some (.long v)) C2) (hr : cRm rmY rmW 4 0 0) : Cwo l D t ad y_Law_get b_Law_get 6 [(0, 11, 14, 13), (0, 11, 18, 26), (0, 11, 22, 32)] [.ref (ad (ix 0 0)), .int a1, .int a2, .int a3, .ref (ad 171)] C f 0 C2 (vp_updL f 0 v) := by
  refine ctW_of (by decide) (Nat.le_of_ble_eq_true rfl) ?_
  intro Γ hL hDD hN h r hx
  refine g_at (L' := [some (.ref (ad (ix 0 0))), some (.int a1), some (.int a2), some (.int a3), some (.ref (ad 171)), none]) rfl rfl rfl ?_
  refine g_aload h d_Law_get_0 rfl ?_
  refine g_iconst (v := 0) h d_Law_get_2 (by decide) ?_
  refine g_aload_n h d_Law_get_3 rfl rfl ?_
  refine g_iload_n h d_Law_get_4 rfl rfl ?_
  refine g_iload_n h d_Law_get_5 rfl rfl ?_
  refine g_iload_n h d_Law_get_6 rfl rfl ?_
  refine g_callVP h tb_good (N1 := 171) (Nat.le_of_ble_eq_true rfl) (by rw [hL, hDD]; exact ct_mrg hM) (ix_lt 0 (by decide) _ (by decide)) (wo_head.trans (wc_at (by decide) (by decide))) rfl v_Law_34 nm_TCM_get rfl hr rfl (Nat.le_of_ble_eq_true rfl) d_Law_get_7 ?_
  rintro v0 σ2 ⟨rfl, rfl⟩
  refine g_at (st' := .long v :: [.int 0, .ref (ad 171)]) rfl rfl rfl ?_
  refine g_lastore h 171 0 (Nat.lt_of_lt_of_le (by decide) (Nat.le_refl 172)) wo_out rfl (i := nI 0) (vp_in_nI (by decide) (by decide)) d_Law_get_10 ?_
  refine g_world (σ' := wo ad t C2 (vp_updL f 0 v)) wo_put ?_
  refine g_goto (tgt := 26) h d_Law_get_11 (by decide) ?_
  refine g_iconst (v := 0) h d_Law_get_26 (by decide) ?_
  refine g_widen (k2 := 1) (n2 := 6) (by decide) (by decide) ?_
  exact g_iret h r d_Law_get_27 (⟨rfl, rfl⟩)
set_option maxRecDepth 100000 in
theorem w_Law_get_IAE {l : Launch} {D : va_G} {t : Nat → ClassId} {ad : Nat → Nat} {C C2 : CS} {rmY : Room} {a1 a2 a3 : Int32} {f : Nat → Int64} (hM : Ce l D t ad y_TCM_get b_TCM_get 4 (some .long) rmY [.ref (ad (ix 0 0)), .int a1, .int a2, .int a3] C X_IAE C2) (hr : cRx rmY rmW 4) : Cwo l D t ad y_Law_get b_Law_get 6 [(0, 11, 14, 13), (0, 11, 18, 26), (0, 11, 22, 32)] [.ref (ad (ix 0 0)), .int a1, .int a2, .int a3, .ref (ad 171)] C f 1 C2 f := by
  refine ctW_of (by decide) (Nat.le_of_ble_eq_true rfl) ?_
  intro Γ hL hDD hN h r hx
  refine g_at (L' := [some (.ref (ad (ix 0 0))), some (.int a1), some (.int a2), some (.int a3), some (.ref (ad 171)), none]) rfl rfl rfl ?_
  refine g_aload h d_Law_get_0 rfl ?_
  refine g_iconst (v := 0) h d_Law_get_2 (by decide) ?_
  refine g_aload_n h d_Law_get_3 rfl rfl ?_
  refine g_iload_n h d_Law_get_4 rfl rfl ?_
  refine g_iload_n h d_Law_get_5 rfl rfl ?_
  refine g_iload_n h d_Law_get_6 rfl rfl ?_
  refine g_catchV (p := []) (r := [(0, 11, 18, 26), (0, 11, 22, 32)]) (a0 := 0) (a1 := 11) (hpc := 14) (ty := 13) (X := X_IAE) (τ := wc ad t C2) h tb_good (N1 := 171) (Nat.le_of_ble_eq_true rfl) hx (fun z hz => absurd hz (List.not_mem_nil)) ⟨⟨Nat.zero_le _, by decide⟩, by decide, xl_Law_13, xin_IAE⟩ (by rw [hL, hDD]; exact cx_mrg hM) (ix_lt 0 (by decide) _ (by decide)) (wo_head.trans (wc_at (by decide) (by decide))) rfl v_Law_34 nm_TCM_get rfl hr rfl (Nat.le_of_ble_eq_true rfl) d_Law_get_7 ?_
  intro x
  refine g_world (σ' := wo ad t C2 f) wo_thr ?_
  refine g_astore h d_Law_get_14 rfl (by rw [hN]; decide) ?_
  refine g_iconst (v := 1) h d_Law_get_16 (by decide) ?_
  exact g_iret h r d_Law_get_17 (⟨rfl, rfl⟩)
set_option maxRecDepth 100000 in
theorem w_Law_get_ISE {l : Launch} {D : va_G} {t : Nat → ClassId} {ad : Nat → Nat} {C C2 : CS} {rmY : Room} {a1 a2 a3 : Int32} {f : Nat → Int64} (hM : Ce l D t ad y_TCM_get b_TCM_get 4 (some .long) rmY [.ref (ad (ix 0 0)), .int a1, .int a2, .int a3] C X_ISE C2) (hr : cRx rmY rmW 4) : Cwo l D t ad y_Law_get b_Law_get 6 [(0, 11, 14, 13), (0, 11, 18, 26), (0, 11, 22, 32)] [.ref (ad (ix 0 0)), .int a1, .int a2, .int a3, .ref (ad 171)] C f 2 C2 f := by
  refine ctW_of (by decide) (Nat.le_of_ble_eq_true rfl) ?_
  intro Γ hL hDD hN h r hx
  refine g_at (L' := [some (.ref (ad (ix 0 0))), some (.int a1), some (.int a2), some (.int a3), some (.ref (ad 171)), none]) rfl rfl rfl ?_
  refine g_aload h d_Law_get_0 rfl ?_
  refine g_iconst (v := 0) h d_Law_get_2 (by decide) ?_
  refine g_aload_n h d_Law_get_3 rfl rfl ?_
  refine g_iload_n h d_Law_get_4 rfl rfl ?_
  refine g_iload_n h d_Law_get_5 rfl rfl ?_
  refine g_iload_n h d_Law_get_6 rfl rfl ?_
  refine g_catchV (p := [(0, 11, 14, 13)]) (r := [(0, 11, 22, 32)]) (a0 := 0) (a1 := 11) (hpc := 18) (ty := 26) (X := X_ISE) (τ := wc ad t C2) h tb_good (N1 := 171) (Nat.le_of_ble_eq_true rfl) hx (by
      intro z hz
      simp only [List.mem_cons, List.not_mem_nil, or_false] at hz
      subst hz
      · exact ⟨⟨Nat.zero_le _, by decide⟩, by decide, X_IAE, xl_Law_13, by decide⟩) ⟨⟨Nat.zero_le _, by decide⟩, by decide, xl_Law_26, xin_ISE⟩ (by rw [hL, hDD]; exact cx_mrg hM) (ix_lt 0 (by decide) _ (by decide)) (wo_head.trans (wc_at (by decide) (by decide))) rfl v_Law_34 nm_TCM_get rfl hr rfl (Nat.le_of_ble_eq_true rfl) d_Law_get_7 ?_
  intro x
  refine g_world (σ' := wo ad t C2 f) wo_thr ?_
  refine g_astore h d_Law_get_18 rfl (by rw [hN]; decide) ?_
  refine g_iconst (v := 2) h d_Law_get_20 (by decide) ?_
  exact g_iret h r d_Law_get_21 (⟨rfl, rfl⟩)
set_option maxRecDepth 100000 in
theorem w_Law_get_UOE {l : Launch} {D : va_G} {t : Nat → ClassId} {ad : Nat → Nat} {C C2 : CS} {rmY : Room} {a1 a2 a3 : Int32} {f : Nat → Int64} (hM : Ce l D t ad y_TCM_get b_TCM_get 4 (some .long) rmY [.ref (ad (ix 0 0)), .int a1, .int a2, .int a3] C X_UOE C2) (hr : cRx rmY rmW 4) : Cwo l D t ad y_Law_get b_Law_get 6 [(0, 11, 14, 13), (0, 11, 18, 26), (0, 11, 22, 32)] [.ref (ad (ix 0 0)), .int a1, .int a2, .int a3, .ref (ad 171)] C f 3 C2 f := by
  refine ctW_of (by decide) (Nat.le_of_ble_eq_true rfl) ?_
  intro Γ hL hDD hN h r hx
  refine g_at (L' := [some (.ref (ad (ix 0 0))), some (.int a1), some (.int a2), some (.int a3), some (.ref (ad 171)), none]) rfl rfl rfl ?_
  refine g_aload h d_Law_get_0 rfl ?_
  refine g_iconst (v := 0) h d_Law_get_2 (by decide) ?_
  refine g_aload_n h d_Law_get_3 rfl rfl ?_
  refine g_iload_n h d_Law_get_4 rfl rfl ?_
  refine g_iload_n h d_Law_get_5 rfl rfl ?_
  refine g_iload_n h d_Law_get_6 rfl rfl ?_
  refine g_catchV (p := [(0, 11, 14, 13), (0, 11, 18, 26)]) (r := []) (a0 := 0) (a1 := 11) (hpc := 22) (ty := 32) (X := X_UOE) (τ := wc ad t C2) h tb_good (N1 := 171) (Nat.le_of_ble_eq_true rfl) hx (by
      intro z hz
      simp only [List.mem_cons, List.not_mem_nil, or_false] at hz
      rcases hz with rfl | rfl
      · exact ⟨⟨Nat.zero_le _, by decide⟩, by decide, X_IAE, xl_Law_13, by decide⟩
      · exact ⟨⟨Nat.zero_le _, by decide⟩, by decide, X_ISE, xl_Law_26, by decide⟩) ⟨⟨Nat.zero_le _, by decide⟩, by decide, xl_Law_32, xin_UOE⟩ (by rw [hL, hDD]; exact cx_mrg hM) (ix_lt 0 (by decide) _ (by decide)) (wo_head.trans (wc_at (by decide) (by decide))) rfl v_Law_34 nm_TCM_get rfl hr rfl (Nat.le_of_ble_eq_true rfl) d_Law_get_7 ?_
  intro x
  refine g_world (σ' := wo ad t C2 f) wo_thr ?_
  refine g_astore h d_Law_get_22 rfl (by rw [hN]; decide) ?_
  refine g_iconst (v := 3) h d_Law_get_24 (by decide) ?_
  exact g_iret h r d_Law_get_25 (⟨rfl, rfl⟩)
set_option maxRecDepth 100000 in
theorem w_Law_meta {l : Launch} {D : va_G} {t : Nat → ClassId} {ad : Nat → Nat} {C C2 : CS} {rmY : Room} {a1 a2 : Int32} (hM : Cd l D t ad y_TCM_meta b_TCM_meta 3 none rmY [.ref (ad (ix 0 0)), .int a1, .int a2] C (none) C2) (hr : cRm rmY rmW 3 0 0) : Cw l D t ad y_Law_meta b_Law_meta 4 [(0, 6, 9, 13), (0, 6, 12, 32)] [.ref (ad (ix 0 0)), .int a1, .int a2] C 0 C2 := by
  refine ctW_of (by decide) (Nat.le_of_ble_eq_true rfl) ?_
  intro Γ hL hDD hN h r hx
  refine g_at (L' := [some (.ref (ad (ix 0 0))), some (.int a1), some (.int a2), none]) rfl rfl rfl ?_
  refine g_aload_n h d_Law_meta_0 rfl rfl ?_
  refine g_iload_n h d_Law_meta_1 rfl rfl ?_
  refine g_iload_n h d_Law_meta_2 rfl rfl ?_
  refine g_callVP h tb_good (N1 := 171) (Nat.le_of_ble_eq_true rfl) (by rw [hL, hDD]; exact hM) (ix_lt 0 (by decide) _ (by decide)) (wc_at (by decide) (by decide)) rfl v_Law_38 nm_TCM_meta rfl hr rfl (Nat.le_of_ble_eq_true rfl) d_Law_meta_3 ?_
  rintro v0 σ2 ⟨rfl, rfl⟩
  refine g_world (σ' := wc ad t C2) wc_thr ?_
  refine g_goto (tgt := 15) h d_Law_meta_6 (by decide) ?_
  refine g_iconst (v := 0) h d_Law_meta_15 (by decide) ?_
  refine g_widen (k2 := 1) (n2 := 6) (by decide) (by decide) ?_
  exact g_iret h r d_Law_meta_16 (⟨rfl, rfl⟩)
set_option maxRecDepth 100000 in
theorem w_Law_meta_IAE {l : Launch} {D : va_G} {t : Nat → ClassId} {ad : Nat → Nat} {C C2 : CS} {rmY : Room} {a1 a2 : Int32} (hM : Ce l D t ad y_TCM_meta b_TCM_meta 3 none rmY [.ref (ad (ix 0 0)), .int a1, .int a2] C X_IAE C2) (hr : cRx rmY rmW 3) : Cw l D t ad y_Law_meta b_Law_meta 4 [(0, 6, 9, 13), (0, 6, 12, 32)] [.ref (ad (ix 0 0)), .int a1, .int a2] C 1 C2 := by
  refine ctW_of (by decide) (Nat.le_of_ble_eq_true rfl) ?_
  intro Γ hL hDD hN h r hx
  refine g_at (L' := [some (.ref (ad (ix 0 0))), some (.int a1), some (.int a2), none]) rfl rfl rfl ?_
  refine g_aload_n h d_Law_meta_0 rfl rfl ?_
  refine g_iload_n h d_Law_meta_1 rfl rfl ?_
  refine g_iload_n h d_Law_meta_2 rfl rfl ?_
  refine g_catchV (p := []) (r := [(0, 6, 12, 32)]) (a0 := 0) (a1 := 6) (hpc := 9) (ty := 13) (X := X_IAE) (τ := wc ad t C2) h tb_good (N1 := 171) (Nat.le_of_ble_eq_true rfl) hx (fun z hz => absurd hz (List.not_mem_nil)) ⟨⟨Nat.zero_le _, by decide⟩, by decide, xl_Law_13, xin_IAE⟩ (by rw [hL, hDD]; exact hM) (ix_lt 0 (by decide) _ (by decide)) (wc_at (by decide) (by decide)) rfl v_Law_38 nm_TCM_meta rfl hr rfl (Nat.le_of_ble_eq_true rfl) d_Law_meta_3 ?_
  intro x
  refine g_world (σ' := wc ad t C2) wc_thr ?_
  refine g_astore_n h d_Law_meta_9 rfl rfl (by rw [hN]; decide) ?_
  refine g_iconst (v := 1) h d_Law_meta_10 (by decide) ?_
  exact g_iret h r d_Law_meta_11 (⟨rfl, rfl⟩)
set_option maxRecDepth 100000 in
theorem w_Law_meta_UOE {l : Launch} {D : va_G} {t : Nat → ClassId} {ad : Nat → Nat} {C C2 : CS} {rmY : Room} {a1 a2 : Int32} (hM : Ce l D t ad y_TCM_meta b_TCM_meta 3 none rmY [.ref (ad (ix 0 0)), .int a1, .int a2] C X_UOE C2) (hr : cRx rmY rmW 3) : Cw l D t ad y_Law_meta b_Law_meta 4 [(0, 6, 9, 13), (0, 6, 12, 32)] [.ref (ad (ix 0 0)), .int a1, .int a2] C 2 C2 := by
  refine ctW_of (by decide) (Nat.le_of_ble_eq_true rfl) ?_
  intro Γ hL hDD hN h r hx
  refine g_at (L' := [some (.ref (ad (ix 0 0))), some (.int a1), some (.int a2), none]) rfl rfl rfl ?_
  refine g_aload_n h d_Law_meta_0 rfl rfl ?_
  refine g_iload_n h d_Law_meta_1 rfl rfl ?_
  refine g_iload_n h d_Law_meta_2 rfl rfl ?_
  refine g_catchV (p := [(0, 6, 9, 13)]) (r := []) (a0 := 0) (a1 := 6) (hpc := 12) (ty := 32) (X := X_UOE) (τ := wc ad t C2) h tb_good (N1 := 171) (Nat.le_of_ble_eq_true rfl) hx (by
      intro z hz
      simp only [List.mem_cons, List.not_mem_nil, or_false] at hz
      subst hz
      · exact ⟨⟨Nat.zero_le _, by decide⟩, by decide, X_IAE, xl_Law_13, by decide⟩) ⟨⟨Nat.zero_le _, by decide⟩, by decide, xl_Law_32, xin_UOE⟩ (by rw [hL, hDD]; exact hM) (ix_lt 0 (by decide) _ (by decide)) (wc_at (by decide) (by decide)) rfl v_Law_38 nm_TCM_meta rfl hr rfl (Nat.le_of_ble_eq_true rfl) d_Law_meta_3 ?_
  intro x
  refine g_world (σ' := wc ad t C2) wc_thr ?_
  refine g_astore_n h d_Law_meta_12 rfl rfl (by rw [hN]; decide) ?_
  refine g_iconst (v := 2) h d_Law_meta_13 (by decide) ?_
  exact g_iret h r d_Law_meta_14 (⟨rfl, rfl⟩)
set_option maxRecDepth 100000 in
theorem w_Law_resume {l : Launch} {D : va_G} {t : Nat → ClassId} {ad : Nat → Nat} {C C2 : CS} {rmY : Room} {a1 a2 a3 : Int32} {f : Nat → Int64} {v : Int64} (hM : Cd l D t ad y_TCM_resume b_TCM_resume 4 (some .long) rmY [.ref (ad (ix 0 0)), .int a1, .int a2, .int a3] C (some (.long v)) C2) (hr : cRm rmY rmW 4 0 0) : Cwo l D t ad y_Law_resume b_Law_resume 6 [(0, 11, 14, 13), (0, 11, 18, 26), (0, 11, 22, 32)] [.ref (ad (ix 0 0)), .int a1, .int a2, .int a3, .ref (ad 171)] C f 0 C2 (vp_updL f 0 v) := by
  refine ctW_of (by decide) (Nat.le_of_ble_eq_true rfl) ?_
  intro Γ hL hDD hN h r hx
  refine g_at (L' := [some (.ref (ad (ix 0 0))), some (.int a1), some (.int a2), some (.int a3), some (.ref (ad 171)), none]) rfl rfl rfl ?_
  refine g_aload h d_Law_resume_0 rfl ?_
  refine g_iconst (v := 0) h d_Law_resume_2 (by decide) ?_
  refine g_aload_n h d_Law_resume_3 rfl rfl ?_
  refine g_iload_n h d_Law_resume_4 rfl rfl ?_
  refine g_iload_n h d_Law_resume_5 rfl rfl ?_
  refine g_iload_n h d_Law_resume_6 rfl rfl ?_
  refine g_callVP h tb_good (N1 := 171) (Nat.le_of_ble_eq_true rfl) (by rw [hL, hDD]; exact ct_mrg hM) (ix_lt 0 (by decide) _ (by decide)) (wo_head.trans (wc_at (by decide) (by decide))) rfl v_Law_41 nm_TCM_resume rfl hr rfl (Nat.le_of_ble_eq_true rfl) d_Law_resume_7 ?_
  rintro v0 σ2 ⟨rfl, rfl⟩
  refine g_at (st' := .long v :: [.int 0, .ref (ad 171)]) rfl rfl rfl ?_
  refine g_lastore h 171 0 (Nat.lt_of_lt_of_le (by decide) (Nat.le_refl 172)) wo_out rfl (i := nI 0) (vp_in_nI (by decide) (by decide)) d_Law_resume_10 ?_
  refine g_world (σ' := wo ad t C2 (vp_updL f 0 v)) wo_put ?_
  refine g_goto (tgt := 26) h d_Law_resume_11 (by decide) ?_
  refine g_iconst (v := 0) h d_Law_resume_26 (by decide) ?_
  refine g_widen (k2 := 1) (n2 := 6) (by decide) (by decide) ?_
  exact g_iret h r d_Law_resume_27 (⟨rfl, rfl⟩)
set_option maxRecDepth 100000 in
theorem w_Law_resume_IAE {l : Launch} {D : va_G} {t : Nat → ClassId} {ad : Nat → Nat} {C C2 : CS} {rmY : Room} {a1 a2 a3 : Int32} {f : Nat → Int64} (hM : Ce l D t ad y_TCM_resume b_TCM_resume 4 (some .long) rmY [.ref (ad (ix 0 0)), .int a1, .int a2, .int a3] C X_IAE C2) (hr : cRx rmY rmW 4) : Cwo l D t ad y_Law_resume b_Law_resume 6 [(0, 11, 14, 13), (0, 11, 18, 26), (0, 11, 22, 32)] [.ref (ad (ix 0 0)), .int a1, .int a2, .int a3, .ref (ad 171)] C f 1 C2 f := by
  refine ctW_of (by decide) (Nat.le_of_ble_eq_true rfl) ?_
  intro Γ hL hDD hN h r hx
  refine g_at (L' := [some (.ref (ad (ix 0 0))), some (.int a1), some (.int a2), some (.int a3), some (.ref (ad 171)), none]) rfl rfl rfl ?_
  refine g_aload h d_Law_resume_0 rfl ?_
  refine g_iconst (v := 0) h d_Law_resume_2 (by decide) ?_
  refine g_aload_n h d_Law_resume_3 rfl rfl ?_
  refine g_iload_n h d_Law_resume_4 rfl rfl ?_
  refine g_iload_n h d_Law_resume_5 rfl rfl ?_
  refine g_iload_n h d_Law_resume_6 rfl rfl ?_
  refine g_catchV (p := []) (r := [(0, 11, 18, 26), (0, 11, 22, 32)]) (a0 := 0) (a1 := 11) (hpc := 14) (ty := 13) (X := X_IAE) (τ := wc ad t C2) h tb_good (N1 := 171) (Nat.le_of_ble_eq_true rfl) hx (fun z hz => absurd hz (List.not_mem_nil)) ⟨⟨Nat.zero_le _, by decide⟩, by decide, xl_Law_13, xin_IAE⟩ (by rw [hL, hDD]; exact cx_mrg hM) (ix_lt 0 (by decide) _ (by decide)) (wo_head.trans (wc_at (by decide) (by decide))) rfl v_Law_41 nm_TCM_resume rfl hr rfl (Nat.le_of_ble_eq_true rfl) d_Law_resume_7 ?_
  intro x
  refine g_world (σ' := wo ad t C2 f) wo_thr ?_
  refine g_astore h d_Law_resume_14 rfl (by rw [hN]; decide) ?_
  refine g_iconst (v := 1) h d_Law_resume_16 (by decide) ?_
  exact g_iret h r d_Law_resume_17 (⟨rfl, rfl⟩)
set_option maxRecDepth 100000 in
theorem w_Law_resume_ISE {l : Launch} {D : va_G} {t : Nat → ClassId} {ad : Nat → Nat} {C C2 : CS} {rmY : Room} {a1 a2 a3 : Int32} {f : Nat → Int64} (hM : Ce l D t ad y_TCM_resume b_TCM_resume 4 (some .long) rmY [.ref (ad (ix 0 0)), .int a1, .int a2, .int a3] C X_ISE C2) (hr : cRx rmY rmW 4) : Cwo l D t ad y_Law_resume b_Law_resume 6 [(0, 11, 14, 13), (0, 11, 18, 26), (0, 11, 22, 32)] [.ref (ad (ix 0 0)), .int a1, .int a2, .int a3, .ref (ad 171)] C f 2 C2 f := by
  refine ctW_of (by decide) (Nat.le_of_ble_eq_true rfl) ?_
  intro Γ hL hDD hN h r hx
  refine g_at (L' := [some (.ref (ad (ix 0 0))), some (.int a1), some (.int a2), some (.int a3), some (.ref (ad 171)), none]) rfl rfl rfl ?_
  refine g_aload h d_Law_resume_0 rfl ?_
  refine g_iconst (v := 0) h d_Law_resume_2 (by decide) ?_
  refine g_aload_n h d_Law_resume_3 rfl rfl ?_
  refine g_iload_n h d_Law_resume_4 rfl rfl ?_
  refine g_iload_n h d_Law_resume_5 rfl rfl ?_
  refine g_iload_n h d_Law_resume_6 rfl rfl ?_
  refine g_catchV (p := [(0, 11, 14, 13)]) (r := [(0, 11, 22, 32)]) (a0 := 0) (a1 := 11) (hpc := 18) (ty := 26) (X := X_ISE) (τ := wc ad t C2) h tb_good (N1 := 171) (Nat.le_of_ble_eq_true rfl) hx (by
      intro z hz
      simp only [List.mem_cons, List.not_mem_nil, or_false] at hz
      subst hz
      · exact ⟨⟨Nat.zero_le _, by decide⟩, by decide, X_IAE, xl_Law_13, by decide⟩) ⟨⟨Nat.zero_le _, by decide⟩, by decide, xl_Law_26, xin_ISE⟩ (by rw [hL, hDD]; exact cx_mrg hM) (ix_lt 0 (by decide) _ (by decide)) (wo_head.trans (wc_at (by decide) (by decide))) rfl v_Law_41 nm_TCM_resume rfl hr rfl (Nat.le_of_ble_eq_true rfl) d_Law_resume_7 ?_
  intro x
  refine g_world (σ' := wo ad t C2 f) wo_thr ?_
  refine g_astore h d_Law_resume_18 rfl (by rw [hN]; decide) ?_
  refine g_iconst (v := 2) h d_Law_resume_20 (by decide) ?_
  exact g_iret h r d_Law_resume_21 (⟨rfl, rfl⟩)
set_option maxRecDepth 100000 in
theorem w_Law_resume_UOE {l : Launch} {D : va_G} {t : Nat → ClassId} {ad : Nat → Nat} {C C2 : CS} {rmY : Room} {a1 a2 a3 : Int32} {f : Nat → Int64} (hM : Ce l D t ad y_TCM_resume b_TCM_resume 4 (some .long) rmY [.ref (ad (ix 0 0)), .int a1, .int a2, .int a3] C X_UOE C2) (hr : cRx rmY rmW 4) : Cwo l D t ad y_Law_resume b_Law_resume 6 [(0, 11, 14, 13), (0, 11, 18, 26), (0, 11, 22, 32)] [.ref (ad (ix 0 0)), .int a1, .int a2, .int a3, .ref (ad 171)] C f 3 C2 f := by
  refine ctW_of (by decide) (Nat.le_of_ble_eq_true rfl) ?_
  intro Γ hL hDD hN h r hx
  refine g_at (L' := [some (.ref (ad (ix 0 0))), some (.int a1), some (.int a2), some (.int a3), some (.ref (ad 171)), none]) rfl rfl rfl ?_
  refine g_aload h d_Law_resume_0 rfl ?_
  refine g_iconst (v := 0) h d_Law_resume_2 (by decide) ?_
  refine g_aload_n h d_Law_resume_3 rfl rfl ?_
  refine g_iload_n h d_Law_resume_4 rfl rfl ?_
  refine g_iload_n h d_Law_resume_5 rfl rfl ?_
  refine g_iload_n h d_Law_resume_6 rfl rfl ?_
  refine g_catchV (p := [(0, 11, 14, 13), (0, 11, 18, 26)]) (r := []) (a0 := 0) (a1 := 11) (hpc := 22) (ty := 32) (X := X_UOE) (τ := wc ad t C2) h tb_good (N1 := 171) (Nat.le_of_ble_eq_true rfl) hx (by
      intro z hz
      simp only [List.mem_cons, List.not_mem_nil, or_false] at hz
      rcases hz with rfl | rfl
      · exact ⟨⟨Nat.zero_le _, by decide⟩, by decide, X_IAE, xl_Law_13, by decide⟩
      · exact ⟨⟨Nat.zero_le _, by decide⟩, by decide, X_ISE, xl_Law_26, by decide⟩) ⟨⟨Nat.zero_le _, by decide⟩, by decide, xl_Law_32, xin_UOE⟩ (by rw [hL, hDD]; exact cx_mrg hM) (ix_lt 0 (by decide) _ (by decide)) (wo_head.trans (wc_at (by decide) (by decide))) rfl v_Law_41 nm_TCM_resume rfl hr rfl (Nat.le_of_ble_eq_true rfl) d_Law_resume_7 ?_
  intro x
  refine g_world (σ' := wo ad t C2 f) wo_thr ?_
  refine g_astore h d_Law_resume_22 rfl (by rw [hN]; decide) ?_
  refine g_iconst (v := 3) h d_Law_resume_24 (by decide) ?_
  exact g_iret h r d_Law_resume_25 (⟨rfl, rfl⟩)
set_option maxRecDepth 100000 in
theorem w_Law_collect {l : Launch} {D : va_G} {t : Nat → ClassId} {ad : Nat → Nat} {C C2 : CS} {rmY : Room} {a1 : Int32} {f : Nat → Int64} {v : Int32} (hM : Cd l D t ad y_TCM_collect b_TCM_collect 4 (some .int) rmY [.ref (ad (ix 0 0)), .int a1] C (some (.int v)) C2) (hr : cRm rmY rmW 4 0 0) : Cwo l D t ad y_Law_collect b_Law_collect 4 [(0, 9, 12, 13)] [.ref (ad (ix 0 0)), .int a1, .ref (ad 171)] C f 0 C2 (vp_updL f 0 v.toInt64) := by
  refine ctW_of (by decide) (Nat.le_of_ble_eq_true rfl) ?_
  intro Γ hL hDD hN h r hx
  refine g_at (L' := [some (.ref (ad (ix 0 0))), some (.int a1), some (.ref (ad 171)), none]) rfl rfl rfl ?_
  refine g_aload_n h d_Law_collect_0 rfl rfl ?_
  refine g_iconst (v := 0) h d_Law_collect_1 (by decide) ?_
  refine g_aload_n h d_Law_collect_2 rfl rfl ?_
  refine g_iload_n h d_Law_collect_3 rfl rfl ?_
  refine g_callVP h tb_good (N1 := 171) (Nat.le_of_ble_eq_true rfl) (by rw [hL, hDD]; exact ct_mrg hM) (ix_lt 0 (by decide) _ (by decide)) (wo_head.trans (wc_at (by decide) (by decide))) rfl v_Law_44 nm_TCM_collect rfl hr rfl (Nat.le_of_ble_eq_true rfl) d_Law_collect_4 ?_
  rintro v0 σ2 ⟨rfl, rfl⟩
  refine g_at (st' := .int v :: [.int 0, .ref (ad 171)]) rfl rfl rfl ?_
  refine g_i2l h d_Law_collect_7 ?_
  refine g_lastore h 171 0 (Nat.lt_of_lt_of_le (by decide) (Nat.le_refl 172)) wo_out rfl (i := nI 0) (vp_in_nI (by decide) (by decide)) d_Law_collect_8 ?_
  refine g_world (σ' := wo ad t C2 (vp_updL f 0 v.toInt64)) wo_put ?_
  refine g_goto (tgt := 15) h d_Law_collect_9 (by decide) ?_
  refine g_iconst (v := 0) h d_Law_collect_15 (by decide) ?_
  refine g_widen (k2 := 1) (n2 := 6) (by decide) (by decide) ?_
  exact g_iret h r d_Law_collect_16 (⟨rfl, rfl⟩)
set_option maxRecDepth 100000 in
theorem w_Law_collect_IAE {l : Launch} {D : va_G} {t : Nat → ClassId} {ad : Nat → Nat} {C C2 : CS} {rmY : Room} {a1 : Int32} {f : Nat → Int64} (hM : Ce l D t ad y_TCM_collect b_TCM_collect 4 (some .int) rmY [.ref (ad (ix 0 0)), .int a1] C X_IAE C2) (hr : cRx rmY rmW 4) : Cwo l D t ad y_Law_collect b_Law_collect 4 [(0, 9, 12, 13)] [.ref (ad (ix 0 0)), .int a1, .ref (ad 171)] C f 1 C2 f := by
  refine ctW_of (by decide) (Nat.le_of_ble_eq_true rfl) ?_
  intro Γ hL hDD hN h r hx
  refine g_at (L' := [some (.ref (ad (ix 0 0))), some (.int a1), some (.ref (ad 171)), none]) rfl rfl rfl ?_
  refine g_aload_n h d_Law_collect_0 rfl rfl ?_
  refine g_iconst (v := 0) h d_Law_collect_1 (by decide) ?_
  refine g_aload_n h d_Law_collect_2 rfl rfl ?_
  refine g_iload_n h d_Law_collect_3 rfl rfl ?_
  refine g_catchV (p := []) (r := []) (a0 := 0) (a1 := 9) (hpc := 12) (ty := 13) (X := X_IAE) (τ := wc ad t C2) h tb_good (N1 := 171) (Nat.le_of_ble_eq_true rfl) hx (fun z hz => absurd hz (List.not_mem_nil)) ⟨⟨Nat.zero_le _, by decide⟩, by decide, xl_Law_13, xin_IAE⟩ (by rw [hL, hDD]; exact cx_mrg hM) (ix_lt 0 (by decide) _ (by decide)) (wo_head.trans (wc_at (by decide) (by decide))) rfl v_Law_44 nm_TCM_collect rfl hr rfl (Nat.le_of_ble_eq_true rfl) d_Law_collect_4 ?_
  intro x
  refine g_world (σ' := wo ad t C2 f) wo_thr ?_
  refine g_astore_n h d_Law_collect_12 rfl rfl (by rw [hN]; decide) ?_
  refine g_iconst (v := 1) h d_Law_collect_13 (by decide) ?_
  exact g_iret h r d_Law_collect_14 (⟨rfl, rfl⟩)
set_option maxRecDepth 100000 in
theorem w_Law_global {l : Launch} {D : va_G} {t : Nat → ClassId} {ad : Nat → Nat} {C C2 : CS} {rmY : Room} {a1 : Int32} {f : Nat → Int64} {v : Int64} (hM : Cd l D t ad y_TCM_global b_TCM_global 2 (some .long) rmY [.ref (ad (ix 0 0)), .int a1] C (some (.long v)) C2) (hr : cRm rmY rmW 2 0 0) : Cwo l D t ad y_Law_global b_Law_global 4 [(0, 8, 11, 13)] [.ref (ad (ix 0 0)), .int a1, .ref (ad 171)] C f 0 C2 (vp_updL f 0 v) := by
  refine ctW_of (by decide) (Nat.le_of_ble_eq_true rfl) ?_
  intro Γ hL hDD hN h r hx
  refine g_at (L' := [some (.ref (ad (ix 0 0))), some (.int a1), some (.ref (ad 171)), none]) rfl rfl rfl ?_
  refine g_aload_n h d_Law_global_0 rfl rfl ?_
  refine g_iconst (v := 0) h d_Law_global_1 (by decide) ?_
  refine g_aload_n h d_Law_global_2 rfl rfl ?_
  refine g_iload_n h d_Law_global_3 rfl rfl ?_
  refine g_callVP h tb_good (N1 := 171) (Nat.le_of_ble_eq_true rfl) (by rw [hL, hDD]; exact ct_mrg hM) (ix_lt 0 (by decide) _ (by decide)) (wo_head.trans (wc_at (by decide) (by decide))) rfl v_Law_48 nm_TCM_global rfl hr rfl (Nat.le_of_ble_eq_true rfl) d_Law_global_4 ?_
  rintro v0 σ2 ⟨rfl, rfl⟩
  refine g_at (st' := .long v :: [.int 0, .ref (ad 171)]) rfl rfl rfl ?_
  refine g_lastore h 171 0 (Nat.lt_of_lt_of_le (by decide) (Nat.le_refl 172)) wo_out rfl (i := nI 0) (vp_in_nI (by decide) (by decide)) d_Law_global_7 ?_
  refine g_world (σ' := wo ad t C2 (vp_updL f 0 v)) wo_put ?_
  refine g_goto (tgt := 14) h d_Law_global_8 (by decide) ?_
  refine g_iconst (v := 0) h d_Law_global_14 (by decide) ?_
  refine g_widen (k2 := 1) (n2 := 6) (by decide) (by decide) ?_
  exact g_iret h r d_Law_global_15 (⟨rfl, rfl⟩)
set_option maxRecDepth 100000 in
theorem w_Law_global_IAE {l : Launch} {D : va_G} {t : Nat → ClassId} {ad : Nat → Nat} {C C2 : CS} {rmY : Room} {a1 : Int32} {f : Nat → Int64} (hM : Ce l D t ad y_TCM_global b_TCM_global 2 (some .long) rmY [.ref (ad (ix 0 0)), .int a1] C X_IAE C2) (hr : cRx rmY rmW 2) : Cwo l D t ad y_Law_global b_Law_global 4 [(0, 8, 11, 13)] [.ref (ad (ix 0 0)), .int a1, .ref (ad 171)] C f 1 C2 f := by
  refine ctW_of (by decide) (Nat.le_of_ble_eq_true rfl) ?_
  intro Γ hL hDD hN h r hx
  refine g_at (L' := [some (.ref (ad (ix 0 0))), some (.int a1), some (.ref (ad 171)), none]) rfl rfl rfl ?_
  refine g_aload_n h d_Law_global_0 rfl rfl ?_
  refine g_iconst (v := 0) h d_Law_global_1 (by decide) ?_
  refine g_aload_n h d_Law_global_2 rfl rfl ?_
  refine g_iload_n h d_Law_global_3 rfl rfl ?_
  refine g_catchV (p := []) (r := []) (a0 := 0) (a1 := 8) (hpc := 11) (ty := 13) (X := X_IAE) (τ := wc ad t C2) h tb_good (N1 := 171) (Nat.le_of_ble_eq_true rfl) hx (fun z hz => absurd hz (List.not_mem_nil)) ⟨⟨Nat.zero_le _, by decide⟩, by decide, xl_Law_13, xin_IAE⟩ (by rw [hL, hDD]; exact cx_mrg hM) (ix_lt 0 (by decide) _ (by decide)) (wo_head.trans (wc_at (by decide) (by decide))) rfl v_Law_48 nm_TCM_global rfl hr rfl (Nat.le_of_ble_eq_true rfl) d_Law_global_4 ?_
  intro x
  refine g_world (σ' := wo ad t C2 f) wo_thr ?_
  refine g_astore_n h d_Law_global_11 rfl rfl (by rw [hN]; decide) ?_
  refine g_iconst (v := 1) h d_Law_global_12 (by decide) ?_
  exact g_iret h r d_Law_global_13 (⟨rfl, rfl⟩)
set_option maxRecDepth 100000 in
theorem w_Law_object {l : Launch} {D : va_G} {t : Nat → ClassId} {ad : Nat → Nat} {C C2 : CS} {rmY : Room} {a1 a2 : Int32} {f : Nat → Int64} {v : Int32} (hM : Cd l D t ad y_TCM_object b_TCM_object 4 (some .int) rmY [.ref (ad (ix 0 0)), .int a1, .int a2] C (some (.int v)) C2) (hr : cRm rmY rmW 4 0 0) : Cwo l D t ad y_Law_object b_Law_object 5 [(0, 10, 13, 13), (0, 10, 17, 55)] [.ref (ad (ix 0 0)), .int a1, .int a2, .ref (ad 171)] C f 0 C2 (vp_updL f 0 v.toInt64) := by
  refine ctW_of (by decide) (Nat.le_of_ble_eq_true rfl) ?_
  intro Γ hL hDD hN h r hx
  refine g_at (L' := [some (.ref (ad (ix 0 0))), some (.int a1), some (.int a2), some (.ref (ad 171)), none]) rfl rfl rfl ?_
  refine g_aload_n h d_Law_object_0 rfl rfl ?_
  refine g_iconst (v := 0) h d_Law_object_1 (by decide) ?_
  refine g_aload_n h d_Law_object_2 rfl rfl ?_
  refine g_iload_n h d_Law_object_3 rfl rfl ?_
  refine g_iload_n h d_Law_object_4 rfl rfl ?_
  refine g_callVP h tb_good (N1 := 171) (Nat.le_of_ble_eq_true rfl) (by rw [hL, hDD]; exact ct_mrg hM) (ix_lt 0 (by decide) _ (by decide)) (wo_head.trans (wc_at (by decide) (by decide))) rfl v_Law_52 nm_TCM_object rfl hr rfl (Nat.le_of_ble_eq_true rfl) d_Law_object_5 ?_
  rintro v0 σ2 ⟨rfl, rfl⟩
  refine g_at (st' := .int v :: [.int 0, .ref (ad 171)]) rfl rfl rfl ?_
  refine g_i2l h d_Law_object_8 ?_
  refine g_lastore h 171 0 (Nat.lt_of_lt_of_le (by decide) (Nat.le_refl 172)) wo_out rfl (i := nI 0) (vp_in_nI (by decide) (by decide)) d_Law_object_9 ?_
  refine g_world (σ' := wo ad t C2 (vp_updL f 0 v.toInt64)) wo_put ?_
  refine g_goto (tgt := 21) h d_Law_object_10 (by decide) ?_
  refine g_iconst (v := 0) h d_Law_object_21 (by decide) ?_
  refine g_widen (k2 := 1) (n2 := 6) (by decide) (by decide) ?_
  exact g_iret h r d_Law_object_22 (⟨rfl, rfl⟩)
set_option maxRecDepth 100000 in
theorem w_Law_object_IAE {l : Launch} {D : va_G} {t : Nat → ClassId} {ad : Nat → Nat} {C C2 : CS} {rmY : Room} {a1 a2 : Int32} {f : Nat → Int64} (hM : Ce l D t ad y_TCM_object b_TCM_object 4 (some .int) rmY [.ref (ad (ix 0 0)), .int a1, .int a2] C X_IAE C2) (hr : cRx rmY rmW 4) : Cwo l D t ad y_Law_object b_Law_object 5 [(0, 10, 13, 13), (0, 10, 17, 55)] [.ref (ad (ix 0 0)), .int a1, .int a2, .ref (ad 171)] C f 1 C2 f := by
  refine ctW_of (by decide) (Nat.le_of_ble_eq_true rfl) ?_
  intro Γ hL hDD hN h r hx
  refine g_at (L' := [some (.ref (ad (ix 0 0))), some (.int a1), some (.int a2), some (.ref (ad 171)), none]) rfl rfl rfl ?_
  refine g_aload_n h d_Law_object_0 rfl rfl ?_
  refine g_iconst (v := 0) h d_Law_object_1 (by decide) ?_
  refine g_aload_n h d_Law_object_2 rfl rfl ?_
  refine g_iload_n h d_Law_object_3 rfl rfl ?_
  refine g_iload_n h d_Law_object_4 rfl rfl ?_
  refine g_catchV (p := []) (r := [(0, 10, 17, 55)]) (a0 := 0) (a1 := 10) (hpc := 13) (ty := 13) (X := X_IAE) (τ := wc ad t C2) h tb_good (N1 := 171) (Nat.le_of_ble_eq_true rfl) hx (fun z hz => absurd hz (List.not_mem_nil)) ⟨⟨Nat.zero_le _, by decide⟩, by decide, xl_Law_13, xin_IAE⟩ (by rw [hL, hDD]; exact cx_mrg hM) (ix_lt 0 (by decide) _ (by decide)) (wo_head.trans (wc_at (by decide) (by decide))) rfl v_Law_52 nm_TCM_object rfl hr rfl (Nat.le_of_ble_eq_true rfl) d_Law_object_5 ?_
  intro x
  refine g_world (σ' := wo ad t C2 f) wo_thr ?_
  refine g_astore h d_Law_object_13 rfl (by rw [hN]; decide) ?_
  refine g_iconst (v := 1) h d_Law_object_15 (by decide) ?_
  exact g_iret h r d_Law_object_16 (⟨rfl, rfl⟩)
set_option maxRecDepth 100000 in
theorem w_Law_object_NSE {l : Launch} {D : va_G} {t : Nat → ClassId} {ad : Nat → Nat} {C C2 : CS} {rmY : Room} {a1 a2 : Int32} {f : Nat → Int64} (hM : Ce l D t ad y_TCM_object b_TCM_object 4 (some .int) rmY [.ref (ad (ix 0 0)), .int a1, .int a2] C X_NSE C2) (hr : cRx rmY rmW 4) : Cwo l D t ad y_Law_object b_Law_object 5 [(0, 10, 13, 13), (0, 10, 17, 55)] [.ref (ad (ix 0 0)), .int a1, .int a2, .ref (ad 171)] C f 2 C2 f := by
  refine ctW_of (by decide) (Nat.le_of_ble_eq_true rfl) ?_
  intro Γ hL hDD hN h r hx
  refine g_at (L' := [some (.ref (ad (ix 0 0))), some (.int a1), some (.int a2), some (.ref (ad 171)), none]) rfl rfl rfl ?_
  refine g_aload_n h d_Law_object_0 rfl rfl ?_
  refine g_iconst (v := 0) h d_Law_object_1 (by decide) ?_
  refine g_aload_n h d_Law_object_2 rfl rfl ?_
  refine g_iload_n h d_Law_object_3 rfl rfl ?_
  refine g_iload_n h d_Law_object_4 rfl rfl ?_
  refine g_catchV (p := [(0, 10, 13, 13)]) (r := []) (a0 := 0) (a1 := 10) (hpc := 17) (ty := 55) (X := X_NSE) (τ := wc ad t C2) h tb_good (N1 := 171) (Nat.le_of_ble_eq_true rfl) hx (by
      intro z hz
      simp only [List.mem_cons, List.not_mem_nil, or_false] at hz
      subst hz
      · exact ⟨⟨Nat.zero_le _, by decide⟩, by decide, X_IAE, xl_Law_13, by decide⟩) ⟨⟨Nat.zero_le _, by decide⟩, by decide, xl_Law_55, xin_NSE⟩ (by rw [hL, hDD]; exact cx_mrg hM) (ix_lt 0 (by decide) _ (by decide)) (wo_head.trans (wc_at (by decide) (by decide))) rfl v_Law_52 nm_TCM_object rfl hr rfl (Nat.le_of_ble_eq_true rfl) d_Law_object_5 ?_
  intro x
  refine g_world (σ' := wo ad t C2 f) wo_thr ?_
  refine g_astore h d_Law_object_17 rfl (by rw [hN]; decide) ?_
  refine g_iconst (v := 2) h d_Law_object_19 (by decide) ?_
  exact g_iret h r d_Law_object_20 (⟨rfl, rfl⟩)
set_option maxRecDepth 100000 in
theorem w_Law_inside {l : Launch} {D : va_G} {t : Nat → ClassId} {ad : Nat → Nat} {C C2 : CS} {rmY : Room} {a1 a2 a3 : Int32} {f : Nat → Int64} {v : Int64} (hM : Cd l D t ad y_TCM_inside b_TCM_inside 5 (some .long) rmY [.ref (ad (ix 0 0)), .int a1, .int a2, .int a3] C (some (.long v)) C2) (hr : cRm rmY rmW 5 0 0) : Cwo l D t ad y_Law_inside b_Law_inside 6 [(0, 11, 14, 13), (0, 11, 18, 55)] [.ref (ad (ix 0 0)), .int a1, .int a2, .int a3, .ref (ad 171)] C f 0 C2 (vp_updL f 0 v) := by
  refine ctW_of (by decide) (Nat.le_of_ble_eq_true rfl) ?_
  intro Γ hL hDD hN h r hx
  refine g_at (L' := [some (.ref (ad (ix 0 0))), some (.int a1), some (.int a2), some (.int a3), some (.ref (ad 171)), none]) rfl rfl rfl ?_
  refine g_aload h d_Law_inside_0 rfl ?_
  refine g_iconst (v := 0) h d_Law_inside_2 (by decide) ?_
  refine g_aload_n h d_Law_inside_3 rfl rfl ?_
  refine g_iload_n h d_Law_inside_4 rfl rfl ?_
  refine g_iload_n h d_Law_inside_5 rfl rfl ?_
  refine g_iload_n h d_Law_inside_6 rfl rfl ?_
  refine g_callVP h tb_good (N1 := 171) (Nat.le_of_ble_eq_true rfl) (by rw [hL, hDD]; exact ct_mrg hM) (ix_lt 0 (by decide) _ (by decide)) (wo_head.trans (wc_at (by decide) (by decide))) rfl v_Law_57 nm_TCM_inside rfl hr rfl (Nat.le_of_ble_eq_true rfl) d_Law_inside_7 ?_
  rintro v0 σ2 ⟨rfl, rfl⟩
  refine g_at (st' := .long v :: [.int 0, .ref (ad 171)]) rfl rfl rfl ?_
  refine g_lastore h 171 0 (Nat.lt_of_lt_of_le (by decide) (Nat.le_refl 172)) wo_out rfl (i := nI 0) (vp_in_nI (by decide) (by decide)) d_Law_inside_10 ?_
  refine g_world (σ' := wo ad t C2 (vp_updL f 0 v)) wo_put ?_
  refine g_goto (tgt := 22) h d_Law_inside_11 (by decide) ?_
  refine g_iconst (v := 0) h d_Law_inside_22 (by decide) ?_
  refine g_widen (k2 := 1) (n2 := 6) (by decide) (by decide) ?_
  exact g_iret h r d_Law_inside_23 (⟨rfl, rfl⟩)
set_option maxRecDepth 100000 in
theorem w_Law_inside_IAE {l : Launch} {D : va_G} {t : Nat → ClassId} {ad : Nat → Nat} {C C2 : CS} {rmY : Room} {a1 a2 a3 : Int32} {f : Nat → Int64} (hM : Ce l D t ad y_TCM_inside b_TCM_inside 5 (some .long) rmY [.ref (ad (ix 0 0)), .int a1, .int a2, .int a3] C X_IAE C2) (hr : cRx rmY rmW 5) : Cwo l D t ad y_Law_inside b_Law_inside 6 [(0, 11, 14, 13), (0, 11, 18, 55)] [.ref (ad (ix 0 0)), .int a1, .int a2, .int a3, .ref (ad 171)] C f 1 C2 f := by
  refine ctW_of (by decide) (Nat.le_of_ble_eq_true rfl) ?_
  intro Γ hL hDD hN h r hx
  refine g_at (L' := [some (.ref (ad (ix 0 0))), some (.int a1), some (.int a2), some (.int a3), some (.ref (ad 171)), none]) rfl rfl rfl ?_
  refine g_aload h d_Law_inside_0 rfl ?_
  refine g_iconst (v := 0) h d_Law_inside_2 (by decide) ?_
  refine g_aload_n h d_Law_inside_3 rfl rfl ?_
  refine g_iload_n h d_Law_inside_4 rfl rfl ?_
  refine g_iload_n h d_Law_inside_5 rfl rfl ?_
  refine g_iload_n h d_Law_inside_6 rfl rfl ?_
  refine g_catchV (p := []) (r := [(0, 11, 18, 55)]) (a0 := 0) (a1 := 11) (hpc := 14) (ty := 13) (X := X_IAE) (τ := wc ad t C2) h tb_good (N1 := 171) (Nat.le_of_ble_eq_true rfl) hx (fun z hz => absurd hz (List.not_mem_nil)) ⟨⟨Nat.zero_le _, by decide⟩, by decide, xl_Law_13, xin_IAE⟩ (by rw [hL, hDD]; exact cx_mrg hM) (ix_lt 0 (by decide) _ (by decide)) (wo_head.trans (wc_at (by decide) (by decide))) rfl v_Law_57 nm_TCM_inside rfl hr rfl (Nat.le_of_ble_eq_true rfl) d_Law_inside_7 ?_
  intro x
  refine g_world (σ' := wo ad t C2 f) wo_thr ?_
  refine g_astore h d_Law_inside_14 rfl (by rw [hN]; decide) ?_
  refine g_iconst (v := 1) h d_Law_inside_16 (by decide) ?_
  exact g_iret h r d_Law_inside_17 (⟨rfl, rfl⟩)
set_option maxRecDepth 100000 in
theorem w_Law_inside_NSE {l : Launch} {D : va_G} {t : Nat → ClassId} {ad : Nat → Nat} {C C2 : CS} {rmY : Room} {a1 a2 a3 : Int32} {f : Nat → Int64} (hM : Ce l D t ad y_TCM_inside b_TCM_inside 5 (some .long) rmY [.ref (ad (ix 0 0)), .int a1, .int a2, .int a3] C X_NSE C2) (hr : cRx rmY rmW 5) : Cwo l D t ad y_Law_inside b_Law_inside 6 [(0, 11, 14, 13), (0, 11, 18, 55)] [.ref (ad (ix 0 0)), .int a1, .int a2, .int a3, .ref (ad 171)] C f 2 C2 f := by
  refine ctW_of (by decide) (Nat.le_of_ble_eq_true rfl) ?_
  intro Γ hL hDD hN h r hx
  refine g_at (L' := [some (.ref (ad (ix 0 0))), some (.int a1), some (.int a2), some (.int a3), some (.ref (ad 171)), none]) rfl rfl rfl ?_
  refine g_aload h d_Law_inside_0 rfl ?_
  refine g_iconst (v := 0) h d_Law_inside_2 (by decide) ?_
  refine g_aload_n h d_Law_inside_3 rfl rfl ?_
  refine g_iload_n h d_Law_inside_4 rfl rfl ?_
  refine g_iload_n h d_Law_inside_5 rfl rfl ?_
  refine g_iload_n h d_Law_inside_6 rfl rfl ?_
  refine g_catchV (p := [(0, 11, 14, 13)]) (r := []) (a0 := 0) (a1 := 11) (hpc := 18) (ty := 55) (X := X_NSE) (τ := wc ad t C2) h tb_good (N1 := 171) (Nat.le_of_ble_eq_true rfl) hx (by
      intro z hz
      simp only [List.mem_cons, List.not_mem_nil, or_false] at hz
      subst hz
      · exact ⟨⟨Nat.zero_le _, by decide⟩, by decide, X_IAE, xl_Law_13, by decide⟩) ⟨⟨Nat.zero_le _, by decide⟩, by decide, xl_Law_55, xin_NSE⟩ (by rw [hL, hDD]; exact cx_mrg hM) (ix_lt 0 (by decide) _ (by decide)) (wo_head.trans (wc_at (by decide) (by decide))) rfl v_Law_57 nm_TCM_inside rfl hr rfl (Nat.le_of_ble_eq_true rfl) d_Law_inside_7 ?_
  intro x
  refine g_world (σ' := wo ad t C2 f) wo_thr ?_
  refine g_astore h d_Law_inside_18 rfl (by rw [hN]; decide) ?_
  refine g_iconst (v := 2) h d_Law_inside_20 (by decide) ?_
  exact g_iret h r d_Law_inside_21 (⟨rfl, rfl⟩)
