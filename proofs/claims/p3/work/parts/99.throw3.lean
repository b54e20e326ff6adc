section Throw3
variable {l : Launch} {D : va_G} {t : Nat → ClassId} {ad : Nat → Nat} {C : CS}
abbrev Cp (l : Launch) (D : va_G) (t : Nat → ClassId) (ad : Nat → Nat) (y : MethodName) (b : ByteArray) (n : Nat) (ret : Option FieldType) (rm : Room) (As : List Value) (C : CS) (v : Option Value) : Prop := CtP l D CL (tyc t) NL 171 ad y (.code y b n ret :: TB) rm As (wc ad t C) v
theorem q_TCM_checkRange {n a b : Int32} (h1 : ¬ n < a) (h2 : ¬ b < n) : Cp l D t ad y_TCM_checkRange b_TCM_checkRange 3 none { frames := 0, cells := 0, slots := 0, locals := 0 } [.int n, .int a, .int b] C none := by
  refine ctP_of (by decide) (Nat.le_of_ble_eq_true rfl) ?_
  intro Γ _ _ hN h r pw
  refine p_at (L' := [some (.int n), some (.int a), some (.int b)]) rfl rfl rfl ?_
  refine p_iload_n h d_TCM_checkRange_0 rfl rfl ?_
  refine p_iload_n h d_TCM_checkRange_1 rfl rfl ?_
  refine p_icmp_lt (tgt := 10) h d_TCM_checkRange_2 (by decide) (fun c => absurd c h1) (fun _ => ?_)
  refine p_iload_n h d_TCM_checkRange_5 rfl rfl ?_
  refine p_iload_n h d_TCM_checkRange_6 rfl rfl ?_
  refine p_icmp_le (tgt := 18) h d_TCM_checkRange_7 (by decide) (fun _ => ?_) (fun c => absurd (Int32.not_lt.mp h2) c)
  exact p_vret h r d_TCM_checkRange_18
theorem q_Cell_rows {n : Nat} {b : Int32} (hn : n < 16) : Cp l D t ad y_Cell_rows b_Cell_rows 2 (some .int) { frames := 0, cells := 0, slots := 0, locals := 0 } [.ref (ad (ix 4 n)), .int b] C (some (.int (crows C n b))) := by
  refine ctP_of (by decide) (Nat.le_of_ble_eq_true rfl) ?_
  intro Γ _ _ hN h r pw
  refine p_at (L' := [some (.ref (ad (ix 4 n))), some (.int b)]) rfl rfl rfl ?_
  refine p_aload_n h d_Cell_rows_0 rfl rfl ?_
  refine p_get h pw i_Cell (ix 4 n) (ix_lt 4 (by decide) _ hn) (wc_at (by decide) hn) rfl 2 (by decide) f_Cell_25 rfl d_Cell_rows_1 ?_
  refine p_iconst (v := 1) h d_Cell_rows_4 (by decide) ?_
  refine p_icmp_ne (tgt := 16) h d_Cell_rows_5 (by decide) (fun c5 => ?_) (fun c5 => ?_)
  · have go : ∀ v : Int32, v = crows C n b → GP Γ 33 [some (.ref (ad (ix 4 n))), some (.int b)] [.int v] := fun v hv => by subst hv; exact p_iret h r d_Cell_rows_33
    have e0 : ¬ (C.1 0 n = 2 ∧ b = 0) → GP Γ 32 [some (.ref (ad (ix 4 n))), some (.int b)] [] := fun z => p_iconst (v := 0) h d_Cell_rows_32 (by decide) (go 0 (by unfold crows; rw [if_neg c5, if_neg z]))
    refine p_aload_n h d_Cell_rows_16 rfl rfl ?_
    refine p_get h pw i_Cell (ix 4 n) (ix_lt 4 (by decide) _ hn) (wc_at (by decide) hn) rfl 2 (by decide) f_Cell_25 rfl d_Cell_rows_17 ?_
    refine p_iconst (v := 2) h d_Cell_rows_20 (by decide) ?_
    refine p_icmp_ne (tgt := 32) h d_Cell_rows_21 (by decide) (fun c => e0 (fun z => c z.1)) (fun c21 => ?_)
    refine p_iload_n h d_Cell_rows_24 rfl rfl ?_
    refine p_if_ne (tgt := 32) h d_Cell_rows_25 (by decide) (fun c => e0 (fun z => c z.2)) (fun c25 => ?_)
    refine p_iconst (v := 4) h d_Cell_rows_28 (by decide) ?_
    refine p_goto (tgt := 33) h d_Cell_rows_29 (by decide) ?_
    exact go 4 (by unfold crows; rw [if_neg c5, if_pos ⟨c21, c25⟩])
  · refine p_aload_n h d_Cell_rows_8 rfl rfl ?_
    refine p_get h pw i_Cell (ix 4 n) (ix_lt 4 (by decide) _ hn) (wc_at (by decide) hn) rfl 0 (by decide) f_Cell_12 rfl d_Cell_rows_9 ?_
    refine p_get h pw i_Tab (ix 5 n) (ix_lt 5 (by decide) _ hn) (wc_at (by decide) hn) rfl 2 (by decide) f_Cell_35 rfl d_Cell_rows_12 ?_
    have hv : crows C n b = C.1 2 n := by unfold crows; rw [if_pos c5]
    rw [hv] at r
    exact p_iret h r d_Cell_rows_15
theorem x_TCM_object3 {n : Nat} {w : Int32} (htr : l.stackTraces = false) (hn : n < 16) (hw1 : ¬ w < 0) (hw2 : ¬ 3 < w) (hw0 : ¬ w = 0) (hk : C.1 0 n = 0) : Ce l D t ad y_TCM_object b_TCM_object 4 (some .int) { frames := 7, cells := 1, slots := 6, locals := 110 } [.ref (ad (ix 0 0)), .int (nI n), .int w] C X_NSE C := by
  refine ctX_of (by decide) (Nat.le_of_ble_eq_true rfl) ?_
  intro Γ hL hDD hN h r pw
  refine p_at (L' := [some (.ref (ad (ix 0 0))), some (.int (nI n)), some (.int w), none]) rfl rfl rfl ?_
  refine p_iload_n h d_TCM_object_0 rfl rfl ?_
  refine p_iconst (v := 0) h d_TCM_object_1 (by decide) ?_
  refine p_bipush (v := 15) h d_TCM_object_2 (by decide) ?_
  refine p_callS h pw tb_good (by rw [hL, hDD]; exact q_TCM_checkRange (n := nI n) (a := 0) (b := 15) (rg_lo (by omega)) (rg_hi (m := 15) (by omega) (by decide))) v_TCM_25 nm_TCM_checkRange rfl ⟨rfl, rfl, Nat.le_of_ble_eq_true rfl, Nat.le_of_ble_eq_true rfl, Nat.zero_le _, Nat.zero_le _⟩ rfl (Nat.le_of_ble_eq_true rfl) d_TCM_object_4 ?_
  refine p_iload_n h d_TCM_object_7 rfl rfl ?_
  refine p_iconst (v := 0) h d_TCM_object_8 (by decide) ?_
  refine p_iconst (v := 3) h d_TCM_object_9 (by decide) ?_
  refine p_callS h pw tb_good (by rw [hL, hDD]; exact q_TCM_checkRange hw1 hw2) v_TCM_25 nm_TCM_checkRange rfl ⟨rfl, rfl, Nat.le_of_ble_eq_true rfl, Nat.le_of_ble_eq_true rfl, Nat.zero_le _, Nat.zero_le _⟩ rfl (Nat.le_of_ble_eq_true rfl) d_TCM_object_10 ?_
  refine p_aload_n h d_TCM_object_13 rfl rfl ?_
  refine p_get h pw i_TCM (ix 0 0) (ix_lt 0 (by decide) _ (by decide)) (wc_at (by decide) (by decide)) rfl 1 (by decide) f_TCM_12 rfl d_TCM_object_14 ?_
  refine p_get h pw i_Heap (ix 1 0) (ix_lt 1 (by decide) _ (by decide)) (wc_at (by decide) (by decide)) rfl 1 (by decide) f_TCM_99 rfl d_TCM_object_17 ?_
  refine p_iload_n h d_TCM_object_20 rfl rfl ?_
  refine p_aaload h pw (ix 3 0) 1 (ix_lt 3 (by decide) _ (by decide)) (wc_at (by decide) (by decide)) rfl (vp_in_nI hn (by decide)) d_TCM_object_21 ?_
  rw [nI_clamp (show n < 2 ^ 31 by omega)]
  refine p_astore_n (x := ad (ix 4 n)) h d_TCM_object_22 rfl rfl (by rw [hN]; decide) ?_
  refine p_iload_n h d_TCM_object_23 rfl rfl ?_
  refine p_if_ne (tgt := 32) h d_TCM_object_24 (by decide) (fun _ => ?_) (fun c => absurd c hw0)
  refine p_aload_n h d_TCM_object_32 rfl rfl ?_
  refine p_get h pw i_Cell (ix 4 n) (ix_lt 4 (by decide) _ hn) (wc_at (by decide) hn) rfl 2 (by decide) f_TCM_103 rfl d_TCM_object_33 ?_
  refine p_if_ne (tgt := 47) h d_TCM_object_36 (by decide) (fun c => absurd hk c) (fun _ => ?_)
  exact p_throw h r pw (by rw [hL]; exact htr) (X := X_NSE) (names := xN) (by decide +kernel) xN_fit xw_NSE xcl_NSE xin_NSE xii_NSE ⟨by decide, by decide, by decide, by decide⟩ (by decide) ⟨rfl, rfl⟩ d_TCM_object_39 d_TCM_object_42 d_TCM_object_43 d_TCM_object_46
theorem x_TCM_inside2 {n : Nat} {i b : Int32} (htr : l.stackTraces = false) (hn : n < 16) (hi : i < 0) : Ce l D t ad y_TCM_inside b_TCM_inside 5 (some .long) { frames := 7, cells := 1, slots := 6, locals := 110 } [.ref (ad (ix 0 0)), .int (nI n), .int i, .int b] C X_IAE C := by
  refine ctX_of (by decide) (Nat.le_of_ble_eq_true rfl) ?_
  intro Γ hL hDD hN h r pw
  refine p_at (L' := [some (.ref (ad (ix 0 0))), some (.int (nI n)), some (.int i), some (.int b), none]) rfl rfl rfl ?_
  refine p_iload_n h d_TCM_inside_0 rfl rfl ?_
  refine p_iconst (v := 0) h d_TCM_inside_1 (by decide) ?_
  refine p_bipush (v := 15) h d_TCM_inside_2 (by decide) ?_
  refine p_callS h pw tb_good (by rw [hL, hDD]; exact q_TCM_checkRange (n := nI n) (a := 0) (b := 15) (rg_lo (by omega)) (rg_hi (m := 15) (by omega) (by decide))) v_TCM_25 nm_TCM_checkRange rfl ⟨rfl, rfl, Nat.le_of_ble_eq_true rfl, Nat.le_of_ble_eq_true rfl, Nat.zero_le _, Nat.zero_le _⟩ rfl (Nat.le_of_ble_eq_true rfl) d_TCM_inside_4 ?_
  refine p_iload_n h d_TCM_inside_7 rfl rfl ?_
  refine p_if_ge (tgt := 19) h d_TCM_inside_8 (by decide) (fun c => absurd hi (Int32.not_lt.mpr c)) (fun _ => ?_)
  exact p_throw h r pw (by rw [hL]; exact htr) (X := X_IAE) (names := xN) (by decide +kernel) xN_fit xw_IAE xcl_IAE xin_IAE xii_IAE ⟨by decide, by decide, by decide, by decide⟩ (by decide) ⟨rfl, rfl⟩ d_TCM_inside_11 d_TCM_inside_14 d_TCM_inside_15 d_TCM_inside_18
theorem x_TCM_inside3 {n : Nat} {i b : Int32} (htr : l.stackTraces = false) (hn : n < 16) (hi : ¬ i < 0) (hr : ¬ i < crows C n b) : Ce l D t ad y_TCM_inside b_TCM_inside 5 (some .long) { frames := 7, cells := 1, slots := 6, locals := 110 } [.ref (ad (ix 0 0)), .int (nI n), .int i, .int b] C X_NSE C := by
  refine ctX_of (by decide) (Nat.le_of_ble_eq_true rfl) ?_
  intro Γ hL hDD hN h r pw
  refine p_at (L' := [some (.ref (ad (ix 0 0))), some (.int (nI n)), some (.int i), some (.int b), none]) rfl rfl rfl ?_
  refine p_iload_n h d_TCM_inside_0 rfl rfl ?_
  refine p_iconst (v := 0) h d_TCM_inside_1 (by decide) ?_
  refine p_bipush (v := 15) h d_TCM_inside_2 (by decide) ?_
  refine p_callS h pw tb_good (by rw [hL, hDD]; exact q_TCM_checkRange (n := nI n) (a := 0) (b := 15) (rg_lo (by omega)) (rg_hi (m := 15) (by omega) (by decide))) v_TCM_25 nm_TCM_checkRange rfl ⟨rfl, rfl, Nat.le_of_ble_eq_true rfl, Nat.le_of_ble_eq_true rfl, Nat.zero_le _, Nat.zero_le _⟩ rfl (Nat.le_of_ble_eq_true rfl) d_TCM_inside_4 ?_
  refine p_iload_n h d_TCM_inside_7 rfl rfl ?_
  refine p_if_ge (tgt := 19) h d_TCM_inside_8 (by decide) (fun _ => ?_) (fun c => absurd (Int32.not_lt.mp hi) c)
  refine p_aload_n h d_TCM_inside_19 rfl rfl ?_
  refine p_get h pw i_TCM (ix 0 0) (ix_lt 0 (by decide) _ (by decide)) (wc_at (by decide) (by decide)) rfl 1 (by decide) f_TCM_12 rfl d_TCM_inside_20 ?_
  refine p_get h pw i_Heap (ix 1 0) (ix_lt 1 (by decide) _ (by decide)) (wc_at (by decide) (by decide)) rfl 1 (by decide) f_TCM_99 rfl d_TCM_inside_23 ?_
  refine p_iload_n h d_TCM_inside_26 rfl rfl ?_
  refine p_aaload h pw (ix 3 0) 1 (ix_lt 3 (by decide) _ (by decide)) (wc_at (by decide) (by decide)) rfl (vp_in_nI hn (by decide)) d_TCM_inside_27 ?_
  rw [nI_clamp (show n < 2 ^ 31 by omega)]
  refine p_astore (x := ad (ix 4 n)) h d_TCM_inside_28 rfl (by rw [hN]; decide) ?_
  refine p_iload_n h d_TCM_inside_30 rfl rfl ?_
  refine p_aload h d_TCM_inside_31 rfl ?_
  refine p_iload_n h d_TCM_inside_33 rfl rfl ?_
  refine p_callV (q := ix 4 n) h pw tb_good (by rw [hL, hDD]; exact q_Cell_rows (b := b) hn) (ix_lt 4 (by decide) _ hn) (wc_at (by decide) hn) rfl v_TCM_141 nm_Cell_rows rfl ⟨rfl, rfl, Nat.le_of_ble_eq_true rfl, Nat.le_of_ble_eq_true rfl, Nat.zero_le _, Nat.zero_le _⟩ rfl (Nat.le_of_ble_eq_true rfl) d_TCM_inside_34 ?_
  refine p_icmp_lt (tgt := 48) h d_TCM_inside_37 (by decide) (fun c => absurd c hr) (fun _ => ?_)
  exact p_throw h r pw (by rw [hL]; exact htr) (X := X_NSE) (names := xN) (by decide +kernel) xN_fit xw_NSE xcl_NSE xin_NSE xii_NSE ⟨by decide, by decide, by decide, by decide⟩ (by decide) ⟨rfl, rfl⟩ d_TCM_inside_40 d_TCM_inside_43 d_TCM_inside_44 d_TCM_inside_47
end Throw3
