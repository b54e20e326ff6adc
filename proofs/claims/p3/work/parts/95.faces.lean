theorem gi_ok {g : Nat} (h : g < 6) : ¬ (nI g < 0 ∨ 5 < nI g) := fun z => z.elim (nI_pos (by omega)) (fun y => absurd y (nI_nlt (a := 5) (b := g) (by omega) (by decide)))
theorem rg_lo {g : Nat} (h : g < 2 ^ 31) : ¬ nI g < 0 := nI_pos h
theorem rg_m1 {g : Nat} (h : g < 2 ^ 31) : ¬ nI g < -1 := fun z => nI_pos h (Int32.lt_trans z (by decide))
theorem rg_hi {g m : Nat} (h : g ≤ m) (hm : m < 2 ^ 31) : ¬ nI m < nI g := nI_nlt h hm
set_option maxHeartbeats 4000000 in
set_option maxRecDepth 100000 in
theorem c_TCM_number {l : Launch} {D : va_G} {t : Nat → ClassId} {ad : Nat → Nat} {C : CS} {g : Nat} {v : Int32} (hg : g < 6) : Cd l D t ad y_TCM_number b_TCM_number 3 none { frames := 2, cells := 0, slots := 0, locals := 42 } [.ref (ad (ix 0 0)), .int (nI g), .int v] (C) (none) (sJ C 0 0 g v.toInt64) := by
  refine ct_of (by decide) (Nat.le_of_ble_eq_true rfl) ?_
  intro Γ _ _ hN h r
  refine g_at (L' := [some (.ref (ad (ix 0 0))), some (.int (nI g)), some (.int v)]) rfl rfl rfl ?_
  refine g_iload_n h d_TCM_number_0 rfl rfl ?_
  refine g_dSv h tb_good (c_TCM_checkGlobal (gi_ok hg)) v_TCM_48 nm_TCM_checkGlobal rfl ⟨rfl, rfl, Nat.le_of_ble_eq_true rfl, Nat.le_of_ble_eq_true rfl, Nat.zero_le _, Nat.zero_le _⟩ rfl (Nat.le_of_ble_eq_true rfl) d_TCM_number_1 ?_
  refine g_aload_n h d_TCM_number_4 rfl rfl ?_
  refine gf_TCM_heap h f_TCM_12 d_TCM_number_5 ?_
  refine gf_Heap_globals h f_TCM_52 d_TCM_number_8 ?_
  refine g_iload_n h d_TCM_number_11 rfl rfl ?_
  refine g_iload_n h d_TCM_number_12 rfl rfl ?_
  refine g_i2l h d_TCM_number_13 ?_
  refine pa_glo h rfl hg d_TCM_number_14 ?_
  exact g_vret h r d_TCM_number_15 (⟨rfl, rfl⟩)
set_option maxHeartbeats 4000000 in
set_option maxRecDepth 100000 in
theorem c_TCM_move {l : Launch} {D : va_G} {t : Nat → ClassId} {ad : Nat → Nat} {C : CS} {g : Nat} {k : Option Nat} (hg : g < 6) (hk : ∀ j, k = some j → j < 6) : Cd l D t ad y_TCM_move b_TCM_move 3 none { frames := 2, cells := 0, slots := 0, locals := 42 } [.ref (ad (ix 0 0)), .int (nI g), .int (enc k)] (C) (none) (sJ C 0 0 g (match k with | none => -1000000000000 | some j => C.2.1 0 0 j)) := by
  refine ct_of (by decide) (Nat.le_of_ble_eq_true rfl) ?_
  intro Γ _ _ hN h r
  rcases k with _ | k
  · refine g_at (L' := [some (.ref (ad (ix 0 0))), some (.int (nI g)), some (.int (-1))]) rfl rfl rfl ?_
    refine g_iload_n h d_TCM_move_0 rfl rfl ?_
    refine g_dSv h tb_good (c_TCM_checkGlobal (gi_ok hg)) v_TCM_48 nm_TCM_checkGlobal rfl ⟨rfl, rfl, Nat.le_of_ble_eq_true rfl, Nat.le_of_ble_eq_true rfl, Nat.zero_le _, Nat.zero_le _⟩ rfl (Nat.le_of_ble_eq_true rfl) d_TCM_move_1 ?_
    refine g_iload_n h d_TCM_move_4 rfl rfl ?_
    refine g_iconst (v := -1) h d_TCM_move_5 (by decide) ?_
    refine g_iconst (v := 5) h d_TCM_move_6 (by decide) ?_
    refine g_dSv h tb_good (c_TCM_checkRange (by decide) (by decide)) v_TCM_25 nm_TCM_checkRange rfl ⟨rfl, rfl, Nat.le_of_ble_eq_true rfl, Nat.le_of_ble_eq_true rfl, Nat.zero_le _, Nat.zero_le _⟩ rfl (Nat.le_of_ble_eq_true rfl) d_TCM_move_7 ?_
    refine g_aload_n h d_TCM_move_10 rfl rfl ?_
    refine gf_TCM_heap h f_TCM_12 d_TCM_move_11 ?_
    refine gf_Heap_globals h f_TCM_52 d_TCM_move_14 ?_
    refine g_iload_n h d_TCM_move_17 rfl rfl ?_
    refine g_iload_n h d_TCM_move_18 rfl rfl ?_
    refine g_if_ge (tgt := 28) h d_TCM_move_19 (by decide) (fun c_19 => ?_) (fun c_19 => ?_)
    · exact absurd c_19 (by decide)
    · refine g_ldc2 (v := -1000000000000) h d_TCM_move_22 k_TCM_56 ?_
      refine g_goto (tgt := 37) h d_TCM_move_25 (by decide) ?_
      refine pa_glo h rfl hg d_TCM_move_37 ?_
      exact g_vret h r d_TCM_move_38 (⟨rfl, rfl⟩)
  · have hk := hk k rfl
    refine g_at (L' := [some (.ref (ad (ix 0 0))), some (.int (nI g)), some (.int (nI k))]) rfl rfl rfl ?_
    refine g_iload_n h d_TCM_move_0 rfl rfl ?_
    refine g_dSv h tb_good (c_TCM_checkGlobal (gi_ok hg)) v_TCM_48 nm_TCM_checkGlobal rfl ⟨rfl, rfl, Nat.le_of_ble_eq_true rfl, Nat.le_of_ble_eq_true rfl, Nat.zero_le _, Nat.zero_le _⟩ rfl (Nat.le_of_ble_eq_true rfl) d_TCM_move_1 ?_
    refine g_iload_n h d_TCM_move_4 rfl rfl ?_
    refine g_iconst (v := -1) h d_TCM_move_5 (by decide) ?_
    refine g_iconst (v := 5) h d_TCM_move_6 (by decide) ?_
    refine g_dSv h tb_good (c_TCM_checkRange (rg_m1 (by omega)) (rg_hi (m := 5) (by omega) (by decide))) v_TCM_25 nm_TCM_checkRange rfl ⟨rfl, rfl, Nat.le_of_ble_eq_true rfl, Nat.le_of_ble_eq_true rfl, Nat.zero_le _, Nat.zero_le _⟩ rfl (Nat.le_of_ble_eq_true rfl) d_TCM_move_7 ?_
    refine g_aload_n h d_TCM_move_10 rfl rfl ?_
    refine gf_TCM_heap h f_TCM_12 d_TCM_move_11 ?_
    refine gf_Heap_globals h f_TCM_52 d_TCM_move_14 ?_
    refine g_iload_n h d_TCM_move_17 rfl rfl ?_
    refine g_iload_n h d_TCM_move_18 rfl rfl ?_
    refine g_if_ge (tgt := 28) h d_TCM_move_19 (by decide) (fun c_19 => ?_) (fun c_19 => ?_)
    · refine g_aload_n h d_TCM_move_28 rfl rfl ?_
      refine gf_TCM_heap h f_TCM_12 d_TCM_move_29 ?_
      refine gf_Heap_globals h f_TCM_52 d_TCM_move_32 ?_
      refine g_iload_n h d_TCM_move_35 rfl rfl ?_
      refine ga_glo h rfl hk d_TCM_move_36 ?_
      refine pa_glo h rfl hg d_TCM_move_37 ?_
      exact g_vret h r d_TCM_move_38 (⟨rfl, rfl⟩)
    · exact absurd (nI_pos' (by omega)) c_19
set_option maxHeartbeats 4000000 in
set_option maxRecDepth 100000 in
theorem c_TCM_make {l : Launch} {D : va_G} {t : Nat → ClassId} {ad : Nat → Nat} {C : CS} {g : Nat} {f : Option Nat} (hok : okC C) (hg : g < 6) (hf : ∀ j, f = some j → j < 4) (hcr : (ccreate C (match f with | none => 1 | some _ => 2) (enc f)).1 = 0) : Cd l D t ad y_TCM_make b_TCM_make 3 (some .int) { frames := 5, cells := 0, slots := 0, locals := 114 } [.ref (ad (ix 0 0)), .int (nI g), .int (enc f)] (C) (some (.int ((ccreate C (match f with | none => 1 | some _ => 2) (enc f)).2.2.1 4 0 0 - 10000000000).toInt32)) (sJ (ccreate C (match f with | none => 1 | some _ => 2) (enc f)).2 0 0 g ((ccreate C (match f with | none => 1 | some _ => 2) (enc f)).2.2.1 4 0 0)) := by
  refine ct_of (by decide) (Nat.le_of_ble_eq_true rfl) ?_
  intro Γ _ _ hN h r
  rcases f with _ | f
  · simp only [enc] at hcr
    refine g_at (L' := [some (.ref (ad (ix 0 0))), some (.int (nI g)), some (.int (-1))]) rfl rfl rfl ?_
    refine g_iload_n h d_TCM_make_0 rfl rfl ?_
    refine g_dSv h tb_good (c_TCM_checkGlobal (gi_ok hg)) v_TCM_48 nm_TCM_checkGlobal rfl ⟨rfl, rfl, Nat.le_of_ble_eq_true rfl, Nat.le_of_ble_eq_true rfl, Nat.zero_le _, Nat.zero_le _⟩ rfl (Nat.le_of_ble_eq_true rfl) d_TCM_make_1 ?_
    refine g_iload_n h d_TCM_make_4 rfl rfl ?_
    refine g_iconst (v := -1) h d_TCM_make_5 (by decide) ?_
    refine g_iconst (v := 3) h d_TCM_make_6 (by decide) ?_
    refine g_dSv h tb_good (c_TCM_checkRange (by decide) (by decide)) v_TCM_25 nm_TCM_checkRange rfl ⟨rfl, rfl, Nat.le_of_ble_eq_true rfl, Nat.le_of_ble_eq_true rfl, Nat.zero_le _, Nat.zero_le _⟩ rfl (Nat.le_of_ble_eq_true rfl) d_TCM_make_7 ?_
    refine g_aload_n h d_TCM_make_10 rfl rfl ?_
    refine gf_TCM_heap h f_TCM_12 d_TCM_make_11 ?_
    refine g_iload_n h d_TCM_make_14 rfl rfl ?_
    refine g_if_ge (tgt := 22) h d_TCM_make_15 (by decide) (fun c_15 => ?_) (fun c_15 => ?_)
    · exact absurd c_15 (by decide)
    · refine g_iconst (v := 1) h d_TCM_make_18 (by decide) ?_
      refine g_goto (tgt := 23) h d_TCM_make_19 (by decide) ?_
      refine g_iload_n h d_TCM_make_23 rfl rfl ?_
      refine g_dVi h tb_good (c_Heap_create hok) (ix_lt 1 (by decide) _ (by decide)) (wc_at (by decide) (by decide)) rfl v_TCM_58 nm_Heap_create rfl ⟨rfl, rfl, Nat.le_of_ble_eq_true rfl, Nat.le_of_ble_eq_true rfl, Nat.zero_le _, Nat.zero_le _⟩ rfl (Nat.le_of_ble_eq_true rfl) d_TCM_make_24 ?_
      rw [hcr]
      refine g_dSv h tb_good (c_TCM_raise) v_TCM_62 nm_TCM_raise rfl ⟨rfl, rfl, Nat.le_of_ble_eq_true rfl, Nat.le_of_ble_eq_true rfl, Nat.zero_le _, Nat.zero_le _⟩ rfl (Nat.le_of_ble_eq_true rfl) d_TCM_make_27 ?_
      refine g_aload_n h d_TCM_make_30 rfl rfl ?_
      refine gf_TCM_heap h f_TCM_12 d_TCM_make_31 ?_
      refine gf_Heap_globals h f_TCM_52 d_TCM_make_34 ?_
      refine g_iload_n h d_TCM_make_37 rfl rfl ?_
      refine g_aload_n h d_TCM_make_38 rfl rfl ?_
      refine gf_TCM_heap h f_TCM_12 d_TCM_make_39 ?_
      refine gf_Heap_found h f_TCM_65 d_TCM_make_42 ?_
      refine pa_glo h rfl hg d_TCM_make_45 ?_
      refine g_aload_n h d_TCM_make_46 rfl rfl ?_
      refine gf_TCM_heap h f_TCM_12 d_TCM_make_47 ?_
      refine gf_Heap_found h f_TCM_65 d_TCM_make_50 ?_
      simp only [sI_1, sI_2, sJ_1, sJ_2, sJ_3, sR_1, sR_2, sR_3, Nat.reduceEqDiff, Nat.zero_ne_one, Nat.one_ne_zero, Nat.succ_ne_zero, reduceCtorEq, false_and, if_false, true_and, and_self, if_true, and_true, and_false, reduceIte]
      refine g_dSi h tb_good (c_TCM_numberOf) v_TCM_69 nm_TCM_numberOf rfl ⟨rfl, rfl, Nat.le_of_ble_eq_true rfl, Nat.le_of_ble_eq_true rfl, Nat.zero_le _, Nat.zero_le _⟩ rfl (Nat.le_of_ble_eq_true rfl) d_TCM_make_53 ?_
      exact g_iret h r d_TCM_make_56 (⟨rfl, rfl⟩)
  · have hf := hf f rfl
    simp only [enc] at hcr
    refine g_at (L' := [some (.ref (ad (ix 0 0))), some (.int (nI g)), some (.int (nI f))]) rfl rfl rfl ?_
    refine g_iload_n h d_TCM_make_0 rfl rfl ?_
    refine g_dSv h tb_good (c_TCM_checkGlobal (gi_ok hg)) v_TCM_48 nm_TCM_checkGlobal rfl ⟨rfl, rfl, Nat.le_of_ble_eq_true rfl, Nat.le_of_ble_eq_true rfl, Nat.zero_le _, Nat.zero_le _⟩ rfl (Nat.le_of_ble_eq_true rfl) d_TCM_make_1 ?_
    refine g_iload_n h d_TCM_make_4 rfl rfl ?_
    refine g_iconst (v := -1) h d_TCM_make_5 (by decide) ?_
    refine g_iconst (v := 3) h d_TCM_make_6 (by decide) ?_
    refine g_dSv h tb_good (c_TCM_checkRange (rg_m1 (by omega)) (rg_hi (m := 3) (by omega) (by decide))) v_TCM_25 nm_TCM_checkRange rfl ⟨rfl, rfl, Nat.le_of_ble_eq_true rfl, Nat.le_of_ble_eq_true rfl, Nat.zero_le _, Nat.zero_le _⟩ rfl (Nat.le_of_ble_eq_true rfl) d_TCM_make_7 ?_
    refine g_aload_n h d_TCM_make_10 rfl rfl ?_
    refine gf_TCM_heap h f_TCM_12 d_TCM_make_11 ?_
    refine g_iload_n h d_TCM_make_14 rfl rfl ?_
    refine g_if_ge (tgt := 22) h d_TCM_make_15 (by decide) (fun c_15 => ?_) (fun c_15 => ?_)
    · refine g_iconst (v := 2) h d_TCM_make_22 (by decide) ?_
      refine g_iload_n h d_TCM_make_23 rfl rfl ?_
      refine g_dVi h tb_good (c_Heap_create hok) (ix_lt 1 (by decide) _ (by decide)) (wc_at (by decide) (by decide)) rfl v_TCM_58 nm_Heap_create rfl ⟨rfl, rfl, Nat.le_of_ble_eq_true rfl, Nat.le_of_ble_eq_true rfl, Nat.zero_le _, Nat.zero_le _⟩ rfl (Nat.le_of_ble_eq_true rfl) d_TCM_make_24 ?_
      rw [hcr]
      refine g_dSv h tb_good (c_TCM_raise) v_TCM_62 nm_TCM_raise rfl ⟨rfl, rfl, Nat.le_of_ble_eq_true rfl, Nat.le_of_ble_eq_true rfl, Nat.zero_le _, Nat.zero_le _⟩ rfl (Nat.le_of_ble_eq_true rfl) d_TCM_make_27 ?_
      refine g_aload_n h d_TCM_make_30 rfl rfl ?_
      refine gf_TCM_heap h f_TCM_12 d_TCM_make_31 ?_
      refine gf_Heap_globals h f_TCM_52 d_TCM_make_34 ?_
      refine g_iload_n h d_TCM_make_37 rfl rfl ?_
      refine g_aload_n h d_TCM_make_38 rfl rfl ?_
      refine gf_TCM_heap h f_TCM_12 d_TCM_make_39 ?_
      refine gf_Heap_found h f_TCM_65 d_TCM_make_42 ?_
      refine pa_glo h rfl hg d_TCM_make_45 ?_
      refine g_aload_n h d_TCM_make_46 rfl rfl ?_
      refine gf_TCM_heap h f_TCM_12 d_TCM_make_47 ?_
      refine gf_Heap_found h f_TCM_65 d_TCM_make_50 ?_
      simp only [sI_1, sI_2, sJ_1, sJ_2, sJ_3, sR_1, sR_2, sR_3, Nat.reduceEqDiff, Nat.zero_ne_one, Nat.one_ne_zero, Nat.succ_ne_zero, reduceCtorEq, false_and, if_false, true_and, and_self, if_true, and_true, and_false, reduceIte]
      refine g_dSi h tb_good (c_TCM_numberOf) v_TCM_69 nm_TCM_numberOf rfl ⟨rfl, rfl, Nat.le_of_ble_eq_true rfl, Nat.le_of_ble_eq_true rfl, Nat.zero_le _, Nat.zero_le _⟩ rfl (Nat.le_of_ble_eq_true rfl) d_TCM_make_53 ?_
      exact g_iret h r d_TCM_make_56 (⟨rfl, rfl⟩)
    · exact absurd (nI_pos' (by omega)) c_15
set_option maxHeartbeats 4000000 in
set_option maxRecDepth 100000 in
theorem c_TCM_set {l : Launch} {D : va_G} {t : Nat → ClassId} {ad : Nat → Nat} {C : CS} {a b c : Nat} (hok : okC C) (ha : a < 6) (hb : b < 6) (hc : c < 6) (hz : (csetting C (C.2.1 0 0 a) (C.2.1 0 0 b) (C.2.1 0 0 c)).1 = 0) : Cd l D t ad y_TCM_set b_TCM_set 4 none { frames := 5, cells := 0, slots := 0, locals := 127 } [.ref (ad (ix 0 0)), .int (nI a), .int (nI b), .int (nI c)] (C) (none) ((csetting C (C.2.1 0 0 a) (C.2.1 0 0 b) (C.2.1 0 0 c)).2) := by
  refine ct_of (by decide) (Nat.le_of_ble_eq_true rfl) ?_
  intro Γ _ _ hN h r
  refine g_at (L' := [some (.ref (ad (ix 0 0))), some (.int (nI a)), some (.int (nI b)), some (.int (nI c))]) rfl rfl rfl ?_
  refine g_iload_n h d_TCM_set_0 rfl rfl ?_
  refine g_dSv h tb_good (c_TCM_checkGlobal (gi_ok ha)) v_TCM_48 nm_TCM_checkGlobal rfl ⟨rfl, rfl, Nat.le_of_ble_eq_true rfl, Nat.le_of_ble_eq_true rfl, Nat.zero_le _, Nat.zero_le _⟩ rfl (Nat.le_of_ble_eq_true rfl) d_TCM_set_1 ?_
  refine g_iload_n h d_TCM_set_4 rfl rfl ?_
  refine g_dSv h tb_good (c_TCM_checkGlobal (gi_ok hb)) v_TCM_48 nm_TCM_checkGlobal rfl ⟨rfl, rfl, Nat.le_of_ble_eq_true rfl, Nat.le_of_ble_eq_true rfl, Nat.zero_le _, Nat.zero_le _⟩ rfl (Nat.le_of_ble_eq_true rfl) d_TCM_set_5 ?_
  refine g_iload_n h d_TCM_set_8 rfl rfl ?_
  refine g_dSv h tb_good (c_TCM_checkGlobal (gi_ok hc)) v_TCM_48 nm_TCM_checkGlobal rfl ⟨rfl, rfl, Nat.le_of_ble_eq_true rfl, Nat.le_of_ble_eq_true rfl, Nat.zero_le _, Nat.zero_le _⟩ rfl (Nat.le_of_ble_eq_true rfl) d_TCM_set_9 ?_
  refine g_aload_n h d_TCM_set_12 rfl rfl ?_
  refine gf_TCM_heap h f_TCM_12 d_TCM_set_13 ?_
  refine g_aload_n h d_TCM_set_16 rfl rfl ?_
  refine gf_TCM_heap h f_TCM_12 d_TCM_set_17 ?_
  refine gf_Heap_globals h f_TCM_52 d_TCM_set_20 ?_
  refine g_iload_n h d_TCM_set_23 rfl rfl ?_
  refine ga_glo h rfl ha d_TCM_set_24 ?_
  refine g_aload_n h d_TCM_set_25 rfl rfl ?_
  refine gf_TCM_heap h f_TCM_12 d_TCM_set_26 ?_
  refine gf_Heap_globals h f_TCM_52 d_TCM_set_29 ?_
  refine g_iload_n h d_TCM_set_32 rfl rfl ?_
  refine ga_glo h rfl hb d_TCM_set_33 ?_
  refine g_aload_n h d_TCM_set_34 rfl rfl ?_
  refine gf_TCM_heap h f_TCM_12 d_TCM_set_35 ?_
  refine gf_Heap_globals h f_TCM_52 d_TCM_set_38 ?_
  refine g_iload_n h d_TCM_set_41 rfl rfl ?_
  refine ga_glo h rfl hc d_TCM_set_42 ?_
  refine g_dVi h tb_good (c_Heap_setting hok (hok.2.1 _ _ _)) (ix_lt 1 (by decide) _ (by decide)) (wc_at (by decide) (by decide)) rfl v_TCM_73 nm_Heap_setting rfl ⟨rfl, rfl, Nat.le_of_ble_eq_true rfl, Nat.le_of_ble_eq_true rfl, Nat.zero_le _, Nat.zero_le _⟩ rfl (Nat.le_of_ble_eq_true rfl) d_TCM_set_43 ?_
  rw [hz]
  refine g_dSv h tb_good (c_TCM_raise) v_TCM_62 nm_TCM_raise rfl ⟨rfl, rfl, Nat.le_of_ble_eq_true rfl, Nat.le_of_ble_eq_true rfl, Nat.zero_le _, Nat.zero_le _⟩ rfl (Nat.le_of_ble_eq_true rfl) d_TCM_set_46 ?_
  exact g_vret h r d_TCM_set_49 (⟨rfl, rfl⟩)
set_option maxHeartbeats 4000000 in
set_option maxRecDepth 100000 in
theorem c_TCM_get {l : Launch} {D : va_G} {t : Nat → ClassId} {ad : Nat → Nat} {C : CS} {a b c : Nat} (hok : okC C) (ha : a < 6) (hb : b < 6) (hc : c < 6) (hz : (cgetting C (C.2.1 0 0 a) (C.2.1 0 0 b)).1 = 0) : Cd l D t ad y_TCM_get b_TCM_get 4 (some .long) { frames := 5, cells := 0, slots := 0, locals := 125 } [.ref (ad (ix 0 0)), .int (nI a), .int (nI b), .int (nI c)] (C) (some (.long ((cgetting C (C.2.1 0 0 a) (C.2.1 0 0 b)).2.2.1 4 0 0))) (sJ (cgetting C (C.2.1 0 0 a) (C.2.1 0 0 b)).2 0 0 c ((cgetting C (C.2.1 0 0 a) (C.2.1 0 0 b)).2.2.1 4 0 0)) := by
  refine ct_of (by decide) (Nat.le_of_ble_eq_true rfl) ?_
  intro Γ _ _ hN h r
  refine g_at (L' := [some (.ref (ad (ix 0 0))), some (.int (nI a)), some (.int (nI b)), some (.int (nI c))]) rfl rfl rfl ?_
  refine g_iload_n h d_TCM_get_0 rfl rfl ?_
  refine g_dSv h tb_good (c_TCM_checkGlobal (gi_ok ha)) v_TCM_48 nm_TCM_checkGlobal rfl ⟨rfl, rfl, Nat.le_of_ble_eq_true rfl, Nat.le_of_ble_eq_true rfl, Nat.zero_le _, Nat.zero_le _⟩ rfl (Nat.le_of_ble_eq_true rfl) d_TCM_get_1 ?_
  refine g_iload_n h d_TCM_get_4 rfl rfl ?_
  refine g_dSv h tb_good (c_TCM_checkGlobal (gi_ok hb)) v_TCM_48 nm_TCM_checkGlobal rfl ⟨rfl, rfl, Nat.le_of_ble_eq_true rfl, Nat.le_of_ble_eq_true rfl, Nat.zero_le _, Nat.zero_le _⟩ rfl (Nat.le_of_ble_eq_true rfl) d_TCM_get_5 ?_
  refine g_iload_n h d_TCM_get_8 rfl rfl ?_
  refine g_dSv h tb_good (c_TCM_checkGlobal (gi_ok hc)) v_TCM_48 nm_TCM_checkGlobal rfl ⟨rfl, rfl, Nat.le_of_ble_eq_true rfl, Nat.le_of_ble_eq_true rfl, Nat.zero_le _, Nat.zero_le _⟩ rfl (Nat.le_of_ble_eq_true rfl) d_TCM_get_9 ?_
  refine g_aload_n h d_TCM_get_12 rfl rfl ?_
  refine gf_TCM_heap h f_TCM_12 d_TCM_get_13 ?_
  refine g_aload_n h d_TCM_get_16 rfl rfl ?_
  refine gf_TCM_heap h f_TCM_12 d_TCM_get_17 ?_
  refine gf_Heap_globals h f_TCM_52 d_TCM_get_20 ?_
  refine g_iload_n h d_TCM_get_23 rfl rfl ?_
  refine ga_glo h rfl ha d_TCM_get_24 ?_
  refine g_aload_n h d_TCM_get_25 rfl rfl ?_
  refine gf_TCM_heap h f_TCM_12 d_TCM_get_26 ?_
  refine gf_Heap_globals h f_TCM_52 d_TCM_get_29 ?_
  refine g_iload_n h d_TCM_get_32 rfl rfl ?_
  refine ga_glo h rfl hb d_TCM_get_33 ?_
  refine g_dVi h tb_good (c_Heap_getting hok (hok.2.1 _ _ _)) (ix_lt 1 (by decide) _ (by decide)) (wc_at (by decide) (by decide)) rfl v_TCM_77 nm_Heap_getting rfl ⟨rfl, rfl, Nat.le_of_ble_eq_true rfl, Nat.le_of_ble_eq_true rfl, Nat.zero_le _, Nat.zero_le _⟩ rfl (Nat.le_of_ble_eq_true rfl) d_TCM_get_34 ?_
  rw [hz]
  refine g_dSv h tb_good (c_TCM_raise) v_TCM_62 nm_TCM_raise rfl ⟨rfl, rfl, Nat.le_of_ble_eq_true rfl, Nat.le_of_ble_eq_true rfl, Nat.zero_le _, Nat.zero_le _⟩ rfl (Nat.le_of_ble_eq_true rfl) d_TCM_get_37 ?_
  refine g_aload_n h d_TCM_get_40 rfl rfl ?_
  refine gf_TCM_heap h f_TCM_12 d_TCM_get_41 ?_
  refine gf_Heap_globals h f_TCM_52 d_TCM_get_44 ?_
  refine g_iload_n h d_TCM_get_47 rfl rfl ?_
  refine g_aload_n h d_TCM_get_48 rfl rfl ?_
  refine gf_TCM_heap h f_TCM_12 d_TCM_get_49 ?_
  refine gf_Heap_found h f_TCM_65 d_TCM_get_52 ?_
  refine pa_glo h rfl hc d_TCM_get_55 ?_
  refine g_aload_n h d_TCM_get_56 rfl rfl ?_
  refine gf_TCM_heap h f_TCM_12 d_TCM_get_57 ?_
  refine gf_Heap_found h f_TCM_65 d_TCM_get_60 ?_
  simp only [sI_1, sI_2, sJ_1, sJ_2, sJ_3, sR_1, sR_2, sR_3, Nat.reduceEqDiff, Nat.zero_ne_one, Nat.one_ne_zero, Nat.succ_ne_zero, reduceCtorEq, false_and, if_false, true_and, and_self, if_true, and_true, and_false, reduceIte]
  exact g_lret h r d_TCM_get_63 (⟨rfl, rfl⟩)
set_option maxHeartbeats 4000000 in
set_option maxRecDepth 100000 in
theorem c_TCM_meta {l : Launch} {D : va_G} {t : Nat → ClassId} {ad : Nat → Nat} {C : CS} {a b : Nat} (hok : okC C) (ha : a < 6) (hb : b < 6) (hz : (csetMeta C (C.2.1 0 0 a) (C.2.1 0 0 b)).1 = 0) : Cd l D t ad y_TCM_meta b_TCM_meta 3 none { frames := 3, cells := 0, slots := 0, locals := 69 } [.ref (ad (ix 0 0)), .int (nI a), .int (nI b)] (C) (none) ((csetMeta C (C.2.1 0 0 a) (C.2.1 0 0 b)).2) := by
  refine ct_of (by decide) (Nat.le_of_ble_eq_true rfl) ?_
  intro Γ _ _ hN h r
  refine g_at (L' := [some (.ref (ad (ix 0 0))), some (.int (nI a)), some (.int (nI b))]) rfl rfl rfl ?_
  refine g_iload_n h d_TCM_meta_0 rfl rfl ?_
  refine g_dSv h tb_good (c_TCM_checkGlobal (gi_ok ha)) v_TCM_48 nm_TCM_checkGlobal rfl ⟨rfl, rfl, Nat.le_of_ble_eq_true rfl, Nat.le_of_ble_eq_true rfl, Nat.zero_le _, Nat.zero_le _⟩ rfl (Nat.le_of_ble_eq_true rfl) d_TCM_meta_1 ?_
  refine g_iload_n h d_TCM_meta_4 rfl rfl ?_
  refine g_dSv h tb_good (c_TCM_checkGlobal (gi_ok hb)) v_TCM_48 nm_TCM_checkGlobal rfl ⟨rfl, rfl, Nat.le_of_ble_eq_true rfl, Nat.le_of_ble_eq_true rfl, Nat.zero_le _, Nat.zero_le _⟩ rfl (Nat.le_of_ble_eq_true rfl) d_TCM_meta_5 ?_
  refine g_aload_n h d_TCM_meta_8 rfl rfl ?_
  refine gf_TCM_heap h f_TCM_12 d_TCM_meta_9 ?_
  refine g_aload_n h d_TCM_meta_12 rfl rfl ?_
  refine gf_TCM_heap h f_TCM_12 d_TCM_meta_13 ?_
  refine gf_Heap_globals h f_TCM_52 d_TCM_meta_16 ?_
  refine g_iload_n h d_TCM_meta_19 rfl rfl ?_
  refine ga_glo h rfl ha d_TCM_meta_20 ?_
  refine g_aload_n h d_TCM_meta_21 rfl rfl ?_
  refine gf_TCM_heap h f_TCM_12 d_TCM_meta_22 ?_
  refine gf_Heap_globals h f_TCM_52 d_TCM_meta_25 ?_
  refine g_iload_n h d_TCM_meta_28 rfl rfl ?_
  refine ga_glo h rfl hb d_TCM_meta_29 ?_
  refine g_dVi h tb_good (c_Heap_settingMeta hok (hok.2.1 _ _ _) (hok.2.1 _ _ _)) (ix_lt 1 (by decide) _ (by decide)) (wc_at (by decide) (by decide)) rfl v_TCM_81 nm_Heap_settingMeta rfl ⟨rfl, rfl, Nat.le_of_ble_eq_true rfl, Nat.le_of_ble_eq_true rfl, Nat.zero_le _, Nat.zero_le _⟩ rfl (Nat.le_of_ble_eq_true rfl) d_TCM_meta_30 ?_
  rw [hz]
  refine g_dSv h tb_good (c_TCM_raise) v_TCM_62 nm_TCM_raise rfl ⟨rfl, rfl, Nat.le_of_ble_eq_true rfl, Nat.le_of_ble_eq_true rfl, Nat.zero_le _, Nat.zero_le _⟩ rfl (Nat.le_of_ble_eq_true rfl) d_TCM_meta_33 ?_
  exact g_vret h r d_TCM_meta_36 (⟨rfl, rfl⟩)
set_option maxHeartbeats 4000000 in
set_option maxRecDepth 100000 in
theorem c_TCM_resume {l : Launch} {D : va_G} {t : Nat → ClassId} {ad : Nat → Nat} {C : CS} {a b c : Nat} {M : CS} (hR : RR C M) (ha : a < 6) (hb : b < 6) (hc : c < 6) (hz : (crunT C (C.2.1 0 0 a) (C.2.1 0 0 b)).1 = 0) : Cd l D t ad y_TCM_resume b_TCM_resume 4 (some .long) { frames := 7, cells := 0, slots := 0, locals := 180 } [.ref (ad (ix 0 0)), .int (nI a), .int (nI b), .int (nI c)] (C) (some (.long ((crunT C (C.2.1 0 0 a) (C.2.1 0 0 b)).2.2.1 5 0 0))) (sJ (crunT C (C.2.1 0 0 a) (C.2.1 0 0 b)).2 0 0 c ((crunT C (C.2.1 0 0 a) (C.2.1 0 0 b)).2.2.1 5 0 0)) := by
  refine ct_of (by decide) (Nat.le_of_ble_eq_true rfl) ?_
  intro Γ _ _ hN h r
  refine g_at (L' := [some (.ref (ad (ix 0 0))), some (.int (nI a)), some (.int (nI b)), some (.int (nI c))]) rfl rfl rfl ?_
  refine g_iload_n h d_TCM_resume_0 rfl rfl ?_
  refine g_dSv h tb_good (c_TCM_checkGlobal (gi_ok ha)) v_TCM_48 nm_TCM_checkGlobal rfl ⟨rfl, rfl, Nat.le_of_ble_eq_true rfl, Nat.le_of_ble_eq_true rfl, Nat.zero_le _, Nat.zero_le _⟩ rfl (Nat.le_of_ble_eq_true rfl) d_TCM_resume_1 ?_
  refine g_iload_n h d_TCM_resume_4 rfl rfl ?_
  refine g_dSv h tb_good (c_TCM_checkGlobal (gi_ok hb)) v_TCM_48 nm_TCM_checkGlobal rfl ⟨rfl, rfl, Nat.le_of_ble_eq_true rfl, Nat.le_of_ble_eq_true rfl, Nat.zero_le _, Nat.zero_le _⟩ rfl (Nat.le_of_ble_eq_true rfl) d_TCM_resume_5 ?_
  refine g_iload_n h d_TCM_resume_8 rfl rfl ?_
  refine g_dSv h tb_good (c_TCM_checkGlobal (gi_ok hc)) v_TCM_48 nm_TCM_checkGlobal rfl ⟨rfl, rfl, Nat.le_of_ble_eq_true rfl, Nat.le_of_ble_eq_true rfl, Nat.zero_le _, Nat.zero_le _⟩ rfl (Nat.le_of_ble_eq_true rfl) d_TCM_resume_9 ?_
  refine g_aload_n h d_TCM_resume_12 rfl rfl ?_
  refine gf_TCM_processor h f_TCM_21 d_TCM_resume_13 ?_
  refine g_aload_n h d_TCM_resume_16 rfl rfl ?_
  refine gf_TCM_heap h f_TCM_12 d_TCM_resume_17 ?_
  refine gf_Heap_globals h f_TCM_52 d_TCM_resume_20 ?_
  refine g_iload_n h d_TCM_resume_23 rfl rfl ?_
  refine ga_glo h rfl ha d_TCM_resume_24 ?_
  refine g_aload_n h d_TCM_resume_25 rfl rfl ?_
  refine gf_TCM_heap h f_TCM_12 d_TCM_resume_26 ?_
  refine gf_Heap_globals h f_TCM_52 d_TCM_resume_29 ?_
  refine g_iload_n h d_TCM_resume_32 rfl rfl ?_
  refine ga_glo h rfl hb d_TCM_resume_33 ?_
  refine g_dVi h tb_good (c_Pro_run (I := fun tr X => ∃ M, KK tr X M) hR.1.1 (hR.1.1.2.1 _ _ _) (fun _ _ z => KK_okC z) (fun _ z w => KK_cpreE z w) (fun _ z w => KK_stepE z w) ⟨_, start_KN hR ha hb⟩) (ix_lt 10 (by decide) _ (by decide)) (wc_at (by decide) (by decide)) rfl v_TCM_84 nm_Pro_run rfl ⟨rfl, rfl, Nat.le_of_ble_eq_true rfl, Nat.le_of_ble_eq_true rfl, Nat.zero_le _, Nat.zero_le _⟩ rfl (Nat.le_of_ble_eq_true rfl) d_TCM_resume_34 ?_
  rw [hz]
  refine g_dSv h tb_good (c_TCM_raise) v_TCM_62 nm_TCM_raise rfl ⟨rfl, rfl, Nat.le_of_ble_eq_true rfl, Nat.le_of_ble_eq_true rfl, Nat.zero_le _, Nat.zero_le _⟩ rfl (Nat.le_of_ble_eq_true rfl) d_TCM_resume_37 ?_
  refine g_aload_n h d_TCM_resume_40 rfl rfl ?_
  refine gf_TCM_heap h f_TCM_12 d_TCM_resume_41 ?_
  refine gf_Heap_globals h f_TCM_52 d_TCM_resume_44 ?_
  refine g_iload_n h d_TCM_resume_47 rfl rfl ?_
  refine g_aload_n h d_TCM_resume_48 rfl rfl ?_
  refine gf_TCM_processor h f_TCM_21 d_TCM_resume_49 ?_
  refine gf_Pro_outcome h f_TCM_87 d_TCM_resume_52 ?_
  refine pa_glo h rfl hc d_TCM_resume_55 ?_
  refine g_aload_n h d_TCM_resume_56 rfl rfl ?_
  refine gf_TCM_processor h f_TCM_21 d_TCM_resume_57 ?_
  refine gf_Pro_outcome h f_TCM_87 d_TCM_resume_60 ?_
  simp only [sI_1, sI_2, sJ_1, sJ_2, sJ_3, sR_1, sR_2, sR_3, Nat.reduceEqDiff, Nat.zero_ne_one, Nat.one_ne_zero, Nat.succ_ne_zero, reduceCtorEq, false_and, if_false, true_and, and_self, if_true, and_true, and_false, reduceIte]
  exact g_lret h r d_TCM_resume_63 (⟨rfl, rfl⟩)
def ccoll : Nat → CS → CS
  | 0, C => C
  | c + 1, C => ccoll c (cunit C)
set_option maxHeartbeats 4000000 in
set_option maxRecDepth 100000 in
theorem c_TCM_collect {l : Launch} {D : va_G} {t : Nat → ClassId} {ad : Nat → Nat} {C : CS} {n : Nat} (hok : okC C) (h1 : 1 ≤ n) (h2 : n ≤ 100) : Cd l D t ad y_TCM_collect b_TCM_collect 4 (some .int) { frames := 3, cells := 0, slots := 0, locals := 69 } [.ref (ad (ix 0 0)), .int (nI n)] (C) (some (.int ((ccoll n C).1 16 0 - C.1 16 0))) (ccoll n C) := by
  refine ct_of (by decide) (Nat.le_of_ble_eq_true rfl) ?_
  intro Γ _ _ hN h r
  have loop : ∀ (c i : Nat) (X : CS), i + c = n → okC X → ccoll c X = ccoll n C → G Γ 0 0 171 ad (wc ad t X) 17 [some (.ref (ad (ix 0 0))), some (.int (nI n)), some (.int (C.1 16 0)), some (.int (nI i))] [] := by
    intro c
    induction c with
    | zero =>
      intro i X hi hX he
      refine g_iload_n h d_TCM_collect_17 rfl rfl ?_
      refine g_iload_n h d_TCM_collect_18 rfl rfl ?_
      refine g_icmp_ge (tgt := 35) h d_TCM_collect_19 (by decide) (fun c_19 => ?_) (fun c_19 => ?_)
      · refine g_aload_n h d_TCM_collect_35 rfl rfl ?_
        refine gf_TCM_heap h f_TCM_12 d_TCM_collect_36 ?_
        refine gf_Heap_gone h f_TCM_90 d_TCM_collect_39 ?_
        refine g_iload_n h d_TCM_collect_42 rfl rfl ?_
        refine g_isub h d_TCM_collect_43 ?_
        exact g_iret h r d_TCM_collect_44 (⟨by rw [← he]; rfl, by rw [← he]; rfl⟩)
      · exact absurd (nI_le (a := n) (b := i) (by omega) (by omega)) c_19
    | succ c ih =>
      intro i X hi hX he
      refine g_iload_n h d_TCM_collect_17 rfl rfl ?_
      refine g_iload_n h d_TCM_collect_18 rfl rfl ?_
      refine g_icmp_ge (tgt := 35) h d_TCM_collect_19 (by decide) (fun c_19 => ?_) (fun c_19 => ?_)
      · exact absurd c_19 (nI_ge (b := n) (by omega) (by omega))
      · refine g_aload_n h d_TCM_collect_22 rfl rfl ?_
        refine gf_TCM_heap h f_TCM_12 d_TCM_collect_23 ?_
        refine g_dVv h tb_good (c_Heap_unit hX) (ix_lt 1 (by decide) _ (by decide)) (wc_at (by decide) (by decide)) rfl v_TCM_93 nm_Heap_unit rfl ⟨rfl, rfl, Nat.le_of_ble_eq_true rfl, Nat.le_of_ble_eq_true rfl, Nat.zero_le _, Nat.zero_le _⟩ rfl (Nat.le_of_ble_eq_true rfl) d_TCM_collect_26 ?_
        refine g_iinc (v := nI (i + 1)) h d_TCM_collect_29 rfl (by rw [nI_succ]; rfl) rfl (by rw [hN]; decide) ?_
        refine g_goto (tgt := 17) h d_TCM_collect_32 (by decide) ?_
        exact ih (i + 1) _ (by omega) (okC_unit hX) (by rw [← he]; rfl)
  refine g_at (L' := [some (.ref (ad (ix 0 0))), some (.int (nI n)), none, none]) rfl rfl rfl ?_
  refine g_iload_n h d_TCM_collect_0 rfl rfl ?_
  refine g_iconst (v := 1) h d_TCM_collect_1 (by decide) ?_
  refine g_bipush (v := 100) h d_TCM_collect_2 (by decide) ?_
  refine g_dSv h tb_good (c_TCM_checkRange (a := 1) (b := 100) (fun z => absurd (show nI 1 ≤ nI n from nI_le h1 (by omega)) (Int32.not_le.mpr z)) (rg_hi (m := 100) h2 (by decide))) v_TCM_25 nm_TCM_checkRange rfl ⟨rfl, rfl, Nat.le_of_ble_eq_true rfl, Nat.le_of_ble_eq_true rfl, Nat.zero_le _, Nat.zero_le _⟩ rfl (Nat.le_of_ble_eq_true rfl) d_TCM_collect_4 ?_
  refine g_aload_n h d_TCM_collect_7 rfl rfl ?_
  refine gf_TCM_heap h f_TCM_12 d_TCM_collect_8 ?_
  refine gf_Heap_gone h f_TCM_90 d_TCM_collect_11 ?_
  refine g_istore_n h d_TCM_collect_14 rfl rfl (by rw [hN]; decide) ?_
  refine g_iconst (v := 0) h d_TCM_collect_15 (by decide) ?_
  refine g_istore_n h d_TCM_collect_16 rfl rfl (by rw [hN]; decide) ?_
  exact loop n 0 C (by omega) hok rfl
set_option maxHeartbeats 4000000 in
set_option maxRecDepth 100000 in
theorem c_TCM_full {l : Launch} {D : va_G} {t : Nat → ClassId} {ad : Nat → Nat} {C : CS} (hok : okC C) : Cd l D t ad y_TCM_full b_TCM_full 2 (some .int) { frames := 4, cells := 0, slots := 0, locals := 90 } [.ref (ad (ix 0 0))] (C) (some (.int ((cfull C).1 16 0 - C.1 16 0))) (cfull C) := by
  refine ct_of (by decide) (Nat.le_of_ble_eq_true rfl) ?_
  intro Γ _ _ hN h r
  refine g_at (L' := [some (.ref (ad (ix 0 0))), none]) rfl rfl rfl ?_
  refine g_aload_n h d_TCM_full_0 rfl rfl ?_
  refine gf_TCM_heap h f_TCM_12 d_TCM_full_1 ?_
  refine gf_Heap_gone h f_TCM_90 d_TCM_full_4 ?_
  refine g_istore_n h d_TCM_full_7 rfl rfl (by rw [hN]; decide) ?_
  refine g_aload_n h d_TCM_full_8 rfl rfl ?_
  refine gf_TCM_heap h f_TCM_12 d_TCM_full_9 ?_
  refine g_dVv h tb_good (c_Heap_fullCollection hok) (ix_lt 1 (by decide) _ (by decide)) (wc_at (by decide) (by decide)) rfl v_TCM_96 nm_Heap_fullCollection rfl ⟨rfl, rfl, Nat.le_of_ble_eq_true rfl, Nat.le_of_ble_eq_true rfl, Nat.zero_le _, Nat.zero_le _⟩ rfl (Nat.le_of_ble_eq_true rfl) d_TCM_full_12 ?_
  refine g_aload_n h d_TCM_full_15 rfl rfl ?_
  refine gf_TCM_heap h f_TCM_12 d_TCM_full_16 ?_
  refine gf_Heap_gone h f_TCM_90 d_TCM_full_19 ?_
  refine g_iload_n h d_TCM_full_22 rfl rfl ?_
  refine g_isub h d_TCM_full_23 ?_
  exact g_iret h r d_TCM_full_24 (⟨rfl, rfl⟩)
set_option maxHeartbeats 4000000 in
set_option maxRecDepth 100000 in
theorem c_TCM_global {l : Launch} {D : va_G} {t : Nat → ClassId} {ad : Nat → Nat} {C : CS} {g : Nat} (hg : g < 6) : Cd l D t ad y_TCM_global b_TCM_global 2 (some .long) { frames := 2, cells := 0, slots := 0, locals := 42 } [.ref (ad (ix 0 0)), .int (nI g)] (C) (some (.long (C.2.1 0 0 g))) (C) := by
  refine ct_of (by decide) (Nat.le_of_ble_eq_true rfl) ?_
  intro Γ _ _ hN h r
  refine g_at (L' := [some (.ref (ad (ix 0 0))), some (.int (nI g))]) rfl rfl rfl ?_
  refine g_iload_n h d_TCM_global_0 rfl rfl ?_
  refine g_dSv h tb_good (c_TCM_checkGlobal (gi_ok hg)) v_TCM_48 nm_TCM_checkGlobal rfl ⟨rfl, rfl, Nat.le_of_ble_eq_true rfl, Nat.le_of_ble_eq_true rfl, Nat.zero_le _, Nat.zero_le _⟩ rfl (Nat.le_of_ble_eq_true rfl) d_TCM_global_1 ?_
  refine g_aload_n h d_TCM_global_4 rfl rfl ?_
  refine gf_TCM_heap h f_TCM_12 d_TCM_global_5 ?_
  refine gf_Heap_globals h f_TCM_52 d_TCM_global_8 ?_
  refine g_iload_n h d_TCM_global_11 rfl rfl ?_
  refine ga_glo h rfl hg d_TCM_global_12 ?_
  exact g_lret h r d_TCM_global_13 (⟨rfl, rfl⟩)
set_option maxHeartbeats 4000000 in
set_option maxRecDepth 100000 in
theorem c_TCM_code {l : Launch} {D : va_G} {t : Nat → ClassId} {ad : Nat → Nat} {C : CS} {f i : Nat} {op a b c : Int32} (hf : f < 4) (hi : i < 16) (ho : ¬ op < -1) (ho2 : ¬ 21 < op) : Cd l D t ad y_TCM_code b_TCM_code 8 none { frames := 1, cells := 0, slots := 0, locals := 22 } [.ref (ad (ix 0 0)), .int (nI f), .int (nI i), .int op, .int a, .int b, .int c] (C) (none) (sI (sI (sI (sI C 9 (f * 17 + i) op) 10 (f * 17 + i) a) 11 (f * 17 + i) b) 12 (f * 17 + i) c) := by
  refine ct_of (by decide) (Nat.le_of_ble_eq_true rfl) ?_
  intro Γ _ _ hN h r
  refine g_at (L' := [some (.ref (ad (ix 0 0))), some (.int (nI f)), some (.int (nI i)), some (.int op), some (.int a), some (.int b), some (.int c), none]) rfl rfl rfl ?_
  refine g_iload_n h d_TCM_code_0 rfl rfl ?_
  refine g_iconst (v := 0) h d_TCM_code_1 (by decide) ?_
  refine g_iconst (v := 3) h d_TCM_code_2 (by decide) ?_
  refine g_dSv h tb_good (c_TCM_checkRange (rg_lo (by omega)) (rg_hi (m := 3) (by omega) (by decide))) v_TCM_25 nm_TCM_checkRange rfl ⟨rfl, rfl, Nat.le_of_ble_eq_true rfl, Nat.le_of_ble_eq_true rfl, Nat.zero_le _, Nat.zero_le _⟩ rfl (Nat.le_of_ble_eq_true rfl) d_TCM_code_3 ?_
  refine g_iload_n h d_TCM_code_6 rfl rfl ?_
  refine g_iconst (v := 0) h d_TCM_code_7 (by decide) ?_
  refine g_bipush (v := 15) h d_TCM_code_8 (by decide) ?_
  refine g_dSv h tb_good (c_TCM_checkRange (rg_lo (by omega)) (rg_hi (m := 15) (by omega) (by decide))) v_TCM_25 nm_TCM_checkRange rfl ⟨rfl, rfl, Nat.le_of_ble_eq_true rfl, Nat.le_of_ble_eq_true rfl, Nat.zero_le _, Nat.zero_le _⟩ rfl (Nat.le_of_ble_eq_true rfl) d_TCM_code_10 ?_
  refine g_iload_n h d_TCM_code_13 rfl rfl ?_
  refine g_iconst (v := -1) h d_TCM_code_14 (by decide) ?_
  refine g_bipush (v := 21) h d_TCM_code_15 (by decide) ?_
  refine g_dSv h tb_good (c_TCM_checkRange ho ho2) v_TCM_25 nm_TCM_checkRange rfl ⟨rfl, rfl, Nat.le_of_ble_eq_true rfl, Nat.le_of_ble_eq_true rfl, Nat.zero_le _, Nat.zero_le _⟩ rfl (Nat.le_of_ble_eq_true rfl) d_TCM_code_17 ?_
  refine g_aload_n h d_TCM_code_20 rfl rfl ?_
  refine gf_TCM_processor h f_TCM_21 d_TCM_code_21 ?_
  refine g_iload_n h d_TCM_code_24 rfl rfl ?_
  refine g_iload_n h d_TCM_code_25 rfl rfl ?_
  refine g_dVr h tb_good (c_Pro_instructionAt hf (by omega)) (ix_lt 10 (by decide) _ (by decide)) (wc_at (by decide) (by decide)) rfl v_TCM_29 nm_Pro_instructionAt rfl ⟨rfl, rfl, Nat.le_of_ble_eq_true rfl, Nat.le_of_ble_eq_true rfl, Nat.zero_le _, Nat.zero_le _⟩ rfl (Nat.le_of_ble_eq_true rfl) d_TCM_code_26 ?_
  refine g_astore h d_TCM_code_29 rfl (by rw [hN]; decide) ?_
  refine g_aload h d_TCM_code_31 rfl ?_
  refine g_iload_n h d_TCM_code_33 rfl rfl ?_
  refine pf_Ins_op h f_TCM_33 (by first | assumption | (show _ < 68; omega) | omega) d_TCM_code_34 ?_
  refine g_aload h d_TCM_code_37 rfl ?_
  refine g_iload h d_TCM_code_39 rfl ?_
  refine pf_Ins_a h f_TCM_39 (by first | assumption | (show _ < 68; omega) | omega) d_TCM_code_41 ?_
  refine g_aload h d_TCM_code_44 rfl ?_
  refine g_iload h d_TCM_code_46 rfl ?_
  refine pf_Ins_b h f_TCM_42 (by first | assumption | (show _ < 68; omega) | omega) d_TCM_code_48 ?_
  refine g_aload h d_TCM_code_51 rfl ?_
  refine g_iload h d_TCM_code_53 rfl ?_
  refine pf_Ins_c h f_TCM_45 (by first | assumption | (show _ < 68; omega) | omega) d_TCM_code_55 ?_
  exact g_vret h r d_TCM_code_58 (⟨rfl, rfl⟩)
