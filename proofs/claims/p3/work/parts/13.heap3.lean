set_option maxHeartbeats 4000000 in
set_option maxRecDepth 100000 in
theorem c_Heap_unit {l : Launch} {D : va_G} {t : Nat → ClassId} {ad : Nat → Nat} {C : CS} (hok : okC C) : Cd l D t ad y_Heap_unit b_Heap_unit 3 none { frames := 2, cells := 0, slots := 0, locals := 47 } [.ref (ad (ix 1 0))] (C) (none) (cunit C) := by
  refine ct_of (by decide) (Nat.le_of_ble_eq_true rfl) ?_
  intro Γ _ _ hN h r
  have hok1 : okC (sI C 17 0 (C.1 17 0 + 1)) := okC_17 hok
  refine g_at (L' := [some (.ref (ad (ix 1 0))), none, none]) rfl rfl rfl ?_
  refine g_aload_n h d_Heap_unit_0 rfl rfl ?_
  refine g_dup h d_Heap_unit_1 rfl ?_
  refine gf_Heap_units h f_Heap_34 d_Heap_unit_2 ?_
  refine g_iconst (v := 1) h d_Heap_unit_5 (by decide) ?_
  refine g_iadd h d_Heap_unit_6 ?_
  refine pf_Heap_units h f_Heap_34 d_Heap_unit_7 ?_
  refine g_aload_n h d_Heap_unit_10 rfl rfl ?_
  refine gf_Heap_phase h f_Heap_21 d_Heap_unit_11 ?_
  simp only [sI_1, sI_2, sJ_1, sJ_2, sJ_3, sR_1, sR_2, sR_3, Nat.reduceEqDiff, Nat.zero_ne_one, Nat.one_ne_zero, Nat.succ_ne_zero, reduceCtorEq, false_and, if_false, true_and, and_self, if_true, and_true, and_false, reduceIte]
  refine g_iconst (v := 2) h d_Heap_unit_14 (by decide) ?_
  refine g_icmp_ne (tgt := 23) h d_Heap_unit_15 (by decide) (fun c_15 => ?_) (fun c_15 => ?_)
  · refine g_aload_n h d_Heap_unit_23 rfl rfl ?_
    refine g_dVi h tb_good (c_Heap_leastGray) (ix_lt 1 (by decide) _ (by decide)) (wc_at (by decide) (by decide)) rfl v_Heap_137 nm_Heap_leastGray rfl ⟨rfl, rfl, Nat.le_of_ble_eq_true rfl, Nat.le_of_ble_eq_true rfl, Nat.zero_le _, Nat.zero_le _⟩ rfl (Nat.le_of_ble_eq_true rfl) d_Heap_unit_24 ?_
    refine g_istore_n h d_Heap_unit_27 rfl rfl (by rw [hN]; decide) ?_
    rcases hg : cgray (sI C 17 0 (C.1 17 0 + 1)) with _ | q <;> simp only [enc]
    · refine g_iload_n h d_Heap_unit_28 rfl rfl ?_
      refine g_if_lt (tgt := 43) h d_Heap_unit_29 (by decide) (fun c_29 => ?_) (fun c_29 => ?_)
      · refine g_aload_n h d_Heap_unit_43 rfl rfl ?_
        refine g_dVi h tb_good (c_Heap_shadeRoots hok1) (ix_lt 1 (by decide) _ (by decide)) (wc_at (by decide) (by decide)) rfl v_Heap_144 nm_Heap_shadeRoots rfl ⟨rfl, rfl, Nat.le_of_ble_eq_true rfl, Nat.le_of_ble_eq_true rfl, Nat.zero_le _, Nat.zero_le _⟩ rfl (Nat.le_of_ble_eq_true rfl) d_Heap_unit_44 ?_
        refine g_if_le (tgt := 54) h d_Heap_unit_47 (by decide) (fun c_47 => ?_) (fun c_47 => ?_)
        · skip
          · refine g_iconst (v := 0) h d_Heap_unit_54 (by decide) ?_
            refine g_istore_n h d_Heap_unit_55 rfl rfl (by rw [hN]; decide) ?_
            refine g_aload_n h d_Heap_unit_56 rfl rfl ?_
            refine g_aload_n h d_Heap_unit_57 rfl rfl ?_
            refine gf_Heap_phase h f_Heap_21 d_Heap_unit_58 ?_
            rw [cshadeRoots_1 _ _ _ (by decide)]
            simp only [sI_1, sI_2, sJ_1, sJ_2, sJ_3, sR_1, sR_2, sR_3, Nat.reduceEqDiff, Nat.zero_ne_one, Nat.one_ne_zero, Nat.succ_ne_zero, reduceCtorEq, false_and, if_false, true_and, and_self, if_true, and_true, and_false, reduceIte]
            refine g_if_eq (tgt := 68) h d_Heap_unit_61 (by decide) (fun c_61 => ?_) (fun c_61 => ?_)
            · refine g_iconst (v := 1) h d_Heap_unit_68 (by decide) ?_
              refine g_goto (tgt := 73) h d_Heap_unit_69 (by decide) ?_
              refine pf_Heap_phase h f_Heap_21 d_Heap_unit_73 ?_
              exact g_vret h r d_Heap_unit_76 (⟨rfl, by first | (simp [cunit, c_15, hg, c_61]; done) | (simp [cunit, c_15, hg, c_61, Int32.not_lt.mpr c_47]; done) | (simp [cunit, c_15, hg, c_61, Int32.not_le.mp c_47]; done)⟩)
            · refine g_iload_n h d_Heap_unit_64 rfl rfl ?_
              refine g_if_eq (tgt := 72) h d_Heap_unit_65 (by decide) (fun c_65 => ?_) (fun c_65 => ?_)
              · refine g_iconst (v := 2) h d_Heap_unit_72 (by decide) ?_
                refine pf_Heap_phase h f_Heap_21 d_Heap_unit_73 ?_
                exact g_vret h r d_Heap_unit_76 (⟨rfl, by first | (simp [cunit, c_15, hg, c_61]; done) | (simp [cunit, c_15, hg, c_61, Int32.not_lt.mpr c_47]; done) | (simp [cunit, c_15, hg, c_61, Int32.not_le.mp c_47]; done)⟩)
              · exact absurd rfl c_65
        · skip
          · refine g_iconst (v := 1) h d_Heap_unit_50 (by decide) ?_
            refine g_goto (tgt := 55) h d_Heap_unit_51 (by decide) ?_
            refine g_istore_n h d_Heap_unit_55 rfl rfl (by rw [hN]; decide) ?_
            refine g_aload_n h d_Heap_unit_56 rfl rfl ?_
            refine g_aload_n h d_Heap_unit_57 rfl rfl ?_
            refine gf_Heap_phase h f_Heap_21 d_Heap_unit_58 ?_
            rw [cshadeRoots_1 _ _ _ (by decide)]
            simp only [sI_1, sI_2, sJ_1, sJ_2, sJ_3, sR_1, sR_2, sR_3, Nat.reduceEqDiff, Nat.zero_ne_one, Nat.one_ne_zero, Nat.succ_ne_zero, reduceCtorEq, false_and, if_false, true_and, and_self, if_true, and_true, and_false, reduceIte]
            refine g_if_eq (tgt := 68) h d_Heap_unit_61 (by decide) (fun c_61 => ?_) (fun c_61 => ?_)
            · refine g_iconst (v := 1) h d_Heap_unit_68 (by decide) ?_
              refine g_goto (tgt := 73) h d_Heap_unit_69 (by decide) ?_
              refine pf_Heap_phase h f_Heap_21 d_Heap_unit_73 ?_
              exact g_vret h r d_Heap_unit_76 (⟨rfl, by first | (simp [cunit, c_15, hg, c_61]; done) | (simp [cunit, c_15, hg, c_61, Int32.not_lt.mpr c_47]; done) | (simp [cunit, c_15, hg, c_61, Int32.not_le.mp c_47]; done)⟩)
            · refine g_iload_n h d_Heap_unit_64 rfl rfl ?_
              refine g_if_eq (tgt := 72) h d_Heap_unit_65 (by decide) (fun c_65 => ?_) (fun c_65 => ?_)
              · exact absurd c_65 (by decide)
              · refine g_iconst (v := 1) h d_Heap_unit_68 (by decide) ?_
                refine g_goto (tgt := 73) h d_Heap_unit_69 (by decide) ?_
                refine pf_Heap_phase h f_Heap_21 d_Heap_unit_73 ?_
                exact g_vret h r d_Heap_unit_76 (⟨rfl, by first | (simp [cunit, c_15, hg, c_61]; done) | (simp [cunit, c_15, hg, c_61, Int32.not_lt.mpr c_47]; done) | (simp [cunit, c_15, hg, c_61, Int32.not_le.mp c_47]; done)⟩)
      · exact absurd (by decide) c_29
    · have hq := cgray_lt hg
      refine g_iload_n h d_Heap_unit_28 rfl rfl ?_
      refine g_if_lt (tgt := 43) h d_Heap_unit_29 (by decide) (fun c_29 => ?_) (fun c_29 => ?_)
      · exact absurd c_29 (nI_pos (by omega))
      · refine g_aload_n h d_Heap_unit_32 rfl rfl ?_
        refine g_aload_n h d_Heap_unit_33 rfl rfl ?_
        refine gf_Heap_cells h f_Heap_17 d_Heap_unit_34 ?_
        refine g_iload_n h d_Heap_unit_37 rfl rfl ?_
        refine ga_cells h rfl hq d_Heap_unit_38 ?_
        refine g_dVv h tb_good (c_Heap_blacken hok1 hq) (ix_lt 1 (by decide) _ (by decide)) (wc_at (by decide) (by decide)) rfl v_Heap_140 nm_Heap_blacken rfl ⟨rfl, rfl, Nat.le_of_ble_eq_true rfl, Nat.le_of_ble_eq_true rfl, Nat.zero_le _, Nat.zero_le _⟩ rfl (Nat.le_of_ble_eq_true rfl) d_Heap_unit_39 ?_
        exact g_vret h r d_Heap_unit_42 (⟨rfl, by simp [cunit, c_15, hg]⟩)
  · refine g_aload_n h d_Heap_unit_18 rfl rfl ?_
    refine g_dVv h tb_good (c_Heap_sweepOne hok1) (ix_lt 1 (by decide) _ (by decide)) (wc_at (by decide) (by decide)) rfl v_Heap_134 nm_Heap_sweepOne rfl ⟨rfl, rfl, Nat.le_of_ble_eq_true rfl, Nat.le_of_ble_eq_true rfl, Nat.zero_le _, Nat.zero_le _⟩ rfl (Nat.le_of_ble_eq_true rfl) d_Heap_unit_19 ?_
    exact g_vret h r d_Heap_unit_22 (⟨rfl, by simp [cunit, c_15]⟩)
set_option maxHeartbeats 4000000 in
set_option maxRecDepth 100000 in
theorem c_Heap_fullCollection {l : Launch} {D : va_G} {t : Nat → ClassId} {ad : Nat → Nat} {C : CS} (hok : okC C) : Cd l D t ad y_Heap_fullCollection b_Heap_fullCollection 2 none { frames := 3, cells := 0, slots := 0, locals := 69 } [.ref (ad (ix 1 0))] (C) (none) (cfull C) := by
  refine ct_of (by decide) (Nat.le_of_ble_eq_true rfl) ?_
  intro Γ _ _ hN h r
  have hok0 : okC (sI C 18 0 (C.1 18 0 + 1)) := okC_18 hok
  have loop2 : ∀ (c i : Nat) (C2 : CS), i + c = 1000 → okC C2 → cwhile c C2 = cfull C → G Γ 0 0 171 ad (wc ad t C2) 42 [some (.ref (ad (ix 1 0))), some (.int (nI i))] [] := by
    intro c
    induction c with
    | zero =>
      intro i C2 hi hC he
      refine g_iload_n h d_Heap_fullCollection_42 rfl rfl ?_
      refine g_sipush (v := 1000) h d_Heap_fullCollection_43 (by decide) ?_
      refine g_icmp_ge (tgt := 66) h d_Heap_fullCollection_46 (by decide) (fun c_46 => ?_) (fun c_46 => ?_)
      · exact g_vret h r d_Heap_fullCollection_66 (⟨rfl, by rw [← he]; rfl⟩)
      · exact absurd (nI_le (a := 1000) (b := i) (by omega) (by omega)) c_46
    | succ c ih =>
      intro i C2 hi hC he
      refine g_iload_n h d_Heap_fullCollection_42 rfl rfl ?_
      refine g_sipush (v := 1000) h d_Heap_fullCollection_43 (by decide) ?_
      refine g_icmp_ge (tgt := 66) h d_Heap_fullCollection_46 (by decide) (fun c_46 => ?_) (fun c_46 => ?_)
      · exact absurd c_46 (nI_ge (b := 1000) (by omega) (by decide))
      · refine g_aload_n h d_Heap_fullCollection_49 rfl rfl ?_
        refine gf_Heap_phase h f_Heap_21 d_Heap_fullCollection_50 ?_
        refine g_if_eq (tgt := 66) h d_Heap_fullCollection_53 (by decide) (fun c_53 => ?_) (fun c_53 => ?_)
        · exact g_vret h r d_Heap_fullCollection_66 (⟨rfl, by rw [← he]; simp [cwhile, c_53]⟩)
        · refine g_aload_n h d_Heap_fullCollection_56 rfl rfl ?_
          refine g_dVv h tb_good (c_Heap_unit hC) (ix_lt 1 (by decide) _ (by decide)) (wc_at (by decide) (by decide)) rfl v_Heap_131 nm_Heap_unit rfl ⟨rfl, rfl, Nat.le_of_ble_eq_true rfl, Nat.le_of_ble_eq_true rfl, Nat.zero_le _, Nat.zero_le _⟩ rfl (Nat.le_of_ble_eq_true rfl) d_Heap_fullCollection_57 ?_
          refine g_iinc (v := nI (i + 1)) h d_Heap_fullCollection_60 rfl (by rw [nI_succ]; rfl) rfl (by rw [hN]; decide) ?_
          refine g_goto (tgt := 42) h d_Heap_fullCollection_63 (by decide) ?_
          exact ih (i + 1) _ (by omega) (okC_unit hC) (by rw [← he]; simp [cwhile, c_53])
  have hW : okC (cwhile 1000 (sI C 18 0 (C.1 18 0 + 1))) := okC_while _ _ hok0
  have mid : ∀ x : Int32, G Γ 0 0 171 ad (wc ad t (cwhile 1000 (sI C 18 0 (C.1 18 0 + 1)))) 36 [some (.ref (ad (ix 1 0))), some (.int x)] [] := by
    intro x
    refine g_aload_n h d_Heap_fullCollection_36 rfl rfl ?_
    refine g_dVv h tb_good (c_Heap_unit hW) (ix_lt 1 (by decide) _ (by decide)) (wc_at (by decide) (by decide)) rfl v_Heap_131 nm_Heap_unit rfl ⟨rfl, rfl, Nat.le_of_ble_eq_true rfl, Nat.le_of_ble_eq_true rfl, Nat.zero_le _, Nat.zero_le _⟩ rfl (Nat.le_of_ble_eq_true rfl) d_Heap_fullCollection_37 ?_
    refine g_iconst (v := 0) h d_Heap_fullCollection_40 (by decide) ?_
    refine g_istore_n h d_Heap_fullCollection_41 rfl rfl (by rw [hN]; decide) ?_
    exact loop2 1000 0 _ (by omega) (okC_unit hW) rfl
  have loop1 : ∀ (c i : Nat) (C2 : CS), i + c = 1000 → okC C2 → cwhile c C2 = cwhile 1000 (sI C 18 0 (C.1 18 0 + 1)) → G Γ 0 0 171 ad (wc ad t C2) 12 [some (.ref (ad (ix 1 0))), some (.int (nI i))] [] := by
    intro c
    induction c with
    | zero =>
      intro i C2 hi hC he
      refine g_iload_n h d_Heap_fullCollection_12 rfl rfl ?_
      refine g_sipush (v := 1000) h d_Heap_fullCollection_13 (by decide) ?_
      refine g_icmp_ge (tgt := 36) h d_Heap_fullCollection_16 (by decide) (fun c_16 => ?_) (fun c_16 => ?_)
      · rw [show C2 = _ from he]
        exact mid _
      · exact absurd (nI_le (a := 1000) (b := i) (by omega) (by omega)) c_16
    | succ c ih =>
      intro i C2 hi hC he
      refine g_iload_n h d_Heap_fullCollection_12 rfl rfl ?_
      refine g_sipush (v := 1000) h d_Heap_fullCollection_13 (by decide) ?_
      refine g_icmp_ge (tgt := 36) h d_Heap_fullCollection_16 (by decide) (fun c_16 => ?_) (fun c_16 => ?_)
      · exact absurd c_16 (nI_ge (b := 1000) (by omega) (by decide))
      · refine g_aload_n h d_Heap_fullCollection_19 rfl rfl ?_
        refine gf_Heap_phase h f_Heap_21 d_Heap_fullCollection_20 ?_
        refine g_if_eq (tgt := 36) h d_Heap_fullCollection_23 (by decide) (fun c_23 => ?_) (fun c_23 => ?_)
        · have hW1 : C2 = cwhile 1000 (sI C 18 0 (C.1 18 0 + 1)) := by rw [← he]; simp [cwhile, c_23]
          rw [hW1]
          exact mid _
        · refine g_aload_n h d_Heap_fullCollection_26 rfl rfl ?_
          refine g_dVv h tb_good (c_Heap_unit hC) (ix_lt 1 (by decide) _ (by decide)) (wc_at (by decide) (by decide)) rfl v_Heap_131 nm_Heap_unit rfl ⟨rfl, rfl, Nat.le_of_ble_eq_true rfl, Nat.le_of_ble_eq_true rfl, Nat.zero_le _, Nat.zero_le _⟩ rfl (Nat.le_of_ble_eq_true rfl) d_Heap_fullCollection_27 ?_
          refine g_iinc (v := nI (i + 1)) h d_Heap_fullCollection_30 rfl (by rw [nI_succ]; rfl) rfl (by rw [hN]; decide) ?_
          refine g_goto (tgt := 12) h d_Heap_fullCollection_33 (by decide) ?_
          exact ih (i + 1) _ (by omega) (okC_unit hC) (by rw [← he]; simp [cwhile, c_23])
  refine g_at (L' := [some (.ref (ad (ix 1 0))), none]) rfl rfl rfl ?_
  refine g_aload_n h d_Heap_fullCollection_0 rfl rfl ?_
  refine g_dup h d_Heap_fullCollection_1 rfl ?_
  refine gf_Heap_fullCollections h f_Heap_37 d_Heap_fullCollection_2 ?_
  refine g_iconst (v := 1) h d_Heap_fullCollection_5 (by decide) ?_
  refine g_iadd h d_Heap_fullCollection_6 ?_
  refine pf_Heap_fullCollections h f_Heap_37 d_Heap_fullCollection_7 ?_
  refine g_iconst (v := 0) h d_Heap_fullCollection_10 (by decide) ?_
  refine g_istore_n h d_Heap_fullCollection_11 rfl rfl (by rw [hN]; decide) ?_
  exact loop1 1000 0 _ (by omega) hok0 rfl
