-- part 13.heap3
section
set_option maxHeartbeats 4000000 in
set_option maxRecDepth 100000 in
theorem c_Heap_unit {l : Launch} {D : va_G} {t : Nat → ClassId} {ad : Nat → Nat} {C : CS} (hok : okC C) : Cd l D t ad y_Heap_unit b_Heap_unit 3 none { frames := 2, cells := 0, slots := 0, locals := 47 } [.ref (ad (ix 1 0))] (C) (none) (cunit C) := by
  refine ct_of (by decide) (Nat.le_of_ble_eq_true rfl) ?_
  intro Γ _ _ hN h r
  have hok1 : okC (sI C 17 0 (C.1 17 0 + 1)) := okC_17 hok
  refine g_at (L' := [some (.ref (ad (ix 1 0))), none, none]) rfl rfl rfl ?_
  refine g_aload_n h d_Heap_unit_0 rfl rfl ?_
  refine g_dup h d_Heap_unit_1 rfl ?_
  refine gf_Heap_units h f_Heap_34 d_Heap_unit_2 ?_
  refine g_iconst (v := 1) h d_Heap_unit_5 (by decide) ?_
  refine g_iadd h d_Heap_unit_6 ?_
  refine pf_Heap_units h f_Heap_34 d_Heap_unit_7 ?_
  refine g_aload_n h d_Heap_unit_10 rfl rfl ?_
  refine gf_Heap_phase h f_Heap_21 d_Heap_unit_11 ?_
  simp only [sI_1, sI_2, sJ_1, sJ_2, sJ_3, sR_1, sR_2, sR_3, Nat.reduceEqDiff, Nat.zero_ne_one, Nat.one_ne_zero, Nat.succ_ne_zero, reduceCtorEq, false_and, if_false, true_and, and_self, if_true, and_true, and_false, reduceIte]
  refine g_iconst (v := 2) h d_Heap_unit_14 (by decide) ?_
  refine g_icmp_ne (tgt := 23) h d_Heap_unit_15 (by decide) (fun c_15 => ?_) (fun c_15 => ?_)
  · refine g_aload_n h d_Heap_unit_23 rfl rfl ?_
    refine g_dVi h tb_good (c_Heap_leastGray) (ix_lt 1 (by decide) _ (by decide)) (wc_at (by decide) (by decide)) rfl v_Heap_137 nm_Heap_leastGray rfl ⟨rfl, rfl, Nat.le_of_ble_eq_true rfl, Nat.le_of_ble_eq_true rfl, Nat.zero_le _, Nat.zero_le _⟩ rfl (Nat.le_of_ble_eq_true rfl) d_Heap_unit_24 ?_
    refine g_istore_n h d_Heap_unit_27 rfl rfl (by rw [hN]; decide) ?_
    rcases hg : cgray (sI C 17 0 (C.1 17 0 + 1)) with _ | q <;> simp only [enc]
    · refine g_iload_n h d_Heap_unit_28 rfl rfl ?_
      refine g_if_lt (tgt := 43) h d_Heap_unit_29 (by decide) (fun c_29 => ?_) (fun c_29 => ?_)
      · refine g_aload_n h d_Heap_unit_43 rfl rfl ?_
        refine g_dVi h tb_good (c_Heap_shadeRoots hok1) (ix_lt 1 (by decide) _ (by decide)) (wc_at (by decide) (by decide)) rfl v_Heap_144 nm_Heap_shadeRoots rfl ⟨rfl, rfl, Nat.le_of_ble_eq_true rfl, Nat.le_of_ble_eq_true rfl, Nat.zero_le _, Nat.zero_le _⟩ rfl (Nat.le_of_ble_eq_true rfl) d_Heap_unit_44 ?_
        refine g_if_le (tgt := 54) h d_Heap_unit_47 (by decide) (fun c_47 => ?_) (fun c_47 => ?_)
        · skip
          · refine g_iconst (v := 0) h d_Heap_unit_54 (by decide) ?_
            refine g_istore_n h d_Heap_unit_55 rfl rfl (by rw [hN]; decide) ?_
            refine g_aload_n h d_Heap_unit_56 rfl rfl ?_
            refine g_aload_n h d_Heap_unit_57 rfl rfl ?_
            refine gf_Heap_phase h f_Heap_21 d_Heap_unit_58 ?_
            rw [cshadeRoots_1 _ _ _ (by decide)]
            simp only [sI_1, sI_2, sJ_1, sJ_2, sJ_3, sR_1, sR_2, sR_3, Nat.reduceEqDiff, Nat.zero_ne_one, Nat.one_ne_zero, Nat.succ_ne_zero, reduceCtorEq, false_and, if_false, true_and, and_self, if_true, and_true, and_false, reduceIte]
            refine g_if_eq (tgt := 68) h d_Heap_unit_61 (by decide) (fun c_61 => ?_) (fun c_61 => ?_)
            · refine g_iconst (v := 1) h d_Heap_unit_68 (by decide) ?_
              refine g_goto (tgt := 73) h d_Heap_unit_69 (by decide) ?_
              refine pf_Heap_phase h f_Heap_21 d_Heap_unit_73 ?_
              exact g_vret h r d_Heap_unit_76 (⟨rfl, by first | (simp [cunit, c_15, hg, c_61]; done) | (simp [cunit, c_15, hg, c_61, Int32.not_lt.mpr c_47]; done) | (simp [cunit, c_15, hg, c_61, Int32.not_le.mp c_47]; done)⟩)
            · refine g_iload_n h d_Heap_unit_64 rfl rfl ?_
              refine g_if_eq (tgt := 72) h d_Heap_unit_65 (by decide) (fun c_65 => ?_) (fun c_65 => ?_)
              · refine g_iconst (v := 2) h d_Heap_unit_72 (by decide) ?_
                refine pf_Heap_phase h f_Heap_21 d_Heap_unit_73 ?_
                exact g_vret h r d_Heap_unit_76 (⟨rfl, by first | (simp [cunit, c_15, hg, c_61]; done) | (simp [cunit, c_15, hg, c_61, Int32.not_lt.mpr c_47]; done) | (simp [cunit, c_15, hg, c_61, Int32.not_le.mp c_47]; done)⟩)
              · exact absurd rfl c_65
        · skip
          · refine g_iconst (v := 1) h d_Heap_unit_50 (by decide) ?_
            refine g_goto (tgt := 55) h d_Heap_unit_51 (by decide) ?_
            refine g_istore_n h d_Heap_unit_55 rfl rfl (by rw [hN]; decide) ?_
            refine g_aload_n h d_Heap_unit_56 rfl rfl ?_
            refine g_aload_n h d_Heap_unit_57 rfl rfl ?_
            refine gf_Heap_phase h f_Heap_21 d_Heap_unit_58 ?_
            rw [cshadeRoots_1 _ _ _ (by decide)]
            simp only [sI_1, sI_2, sJ_1, sJ_2, sJ_3, sR_1, sR_2, sR_3, Nat.reduceEqDiff, Nat.zero_ne_one, Nat.one_ne_zero, Nat.succ_ne_zero, reduceCtorEq, false_and, if_false, true_and, and_self, if_true, and_true, and_false, reduceIte]
            refine g_if_eq (tgt := 68) h d_Heap_unit_61 (by decide) (fun c_61 => ?_) (fun c_61 => ?_)
            · refine g_iconst (v := 1) h d_Heap_unit_68 (by decide) ?_
              refine g_goto (tgt := 73) h d_Heap_unit_69 (by decide) ?_
              refine pf_Heap_phase h f_Heap_21 d_Heap_unit_73 ?_
              exact g_vret h r d_Heap_unit_76 (⟨rfl, by first | (simp [cunit, c_15, hg, c_61]; done) | (simp [cunit, c_15, hg, c_61, Int32.not_lt.mpr c_47]; done) | (simp [cunit, c_15, hg, c_61, Int32.not_le.mp c_47]; done)⟩)
            · refine g_iload_n h d_Heap_unit_64 rfl rfl ?_
              refine g_if_eq (tgt := 72) h d_Heap_unit_65 (by decide) (fun c_65 => ?_) (fun c_65 => ?_)
              · exact absurd c_65 (by decide)
              · refine g_iconst (v := 1) h d_Heap_unit_68 (by decide) ?_
                refine g_goto (tgt := 73) h d_Heap_unit_69 (by decide) ?_
                refine pf_Heap_phase h f_Heap_21 d_Heap_unit_73 ?_
                exact g_vret h r d_Heap_unit_76 (⟨rfl, by first | (simp [cunit, c_15, hg, c_61]; done) | (simp [cunit, c_15, hg, c_61, Int32.not_lt.mpr c_47]; done) | (simp [cunit, c_15, hg, c_61, Int32.not_le.mp c_47]; done)⟩)
      · exact absurd (by decide) c_29
    · have hq := cgray_lt hg
      refine g_iload_n h d_Heap_unit_28 rfl rfl ?_
      refine g_if_lt (tgt := 43) h d_Heap_unit_29 (by decide) (fun c_29 => ?_) (fun c_29 => ?_)
      · exact absurd c_29 (nI_pos (by omega))
      · refine g_aload_n h d_Heap_unit_32 rfl rfl ?_
        refine g_aload_n h d_Heap_unit_33 rfl rfl ?_
        refine gf_Heap_cells h f_Heap_17 d_Heap_unit_34 ?_
        refine g_iload_n h d_Heap_unit_37 rfl rfl ?_
        refine ga_cells h rfl hq d_Heap_unit_38 ?_
        refine g_dVv h tb_good (c_Heap_blacken hok1 hq) (ix_lt 1 (by decide) _ (by decide)) (wc_at (by decide) (by decide)) rfl v_Heap_140 nm_Heap_blacken rfl ⟨rfl, rfl, Nat.le_of_ble_eq_true rfl, Nat.le_of_ble_eq_true rfl, Nat.zero_le _, Nat.zero_le _⟩ rfl (Nat.le_of_ble_eq_true rfl) d_Heap_unit_39 ?_
        exact g_vret h r d_Heap_unit_42 (⟨rfl, by simp [cunit, c_15, hg]⟩)
  · refine g_aload_n h d_Heap_unit_18 rfl rfl ?_
    refine g_dVv h tb_good (c_Heap_sweepOne hok1) (ix_lt 1 (by decide) _ (by decide)) (wc_at (by decide) (by decide)) rfl v_Heap_134 nm_Heap_sweepOne rfl ⟨rfl, rfl, Nat.le_of_ble_eq_true rfl, Nat.le_of_ble_eq_true rfl, Nat.zero_le _, Nat.zero_le _⟩ rfl (Nat.le_of_ble_eq_true rfl) d_Heap_unit_19 ?_
    exact g_vret h r d_Heap_unit_22 (⟨rfl, by simp [cunit, c_15]⟩)
set_option maxHeartbeats 4000000 in
set_option maxRecDepth 100000 in
theorem c_Heap_fullCollection {l : Launch} {D : va_G} {t : Nat → ClassId} {ad : Nat → Nat} {C : CS} (hok : okC C) : Cd l D t ad y_Heap_fullCollection b_Heap_fullCollection 2 none { frames := 3, cells := 0, slots := 0, locals := 69 } [.ref (ad (ix 1 0))] (C) (none) (cfull C) := by
  refine ct_of (by decide) (Nat.le_of_ble_eq_true rfl) ?_
  intro Γ _ _ hN h r
  have hok0 : okC (sI C 18 0 (C.1 18 0 + 1)) := okC_18 hok
  have loop2 : ∀ (c i : Nat) (C2 : CS), i + c = 1000 → okC C2 → cwhile c C2 = cfull C → G Γ 0 0 171 ad (wc ad t C2) 42 [some (.ref (ad (ix 1 0))), some (.int (nI i))] [] := by
    intro c
    induction c with
    | zero =>
      intro i C2 hi hC he
      refine g_iload_n h d_Heap_fullCollection_42 rfl rfl ?_
      refine g_sipush (v := 1000) h d_Heap_fullCollection_43 (by decide) ?_
      refine g_icmp_ge (tgt := 66) h d_Heap_fullCollection_46 (by decide) (fun c_46 => ?_) (fun c_46 => ?_)
      · exact g_vret h r d_Heap_fullCollection_66 (⟨rfl, by rw [← he]; rfl⟩)
      · exact absurd (nI_le (a := 1000) (b := i) (by omega) (by omega)) c_46
    | succ c ih =>
      intro i C2 hi hC he
      refine g_iload_n h d_Heap_fullCollection_42 rfl rfl ?_
      refine g_sipush (v := 1000) h d_Heap_fullCollection_43 (by decide) ?_
      refine g_icmp_ge (tgt := 66) h d_Heap_fullCollection_46 (by decide) (fun c_46 => ?_) (fun c_46 => ?_)
      · exact absurd c_46 (nI_ge (b := 1000) (by omega) (by decide))
      · refine g_aload_n h d_Heap_fullCollection_49 rfl rfl ?_
        refine gf_Heap_phase h f_Heap_21 d_Heap_fullCollection_50 ?_
        refine g_if_eq (tgt := 66) h d_Heap_fullCollection_53 (by decide) (fun c_53 => ?_) (fun c_53 => ?_)
        · exact g_vret h r d_Heap_fullCollection_66 (⟨rfl, by rw [← he]; simp [cwhile, c_53]⟩)
        · refine g_aload_n h d_Heap_fullCollection_56 rfl rfl ?_
          refine g_dVv h tb_good (c_Heap_unit hC) (ix_lt 1 (by decide) _ (by decide)) (wc_at (by decide) (by decide)) rfl v_Heap_131 nm_Heap_unit rfl ⟨rfl, rfl, Nat.le_of_ble_eq_true rfl, Nat.le_of_ble_eq_true rfl, Nat.zero_le _, Nat.zero_le _⟩ rfl (Nat.le_of_ble_eq_true rfl) d_Heap_fullCollection_57 ?_
          refine g_iinc (v := nI (i + 1)) h d_Heap_fullCollection_60 rfl (by rw [nI_succ]; rfl) rfl (by rw [hN]; decide) ?_
          refine g_goto (tgt := 42) h d_Heap_fullCollection_63 (by decide) ?_
          exact ih (i + 1) _ (by omega) (okC_unit hC) (by rw [← he]; simp [cwhile, c_53])
  have hW : okC (cwhile 1000 (sI C 18 0 (C.1 18 0 + 1))) := okC_while _ _ hok0
  have mid : ∀ x : Int32, G Γ 0 0 171 ad (wc ad t (cwhile 1000 (sI C 18 0 (C.1 18 0 + 1)))) 36 [some (.ref (ad (ix 1 0))), some (.int x)] [] := by
    intro x
    refine g_aload_n h d_Heap_fullCollection_36 rfl rfl ?_
    refine g_dVv h tb_good (c_Heap_unit hW) (ix_lt 1 (by decide) _ (by decide)) (wc_at (by decide) (by decide)) rfl v_Heap_131 nm_Heap_unit rfl ⟨rfl, rfl, Nat.le_of_ble_eq_true rfl, Nat.le_of_ble_eq_true rfl, Nat.zero_le _, Nat.zero_le _⟩ rfl (Nat.le_of_ble_eq_true rfl) d_Heap_fullCollection_37 ?_
    refine g_iconst (v := 0) h d_Heap_fullCollection_40 (by decide) ?_
    refine g_istore_n h d_Heap_fullCollection_41 rfl rfl (by rw [hN]; decide) ?_
    exact loop2 1000 0 _ (by omega) (okC_unit hW) rfl
  have loop1 : ∀ (c i : Nat) (C2 : CS), i + c = 1000 → okC C2 → cwhile c C2 = cwhile 1000 (sI C 18 0 (C.1 18 0 + 1)) → G Γ 0 0 171 ad (wc ad t C2) 12 [some (.ref (ad (ix 1 0))), some (.int (nI i))] [] := by
    intro c
    induction c with
    | zero =>
      intro i C2 hi hC he
      refine g_iload_n h d_Heap_fullCollection_12 rfl rfl ?_
      refine g_sipush (v := 1000) h d_Heap_fullCollection_13 (by decide) ?_
      refine g_icmp_ge (tgt := 36) h d_Heap_fullCollection_16 (by decide) (fun c_16 => ?_) (fun c_16 => ?_)
      · rw [show C2 = _ from he]
        exact mid _
      · exact absurd (nI_le (a := 1000) (b := i) (by omega) (by omega)) c_16
    | succ c ih =>
      intro i C2 hi hC he
      refine g_iload_n h d_Heap_fullCollection_12 rfl rfl ?_
      refine g_sipush (v := 1000) h d_Heap_fullCollection_13 (by decide) ?_
      refine g_icmp_ge (tgt := 36) h d_Heap_fullCollection_16 (by decide) (fun c_16 => ?_) (fun c_16 => ?_)
      · exact absurd c_16 (nI_ge (b := 1000) (by omega) (by decide))
      · refine g_aload_n h d_Heap_fullCollection_19 rfl rfl ?_
        refine gf_Heap_phase h f_Heap_21 d_Heap_fullCollection_20 ?_
        refine g_if_eq (tgt := 36) h d_Heap_fullCollection_23 (by decide) (fun c_23 => ?_) (fun c_23 => ?_)
        · have hW1 : C2 = cwhile 1000 (sI C 18 0 (C.1 18 0 + 1)) := by rw [← he]; simp [cwhile, c_23]
          rw [hW1]
          exact mid _
        · refine g_aload_n h d_Heap_fullCollection_26 rfl rfl ?_
          refine g_dVv h tb_good (c_Heap_unit hC) (ix_lt 1 (by decide) _ (by decide)) (wc_at (by decide) (by decide)) rfl v_Heap_131 nm_Heap_unit rfl ⟨rfl, rfl, Nat.le_of_ble_eq_true rfl, Nat.le_of_ble_eq_true rfl, Nat.zero_le _, Nat.zero_le _⟩ rfl (Nat.le_of_ble_eq_true rfl) d_Heap_fullCollection_27 ?_
          refine g_iinc (v := nI (i + 1)) h d_Heap_fullCollection_30 rfl (by rw [nI_succ]; rfl) rfl (by rw [hN]; decide) ?_
          refine g_goto (tgt := 12) h d_Heap_fullCollection_33 (by decide) ?_
          exact ih (i + 1) _ (by omega) (okC_unit hC) (by rw [← he]; simp [cwhile, c_23])
  refine g_at (L' := [some (.ref (ad (ix 1 0))), none]) rfl rfl rfl ?_
  refine g_aload_n h d_Heap_fullCollection_0 rfl rfl ?_
  refine g_dup h d_Heap_fullCollection_1 rfl ?_
  refine gf_Heap_fullCollections h f_Heap_37 d_Heap_fullCollection_2 ?_
  refine g_iconst (v := 1) h d_Heap_fullCollection_5 (by decide) ?_
  refine g_iadd h d_Heap_fullCollection_6 ?_
  refine pf_Heap_fullCollections h f_Heap_37 d_Heap_fullCollection_7 ?_
  refine g_iconst (v := 0) h d_Heap_fullCollection_10 (by decide) ?_
  refine g_istore_n h d_Heap_fullCollection_11 rfl rfl (by rw [hN]; decide) ?_
  exact loop1 1000 0 _ (by omega) hok0 rfl
end

-- part 14.heap4
section
set_option maxHeartbeats 4000000 in
set_option maxRecDepth 100000 in
theorem c_Arr_fill {l : Launch} {D : va_G} {t : Nat → ClassId} {ad : Nat → Nat} {C : CS} {n : Nat} {v : Int64} (hn : n < 16) : Cd l D t ad y_Arr_fill b_Arr_fill 5 none { frames := 0, cells := 0, slots := 0, locals := 0 } [.ref (ad (ix 9 n)), .long v] (C) (none) (sR C 3 n (fil v 4 (C.2.1 3 n))) := by
  refine ct_of (by decide) (Nat.le_of_ble_eq_true rfl) ?_
  intro Γ _ _ hN h r
  have loop : ∀ (c i : Nat) (C2 : CS), i + c = 4 → C2 = sR C 3 n (fil v i (C.2.1 3 n)) → G Γ 0 0 171 ad (wc ad t C2) 6 [some (.ref (ad (ix 9 n))), some (.long v), none, some (.int (nI i)), some (.int 4)] [] := by
    intro c
    induction c with
    | zero =>
      intro i C2 hi he
      refine g_iload_n h d_Arr_fill_6 rfl rfl ?_
      refine g_iload h d_Arr_fill_7 rfl ?_
      refine g_icmp_ge (tgt := 22) h d_Arr_fill_9 (by decide) (fun c_9 => ?_) (fun c_9 => ?_)
      · exact g_vret h r d_Arr_fill_22 (⟨rfl, by rw [he, show i = 4 by omega]⟩)
      · exact absurd (nI_le (a := 4) (b := i) (by omega) (by omega)) c_9
    | succ c ih =>
      intro i C2 hi he
      refine g_iload_n h d_Arr_fill_6 rfl rfl ?_
      refine g_iload h d_Arr_fill_7 rfl ?_
      refine g_icmp_ge (tgt := 22) h d_Arr_fill_9 (by decide) (fun c_9 => ?_) (fun c_9 => ?_)
      · exact absurd c_9 (nI_ge (b := 4) (by omega) (by decide))
      · refine g_aload_n h d_Arr_fill_12 rfl rfl ?_
        refine g_iload_n h d_Arr_fill_13 rfl rfl ?_
        refine g_lload_n h d_Arr_fill_14 rfl rfl ?_
        refine pa_regs h hn rfl (show i < 4 by omega) d_Arr_fill_15 ?_
        refine g_iinc (v := nI (i + 1)) h d_Arr_fill_16 rfl (by rw [nI_succ]; rfl) rfl (by rw [hN]; decide) ?_
        refine g_goto (tgt := 6) h d_Arr_fill_19 (by decide) ?_
        exact ih (i + 1) _ (by omega) (by rw [he]; exact fil_step C 3 n i v)
  refine g_at (L' := [some (.ref (ad (ix 9 n))), some (.long v), none, none, none]) rfl rfl rfl ?_
  refine g_iconst (v := 0) h d_Arr_fill_0 (by decide) ?_
  refine g_istore_n h d_Arr_fill_1 rfl rfl (by rw [hN]; decide) ?_
  refine g_aload_n h d_Arr_fill_2 rfl rfl ?_
  refine g_alen h (ix 9 n) 0 (ix_lt 9 (by decide) n hn) (wc_at (by decide) hn) rfl (v := 4) rfl d_Arr_fill_3 ?_
  refine g_istore h d_Arr_fill_4 rfl (by rw [hN]; decide) ?_
  exact loop 4 0 C (by omega) (fil_0 C 3 n v).symm
set_option maxHeartbeats 4000000 in
set_option maxRecDepth 100000 in
theorem c_Cor_clear {l : Launch} {D : va_G} {t : Nat → ClassId} {ad : Nat → Nat} {C : CS} {n : Nat} {f : Int32} (hn : n < 16) : Cd l D t ad y_Cor_clear b_Cor_clear 2 none { frames := 1, cells := 0, slots := 0, locals := 24 } [.ref (ad (ix 8 n)), .int f] (C) (none) (cclear C n f) := by
  refine ct_of (by decide) (Nat.le_of_ble_eq_true rfl) ?_
  intro Γ _ _ hN h r
  refine g_at (L' := [some (.ref (ad (ix 8 n))), some (.int f)]) rfl rfl rfl ?_
  refine g_aload_n h d_Cor_clear_0 rfl rfl ?_
  refine gf_Cor_registers h f_Cor_9 (by first | assumption | omega | (show _ < 16; omega)) d_Cor_clear_1 ?_
  refine g_ldc2 (v := -1000000000000) h d_Cor_clear_4 k_Cor_31 ?_
  refine g_dSv h tb_good (c_Arr_fill hn) v_Cor_33 nm_Arr_fill rfl ⟨rfl, rfl, Nat.le_of_ble_eq_true rfl, Nat.le_of_ble_eq_true rfl, Nat.zero_le _, Nat.zero_le _⟩ rfl (Nat.le_of_ble_eq_true rfl) d_Cor_clear_7 ?_
  refine g_aload_n h d_Cor_clear_10 rfl rfl ?_
  refine g_iload_n h d_Cor_clear_11 rfl rfl ?_
  refine pf_Cor_function h f_Cor_15 (by first | assumption | omega | (show _ < 16; omega)) d_Cor_clear_12 ?_
  refine g_aload_n h d_Cor_clear_15 rfl rfl ?_
  refine g_iconst (v := 0) h d_Cor_clear_16 (by decide) ?_
  refine pf_Cor_place h f_Cor_19 (by first | assumption | omega | (show _ < 16; omega)) d_Cor_clear_17 ?_
  refine g_aload_n h d_Cor_clear_20 rfl rfl ?_
  refine g_iconst (v := 0) h d_Cor_clear_21 (by decide) ?_
  refine pf_Cor_state h f_Cor_22 (by first | assumption | omega | (show _ < 16; omega)) d_Cor_clear_22 ?_
  refine g_aload_n h d_Cor_clear_25 rfl rfl ?_
  refine g_iconst (v := 0) h d_Cor_clear_26 (by decide) ?_
  refine pf_Cor_comesIn h f_Cor_25 (by first | assumption | omega | (show _ < 16; omega)) d_Cor_clear_27 ?_
  exact g_vret h r d_Cor_clear_30 (⟨rfl, rfl⟩)
set_option maxHeartbeats 4000000 in
set_option maxRecDepth 100000 in
theorem c_Tab_append {l : Launch} {D : va_G} {t : Nat → ClassId} {ad : Nat → Nat} {C : CS} {n P : Nat} {k v : Int64} (hn : n < 16) (hp : C.1 2 n = nI P) (hP : P < 6) : Cd l D t ad y_Tab_append b_Tab_append 5 none { frames := 0, cells := 0, slots := 0, locals := 0 } [.ref (ad (ix 5 n)), .long k, .long v] (C) (none) (tappend C n k v) := by
  refine ct_of (by decide) (Nat.le_of_ble_eq_true rfl) ?_
  intro Γ _ _ hN h r
  have hc := cPairs_eq hp (by omega)
  refine g_at (L' := [some (.ref (ad (ix 5 n))), some (.long k), none, some (.long v), none]) rfl rfl rfl ?_
  refine g_aload_n h d_Tab_append_0 rfl rfl ?_
  refine gf_Tab_keys h f_Tab_9 (by first | assumption | omega | (show _ < 16; omega)) d_Tab_append_1 ?_
  refine g_aload_n h d_Tab_append_4 rfl rfl ?_
  refine gf_Tab_pairs h f_Tab_18 (by first | assumption | omega | (show _ < 16; omega)) d_Tab_append_5 ?_
  refine g_lload_n h d_Tab_append_8 rfl rfl ?_
  refine pa_keys h hn hp hP d_Tab_append_9 ?_
  refine g_aload_n h d_Tab_append_10 rfl rfl ?_
  refine gf_Tab_values h f_Tab_15 (by first | assumption | omega | (show _ < 16; omega)) d_Tab_append_11 ?_
  refine g_aload_n h d_Tab_append_14 rfl rfl ?_
  refine gf_Tab_pairs h f_Tab_18 (by first | assumption | omega | (show _ < 16; omega)) d_Tab_append_15 ?_
  simp only [sI_1, sI_2, sJ_1, sJ_2, sJ_3, sR_1, sR_2, sR_3, Nat.reduceEqDiff, Nat.zero_ne_one, Nat.one_ne_zero, Nat.succ_ne_zero, reduceCtorEq, false_and, if_false, true_and, and_self, if_true, and_true, and_false, reduceIte]
  refine g_lload_n h d_Tab_append_18 rfl rfl ?_
  refine pa_vals h hn hp hP d_Tab_append_19 ?_
  refine g_aload_n h d_Tab_append_20 rfl rfl ?_
  refine g_dup h d_Tab_append_21 rfl ?_
  refine gf_Tab_pairs h f_Tab_18 (by first | assumption | omega | (show _ < 16; omega)) d_Tab_append_22 ?_
  simp only [sI_1, sI_2, sJ_1, sJ_2, sJ_3, sR_1, sR_2, sR_3, Nat.reduceEqDiff, Nat.zero_ne_one, Nat.one_ne_zero, Nat.succ_ne_zero, reduceCtorEq, false_and, if_false, true_and, and_self, if_true, and_true, and_false, reduceIte]
  refine g_iconst (v := 1) h d_Tab_append_25 (by decide) ?_
  refine g_iadd h d_Tab_append_26 ?_
  refine pf_Tab_pairs h f_Tab_18 (by first | assumption | omega | (show _ < 16; omega)) d_Tab_append_27 ?_
  exact g_vret h r d_Tab_append_30 (⟨rfl, by unfold tappend; rw [hc]⟩)
set_option maxHeartbeats 4000000 in
set_option maxRecDepth 100000 in
theorem c_Heap_create {l : Launch} {D : va_G} {t : Nat → ClassId} {ad : Nat → Nat} {C : CS} {kind f : Int32} (hok : okC C) : Cd l D t ad y_Heap_create b_Heap_create 5 (some .int) { frames := 4, cells := 0, slots := 0, locals := 90 } [.ref (ad (ix 1 0)), .int kind, .int f] (C) (some (.int (ccreate C kind f).1)) ((ccreate C kind f).2) := by
  refine ct_of (by decide) (Nat.le_of_ble_eq_true rfl) ?_
  intro Γ _ _ hN h r
  refine g_at (L' := [some (.ref (ad (ix 1 0))), some (.int kind), some (.int f), none, none]) rfl rfl rfl ?_
  refine g_aload_n h d_Heap_create_0 rfl rfl ?_
  refine g_dVi h tb_good (c_Heap_leastFree) (ix_lt 1 (by decide) _ (by decide)) (wc_at (by decide) (by decide)) rfl v_Heap_62 nm_Heap_leastFree rfl ⟨rfl, rfl, Nat.le_of_ble_eq_true rfl, Nat.le_of_ble_eq_true rfl, Nat.zero_le _, Nat.zero_le _⟩ rfl (Nat.le_of_ble_eq_true rfl) d_Heap_create_1 ?_
  refine g_istore_n h d_Heap_create_4 rfl rfl (by rw [hN]; decide) ?_
  rcases hf : cfree C with _ | q <;> simp only [enc]
  · refine g_iload_n h d_Heap_create_5 rfl rfl ?_
    refine g_if_ge (tgt := 18) h d_Heap_create_6 (by decide) (fun c_6 => ?_) (fun c_6 => ?_)
    · exact absurd c_6 (by decide)
    · refine g_aload_n h d_Heap_create_9 rfl rfl ?_
      refine g_dVv h tb_good (c_Heap_fullCollection hok) (ix_lt 1 (by decide) _ (by decide)) (wc_at (by decide) (by decide)) rfl v_Heap_66 nm_Heap_fullCollection rfl ⟨rfl, rfl, Nat.le_of_ble_eq_true rfl, Nat.le_of_ble_eq_true rfl, Nat.zero_le _, Nat.zero_le _⟩ rfl (Nat.le_of_ble_eq_true rfl) d_Heap_create_10 ?_
      refine g_aload_n h d_Heap_create_13 rfl rfl ?_
      refine g_dVi h tb_good (c_Heap_leastFree) (ix_lt 1 (by decide) _ (by decide)) (wc_at (by decide) (by decide)) rfl v_Heap_62 nm_Heap_leastFree rfl ⟨rfl, rfl, Nat.le_of_ble_eq_true rfl, Nat.le_of_ble_eq_true rfl, Nat.zero_le _, Nat.zero_le _⟩ rfl (Nat.le_of_ble_eq_true rfl) d_Heap_create_14 ?_
      refine g_istore_n h d_Heap_create_17 rfl rfl (by rw [hN]; decide) ?_
      rcases hf2 : cfree (cfull C) with _ | q <;> simp only [enc]
      · refine g_iload_n h d_Heap_create_18 rfl rfl ?_
        refine g_if_ge (tgt := 24) h d_Heap_create_19 (by decide) (fun c_19 => ?_) (fun c_19 => ?_)
        · exact absurd c_19 (by decide)
        · refine g_iconst (v := 3) h d_Heap_create_22 (by decide) ?_
          exact g_iret h r d_Heap_create_23 (⟨by simp [ccreate, hf, hf2], by simp [ccreate, hf, hf2]⟩)
      · have hq := cfree_lt hf2
        refine g_iload_n h d_Heap_create_18 rfl rfl ?_
        refine g_if_ge (tgt := 24) h d_Heap_create_19 (by decide) (fun c_19 => ?_) (fun c_19 => ?_)
        · refine g_aload_n h d_Heap_create_24 rfl rfl ?_
          refine gf_Heap_cells h f_Heap_17 d_Heap_create_25 ?_
          refine g_iload_n h d_Heap_create_28 rfl rfl ?_
          refine ga_cells h rfl hq d_Heap_create_29 ?_
          refine g_astore h d_Heap_create_30 rfl (by rw [hN]; decide) ?_
          refine g_aload h d_Heap_create_32 rfl ?_
          refine g_iload_n h d_Heap_create_34 rfl rfl ?_
          refine pf_Cell_kind h f_Heap_59 hq d_Heap_create_35 ?_
          refine g_aload h d_Heap_create_38 rfl ?_
          refine g_aload_n h d_Heap_create_40 rfl rfl ?_
          refine g_iload_n h d_Heap_create_41 rfl rfl ?_
          refine g_dVi h tb_good (c_Heap_birthColour) (ix_lt 1 (by decide) _ (by decide)) (wc_at (by decide) (by decide)) rfl v_Heap_69 nm_Heap_birthColour rfl ⟨rfl, rfl, Nat.le_of_ble_eq_true rfl, Nat.le_of_ble_eq_true rfl, Nat.zero_le _, Nat.zero_le _⟩ rfl (Nat.le_of_ble_eq_true rfl) d_Heap_create_42 ?_
          refine pf_Cell_colour h f_Heap_73 hq d_Heap_create_45 ?_
          refine g_iload_n h d_Heap_create_48 rfl rfl ?_
          refine g_iconst (v := 1) h d_Heap_create_49 (by decide) ?_
          refine g_icmp_ne (tgt := 64) h d_Heap_create_50 (by decide) (fun c_50 => ?_) (fun c_50 => ?_)
          · refine g_aload h d_Heap_create_64 rfl ?_
            refine gf_Cell_coroutine h f_Heap_85 hq d_Heap_create_66 ?_
            refine g_iload_n h d_Heap_create_69 rfl rfl ?_
            refine g_dVv h tb_good (c_Cor_clear hq) (ix_lt 8 (by decide) _ hq) (wc_at (by decide) hq) rfl v_Heap_89 nm_Cor_clear rfl ⟨rfl, rfl, Nat.le_of_ble_eq_true rfl, Nat.le_of_ble_eq_true rfl, Nat.zero_le _, Nat.zero_le _⟩ rfl (Nat.le_of_ble_eq_true rfl) d_Heap_create_70 ?_
            refine g_aload_n h d_Heap_create_73 rfl rfl ?_
            refine g_dup h d_Heap_create_74 rfl ?_
            refine gf_Heap_made h f_Heap_28 d_Heap_create_75 ?_
            refine g_iconst (v := 1) h d_Heap_create_78 (by decide) ?_
            refine g_iadd h d_Heap_create_79 ?_
            refine pf_Heap_made h f_Heap_28 d_Heap_create_80 ?_
            refine g_aload_n h d_Heap_create_83 rfl rfl ?_
            refine g_ldc2 (v := 10000000000) h d_Heap_create_84 k_Heap_53 ?_
            refine g_iload_n h d_Heap_create_87 rfl rfl ?_
            refine g_i2l h d_Heap_create_88 ?_
            refine g_ladd h d_Heap_create_89 ?_
            refine pf_Heap_found h f_Heap_42 d_Heap_create_90 ?_
            refine g_iconst (v := 0) h d_Heap_create_93 (by decide) ?_
            exact g_iret h r d_Heap_create_94 (⟨by first | (simp [ccreate, hf]; done) | (simp [ccreate, hf, hf2]; done), by first | (simp [ccreate, hf, c_50]; done) | (simp [ccreate, hf, hf2, c_50]; done)⟩)
          · refine g_aload h d_Heap_create_53 rfl ?_
            refine gf_Cell_table h f_Heap_76 hq d_Heap_create_55 ?_
            refine g_dVv h tb_good (c_Tab_clear hq) (ix_lt 5 (by decide) _ hq) (wc_at (by decide) hq) rfl v_Heap_80 nm_Tab_clear rfl ⟨rfl, rfl, Nat.le_of_ble_eq_true rfl, Nat.le_of_ble_eq_true rfl, Nat.zero_le _, Nat.zero_le _⟩ rfl (Nat.le_of_ble_eq_true rfl) d_Heap_create_58 ?_
            refine g_goto (tgt := 73) h d_Heap_create_61 (by decide) ?_
            refine g_aload_n h d_Heap_create_73 rfl rfl ?_
            refine g_dup h d_Heap_create_74 rfl ?_
            refine gf_Heap_made h f_Heap_28 d_Heap_create_75 ?_
            refine g_iconst (v := 1) h d_Heap_create_78 (by decide) ?_
            refine g_iadd h d_Heap_create_79 ?_
            refine pf_Heap_made h f_Heap_28 d_Heap_create_80 ?_
            refine g_aload_n h d_Heap_create_83 rfl rfl ?_
            refine g_ldc2 (v := 10000000000) h d_Heap_create_84 k_Heap_53 ?_
            refine g_iload_n h d_Heap_create_87 rfl rfl ?_
            refine g_i2l h d_Heap_create_88 ?_
            refine g_ladd h d_Heap_create_89 ?_
            refine pf_Heap_found h f_Heap_42 d_Heap_create_90 ?_
            refine g_iconst (v := 0) h d_Heap_create_93 (by decide) ?_
            exact g_iret h r d_Heap_create_94 (⟨by first | (simp [ccreate, hf]; done) | (simp [ccreate, hf, hf2]; done), by first | (simp [ccreate, hf, c_50]; done) | (simp [ccreate, hf, hf2, c_50]; done)⟩)
        · exact absurd (nI_pos' (by omega)) c_19
  · have hq := cfree_lt hf
    refine g_iload_n h d_Heap_create_5 rfl rfl ?_
    refine g_if_ge (tgt := 18) h d_Heap_create_6 (by decide) (fun c_6 => ?_) (fun c_6 => ?_)
    · refine g_iload_n h d_Heap_create_18 rfl rfl ?_
      refine g_if_ge (tgt := 24) h d_Heap_create_19 (by decide) (fun c_19 => ?_) (fun c_19 => ?_)
      · refine g_aload_n h d_Heap_create_24 rfl rfl ?_
        refine gf_Heap_cells h f_Heap_17 d_Heap_create_25 ?_
        refine g_iload_n h d_Heap_create_28 rfl rfl ?_
        refine ga_cells h rfl hq d_Heap_create_29 ?_
        refine g_astore h d_Heap_create_30 rfl (by rw [hN]; decide) ?_
        refine g_aload h d_Heap_create_32 rfl ?_
        refine g_iload_n h d_Heap_create_34 rfl rfl ?_
        refine pf_Cell_kind h f_Heap_59 hq d_Heap_create_35 ?_
        refine g_aload h d_Heap_create_38 rfl ?_
        refine g_aload_n h d_Heap_create_40 rfl rfl ?_
        refine g_iload_n h d_Heap_create_41 rfl rfl ?_
        refine g_dVi h tb_good (c_Heap_birthColour) (ix_lt 1 (by decide) _ (by decide)) (wc_at (by decide) (by decide)) rfl v_Heap_69 nm_Heap_birthColour rfl ⟨rfl, rfl, Nat.le_of_ble_eq_true rfl, Nat.le_of_ble_eq_true rfl, Nat.zero_le _, Nat.zero_le _⟩ rfl (Nat.le_of_ble_eq_true rfl) d_Heap_create_42 ?_
        refine pf_Cell_colour h f_Heap_73 hq d_Heap_create_45 ?_
        refine g_iload_n h d_Heap_create_48 rfl rfl ?_
        refine g_iconst (v := 1) h d_Heap_create_49 (by decide) ?_
        refine g_icmp_ne (tgt := 64) h d_Heap_create_50 (by decide) (fun c_50 => ?_) (fun c_50 => ?_)
        · refine g_aload h d_Heap_create_64 rfl ?_
          refine gf_Cell_coroutine h f_Heap_85 hq d_Heap_create_66 ?_
          refine g_iload_n h d_Heap_create_69 rfl rfl ?_
          refine g_dVv h tb_good (c_Cor_clear hq) (ix_lt 8 (by decide) _ hq) (wc_at (by decide) hq) rfl v_Heap_89 nm_Cor_clear rfl ⟨rfl, rfl, Nat.le_of_ble_eq_true rfl, Nat.le_of_ble_eq_true rfl, Nat.zero_le _, Nat.zero_le _⟩ rfl (Nat.le_of_ble_eq_true rfl) d_Heap_create_70 ?_
          refine g_aload_n h d_Heap_create_73 rfl rfl ?_
          refine g_dup h d_Heap_create_74 rfl ?_
          refine gf_Heap_made h f_Heap_28 d_Heap_create_75 ?_
          refine g_iconst (v := 1) h d_Heap_create_78 (by decide) ?_
          refine g_iadd h d_Heap_create_79 ?_
          refine pf_Heap_made h f_Heap_28 d_Heap_create_80 ?_
          refine g_aload_n h d_Heap_create_83 rfl rfl ?_
          refine g_ldc2 (v := 10000000000) h d_Heap_create_84 k_Heap_53 ?_
          refine g_iload_n h d_Heap_create_87 rfl rfl ?_
          refine g_i2l h d_Heap_create_88 ?_
          refine g_ladd h d_Heap_create_89 ?_
          refine pf_Heap_found h f_Heap_42 d_Heap_create_90 ?_
          refine g_iconst (v := 0) h d_Heap_create_93 (by decide) ?_
          exact g_iret h r d_Heap_create_94 (⟨by first | (simp [ccreate, hf]; done) | (simp [ccreate, hf, hf2]; done), by first | (simp [ccreate, hf, c_50]; done) | (simp [ccreate, hf, hf2, c_50]; done)⟩)
        · refine g_aload h d_Heap_create_53 rfl ?_
          refine gf_Cell_table h f_Heap_76 hq d_Heap_create_55 ?_
          refine g_dVv h tb_good (c_Tab_clear hq) (ix_lt 5 (by decide) _ hq) (wc_at (by decide) hq) rfl v_Heap_80 nm_Tab_clear rfl ⟨rfl, rfl, Nat.le_of_ble_eq_true rfl, Nat.le_of_ble_eq_true rfl, Nat.zero_le _, Nat.zero_le _⟩ rfl (Nat.le_of_ble_eq_true rfl) d_Heap_create_58 ?_
          refine g_goto (tgt := 73) h d_Heap_create_61 (by decide) ?_
          refine g_aload_n h d_Heap_create_73 rfl rfl ?_
          refine g_dup h d_Heap_create_74 rfl ?_
          refine gf_Heap_made h f_Heap_28 d_Heap_create_75 ?_
          refine g_iconst (v := 1) h d_Heap_create_78 (by decide) ?_
          refine g_iadd h d_Heap_create_79 ?_
          refine pf_Heap_made h f_Heap_28 d_Heap_create_80 ?_
          refine g_aload_n h d_Heap_create_83 rfl rfl ?_
          refine g_ldc2 (v := 10000000000) h d_Heap_create_84 k_Heap_53 ?_
          refine g_iload_n h d_Heap_create_87 rfl rfl ?_
          refine g_i2l h d_Heap_create_88 ?_
          refine g_ladd h d_Heap_create_89 ?_
          refine pf_Heap_found h f_Heap_42 d_Heap_create_90 ?_
          refine g_iconst (v := 0) h d_Heap_create_93 (by decide) ?_
          exact g_iret h r d_Heap_create_94 (⟨by first | (simp [ccreate, hf]; done) | (simp [ccreate, hf, hf2]; done), by first | (simp [ccreate, hf, c_50]; done) | (simp [ccreate, hf, hf2, c_50]; done)⟩)
      · exact absurd (nI_pos' (by omega)) c_19
    · exact absurd (nI_pos' (by omega)) c_6
end

-- part 15.heap5
section
set_option maxHeartbeats 4000000 in
set_option maxRecDepth 100000 in
theorem c_Heap_getting {l : Launch} {D : va_G} {t : Nat → ClassId} {ad : Nat → Nat} {C : CS} {tb k : Int64} (hok : okC C) (htb : okV tb) : Cd l D t ad y_Heap_getting b_Heap_getting 8 (some .int) { frames := 4, cells := 0, slots := 0, locals := 98 } [.ref (ad (ix 1 0)), .long tb, .long k] (C) (some (.int (cgetting C tb k).1)) ((cgetting C tb k).2) := by
  refine ct_of (by decide) (Nat.le_of_ble_eq_true rfl) ?_
  intro Γ _ _ hN h r
  have hok1 : okC (sJ C 4 0 0 (-1000000000000)) := okC_J hok okV_nil
  refine g_at (L' := [some (.ref (ad (ix 1 0))), some (.long tb), none, some (.long k), none, none, none, none]) rfl rfl rfl ?_
  refine g_aload_n h d_Heap_getting_0 rfl rfl ?_
  refine g_iconst (v := 1) h d_Heap_getting_1 (by decide) ?_
  refine g_lload_n h d_Heap_getting_2 rfl rfl ?_
  refine g_dVi h tb_good (c_Heap_isA htb) (ix_lt 1 (by decide) _ (by decide)) (wc_at (by decide) (by decide)) rfl v_Heap_94 nm_Heap_isA rfl ⟨rfl, rfl, Nat.le_of_ble_eq_true rfl, Nat.le_of_ble_eq_true rfl, Nat.zero_le _, Nat.zero_le _⟩ rfl (Nat.le_of_ble_eq_true rfl) d_Heap_getting_3 ?_
  by_cases ha : isA C 1 tb = true
  · rw [if_pos ha]
    obtain ⟨ho, hon, -⟩ := isA_on htb ha
    refine g_if_ne (tgt := 11) h d_Heap_getting_6 (by decide) (fun c_6 => ?_) (fun c_6 => ?_)
    · refine g_aload_n h d_Heap_getting_11 rfl rfl ?_
      refine g_ldc2 (v := -1000000000000) h d_Heap_getting_12 k_Heap_40 ?_
      refine pf_Heap_found h f_Heap_42 d_Heap_getting_15 ?_
      refine g_lload_n h d_Heap_getting_18 rfl rfl ?_
      refine g_ldc2 (v := -1000000000000) h d_Heap_getting_19 k_Heap_40 ?_
      refine g_lc_ne (tgt := 28) h d_Heap_getting_22 d_Heap_getting_23 (by decide) (fun c_23 => ?_) (fun c_23 => ?_)
      · refine g_aload_n h d_Heap_getting_28 rfl rfl ?_
        refine g_lload_n h d_Heap_getting_29 rfl rfl ?_
        refine g_dNi h tb_good (c_TCM_numberOf) (host := "TriColourMachine") nl_Heap_55 cd_TCM_numberOf in_TCM st_TCM_numberOf nm_TCM_numberOf rfl ⟨rfl, rfl, Nat.le_of_ble_eq_true rfl, Nat.le_of_ble_eq_true rfl, Nat.zero_le _, Nat.zero_le _⟩ rfl (Nat.le_of_ble_eq_true rfl) d_Heap_getting_30 ?_
        rw [hon]
        refine g_lload_n h d_Heap_getting_33 rfl rfl ?_
        refine g_lconst (v := 0) h d_Heap_getting_34 (by decide) ?_
        refine g_dVi h tb_good (c_Heap_lastTable (C := (sJ C 4 0 0 (-1000000000000))) (n0 := on tb) hok1 ho rfl) (ix_lt 1 (by decide) _ (by decide)) (wc_at (by decide) (by decide)) rfl v_Heap_98 nm_Heap_lastTable rfl ⟨rfl, rfl, Nat.le_of_ble_eq_true rfl, Nat.le_of_ble_eq_true rfl, Nat.zero_le _, Nat.zero_le _⟩ rfl (Nat.le_of_ble_eq_true rfl) d_Heap_getting_35 ?_
        refine g_istore h d_Heap_getting_38 rfl (by rw [hN]; decide) ?_
        rcases hl : tlast (sJ C 4 0 0 (-1000000000000)) k 0 5 (on tb) with _ | q <;> simp only [enc]
        · refine g_iload h d_Heap_getting_40 rfl ?_
          refine g_if_ge (tgt := 47) h d_Heap_getting_42 (by decide) (fun c_42 => ?_) (fun c_42 => ?_)
          · exact absurd c_42 (by decide)
          · refine g_iconst (v := 2) h d_Heap_getting_45 (by decide) ?_
            exact g_iret h r d_Heap_getting_46 (⟨by first | (simp [cgetting, ha]; done) | (simp [cgetting, ha, c_23]; done) | (simp [cgetting, ha, c_23, hl]; done) | (simp [cgetting, ha, c_23, hl, hf]; done), by first | (simp [cgetting, ha]; done) | (simp [cgetting, ha, c_23]; done) | (simp [cgetting, ha, c_23, hl]; done) | (simp [cgetting, ha, c_23, hl, hf]; done)⟩)
        · have hq := tlast_lt hok1 5 _ _ ho hl
          obtain ⟨⟨P, hP, hp⟩, -⟩ := hok1.1 q hq
          refine g_iload h d_Heap_getting_40 rfl ?_
          refine g_if_ge (tgt := 47) h d_Heap_getting_42 (by decide) (fun c_42 => ?_) (fun c_42 => ?_)
          · refine g_aload_n h d_Heap_getting_47 rfl rfl ?_
            refine gf_Heap_cells h f_Heap_17 d_Heap_getting_48 ?_
            refine g_iload h d_Heap_getting_51 rfl ?_
            refine ga_cells h rfl hq d_Heap_getting_53 ?_
            refine gf_Cell_table h f_Heap_76 (by first | assumption | omega | (show _ < 16; omega)) d_Heap_getting_54 ?_
            refine g_astore h d_Heap_getting_57 rfl (by rw [hN]; decide) ?_
            refine g_aload h d_Heap_getting_59 rfl ?_
            refine g_lload_n h d_Heap_getting_61 rfl rfl ?_
            refine g_dVi h tb_good (c_Tab_find (C := (sJ C 4 0 0 (-1000000000000))) hq hp hP) (ix_lt 5 (by decide) _ (by first | assumption | omega | (show _ < 16; omega))) (wc_at (by decide) (by first | assumption | omega | (show _ < 16; omega))) rfl v_Heap_102 nm_Tab_find rfl ⟨rfl, rfl, Nat.le_of_ble_eq_true rfl, Nat.le_of_ble_eq_true rfl, Nat.zero_le _, Nat.zero_le _⟩ rfl (Nat.le_of_ble_eq_true rfl) d_Heap_getting_62 ?_
            refine g_istore h d_Heap_getting_65 rfl (by rw [hN]; decide) ?_
            rcases hf : tfind (sJ C 4 0 0 (-1000000000000)) q k with _ | w <;> simp only [enc]
            · refine g_iload h d_Heap_getting_67 rfl ?_
              refine g_if_lt (tgt := 84) h d_Heap_getting_69 (by decide) (fun c_69 => ?_) (fun c_69 => ?_)
              · refine g_iconst (v := 0) h d_Heap_getting_84 (by decide) ?_
                exact g_iret h r d_Heap_getting_85 (⟨by first | (simp [cgetting, ha]; done) | (simp [cgetting, ha, c_23]; done) | (simp [cgetting, ha, c_23, hl]; done) | (simp [cgetting, ha, c_23, hl, hf]; done), by first | (simp [cgetting, ha]; done) | (simp [cgetting, ha, c_23]; done) | (simp [cgetting, ha, c_23, hl]; done) | (simp [cgetting, ha, c_23, hl, hf]; done)⟩)
              · exact absurd (by decide) c_69
            · have hw := tfind_lt hp hP hf
              refine g_iload h d_Heap_getting_67 rfl ?_
              refine g_if_lt (tgt := 84) h d_Heap_getting_69 (by decide) (fun c_69 => ?_) (fun c_69 => ?_)
              · exact absurd c_69 (nI_pos (by omega))
              · refine g_aload_n h d_Heap_getting_72 rfl rfl ?_
                refine g_aload h d_Heap_getting_73 rfl ?_
                refine gf_Tab_values h f_Heap_105 (by first | assumption | omega | (show _ < 16; omega)) d_Heap_getting_75 ?_
                refine g_iload h d_Heap_getting_78 rfl ?_
                refine ga_vals h hq rfl (by omega) d_Heap_getting_80 ?_
                refine pf_Heap_found h f_Heap_42 d_Heap_getting_81 ?_
                refine g_iconst (v := 0) h d_Heap_getting_84 (by decide) ?_
                exact g_iret h r d_Heap_getting_85 (⟨by first | (simp [cgetting, ha]; done) | (simp [cgetting, ha, c_23]; done) | (simp [cgetting, ha, c_23, hl]; done) | (simp [cgetting, ha, c_23, hl, hf]; done), by first | (simp [cgetting, ha]; done) | (simp [cgetting, ha, c_23]; done) | (simp [cgetting, ha, c_23, hl]; done) | (simp [cgetting, ha, c_23, hl, hf]; done)⟩)
          · exact absurd (nI_pos' (by omega)) c_42
      · refine g_iconst (v := 0) h d_Heap_getting_26 (by decide) ?_
        exact g_iret h r d_Heap_getting_27 (⟨by first | (simp [cgetting, ha]; done) | (simp [cgetting, ha, c_23]; done) | (simp [cgetting, ha, c_23, hl]; done) | (simp [cgetting, ha, c_23, hl, hf]; done), by first | (simp [cgetting, ha]; done) | (simp [cgetting, ha, c_23]; done) | (simp [cgetting, ha, c_23, hl]; done) | (simp [cgetting, ha, c_23, hl, hf]; done)⟩)
    · exact absurd c_6 (by decide)
  · rw [if_neg ha]
    refine g_if_ne (tgt := 11) h d_Heap_getting_6 (by decide) (fun c_6 => ?_) (fun c_6 => ?_)
    · exact absurd rfl c_6
    · refine g_iconst (v := 1) h d_Heap_getting_9 (by decide) ?_
      exact g_iret h r d_Heap_getting_10 (⟨by first | (simp [cgetting, ha]; done) | (simp [cgetting, ha, c_23]; done) | (simp [cgetting, ha, c_23, hl]; done) | (simp [cgetting, ha, c_23, hl, hf]; done), by first | (simp [cgetting, ha]; done) | (simp [cgetting, ha, c_23]; done) | (simp [cgetting, ha, c_23, hl]; done) | (simp [cgetting, ha, c_23, hl, hf]; done)⟩)
set_option maxHeartbeats 4000000 in
set_option maxRecDepth 100000 in
theorem c_Heap_howMany {l : Launch} {D : va_G} {t : Nat → ClassId} {ad : Nat → Nat} {C : CS} {tb : Int64} (hok : okC C) (htb : okV tb) : Cd l D t ad y_Heap_howMany b_Heap_howMany 3 (some .int) { frames := 2, cells := 0, slots := 0, locals := 44 } [.ref (ad (ix 1 0)), .long tb] (C) (some (.int (chowMany C tb).1)) ((chowMany C tb).2) := by
  refine ct_of (by decide) (Nat.le_of_ble_eq_true rfl) ?_
  intro Γ _ _ hN h r
  refine g_at (L' := [some (.ref (ad (ix 1 0))), some (.long tb), none]) rfl rfl rfl ?_
  refine g_aload_n h d_Heap_howMany_0 rfl rfl ?_
  refine g_iconst (v := 1) h d_Heap_howMany_1 (by decide) ?_
  refine g_lload_n h d_Heap_howMany_2 rfl rfl ?_
  refine g_dVi h tb_good (c_Heap_isA htb) (ix_lt 1 (by decide) _ (by decide)) (wc_at (by decide) (by decide)) rfl v_Heap_94 nm_Heap_isA rfl ⟨rfl, rfl, Nat.le_of_ble_eq_true rfl, Nat.le_of_ble_eq_true rfl, Nat.zero_le _, Nat.zero_le _⟩ rfl (Nat.le_of_ble_eq_true rfl) d_Heap_howMany_3 ?_
  by_cases ha : isA C 1 tb = true
  · rw [if_pos ha]
    obtain ⟨ho, hon, -⟩ := isA_on htb ha
    refine g_if_ne (tgt := 11) h d_Heap_howMany_6 (by decide) (fun c_6 => ?_) (fun c_6 => ?_)
    · refine g_aload_n h d_Heap_howMany_11 rfl rfl ?_
      refine g_aload_n h d_Heap_howMany_12 rfl rfl ?_
      refine gf_Heap_cells h f_Heap_17 d_Heap_howMany_13 ?_
      refine g_lload_n h d_Heap_howMany_16 rfl rfl ?_
      refine g_dNi h tb_good (c_TCM_numberOf) (host := "TriColourMachine") nl_Heap_55 cd_TCM_numberOf in_TCM st_TCM_numberOf nm_TCM_numberOf rfl ⟨rfl, rfl, Nat.le_of_ble_eq_true rfl, Nat.le_of_ble_eq_true rfl, Nat.zero_le _, Nat.zero_le _⟩ rfl (Nat.le_of_ble_eq_true rfl) d_Heap_howMany_17 ?_
      skip
      refine ga_cells h hon ho d_Heap_howMany_20 ?_
      refine gf_Cell_table h f_Heap_76 (by first | assumption | omega | (show _ < 16; omega)) d_Heap_howMany_21 ?_
      refine gf_Tab_pairs h f_Heap_108 (by first | assumption | omega | (show _ < 16; omega)) d_Heap_howMany_24 ?_
      refine g_i2l h d_Heap_howMany_27 ?_
      refine pf_Heap_found h f_Heap_42 d_Heap_howMany_28 ?_
      refine g_iconst (v := 0) h d_Heap_howMany_31 (by decide) ?_
      exact g_iret h r d_Heap_howMany_32 (⟨by simp [chowMany, ha], by simp [chowMany, ha]⟩)
    · exact absurd c_6 (by decide)
  · rw [if_neg ha]
    refine g_if_ne (tgt := 11) h d_Heap_howMany_6 (by decide) (fun c_6 => ?_) (fun c_6 => ?_)
    · exact absurd rfl c_6
    · refine g_iconst (v := 1) h d_Heap_howMany_9 (by decide) ?_
      exact g_iret h r d_Heap_howMany_10 (⟨by simp [chowMany, ha], by simp [chowMany, ha]⟩)
set_option maxHeartbeats 4000000 in
set_option maxRecDepth 100000 in
theorem c_Heap_settingMeta {l : Launch} {D : va_G} {t : Nat → ClassId} {ad : Nat → Nat} {C : CS} {tb m : Int64} (hok : okC C) (htb : okV tb) (hm : okV m) : Cd l D t ad y_Heap_settingMeta b_Heap_settingMeta 6 (some .int) { frames := 2, cells := 0, slots := 0, locals := 44 } [.ref (ad (ix 1 0)), .long tb, .long m] (C) (some (.int (csetMeta C tb m).1)) ((csetMeta C tb m).2) := by
  refine ct_of (by decide) (Nat.le_of_ble_eq_true rfl) ?_
  intro Γ _ _ hN h r
  refine g_at (L' := [some (.ref (ad (ix 1 0))), some (.long tb), none, some (.long m), none, none]) rfl rfl rfl ?_
  refine g_aload_n h d_Heap_settingMeta_0 rfl rfl ?_
  refine g_iconst (v := 1) h d_Heap_settingMeta_1 (by decide) ?_
  refine g_lload_n h d_Heap_settingMeta_2 rfl rfl ?_
  refine g_dVi h tb_good (c_Heap_isA htb) (ix_lt 1 (by decide) _ (by decide)) (wc_at (by decide) (by decide)) rfl v_Heap_94 nm_Heap_isA rfl ⟨rfl, rfl, Nat.le_of_ble_eq_true rfl, Nat.le_of_ble_eq_true rfl, Nat.zero_le _, Nat.zero_le _⟩ rfl (Nat.le_of_ble_eq_true rfl) d_Heap_settingMeta_3 ?_
  by_cases ha : isA C 1 tb = true
  · rw [if_pos ha]
    refine g_if_eq (tgt := 26) h d_Heap_settingMeta_6 (by decide) (fun c_6 => ?_) (fun c_6 => ?_)
    · exact absurd c_6 (by decide)
    · refine g_lload_n h d_Heap_settingMeta_9 rfl rfl ?_
      refine g_ldc2 (v := -1000000000000) h d_Heap_settingMeta_10 k_Heap_40 ?_
      refine g_lc_eq (tgt := 28) h d_Heap_settingMeta_13 d_Heap_settingMeta_14 (by decide) (fun c_14 => ?_) (fun c_14 => ?_)
      · refine g_lload_n h d_Heap_settingMeta_28 rfl rfl ?_
        refine g_dNi h tb_good (c_TCM_numberOf) (host := "TriColourMachine") nl_Heap_55 cd_TCM_numberOf in_TCM st_TCM_numberOf nm_TCM_numberOf rfl ⟨rfl, rfl, Nat.le_of_ble_eq_true rfl, Nat.le_of_ble_eq_true rfl, Nat.zero_le _, Nat.zero_le _⟩ rfl (Nat.le_of_ble_eq_true rfl) d_Heap_settingMeta_29 ?_
        obtain ⟨ho, hon, -⟩ := isA_on htb ha
        rw [hon]
        refine g_istore h d_Heap_settingMeta_32 rfl (by rw [hN]; decide) ?_
        refine g_aload_n h d_Heap_settingMeta_34 rfl rfl ?_
        refine gf_Heap_cells h f_Heap_17 d_Heap_settingMeta_35 ?_
        refine g_iload h d_Heap_settingMeta_38 rfl ?_
        refine ga_cells h rfl ho d_Heap_settingMeta_40 ?_
        refine gf_Cell_table h f_Heap_76 (by first | assumption | omega | (show _ < 16; omega)) d_Heap_settingMeta_41 ?_
        refine g_lload_n h d_Heap_settingMeta_44 rfl rfl ?_
        refine g_ldc2 (v := -1000000000000) h d_Heap_settingMeta_45 k_Heap_40 ?_
        refine g_lc_ne (tgt := 56) h d_Heap_settingMeta_48 d_Heap_settingMeta_49 (by decide) (fun c_49 => ?_) (fun c_49 => ?_)
        · exact absurd c_14 c_49
        · refine g_iconst (v := -1) h d_Heap_settingMeta_52 (by decide) ?_
          refine g_goto (tgt := 60) h d_Heap_settingMeta_53 (by decide) ?_
          refine pf_Tab_meta h f_Heap_121 (by first | assumption | omega | (show _ < 16; omega)) d_Heap_settingMeta_60 ?_
          refine g_aload_n h d_Heap_settingMeta_63 rfl rfl ?_
          refine g_iload h d_Heap_settingMeta_64 rfl ?_
          refine g_dVv h tb_good (c_Heap_touch ho) (ix_lt 1 (by decide) _ (by decide)) (wc_at (by decide) (by decide)) rfl v_Heap_118 nm_Heap_touch rfl ⟨rfl, rfl, Nat.le_of_ble_eq_true rfl, Nat.le_of_ble_eq_true rfl, Nat.zero_le _, Nat.zero_le _⟩ rfl (Nat.le_of_ble_eq_true rfl) d_Heap_settingMeta_66 ?_
          refine g_iconst (v := 0) h d_Heap_settingMeta_69 (by decide) ?_
          exact g_iret h r d_Heap_settingMeta_70 (⟨by first | (simp [csetMeta, ha]; done) | (simp [csetMeta, ha, c_14]; done) | (simp [csetMeta, ha, c_14, hb]; done), by first | (simp [csetMeta, ha]; done) | (simp [csetMeta, ha, c_14]; done) | (simp [csetMeta, ha, c_14, hb]; done) | (simp [csetMeta, ha, c_14, hb, (isA_on hm hb).2.1]; done)⟩)
      · skip
        · refine g_aload_n h d_Heap_settingMeta_17 rfl rfl ?_
          refine g_iconst (v := 1) h d_Heap_settingMeta_18 (by decide) ?_
          refine g_lload_n h d_Heap_settingMeta_19 rfl rfl ?_
          refine g_dVi h tb_good (c_Heap_isA hm) (ix_lt 1 (by decide) _ (by decide)) (wc_at (by decide) (by decide)) rfl v_Heap_94 nm_Heap_isA rfl ⟨rfl, rfl, Nat.le_of_ble_eq_true rfl, Nat.le_of_ble_eq_true rfl, Nat.zero_le _, Nat.zero_le _⟩ rfl (Nat.le_of_ble_eq_true rfl) d_Heap_settingMeta_20 ?_
          by_cases hb : isA C 1 m = true
          · rw [if_pos hb]
            refine g_if_ne (tgt := 28) h d_Heap_settingMeta_23 (by decide) (fun c_23 => ?_) (fun c_23 => ?_)
            · refine g_lload_n h d_Heap_settingMeta_28 rfl rfl ?_
              refine g_dNi h tb_good (c_TCM_numberOf) (host := "TriColourMachine") nl_Heap_55 cd_TCM_numberOf in_TCM st_TCM_numberOf nm_TCM_numberOf rfl ⟨rfl, rfl, Nat.le_of_ble_eq_true rfl, Nat.le_of_ble_eq_true rfl, Nat.zero_le _, Nat.zero_le _⟩ rfl (Nat.le_of_ble_eq_true rfl) d_Heap_settingMeta_29 ?_
              obtain ⟨ho, hon, -⟩ := isA_on htb ha
              rw [hon]
              refine g_istore h d_Heap_settingMeta_32 rfl (by rw [hN]; decide) ?_
              refine g_aload_n h d_Heap_settingMeta_34 rfl rfl ?_
              refine gf_Heap_cells h f_Heap_17 d_Heap_settingMeta_35 ?_
              refine g_iload h d_Heap_settingMeta_38 rfl ?_
              refine ga_cells h rfl ho d_Heap_settingMeta_40 ?_
              refine gf_Cell_table h f_Heap_76 (by first | assumption | omega | (show _ < 16; omega)) d_Heap_settingMeta_41 ?_
              refine g_lload_n h d_Heap_settingMeta_44 rfl rfl ?_
              refine g_ldc2 (v := -1000000000000) h d_Heap_settingMeta_45 k_Heap_40 ?_
              refine g_lc_ne (tgt := 56) h d_Heap_settingMeta_48 d_Heap_settingMeta_49 (by decide) (fun c_49 => ?_) (fun c_49 => ?_)
              · refine g_lload_n h d_Heap_settingMeta_56 rfl rfl ?_
                refine g_dNi h tb_good (c_TCM_numberOf) (host := "TriColourMachine") nl_Heap_55 cd_TCM_numberOf in_TCM st_TCM_numberOf nm_TCM_numberOf rfl ⟨rfl, rfl, Nat.le_of_ble_eq_true rfl, Nat.le_of_ble_eq_true rfl, Nat.zero_le _, Nat.zero_le _⟩ rfl (Nat.le_of_ble_eq_true rfl) d_Heap_settingMeta_57 ?_
                refine pf_Tab_meta h f_Heap_121 (by first | assumption | omega | (show _ < 16; omega)) d_Heap_settingMeta_60 ?_
                refine g_aload_n h d_Heap_settingMeta_63 rfl rfl ?_
                refine g_iload h d_Heap_settingMeta_64 rfl ?_
                refine g_dVv h tb_good (c_Heap_touch ho) (ix_lt 1 (by decide) _ (by decide)) (wc_at (by decide) (by decide)) rfl v_Heap_118 nm_Heap_touch rfl ⟨rfl, rfl, Nat.le_of_ble_eq_true rfl, Nat.le_of_ble_eq_true rfl, Nat.zero_le _, Nat.zero_le _⟩ rfl (Nat.le_of_ble_eq_true rfl) d_Heap_settingMeta_66 ?_
                refine g_iconst (v := 0) h d_Heap_settingMeta_69 (by decide) ?_
                exact g_iret h r d_Heap_settingMeta_70 (⟨by first | (simp [csetMeta, ha]; done) | (simp [csetMeta, ha, c_14]; done) | (simp [csetMeta, ha, c_14, hb]; done), by first | (simp [csetMeta, ha]; done) | (simp [csetMeta, ha, c_14]; done) | (simp [csetMeta, ha, c_14, hb]; done) | (simp [csetMeta, ha, c_14, hb, (isA_on hm hb).2.1]; done)⟩)
              · exact absurd c_49 c_14
            · exact absurd c_23 (by decide)
          · rw [if_neg hb]
            refine g_if_ne (tgt := 28) h d_Heap_settingMeta_23 (by decide) (fun c_23 => ?_) (fun c_23 => ?_)
            · exact absurd rfl c_23
            · refine g_iconst (v := 1) h d_Heap_settingMeta_26 (by decide) ?_
              exact g_iret h r d_Heap_settingMeta_27 (⟨by first | (simp [csetMeta, ha]; done) | (simp [csetMeta, ha, c_14]; done) | (simp [csetMeta, ha, c_14, hb]; done), by first | (simp [csetMeta, ha]; done) | (simp [csetMeta, ha, c_14]; done) | (simp [csetMeta, ha, c_14, hb]; done) | (simp [csetMeta, ha, c_14, hb, (isA_on hm hb).2.1]; done)⟩)
  · rw [if_neg ha]
    refine g_if_eq (tgt := 26) h d_Heap_settingMeta_6 (by decide) (fun c_6 => ?_) (fun c_6 => ?_)
    · refine g_iconst (v := 1) h d_Heap_settingMeta_26 (by decide) ?_
      exact g_iret h r d_Heap_settingMeta_27 (⟨by first | (simp [csetMeta, ha]; done) | (simp [csetMeta, ha, c_14]; done) | (simp [csetMeta, ha, c_14, hb]; done), by first | (simp [csetMeta, ha]; done) | (simp [csetMeta, ha, c_14]; done) | (simp [csetMeta, ha, c_14, hb]; done) | (simp [csetMeta, ha, c_14, hb, (isA_on hm hb).2.1]; done)⟩)
    · exact absurd rfl c_6
theorem ac_l : Cond.methodLink "TriColourMachine$Table" 25 arraycopyName ∈ TB := tb_mem 531 (by decide +kernel) rfl
theorem ac_n : Cond.native arraycopyName ∈ TB := tb_mem 533 (by decide +kernel) rfl
theorem ac_s : Cond.static arraycopyName ∈ TB := tb_mem 532 (by decide +kernel) rfl
theorem ac_i : Cond.initialized "java/lang/System" ∈ TB := tb_mem 58 (by decide +kernel) rfl
set_option maxHeartbeats 4000000 in
set_option maxRecDepth 100000 in
theorem c_Tab_takeAway {l : Launch} {D : va_G} {t : Nat → ClassId} {ad : Nat → Nat} {C : CS} {n P j : Nat} (hn : n < 16) (hp : C.1 2 n = nI P) (hP : P ≤ 6) (hj : j < P) : Cd l D t ad y_Tab_takeAway b_Tab_takeAway 3 none { frames := 1, cells := 0, slots := 0, locals := 60 } [.ref (ad (ix 5 n)), .int (nI j)] (C) (none) (ttake C n j) := by
  refine ct_of (by decide) (Nat.le_of_ble_eq_true rfl) ?_
  intro Γ _ _ hN h r
  have hc := cPairs_eq hp hP
  have hb : nI P - nI j - 1 = nI (P - j - 1) := by rw [pk_sub (by omega), show P - j = (P - j - 1) + 1 by omega, nI_pred]; rfl
  refine g_at (L' := [some (.ref (ad (ix 5 n))), some (.int (nI j)), none]) rfl rfl rfl ?_
  refine g_aload_n h d_Tab_takeAway_0 rfl rfl ?_
  refine gf_Tab_pairs h f_Tab_18 (by first | assumption | omega | (show _ < 16; omega)) d_Tab_takeAway_1 ?_
  refine g_iload_n h d_Tab_takeAway_4 rfl rfl ?_
  refine g_isub h d_Tab_takeAway_5 ?_
  refine g_iconst (v := 1) h d_Tab_takeAway_6 (by decide) ?_
  refine g_isub h d_Tab_takeAway_7 ?_
  rw [hp, hb]
  refine g_istore_n h d_Tab_takeAway_8 rfl rfl (by rw [hN]; decide) ?_
  refine g_aload_n h d_Tab_takeAway_9 rfl rfl ?_
  refine gf_Tab_keys h f_Tab_9 (by first | assumption | omega | (show _ < 16; omega)) d_Tab_takeAway_10 ?_
  refine g_iload_n h d_Tab_takeAway_13 rfl rfl ?_
  refine g_iconst (v := 1) h d_Tab_takeAway_14 (by decide) ?_
  refine g_iadd h d_Tab_takeAway_15 ?_
  refine g_aload_n h d_Tab_takeAway_16 rfl rfl ?_
  refine gf_Tab_keys h f_Tab_9 (by first | assumption | omega | (show _ < 16; omega)) d_Tab_takeAway_17 ?_
  refine g_iload_n h d_Tab_takeAway_20 rfl rfl ?_
  refine g_iload_n h d_Tab_takeAway_21 rfl rfl ?_
  refine pc_row h (cd := 6) (f := 1) rfl (by decide) ac_l ac_n ac_s ac_i (sp := j + 1) (dp := j) (m := P - j - 1) hn (fun _ => rfl) (by omega) (by omega) (nI_1 j) rfl rfl (Nat.le_of_ble_eq_true rfl) (Nat.le_of_ble_eq_true rfl) d_Tab_takeAway_22 ?_
  refine g_aload_n h d_Tab_takeAway_25 rfl rfl ?_
  refine gf_Tab_values h f_Tab_15 (by first | assumption | omega | (show _ < 16; omega)) d_Tab_takeAway_26 ?_
  refine g_iload_n h d_Tab_takeAway_29 rfl rfl ?_
  refine g_iconst (v := 1) h d_Tab_takeAway_30 (by decide) ?_
  refine g_iadd h d_Tab_takeAway_31 ?_
  refine g_aload_n h d_Tab_takeAway_32 rfl rfl ?_
  refine gf_Tab_values h f_Tab_15 (by first | assumption | omega | (show _ < 16; omega)) d_Tab_takeAway_33 ?_
  refine g_iload_n h d_Tab_takeAway_36 rfl rfl ?_
  refine g_iload_n h d_Tab_takeAway_37 rfl rfl ?_
  refine pc_row h (cd := 7) (f := 2) rfl (by decide) ac_l ac_n ac_s ac_i (sp := j + 1) (dp := j) (m := P - j - 1) hn (fun _ => rfl) (by omega) (by omega) (nI_1 j) rfl rfl (Nat.le_of_ble_eq_true rfl) (Nat.le_of_ble_eq_true rfl) d_Tab_takeAway_38 ?_
  refine g_aload_n h d_Tab_takeAway_41 rfl rfl ?_
  refine g_dup h d_Tab_takeAway_42 rfl ?_
  refine gf_Tab_pairs h f_Tab_18 (by first | assumption | omega | (show _ < 16; omega)) d_Tab_takeAway_43 ?_
  simp only [sI_1, sI_2, sJ_1, sJ_2, sJ_3, sR_1, sR_2, sR_3, Nat.reduceEqDiff, Nat.zero_ne_one, Nat.one_ne_zero, Nat.succ_ne_zero, reduceCtorEq, false_and, if_false, true_and, and_self, if_true, and_true, and_false, reduceIte]
  refine g_iconst (v := 1) h d_Tab_takeAway_46 (by decide) ?_
  refine g_isub h d_Tab_takeAway_47 ?_
  refine pf_Tab_pairs h f_Tab_18 (by first | assumption | omega | (show _ < 16; omega)) d_Tab_takeAway_48 ?_
  exact g_vret h r d_Tab_takeAway_51 (⟨rfl, by unfold ttake; rw [hc]; rfl⟩)
set_option maxHeartbeats 4000000 in
set_option maxRecDepth 100000 in
theorem c_Heap_setting {l : Launch} {D : va_G} {t : Nat → ClassId} {ad : Nat → Nat} {C : CS} {tb k v : Int64} (hok : okC C) (htb : okV tb) : Cd l D t ad y_Heap_setting b_Heap_setting 10 (some .int) { frames := 4, cells := 0, slots := 0, locals := 98 } [.ref (ad (ix 1 0)), .long tb, .long k, .long v] (C) (some (.int (csetting C tb k v).1)) ((csetting C tb k v).2) := by
  refine ct_of (by decide) (Nat.le_of_ble_eq_true rfl) ?_
  intro Γ _ _ hN h r
  refine g_at (L' := [some (.ref (ad (ix 1 0))), some (.long tb), none, some (.long k), none, some (.long v), none, none, none, none]) rfl rfl rfl ?_
  refine g_aload_n h d_Heap_setting_0 rfl rfl ?_
  refine g_iconst (v := 1) h d_Heap_setting_1 (by decide) ?_
  refine g_lload_n h d_Heap_setting_2 rfl rfl ?_
  refine g_dVi h tb_good (c_Heap_isA htb) (ix_lt 1 (by decide) _ (by decide)) (wc_at (by decide) (by decide)) rfl v_Heap_94 nm_Heap_isA rfl ⟨rfl, rfl, Nat.le_of_ble_eq_true rfl, Nat.le_of_ble_eq_true rfl, Nat.zero_le _, Nat.zero_le _⟩ rfl (Nat.le_of_ble_eq_true rfl) d_Heap_setting_3 ?_
  by_cases ha : isA C 1 tb = true
  · rw [if_pos ha]
    obtain ⟨ho, hon, -⟩ := isA_on htb ha
    refine g_if_eq (tgt := 17) h d_Heap_setting_6 (by decide) (fun c_6 => ?_) (fun c_6 => ?_)
    · exact absurd c_6 (by decide)
    · refine g_lload_n h d_Heap_setting_9 rfl rfl ?_
      refine g_ldc2 (v := -1000000000000) h d_Heap_setting_10 k_Heap_40 ?_
      refine g_lc_ne (tgt := 19) h d_Heap_setting_13 d_Heap_setting_14 (by decide) (fun c_14 => ?_) (fun c_14 => ?_)
      · refine g_aload_n h d_Heap_setting_19 rfl rfl ?_
        refine g_lload_n h d_Heap_setting_20 rfl rfl ?_
        refine g_dNi h tb_good (c_TCM_numberOf) (host := "TriColourMachine") nl_Heap_55 cd_TCM_numberOf in_TCM st_TCM_numberOf nm_TCM_numberOf rfl ⟨rfl, rfl, Nat.le_of_ble_eq_true rfl, Nat.le_of_ble_eq_true rfl, Nat.zero_le _, Nat.zero_le _⟩ rfl (Nat.le_of_ble_eq_true rfl) d_Heap_setting_21 ?_
        rw [hon]
        refine g_lload_n h d_Heap_setting_24 rfl rfl ?_
        refine g_lconst (v := 1) h d_Heap_setting_25 (by decide) ?_
        refine g_dVi h tb_good (c_Heap_lastTable (n0 := on tb) hok ho rfl) (ix_lt 1 (by decide) _ (by decide)) (wc_at (by decide) (by decide)) rfl v_Heap_98 nm_Heap_lastTable rfl ⟨rfl, rfl, Nat.le_of_ble_eq_true rfl, Nat.le_of_ble_eq_true rfl, Nat.zero_le _, Nat.zero_le _⟩ rfl (Nat.le_of_ble_eq_true rfl) d_Heap_setting_26 ?_
        refine g_istore h d_Heap_setting_29 rfl (by rw [hN]; decide) ?_
        rcases hl : tlast C k 1 5 (on tb) with _ | q <;> simp only [enc]
        · refine g_iload h d_Heap_setting_31 rfl ?_
          refine g_if_ge (tgt := 38) h d_Heap_setting_33 (by decide) (fun c_33 => ?_) (fun c_33 => ?_)
          · exact absurd c_33 (by decide)
          · refine g_iconst (v := 2) h d_Heap_setting_36 (by decide) ?_
            exact g_iret h r d_Heap_setting_37 (⟨by first | (simp [csetting, ha]; done) | (simp [csetting, ha, c_14]; done) | (simp [csetting, ha, c_14, hl]; done) | (simp [csetting, ha, c_14, hl, hf, c_69]; done) | (simp [csetting, ha, c_14, hl, hf, c_69, hp, c_86]; done) | (simp [csetting, ha, c_14, hl, hf, c_113]; done), by first | (simp [csetting, ha]; done) | (simp [csetting, ha, c_14]; done) | (simp [csetting, ha, c_14, hl]; done) | (simp [csetting, ha, c_14, hl, hf, c_69]; done) | (simp [csetting, ha, c_14, hl, hf, c_69, hp, c_86]; done) | (simp [csetting, ha, c_14, hl, hf, c_113]; done)⟩)
        · have hq := tlast_lt hok 5 _ _ ho hl
          obtain ⟨⟨P, hP, hp⟩, -⟩ := hok.1 q hq
          refine g_iload h d_Heap_setting_31 rfl ?_
          refine g_if_ge (tgt := 38) h d_Heap_setting_33 (by decide) (fun c_33 => ?_) (fun c_33 => ?_)
          · refine g_aload_n h d_Heap_setting_38 rfl rfl ?_
            refine gf_Heap_cells h f_Heap_17 d_Heap_setting_39 ?_
            refine g_iload h d_Heap_setting_42 rfl ?_
            refine ga_cells h rfl hq d_Heap_setting_44 ?_
            refine gf_Cell_table h f_Heap_76 (by first | assumption | omega | (show _ < 16; omega)) d_Heap_setting_45 ?_
            refine g_astore h d_Heap_setting_48 rfl (by rw [hN]; decide) ?_
            refine g_aload h d_Heap_setting_50 rfl ?_
            refine g_lload_n h d_Heap_setting_52 rfl rfl ?_
            refine g_dVi h tb_good (c_Tab_find hq hp hP) (ix_lt 5 (by decide) _ (by first | assumption | omega | (show _ < 16; omega))) (wc_at (by decide) (by first | assumption | omega | (show _ < 16; omega))) rfl v_Heap_102 nm_Tab_find rfl ⟨rfl, rfl, Nat.le_of_ble_eq_true rfl, Nat.le_of_ble_eq_true rfl, Nat.zero_le _, Nat.zero_le _⟩ rfl (Nat.le_of_ble_eq_true rfl) d_Heap_setting_53 ?_
            refine g_istore h d_Heap_setting_56 rfl (by rw [hN]; decide) ?_
            rcases hf : tfind C q k with _ | w <;> simp only [enc]
            · refine g_iload h d_Heap_setting_58 rfl ?_
              refine g_if_ge (tgt := 74) h d_Heap_setting_60 (by decide) (fun c_60 => ?_) (fun c_60 => ?_)
              · exact absurd c_60 (by decide)
              · refine g_lload h d_Heap_setting_63 rfl ?_
                refine g_ldc2 (v := -1000000000000) h d_Heap_setting_65 k_Heap_40 ?_
                refine g_lc_ne (tgt := 74) h d_Heap_setting_68 d_Heap_setting_69 (by decide) (fun c_69 => ?_) (fun c_69 => ?_)
                · refine g_iload h d_Heap_setting_74 rfl ?_
                  refine g_if_ge (tgt := 91) h d_Heap_setting_76 (by decide) (fun c_76 => ?_) (fun c_76 => ?_)
                  · exact absurd c_76 (by decide)
                  · refine g_aload h d_Heap_setting_79 rfl ?_
                    refine gf_Tab_pairs h f_Heap_108 (by first | assumption | omega | (show _ < 16; omega)) d_Heap_setting_81 ?_
                    refine g_bipush (v := 6) h d_Heap_setting_84 (by decide) ?_
                    rw [hp]
                    refine g_icmp_ne (tgt := 91) h d_Heap_setting_86 (by decide) (fun c_86 => ?_) (fun c_86 => ?_)
                    · refine g_iload h d_Heap_setting_91 rfl ?_
                      refine g_if_ge (tgt := 107) h d_Heap_setting_93 (by decide) (fun c_93 => ?_) (fun c_93 => ?_)
                      · exact absurd c_93 (by decide)
                      · have hP6 := lt6 hP c_86
                        refine g_aload h d_Heap_setting_96 rfl ?_
                        refine g_lload_n h d_Heap_setting_98 rfl rfl ?_
                        refine g_lload h d_Heap_setting_99 rfl ?_
                        refine g_dVv h tb_good (c_Tab_append hq hp hP6) (ix_lt 5 (by decide) _ (by first | assumption | omega | (show _ < 16; omega))) (wc_at (by decide) (by first | assumption | omega | (show _ < 16; omega))) rfl v_Heap_111 nm_Tab_append rfl ⟨rfl, rfl, Nat.le_of_ble_eq_true rfl, Nat.le_of_ble_eq_true rfl, Nat.zero_le _, Nat.zero_le _⟩ rfl (Nat.le_of_ble_eq_true rfl) d_Heap_setting_101 ?_
                        refine g_goto (tgt := 136) h d_Heap_setting_104 (by decide) ?_
                        refine g_aload_n h d_Heap_setting_136 rfl rfl ?_
                        refine g_iload h d_Heap_setting_137 rfl ?_
                        refine g_dVv h tb_good (c_Heap_touch hq) (ix_lt 1 (by decide) _ (by decide)) (wc_at (by decide) (by decide)) rfl v_Heap_118 nm_Heap_touch rfl ⟨rfl, rfl, Nat.le_of_ble_eq_true rfl, Nat.le_of_ble_eq_true rfl, Nat.zero_le _, Nat.zero_le _⟩ rfl (Nat.le_of_ble_eq_true rfl) d_Heap_setting_139 ?_
                        refine g_iconst (v := 0) h d_Heap_setting_142 (by decide) ?_
                        exact g_iret h r d_Heap_setting_143 (⟨by first | (simp [csetting, ha]; done) | (simp [csetting, ha, c_14]; done) | (simp [csetting, ha, c_14, hl]; done) | (simp [csetting, ha, c_14, hl, hf, c_69]; done) | (simp [csetting, ha, c_14, hl, hf, c_69, hp, c_86]; done) | (simp [csetting, ha, c_14, hl, hf, c_113]; done), by first | (simp [csetting, ha]; done) | (simp [csetting, ha, c_14]; done) | (simp [csetting, ha, c_14, hl]; done) | (simp [csetting, ha, c_14, hl, hf, c_69]; done) | (simp [csetting, ha, c_14, hl, hf, c_69, hp, c_86]; done) | (simp [csetting, ha, c_14, hl, hf, c_113]; done)⟩)
                    · refine g_iconst (v := 3) h d_Heap_setting_89 (by decide) ?_
                      exact g_iret h r d_Heap_setting_90 (⟨by first | (simp [csetting, ha]; done) | (simp [csetting, ha, c_14]; done) | (simp [csetting, ha, c_14, hl]; done) | (simp [csetting, ha, c_14, hl, hf, c_69]; done) | (simp [csetting, ha, c_14, hl, hf, c_69, hp, c_86]; done) | (simp [csetting, ha, c_14, hl, hf, c_113]; done), by first | (simp [csetting, ha]; done) | (simp [csetting, ha, c_14]; done) | (simp [csetting, ha, c_14, hl]; done) | (simp [csetting, ha, c_14, hl, hf, c_69]; done) | (simp [csetting, ha, c_14, hl, hf, c_69, hp, c_86]; done) | (simp [csetting, ha, c_14, hl, hf, c_113]; done)⟩)
                · refine g_iconst (v := 0) h d_Heap_setting_72 (by decide) ?_
                  exact g_iret h r d_Heap_setting_73 (⟨by first | (simp [csetting, ha]; done) | (simp [csetting, ha, c_14]; done) | (simp [csetting, ha, c_14, hl]; done) | (simp [csetting, ha, c_14, hl, hf, c_69]; done) | (simp [csetting, ha, c_14, hl, hf, c_69, hp, c_86]; done) | (simp [csetting, ha, c_14, hl, hf, c_113]; done), by first | (simp [csetting, ha]; done) | (simp [csetting, ha, c_14]; done) | (simp [csetting, ha, c_14, hl]; done) | (simp [csetting, ha, c_14, hl, hf, c_69]; done) | (simp [csetting, ha, c_14, hl, hf, c_69, hp, c_86]; done) | (simp [csetting, ha, c_14, hl, hf, c_113]; done)⟩)
            · have hw := tfind_lt hp hP hf
              refine g_iload h d_Heap_setting_58 rfl ?_
              refine g_if_ge (tgt := 74) h d_Heap_setting_60 (by decide) (fun c_60 => ?_) (fun c_60 => ?_)
              · refine g_iload h d_Heap_setting_74 rfl ?_
                refine g_if_ge (tgt := 91) h d_Heap_setting_76 (by decide) (fun c_76 => ?_) (fun c_76 => ?_)
                · refine g_iload h d_Heap_setting_91 rfl ?_
                  refine g_if_ge (tgt := 107) h d_Heap_setting_93 (by decide) (fun c_93 => ?_) (fun c_93 => ?_)
                  · refine g_lload h d_Heap_setting_107 rfl ?_
                    refine g_ldc2 (v := -1000000000000) h d_Heap_setting_109 k_Heap_40 ?_
                    refine g_lc_ne (tgt := 126) h d_Heap_setting_112 d_Heap_setting_113 (by decide) (fun c_113 => ?_) (fun c_113 => ?_)
                    · refine g_aload h d_Heap_setting_126 rfl ?_
                      refine gf_Tab_values h f_Heap_105 (by first | assumption | omega | (show _ < 16; omega)) d_Heap_setting_128 ?_
                      refine g_iload h d_Heap_setting_131 rfl ?_
                      refine g_lload h d_Heap_setting_133 rfl ?_
                      refine pa_vals h hq rfl (by omega) d_Heap_setting_135 ?_
                      refine g_aload_n h d_Heap_setting_136 rfl rfl ?_
                      refine g_iload h d_Heap_setting_137 rfl ?_
                      refine g_dVv h tb_good (c_Heap_touch hq) (ix_lt 1 (by decide) _ (by decide)) (wc_at (by decide) (by decide)) rfl v_Heap_118 nm_Heap_touch rfl ⟨rfl, rfl, Nat.le_of_ble_eq_true rfl, Nat.le_of_ble_eq_true rfl, Nat.zero_le _, Nat.zero_le _⟩ rfl (Nat.le_of_ble_eq_true rfl) d_Heap_setting_139 ?_
                      refine g_iconst (v := 0) h d_Heap_setting_142 (by decide) ?_
                      exact g_iret h r d_Heap_setting_143 (⟨by first | (simp [csetting, ha]; done) | (simp [csetting, ha, c_14]; done) | (simp [csetting, ha, c_14, hl]; done) | (simp [csetting, ha, c_14, hl, hf, c_69]; done) | (simp [csetting, ha, c_14, hl, hf, c_69, hp, c_86]; done) | (simp [csetting, ha, c_14, hl, hf, c_113]; done), by first | (simp [csetting, ha]; done) | (simp [csetting, ha, c_14]; done) | (simp [csetting, ha, c_14, hl]; done) | (simp [csetting, ha, c_14, hl, hf, c_69]; done) | (simp [csetting, ha, c_14, hl, hf, c_69, hp, c_86]; done) | (simp [csetting, ha, c_14, hl, hf, c_113]; done)⟩)
                    · refine g_aload h d_Heap_setting_116 rfl ?_
                      refine g_iload h d_Heap_setting_118 rfl ?_
                      refine g_dVv h tb_good (c_Tab_takeAway hq hp hP hw) (ix_lt 5 (by decide) _ (by first | assumption | omega | (show _ < 16; omega))) (wc_at (by decide) (by first | assumption | omega | (show _ < 16; omega))) rfl v_Heap_115 nm_Tab_takeAway rfl ⟨rfl, rfl, Nat.le_of_ble_eq_true rfl, Nat.le_of_ble_eq_true rfl, Nat.zero_le _, Nat.zero_le _⟩ rfl (Nat.le_of_ble_eq_true rfl) d_Heap_setting_120 ?_
                      refine g_goto (tgt := 136) h d_Heap_setting_123 (by decide) ?_
                      refine g_aload_n h d_Heap_setting_136 rfl rfl ?_
                      refine g_iload h d_Heap_setting_137 rfl ?_
                      refine g_dVv h tb_good (c_Heap_touch hq) (ix_lt 1 (by decide) _ (by decide)) (wc_at (by decide) (by decide)) rfl v_Heap_118 nm_Heap_touch rfl ⟨rfl, rfl, Nat.le_of_ble_eq_true rfl, Nat.le_of_ble_eq_true rfl, Nat.zero_le _, Nat.zero_le _⟩ rfl (Nat.le_of_ble_eq_true rfl) d_Heap_setting_139 ?_
                      refine g_iconst (v := 0) h d_Heap_setting_142 (by decide) ?_
                      exact g_iret h r d_Heap_setting_143 (⟨by first | (simp [csetting, ha]; done) | (simp [csetting, ha, c_14]; done) | (simp [csetting, ha, c_14, hl]; done) | (simp [csetting, ha, c_14, hl, hf, c_69]; done) | (simp [csetting, ha, c_14, hl, hf, c_69, hp, c_86]; done) | (simp [csetting, ha, c_14, hl, hf, c_113]; done), by first | (simp [csetting, ha]; done) | (simp [csetting, ha, c_14]; done) | (simp [csetting, ha, c_14, hl]; done) | (simp [csetting, ha, c_14, hl, hf, c_69]; done) | (simp [csetting, ha, c_14, hl, hf, c_69, hp, c_86]; done) | (simp [csetting, ha, c_14, hl, hf, c_113]; done)⟩)
                  · exact absurd (nI_pos' (by omega)) c_93
                · exact absurd (nI_pos' (by omega)) c_76
              · exact absurd (nI_pos' (by omega)) c_60
          · exact absurd (nI_pos' (by omega)) c_33
      · refine g_iconst (v := 1) h d_Heap_setting_17 (by decide) ?_
        exact g_iret h r d_Heap_setting_18 (⟨by first | (simp [csetting, ha]; done) | (simp [csetting, ha, c_14]; done) | (simp [csetting, ha, c_14, hl]; done) | (simp [csetting, ha, c_14, hl, hf, c_69]; done) | (simp [csetting, ha, c_14, hl, hf, c_69, hp, c_86]; done) | (simp [csetting, ha, c_14, hl, hf, c_113]; done), by first | (simp [csetting, ha]; done) | (simp [csetting, ha, c_14]; done) | (simp [csetting, ha, c_14, hl]; done) | (simp [csetting, ha, c_14, hl, hf, c_69]; done) | (simp [csetting, ha, c_14, hl, hf, c_69, hp, c_86]; done) | (simp [csetting, ha, c_14, hl, hf, c_113]; done)⟩)
  · rw [if_neg ha]
    refine g_if_eq (tgt := 17) h d_Heap_setting_6 (by decide) (fun c_6 => ?_) (fun c_6 => ?_)
    · refine g_iconst (v := 1) h d_Heap_setting_17 (by decide) ?_
      exact g_iret h r d_Heap_setting_18 (⟨by first | (simp [csetting, ha]; done) | (simp [csetting, ha, c_14]; done) | (simp [csetting, ha, c_14, hl]; done) | (simp [csetting, ha, c_14, hl, hf, c_69]; done) | (simp [csetting, ha, c_14, hl, hf, c_69, hp, c_86]; done) | (simp [csetting, ha, c_14, hl, hf, c_113]; done), by first | (simp [csetting, ha]; done) | (simp [csetting, ha, c_14]; done) | (simp [csetting, ha, c_14, hl]; done) | (simp [csetting, ha, c_14, hl, hf, c_69]; done) | (simp [csetting, ha, c_14, hl, hf, c_69, hp, c_86]; done) | (simp [csetting, ha, c_14, hl, hf, c_113]; done)⟩)
    · exact absurd rfl c_6
end

-- part 16.proc
section
set_option maxHeartbeats 4000000 in
set_option maxRecDepth 100000 in
theorem c_Heap_keyAfter {l : Launch} {D : va_G} {t : Nat → ClassId} {ad : Nat → Nat} {C : CS} {tb k : Int64} (hok : okC C) (htb : okV tb) : Cd l D t ad y_Heap_keyAfter b_Heap_keyAfter 7 (some .int) { frames := 2, cells := 0, slots := 0, locals := 44 } [.ref (ad (ix 1 0)), .long tb, .long k] (C) (some (.int (ckeyAfter C tb k).1)) ((ckeyAfter C tb k).2) := by
  refine ct_of (by decide) (Nat.le_of_ble_eq_true rfl) ?_
  intro Γ _ _ hN h r
  refine g_at (L' := [some (.ref (ad (ix 1 0))), some (.long tb), none, some (.long k), none, none, none]) rfl rfl rfl ?_
  refine g_aload_n h d_Heap_keyAfter_0 rfl rfl ?_
  refine g_iconst (v := 1) h d_Heap_keyAfter_1 (by decide) ?_
  refine g_lload_n h d_Heap_keyAfter_2 rfl rfl ?_
  refine g_dVi h tb_good (c_Heap_isA htb) (ix_lt 1 (by decide) _ (by decide)) (wc_at (by decide) (by decide)) rfl v_Heap_94 nm_Heap_isA rfl ⟨rfl, rfl, Nat.le_of_ble_eq_true rfl, Nat.le_of_ble_eq_true rfl, Nat.zero_le _, Nat.zero_le _⟩ rfl (Nat.le_of_ble_eq_true rfl) d_Heap_keyAfter_3 ?_
  by_cases ha : isA C 1 tb = true
  · rw [if_pos ha]
    obtain ⟨ho, hon, -⟩ := isA_on htb ha
    obtain ⟨⟨P, hP, hp⟩, -⟩ := hok.1 _ ho
    have hc := cPairs_eq hp hP
    refine g_if_ne (tgt := 11) h d_Heap_keyAfter_6 (by decide) (fun c_6 => ?_) (fun c_6 => ?_)
    · refine g_aload_n h d_Heap_keyAfter_11 rfl rfl ?_
      refine gf_Heap_cells h f_Heap_17 d_Heap_keyAfter_12 ?_
      refine g_lload_n h d_Heap_keyAfter_15 rfl rfl ?_
      refine g_dNi h tb_good (c_TCM_numberOf) (host := "TriColourMachine") nl_Heap_55 cd_TCM_numberOf in_TCM st_TCM_numberOf nm_TCM_numberOf rfl ⟨rfl, rfl, Nat.le_of_ble_eq_true rfl, Nat.le_of_ble_eq_true rfl, Nat.zero_le _, Nat.zero_le _⟩ rfl (Nat.le_of_ble_eq_true rfl) d_Heap_keyAfter_16 ?_
      refine ga_cells h hon ho d_Heap_keyAfter_19 ?_
      refine gf_Cell_table h f_Heap_76 (by first | assumption | omega | (show _ < 16; omega)) d_Heap_keyAfter_20 ?_
      refine g_astore h d_Heap_keyAfter_23 rfl (by rw [hN]; decide) ?_
      refine g_lload_n h d_Heap_keyAfter_25 rfl rfl ?_
      refine g_ldc2 (v := -1000000000000) h d_Heap_keyAfter_26 k_Heap_40 ?_
      refine g_lc_ne (tgt := 37) h d_Heap_keyAfter_29 d_Heap_keyAfter_30 (by decide) (fun c_30 => ?_) (fun c_30 => ?_)
      · skip
        · refine g_aload h d_Heap_keyAfter_37 rfl ?_
          refine g_lload_n h d_Heap_keyAfter_39 rfl rfl ?_
          refine g_dVi h tb_good (c_Tab_find ho hp hP) (ix_lt 5 (by decide) _ (by first | assumption | omega | (show _ < 16; omega))) (wc_at (by decide) (by first | assumption | omega | (show _ < 16; omega))) rfl v_Heap_102 nm_Tab_find rfl ⟨rfl, rfl, Nat.le_of_ble_eq_true rfl, Nat.le_of_ble_eq_true rfl, Nat.zero_le _, Nat.zero_le _⟩ rfl (Nat.le_of_ble_eq_true rfl) d_Heap_keyAfter_40 ?_
          refine g_istore h d_Heap_keyAfter_43 rfl (by rw [hN]; decide) ?_
          rcases hf : tfind C (on tb) k with _ | w <;> simp only [enc]
          · refine g_iload h d_Heap_keyAfter_45 rfl ?_
            refine g_if_ge (tgt := 60) h d_Heap_keyAfter_47 (by decide) (fun c_47 => ?_) (fun c_47 => ?_)
            · exact absurd c_47 (by decide)
            · refine g_lload_n h d_Heap_keyAfter_50 rfl rfl ?_
              refine g_ldc2 (v := -1000000000000) h d_Heap_keyAfter_51 k_Heap_40 ?_
              refine g_lc_eq (tgt := 60) h d_Heap_keyAfter_54 d_Heap_keyAfter_55 (by decide) (fun c_55 => ?_) (fun c_55 => ?_)
              · exact absurd c_55 c_30
              · refine g_iconst (v := 1) h d_Heap_keyAfter_58 (by decide) ?_
                exact g_iret h r d_Heap_keyAfter_59 (⟨by simp [ckeyAfter, ha, c_30, hf], by simp [ckeyAfter, ha, c_30, hf]⟩)
          · have hw := tfind_lt hp hP hf
            refine g_iload h d_Heap_keyAfter_45 rfl ?_
            refine g_if_ge (tgt := 60) h d_Heap_keyAfter_47 (by decide) (fun c_47 => ?_) (fun c_47 => ?_)
            · refine g_aload_n h d_Heap_keyAfter_60 rfl rfl ?_
              refine g_iload h d_Heap_keyAfter_61 rfl ?_
              refine g_iconst (v := 1) h d_Heap_keyAfter_63 (by decide) ?_
              refine g_iadd h d_Heap_keyAfter_64 ?_
              refine g_aload h d_Heap_keyAfter_65 rfl ?_
              refine gf_Tab_pairs h f_Heap_108 (by first | assumption | omega | (show _ < 16; omega)) d_Heap_keyAfter_67 ?_
              rw [hp, nI_1]
              refine g_icmp_ge (tgt := 86) h d_Heap_keyAfter_70 (by decide) (fun c_70 => ?_) (fun c_70 => ?_)
              · have hlt : ¬ w + 1 < P := fun z => nI_ge z (by omega) c_70
                refine g_ldc2 (v := -1000000000000) h d_Heap_keyAfter_86 k_Heap_40 ?_
                refine pf_Heap_found h f_Heap_42 d_Heap_keyAfter_89 ?_
                refine g_iconst (v := 0) h d_Heap_keyAfter_92 (by decide) ?_
                exact g_iret h r d_Heap_keyAfter_93 (⟨by simp [ckeyAfter, ha, c_30, hf], by simp [ckeyAfter, ha, c_30, hf, hc, hlt]⟩)
              · have hlt : w + 1 < P := by
                  rcases Nat.lt_or_ge (w + 1) P with z | z
                  · exact z
                  · exact absurd (nI_le z (by omega)) c_70
                refine g_aload h d_Heap_keyAfter_73 rfl ?_
                refine gf_Tab_keys h f_Heap_128 (by first | assumption | omega | (show _ < 16; omega)) d_Heap_keyAfter_75 ?_
                refine g_iload h d_Heap_keyAfter_78 rfl ?_
                refine g_iconst (v := 1) h d_Heap_keyAfter_80 (by decide) ?_
                refine g_iadd h d_Heap_keyAfter_81 ?_
                refine ga_keys h ho (nI_1 w) (by omega) d_Heap_keyAfter_82 ?_
                refine g_goto (tgt := 89) h d_Heap_keyAfter_83 (by decide) ?_
                refine pf_Heap_found h f_Heap_42 d_Heap_keyAfter_89 ?_
                refine g_iconst (v := 0) h d_Heap_keyAfter_92 (by decide) ?_
                exact g_iret h r d_Heap_keyAfter_93 (⟨by simp [ckeyAfter, ha, c_30, hf], by simp [ckeyAfter, ha, c_30, hf, hc, hlt]⟩)
            · exact absurd (nI_pos' (by omega)) c_47
      · skip
        · refine g_iconst (v := -1) h d_Heap_keyAfter_33 (by decide) ?_
          refine g_goto (tgt := 43) h d_Heap_keyAfter_34 (by decide) ?_
          refine g_istore h d_Heap_keyAfter_43 rfl (by rw [hN]; decide) ?_
          refine g_iload h d_Heap_keyAfter_45 rfl ?_
          refine g_if_ge (tgt := 60) h d_Heap_keyAfter_47 (by decide) (fun c_47 => ?_) (fun c_47 => ?_)
          · exact absurd c_47 (by decide)
          · refine g_lload_n h d_Heap_keyAfter_50 rfl rfl ?_
            refine g_ldc2 (v := -1000000000000) h d_Heap_keyAfter_51 k_Heap_40 ?_
            refine g_lc_eq (tgt := 60) h d_Heap_keyAfter_54 d_Heap_keyAfter_55 (by decide) (fun c_55 => ?_) (fun c_55 => ?_)
            · refine g_aload_n h d_Heap_keyAfter_60 rfl rfl ?_
              refine g_iload h d_Heap_keyAfter_61 rfl ?_
              refine g_iconst (v := 1) h d_Heap_keyAfter_63 (by decide) ?_
              refine g_iadd h d_Heap_keyAfter_64 ?_
              refine g_aload h d_Heap_keyAfter_65 rfl ?_
              refine gf_Tab_pairs h f_Heap_108 (by first | assumption | omega | (show _ < 16; omega)) d_Heap_keyAfter_67 ?_
              rw [hp, show (-1 : Int32) + 1 = nI 0 from by decide]
              refine g_icmp_ge (tgt := 86) h d_Heap_keyAfter_70 (by decide) (fun c_70 => ?_) (fun c_70 => ?_)
              · have hlt : ¬ 0 < P := fun z => nI_ge z (by omega) c_70
                refine g_ldc2 (v := -1000000000000) h d_Heap_keyAfter_86 k_Heap_40 ?_
                refine pf_Heap_found h f_Heap_42 d_Heap_keyAfter_89 ?_
                refine g_iconst (v := 0) h d_Heap_keyAfter_92 (by decide) ?_
                exact g_iret h r d_Heap_keyAfter_93 (⟨by simp [ckeyAfter, ha, c_30], by simp [ckeyAfter, ha, c_30, hc, hlt]⟩)
              · have hlt : 0 < P := by
                  rcases Nat.lt_or_ge 0 P with z | z
                  · exact z
                  · exact absurd (nI_le z (by omega)) c_70
                refine g_aload h d_Heap_keyAfter_73 rfl ?_
                refine gf_Tab_keys h f_Heap_128 (by first | assumption | omega | (show _ < 16; omega)) d_Heap_keyAfter_75 ?_
                refine g_iload h d_Heap_keyAfter_78 rfl ?_
                refine g_iconst (v := 1) h d_Heap_keyAfter_80 (by decide) ?_
                refine g_iadd h d_Heap_keyAfter_81 ?_
                refine ga_keys h ho (show (-1 : Int32) + 1 = nI 0 by decide) (by omega) d_Heap_keyAfter_82 ?_
                refine g_goto (tgt := 89) h d_Heap_keyAfter_83 (by decide) ?_
                refine pf_Heap_found h f_Heap_42 d_Heap_keyAfter_89 ?_
                refine g_iconst (v := 0) h d_Heap_keyAfter_92 (by decide) ?_
                exact g_iret h r d_Heap_keyAfter_93 (⟨by simp [ckeyAfter, ha, c_30], by simp [ckeyAfter, ha, c_30, hc, hlt]⟩)
            · exact absurd c_30 c_55
    · exact absurd c_6 (by decide)
  · rw [if_neg ha]
    refine g_if_ne (tgt := 11) h d_Heap_keyAfter_6 (by decide) (fun c_6 => ?_) (fun c_6 => ?_)
    · exact absurd rfl c_6
    · refine g_iconst (v := 1) h d_Heap_keyAfter_9 (by decide) ?_
      exact g_iret h r d_Heap_keyAfter_10 (⟨by simp [ckeyAfter, ha], by simp [ckeyAfter, ha]⟩)
set_option maxHeartbeats 4000000 in
set_option maxRecDepth 100000 in
theorem c_Pro_instructionAt {l : Launch} {D : va_G} {t : Nat → ClassId} {ad : Nat → Nat} {C : CS} {f p : Nat} (hf : f < 4) (hp : p ≤ 16) : Cd l D t ad y_Pro_instructionAt b_Pro_instructionAt 3 (some (.object "TriColourMachine$Instruction")) { frames := 0, cells := 0, slots := 0, locals := 0 } [.ref (ad (ix 10 0)), .int (nI f), .int (nI p)] (C) (some (.ref (ad (ix 13 (f * 17 + p))))) (C) := by
  refine ct_of (by decide) (Nat.le_of_ble_eq_true rfl) ?_
  intro Γ _ _ hN h r
  refine g_at (L' := [some (.ref (ad (ix 10 0))), some (.int (nI f)), some (.int (nI p))]) rfl rfl rfl ?_
  refine g_aload_n h d_Pro_instructionAt_0 rfl rfl ?_
  refine gf_Pro_instructions h f_Pro_13 d_Pro_instructionAt_1 ?_
  refine g_iload_n h d_Pro_instructionAt_4 rfl rfl ?_
  refine g_bipush (v := 17) h d_Pro_instructionAt_5 (by decide) ?_
  refine g_imul h d_Pro_instructionAt_7 ?_
  refine g_iload_n h d_Pro_instructionAt_8 rfl rfl ?_
  refine g_iadd h d_Pro_instructionAt_9 ?_
  refine ga_ins h (show nI f * 17 + nI p = nI (f * 17 + p) from by rw [show (17 : Int32) = nI 17 from rfl, pk_mul, nI_add]) (by omega) d_Pro_instructionAt_10 ?_
  exact g_aret h r d_Pro_instructionAt_11 (⟨rfl, rfl⟩)
set_option maxHeartbeats 4000000 in
set_option maxRecDepth 100000 in
theorem c_Pro_keepFound {l : Launch} {D : va_G} {t : Nat → ClassId} {ad : Nat → Nat} {C : CS} {n a : Nat} {tr : Int32} (hn : n < 16) (ha : a < 4) : Cd l D t ad y_Pro_keepFound b_Pro_keepFound 4 (some .int) { frames := 0, cells := 0, slots := 0, locals := 0 } [.ref (ad (ix 10 0)), .ref (ad (ix 9 n)), .int (nI a), .int tr] (C) (some (.int tr)) (ckeep C n a tr) := by
  refine ct_of (by decide) (Nat.le_of_ble_eq_true rfl) ?_
  intro Γ _ _ hN h r
  refine g_at (L' := [some (.ref (ad (ix 10 0))), some (.ref (ad (ix 9 n))), some (.int (nI a)), some (.int tr)]) rfl rfl rfl ?_
  refine g_iload_n h d_Pro_keepFound_0 rfl rfl ?_
  refine g_if_ne (tgt := 14) h d_Pro_keepFound_1 (by decide) (fun c_1 => ?_) (fun c_1 => ?_)
  · refine g_iload_n h d_Pro_keepFound_14 rfl rfl ?_
    exact g_iret h r d_Pro_keepFound_15 (⟨rfl, by simp [ckeep, c_1]⟩)
  · refine g_aload_n h d_Pro_keepFound_4 rfl rfl ?_
    refine g_iload_n h d_Pro_keepFound_5 rfl rfl ?_
    refine g_aload_n h d_Pro_keepFound_6 rfl rfl ?_
    refine gf_Pro_heap h f_Pro_39 d_Pro_keepFound_7 ?_
    refine gf_Heap_found h f_Pro_162 d_Pro_keepFound_10 ?_
    refine pa_regs h hn rfl ha d_Pro_keepFound_13 ?_
    refine g_iload_n h d_Pro_keepFound_14 rfl rfl ?_
    exact g_iret h r d_Pro_keepFound_15 (⟨rfl, by simp [ckeep, c_1]⟩)
set_option maxHeartbeats 4000000 in
set_option maxRecDepth 100000 in
theorem c_Pro_leave {l : Launch} {D : va_G} {t : Nat → ClassId} {ad : Nat → Nat} {C : CS} {d : Nat} {x : Int64} (hok : okC C) (hd5 : d < 5) (hd : C.1 19 0 = nI (d + 1)) (hact : ∀ i, i < d + 1 → ∃ n, n < 16 ∧ C.2.2 i = some n) : Cd l D t ad y_Pro_leave b_Pro_leave 4 none { frames := 0, cells := 0, slots := 0, locals := 0 } [.ref (ad (ix 10 0)), .long x] (C) (none) (cleave C x) := by
  refine ct_of (by decide) (Nat.le_of_ble_eq_true rfl) ?_
  intro Γ _ _ hN h r
  refine g_at (L' := [some (.ref (ad (ix 10 0))), some (.long x), none, none]) rfl rfl rfl ?_
  refine g_aload_n h d_Pro_leave_0 rfl rfl ?_
  refine g_dup h d_Pro_leave_1 rfl ?_
  refine gf_Pro_depth h f_Pro_23 d_Pro_leave_2 ?_
  refine g_iconst (v := 1) h d_Pro_leave_5 (by decide) ?_
  rw [hd]
  refine g_isub h d_Pro_leave_6 ?_
  rw [show nI (d + 1) - 1 = nI d from nI_pred d]
  refine pf_Pro_depth h f_Pro_23 d_Pro_leave_7 ?_
  refine g_aload_n h d_Pro_leave_10 rfl rfl ?_
  refine gf_Pro_depth h f_Pro_23 d_Pro_leave_11 ?_
  simp only [sI_1, sI_2, sJ_1, sJ_2, sJ_3, sR_1, sR_2, sR_3, Nat.reduceEqDiff, Nat.zero_ne_one, Nat.one_ne_zero, Nat.succ_ne_zero, reduceCtorEq, false_and, if_false, true_and, and_self, if_true, and_true, and_false, reduceIte]
  refine g_if_ne (tgt := 23) h d_Pro_leave_14 (by decide) (fun c_14 => ?_) (fun c_14 => ?_)
  · skip
    · have hd0 : 0 < d := by
        rcases Nat.eq_zero_or_pos d with z | z
        · subst z; exact absurd rfl c_14
        · exact z
      obtain ⟨m, hm16, hm⟩ := hact (d - 1) (by omega)
      obtain ⟨-, -, -, -, -, ⟨w, hw, hw2⟩⟩ := hok.1 m hm16
      refine g_aload_n h d_Pro_leave_23 rfl rfl ?_
      refine gf_Pro_active h f_Pro_19 d_Pro_leave_24 ?_
      refine g_aload_n h d_Pro_leave_27 rfl rfl ?_
      refine gf_Pro_depth h f_Pro_23 d_Pro_leave_28 ?_
      simp only [sI_1, sI_2, sJ_1, sJ_2, sJ_3, sR_1, sR_2, sR_3, Nat.reduceEqDiff, Nat.zero_ne_one, Nat.one_ne_zero, Nat.succ_ne_zero, reduceCtorEq, false_and, if_false, true_and, and_self, if_true, and_true, and_false, reduceIte]
      refine g_iconst (v := 1) h d_Pro_leave_31 (by decide) ?_
      refine g_isub h d_Pro_leave_32 ?_
      refine ga_act h (show nI d - 1 = nI (d - 1) from by rw [show nI d = nI (d - 1 + 1) from by rw [show d - 1 + 1 = d by omega]]; exact nI_pred _) (by omega) hm d_Pro_leave_33 ?_
      refine g_astore_n h d_Pro_leave_34 rfl rfl (by rw [hN]; decide) ?_
      refine g_aload_n h d_Pro_leave_35 rfl rfl ?_
      refine gf_Cor_registers h f_Pro_88 (by first | assumption | omega | (show _ < 16; omega)) d_Pro_leave_36 ?_
      refine g_aload_n h d_Pro_leave_39 rfl rfl ?_
      refine gf_Cor_awaits h f_Pro_99 (by first | assumption | omega | (show _ < 16; omega)) d_Pro_leave_40 ?_
      simp only [sI_1, sI_2, sJ_1, sJ_2, sJ_3, sR_1, sR_2, sR_3, Nat.reduceEqDiff, Nat.zero_ne_one, Nat.one_ne_zero, Nat.succ_ne_zero, reduceCtorEq, false_and, if_false, true_and, and_self, if_true, and_true, and_false, reduceIte]
      refine g_lload_n h d_Pro_leave_43 rfl rfl ?_
      refine pa_regs h hm16 hw2 hw d_Pro_leave_44 ?_
      refine g_aload_n h d_Pro_leave_45 rfl rfl ?_
      refine g_dup h d_Pro_leave_46 rfl ?_
      refine gf_Cor_place h f_Pro_51 (by first | assumption | omega | (show _ < 16; omega)) d_Pro_leave_47 ?_
      simp only [sI_1, sI_2, sJ_1, sJ_2, sJ_3, sR_1, sR_2, sR_3, Nat.reduceEqDiff, Nat.zero_ne_one, Nat.one_ne_zero, Nat.succ_ne_zero, reduceCtorEq, false_and, if_false, true_and, and_self, if_true, and_true, and_false, reduceIte]
      refine g_iconst (v := 1) h d_Pro_leave_50 (by decide) ?_
      refine g_iadd h d_Pro_leave_51 ?_
      refine pf_Cor_place h f_Pro_51 (by first | assumption | omega | (show _ < 16; omega)) d_Pro_leave_52 ?_
      exact g_vret h r d_Pro_leave_55 (⟨rfl, by simp [cleave, hd, nI_pred, c_14, cact, cDepth, nI_clamp (show d + 1 < 2 ^ 31 by omega), hm, hw2, nI_clamp (show w < 2 ^ 31 by omega), sJ_1, sI_1]⟩)
  · refine g_aload_n h d_Pro_leave_17 rfl rfl ?_
    refine g_lload_n h d_Pro_leave_18 rfl rfl ?_
    refine pf_Pro_outcome h f_Pro_35 d_Pro_leave_19 ?_
    exact g_vret h r d_Pro_leave_22 (⟨rfl, by simp [cleave, hd, nI_pred, c_14]⟩)
set_option maxHeartbeats 4000000 in
set_option maxRecDepth 100000 in
theorem c_Pro_enter {l : Launch} {D : va_G} {t : Nat → ClassId} {ad : Nat → Nat} {C : CS} {v x : Int64} (hok : okC C) (hv : okV v) : Cd l D t ad y_Pro_enter b_Pro_enter 7 (some .int) { frames := 2, cells := 0, slots := 0, locals := 44 } [.ref (ad (ix 10 0)), .long v, .long x] (C) (some (.int (center C v x).1)) ((center C v x).2) := by
  refine ct_of (by decide) (Nat.le_of_ble_eq_true rfl) ?_
  intro Γ _ _ hN h r
  obtain ⟨d, hd5, hd, hact⟩ := hok.2.2.2
  refine g_at (L' := [some (.ref (ad (ix 10 0))), some (.long v), none, some (.long x), none, none, none]) rfl rfl rfl ?_
  refine g_aload_n h d_Pro_enter_0 rfl rfl ?_
  refine gf_Pro_heap h f_Pro_39 d_Pro_enter_1 ?_
  refine g_iconst (v := 2) h d_Pro_enter_4 (by decide) ?_
  refine g_lload_n h d_Pro_enter_5 rfl rfl ?_
  refine g_dVi h tb_good (c_Heap_isA hv) (ix_lt 1 (by decide) _ (by decide)) (wc_at (by decide) (by decide)) rfl v_Pro_65 nm_Heap_isA rfl ⟨rfl, rfl, Nat.le_of_ble_eq_true rfl, Nat.le_of_ble_eq_true rfl, Nat.zero_le _, Nat.zero_le _⟩ rfl (Nat.le_of_ble_eq_true rfl) d_Pro_enter_6 ?_
  by_cases ha : isA C 2 v = true
  · rw [if_pos ha]
    obtain ⟨ho, hon, -⟩ := isA_on hv ha
    obtain ⟨-, -, -, -, ⟨w, hw, hw2⟩, -⟩ := hok.1 _ ho
    refine g_if_ne (tgt := 14) h d_Pro_enter_9 (by decide) (fun c_9 => ?_) (fun c_9 => ?_)
    · refine g_lload_n h d_Pro_enter_14 rfl rfl ?_
      refine g_dNi h tb_good (c_TCM_numberOf) (host := "TriColourMachine") nl_Pro_71 cd_TCM_numberOf in_TCM st_TCM_numberOf nm_TCM_numberOf rfl ⟨rfl, rfl, Nat.le_of_ble_eq_true rfl, Nat.le_of_ble_eq_true rfl, Nat.zero_le _, Nat.zero_le _⟩ rfl (Nat.le_of_ble_eq_true rfl) d_Pro_enter_15 ?_
      rw [hon]
      refine g_istore h d_Pro_enter_18 rfl (by rw [hN]; decide) ?_
      refine g_aload_n h d_Pro_enter_20 rfl rfl ?_
      refine gf_Pro_heap h f_Pro_39 d_Pro_enter_21 ?_
      refine gf_Heap_cells h f_Pro_75 d_Pro_enter_24 ?_
      refine g_iload h d_Pro_enter_27 rfl ?_
      refine ga_cells h rfl ho d_Pro_enter_29 ?_
      refine gf_Cell_coroutine h f_Pro_79 (by first | assumption | omega | (show _ < 16; omega)) d_Pro_enter_30 ?_
      refine g_astore h d_Pro_enter_33 rfl (by rw [hN]; decide) ?_
      refine g_aload h d_Pro_enter_35 rfl ?_
      refine gf_Cor_state h f_Pro_85 (by first | assumption | omega | (show _ < 16; omega)) d_Pro_enter_37 ?_
      refine g_iconst (v := 3) h d_Pro_enter_40 (by decide) ?_
      refine g_icmp_eq (tgt := 53) h d_Pro_enter_41 (by decide) (fun c_41 => ?_) (fun c_41 => ?_)
      · refine g_iconst (v := 1) h d_Pro_enter_53 (by decide) ?_
        exact g_iret h r d_Pro_enter_54 (⟨by first | (simp [center, centerOk, ha, c_41]; done) | (simp [center, centerOk, ha, c_41, c_50]; done), by first | (simp [center, centerOk, ha, c_41]; done) | (simp [center, centerOk, ha, c_41, c_50]; done)⟩)
      · refine g_aload h d_Pro_enter_44 rfl ?_
        refine gf_Cor_state h f_Pro_85 (by first | assumption | omega | (show _ < 16; omega)) d_Pro_enter_46 ?_
        refine g_iconst (v := 2) h d_Pro_enter_49 (by decide) ?_
        refine g_icmp_ne (tgt := 55) h d_Pro_enter_50 (by decide) (fun c_50 => ?_) (fun c_50 => ?_)
        · refine g_aload_n h d_Pro_enter_55 rfl rfl ?_
          refine gf_Pro_depth h f_Pro_23 d_Pro_enter_56 ?_
          refine g_iconst (v := 5) h d_Pro_enter_59 (by decide) ?_
          rw [hd]
          refine g_icmp_ne (tgt := 65) h d_Pro_enter_60 (by decide) (fun c_60 => ?_) (fun c_60 => ?_)
          · have hd6 : d < 5 := by
              rcases Nat.lt_or_ge d 5 with z | z
              · exact z
              · exact absurd (by rw [show d = 5 by omega]; rfl) c_60
            refine g_aload h d_Pro_enter_65 rfl ?_
            refine gf_Cor_registers h f_Pro_88 (by first | assumption | omega | (show _ < 16; omega)) d_Pro_enter_67 ?_
            refine g_aload h d_Pro_enter_70 rfl ?_
            refine gf_Cor_comesIn h f_Pro_92 (by first | assumption | omega | (show _ < 16; omega)) d_Pro_enter_72 ?_
            refine g_lload_n h d_Pro_enter_75 rfl rfl ?_
            refine pa_regs h ho hw2 hw d_Pro_enter_76 ?_
            refine g_aload h d_Pro_enter_77 rfl ?_
            refine g_iconst (v := 2) h d_Pro_enter_79 (by decide) ?_
            refine pf_Cor_state h f_Pro_85 (by first | assumption | omega | (show _ < 16; omega)) d_Pro_enter_80 ?_
            refine g_aload_n h d_Pro_enter_83 rfl rfl ?_
            refine gf_Pro_heap h f_Pro_39 d_Pro_enter_84 ?_
            refine g_iload h d_Pro_enter_87 rfl ?_
            refine g_dVv h tb_good (c_Heap_touch ho) (ix_lt 1 (by decide) _ (by decide)) (wc_at (by decide) (by decide)) rfl v_Pro_95 nm_Heap_touch rfl ⟨rfl, rfl, Nat.le_of_ble_eq_true rfl, Nat.le_of_ble_eq_true rfl, Nat.zero_le _, Nat.zero_le _⟩ rfl (Nat.le_of_ble_eq_true rfl) d_Pro_enter_89 ?_
            refine g_aload_n h d_Pro_enter_92 rfl rfl ?_
            refine gf_Pro_active h f_Pro_19 d_Pro_enter_93 ?_
            skip
            refine g_aload_n h d_Pro_enter_96 rfl rfl ?_
            refine gf_Pro_depth h f_Pro_23 d_Pro_enter_97 ?_
            rw [ctouch_o (by decide)]
            simp only [sI_1, sI_2, sJ_1, sJ_2, sJ_3, sR_1, sR_2, sR_3, Nat.reduceEqDiff, Nat.zero_ne_one, Nat.one_ne_zero, Nat.succ_ne_zero, reduceCtorEq, false_and, if_false, true_and, and_self, if_true, and_true, and_false, reduceIte]
            refine g_aload h d_Pro_enter_100 rfl ?_
            refine pa_act h hd hd6 ho d_Pro_enter_102 ?_
            refine g_aload_n h d_Pro_enter_103 rfl rfl ?_
            refine g_dup h d_Pro_enter_104 rfl ?_
            refine gf_Pro_depth h f_Pro_23 d_Pro_enter_105 ?_
            simp only [sA_1]
            rw [ctouch_o (by decide)]
            simp only [sI_1, sI_2, sJ_1, sJ_2, sJ_3, sR_1, sR_2, sR_3, Nat.reduceEqDiff, Nat.zero_ne_one, Nat.one_ne_zero, Nat.succ_ne_zero, reduceCtorEq, false_and, if_false, true_and, and_self, if_true, and_true, and_false, reduceIte]
            refine g_iconst (v := 1) h d_Pro_enter_108 (by decide) ?_
            refine g_iadd h d_Pro_enter_109 ?_
            refine pf_Pro_depth h f_Pro_23 d_Pro_enter_110 ?_
            refine g_iconst (v := 0) h d_Pro_enter_113 (by decide) ?_
            exact g_iret h r d_Pro_enter_114 (⟨by simp [center, centerOk, ha, c_41, c_50, hd, c_60], by simp [center, centerOk, ha, c_41, c_50, hd, c_60, hw2, nI_clamp (show w < 2 ^ 31 by omega), cDepth, nI_clamp (show d < 2 ^ 31 by omega)]⟩)
          · refine g_iconst (v := 2) h d_Pro_enter_63 (by decide) ?_
            exact g_iret h r d_Pro_enter_64 (⟨by simp [center, centerOk, ha, c_41, c_50, hd, c_60], by simp [center, centerOk, ha, c_41, c_50, hd, c_60]⟩)
        · refine g_iconst (v := 1) h d_Pro_enter_53 (by decide) ?_
          exact g_iret h r d_Pro_enter_54 (⟨by first | (simp [center, centerOk, ha, c_41]; done) | (simp [center, centerOk, ha, c_41, c_50]; done), by first | (simp [center, centerOk, ha, c_41]; done) | (simp [center, centerOk, ha, c_41, c_50]; done)⟩)
    · exact absurd c_9 (by decide)
  · rw [if_neg ha]
    refine g_if_ne (tgt := 14) h d_Pro_enter_9 (by decide) (fun c_9 => ?_) (fun c_9 => ?_)
    · exact absurd rfl c_9
    · refine g_iconst (v := 1) h d_Pro_enter_12 (by decide) ?_
      exact g_iret h r d_Pro_enter_13 (⟨by simp [center, centerOk, ha], by simp [center, centerOk, ha]⟩)
set_option maxHeartbeats 4000000 in
set_option maxRecDepth 100000 in
theorem c_Pro_endActive {l : Launch} {D : va_G} {t : Nat → ClassId} {ad : Nat → Nat} {C : CS} {d : Nat} (hd5 : d ≤ 5) (hd : C.1 19 0 = nI d) (hact : ∀ i, i < d → ∃ n, n < 16 ∧ C.2.2 i = some n) : Cd l D t ad y_Pro_endActive b_Pro_endActive 2 none { frames := 0, cells := 0, slots := 0, locals := 0 } [.ref (ad (ix 10 0))] (C) (none) (cend d 0 C) := by
  refine ct_of (by decide) (Nat.le_of_ble_eq_true rfl) ?_
  intro Γ _ _ hN h r
  have loop : ∀ (c i : Nat) (C2 : CS), i + c = d → C2.1 19 0 = nI d → C2.2.2 = C.2.2 → cend c i C2 = cend d 0 C → G Γ 0 0 171 ad (wc ad t C2) 2 [some (.ref (ad (ix 10 0))), some (.int (nI i))] [] := by
    intro c
    induction c with
    | zero =>
      intro i C2 hi hD hA he
      refine g_iload_n h d_Pro_endActive_2 rfl rfl ?_
      refine g_aload_n h d_Pro_endActive_3 rfl rfl ?_
      refine gf_Pro_depth h f_Pro_23 d_Pro_endActive_4 ?_
      rw [hD]
      refine g_icmp_ge (tgt := 26) h d_Pro_endActive_7 (by decide) (fun c_7 => ?_) (fun c_7 => ?_)
      · refine g_aload_n h d_Pro_endActive_26 rfl rfl ?_
        refine g_iconst (v := 0) h d_Pro_endActive_27 (by decide) ?_
        refine pf_Pro_depth h f_Pro_23 d_Pro_endActive_28 ?_
        exact g_vret h r d_Pro_endActive_31 (⟨rfl, by rw [← he]; rfl⟩)
      · exact absurd (nI_le (a := d) (b := i) (by omega) (by omega)) c_7
    | succ c ih =>
      intro i C2 hi hD hA he
      obtain ⟨m, hm16, hm0⟩ := hact i (by omega)
      have hm : C2.2.2 i = some m := by rw [hA]; exact hm0
      refine g_iload_n h d_Pro_endActive_2 rfl rfl ?_
      refine g_aload_n h d_Pro_endActive_3 rfl rfl ?_
      refine gf_Pro_depth h f_Pro_23 d_Pro_endActive_4 ?_
      rw [hD]
      refine g_icmp_ge (tgt := 26) h d_Pro_endActive_7 (by decide) (fun c_7 => ?_) (fun c_7 => ?_)
      · exact absurd c_7 (nI_ge (b := d) (by omega) (by omega))
      · refine g_aload_n h d_Pro_endActive_10 rfl rfl ?_
        refine gf_Pro_active h f_Pro_19 d_Pro_endActive_11 ?_
        refine g_iload_n h d_Pro_endActive_14 rfl rfl ?_
        refine ga_act h rfl (by omega) hm d_Pro_endActive_15 ?_
        refine g_iconst (v := 3) h d_Pro_endActive_16 (by decide) ?_
        refine pf_Cor_state h f_Pro_85 (by first | assumption | omega | (show _ < 16; omega)) d_Pro_endActive_17 ?_
        refine g_iinc (v := nI (i + 1)) h d_Pro_endActive_20 rfl (by rw [nI_succ]; rfl) rfl (by rw [hN]; decide) ?_
        refine g_goto (tgt := 2) h d_Pro_endActive_23 (by decide) ?_
        exact ih (i + 1) _ (by omega) (by rw [sI_o (by decide)]; exact hD) hA (by rw [← he]; simp [cend, cact, hA, hm])
  refine g_at (L' := [some (.ref (ad (ix 10 0))), none]) rfl rfl rfl ?_
  refine g_iconst (v := 0) h d_Pro_endActive_0 (by decide) ?_
  refine g_istore_n h d_Pro_endActive_1 rfl rfl (by rw [hN]; decide) ?_
  exact loop d 0 C (by omega) hd rfl rfl
set_option maxHeartbeats 4000000 in
set_option maxRecDepth 100000 in
theorem c_Pro_calculate {l : Launch} {D : va_G} {t : Nat → ClassId} {ad : Nat → Nat} {C : CS} {n a : Nat} {op : Int32} {x y : Int64} (hn : n < 16) (ha : a < 4) : Cd l D t ad y_Pro_calculate b_Pro_calculate 9 (some .int) { frames := 1, cells := 0, slots := 0, locals := 21 } [.int op, .ref (ad (ix 9 n)), .int (nI a), .long x, .long y] (C) (some (.int (ccalc C op n a x y).1)) ((ccalc C op n a x y).2) := by
  refine ct_of (by decide) (Nat.le_of_ble_eq_true rfl) ?_
  intro Γ _ _ hN h r
  refine g_at (L' := [some (.int op), some (.ref (ad (ix 9 n))), some (.int (nI a)), some (.long x), none, some (.long y), none, none, none]) rfl rfl rfl ?_
  refine g_lload_n h d_Pro_calculate_0 rfl rfl ?_
  refine g_dNi h tb_good (c_TCM_isNumber) (host := "TriColourMachine") nl_Pro_165 cd_TCM_isNumber in_TCM st_TCM_isNumber nm_TCM_isNumber rfl ⟨rfl, rfl, Nat.le_of_ble_eq_true rfl, Nat.le_of_ble_eq_true rfl, Nat.zero_le _, Nat.zero_le _⟩ rfl (Nat.le_of_ble_eq_true rfl) d_Pro_calculate_1 ?_
  by_cases h1 : (-2147483648 ≤ x ∧ x ≤ 2147483647)
  · rw [if_pos h1]
    refine g_if_eq (tgt := 15) h d_Pro_calculate_4 (by decide) (fun c_4 => ?_) (fun c_4 => ?_)
    · exact absurd c_4 (by decide)
    · refine g_lload h d_Pro_calculate_7 rfl ?_
      refine g_dNi h tb_good (c_TCM_isNumber) (host := "TriColourMachine") nl_Pro_165 cd_TCM_isNumber in_TCM st_TCM_isNumber nm_TCM_isNumber rfl ⟨rfl, rfl, Nat.le_of_ble_eq_true rfl, Nat.le_of_ble_eq_true rfl, Nat.zero_le _, Nat.zero_le _⟩ rfl (Nat.le_of_ble_eq_true rfl) d_Pro_calculate_9 ?_
      by_cases h2 : (-2147483648 ≤ y ∧ y ≤ 2147483647)
      · rw [if_pos h2]
        refine g_if_ne (tgt := 17) h d_Pro_calculate_12 (by decide) (fun c_12 => ?_) (fun c_12 => ?_)
        · refine g_lload_n h d_Pro_calculate_17 rfl rfl ?_
          refine g_l2i h d_Pro_calculate_18 ?_
          refine g_istore h d_Pro_calculate_19 rfl (by rw [hN]; decide) ?_
          refine g_lload h d_Pro_calculate_21 rfl ?_
          refine g_l2i h d_Pro_calculate_23 ?_
          refine g_istore h d_Pro_calculate_24 rfl (by rw [hN]; decide) ?_
          refine g_aload_n h d_Pro_calculate_26 rfl rfl ?_
          refine g_iload_n h d_Pro_calculate_27 rfl rfl ?_
          refine g_iload_n h d_Pro_calculate_28 rfl rfl ?_
          refine g_bipush (v := 8) h d_Pro_calculate_29 (by decide) ?_
          refine g_icmp_ne (tgt := 43) h d_Pro_calculate_31 (by decide) (fun c_31 => ?_) (fun c_31 => ?_)
          · refine g_iload_n h d_Pro_calculate_43 rfl rfl ?_
            refine g_bipush (v := 9) h d_Pro_calculate_44 (by decide) ?_
            refine g_icmp_ne (tgt := 58) h d_Pro_calculate_46 (by decide) (fun c_46 => ?_) (fun c_46 => ?_)
            · refine g_iload h d_Pro_calculate_58 rfl ?_
              refine g_iload h d_Pro_calculate_60 rfl ?_
              refine g_imul h d_Pro_calculate_62 ?_
              refine g_i2l h d_Pro_calculate_63 ?_
              refine pa_regs h hn rfl ha d_Pro_calculate_64 ?_
              refine g_iconst (v := 0) h d_Pro_calculate_65 (by decide) ?_
              exact g_iret h r d_Pro_calculate_66 (⟨by unfold ccalc isNum; rw [if_pos ⟨h1, h2⟩], by unfold ccalc isNum; rw [if_pos ⟨h1, h2⟩]; first | (simp [c_31]; done) | (simp [c_31, c_46]; done)⟩)
            · refine g_iload h d_Pro_calculate_49 rfl ?_
              refine g_iload h d_Pro_calculate_51 rfl ?_
              refine g_isub h d_Pro_calculate_53 ?_
              refine g_i2l h d_Pro_calculate_54 ?_
              refine g_goto (tgt := 64) h d_Pro_calculate_55 (by decide) ?_
              refine pa_regs h hn rfl ha d_Pro_calculate_64 ?_
              refine g_iconst (v := 0) h d_Pro_calculate_65 (by decide) ?_
              exact g_iret h r d_Pro_calculate_66 (⟨by unfold ccalc isNum; rw [if_pos ⟨h1, h2⟩], by unfold ccalc isNum; rw [if_pos ⟨h1, h2⟩]; first | (simp [c_31]; done) | (simp [c_31, c_46]; done)⟩)
          · refine g_iload h d_Pro_calculate_34 rfl ?_
            refine g_iload h d_Pro_calculate_36 rfl ?_
            refine g_iadd h d_Pro_calculate_38 ?_
            refine g_i2l h d_Pro_calculate_39 ?_
            refine g_goto (tgt := 64) h d_Pro_calculate_40 (by decide) ?_
            refine pa_regs h hn rfl ha d_Pro_calculate_64 ?_
            refine g_iconst (v := 0) h d_Pro_calculate_65 (by decide) ?_
            exact g_iret h r d_Pro_calculate_66 (⟨by unfold ccalc isNum; rw [if_pos ⟨h1, h2⟩], by unfold ccalc isNum; rw [if_pos ⟨h1, h2⟩]; first | (simp [c_31]; done) | (simp [c_31, c_46]; done)⟩)
        · exact absurd c_12 (by decide)
      · rw [if_neg h2]
        refine g_if_ne (tgt := 17) h d_Pro_calculate_12 (by decide) (fun c_12 => ?_) (fun c_12 => ?_)
        · exact absurd rfl c_12
        · refine g_iconst (v := 1) h d_Pro_calculate_15 (by decide) ?_
          exact g_iret h r d_Pro_calculate_16 (⟨by unfold ccalc isNum; first | (rw [if_neg (fun z => h1 z.1)]; done) | (rw [if_neg (fun z => h2 z.2)]; done), by unfold ccalc isNum; first | (rw [if_neg (fun z => h1 z.1)]; done) | (rw [if_neg (fun z => h2 z.2)]; done)⟩)
  · rw [if_neg h1]
    refine g_if_eq (tgt := 15) h d_Pro_calculate_4 (by decide) (fun c_4 => ?_) (fun c_4 => ?_)
    · refine g_iconst (v := 1) h d_Pro_calculate_15 (by decide) ?_
      exact g_iret h r d_Pro_calculate_16 (⟨by unfold ccalc isNum; first | (rw [if_neg (fun z => h1 z.1)]; done) | (rw [if_neg (fun z => h2 z.2)]; done), by unfold ccalc isNum; first | (rw [if_neg (fun z => h1 z.1)]; done) | (rw [if_neg (fun z => h2 z.2)]; done)⟩)
    · exact absurd rfl c_4
end

-- part 17.floor
section
/-! Math.floorMod by 4, 6, 16 -/
theorem fm_bm (z : Int) (h1 : -2147483648 ≤ z) (h2 : z < 2147483648) : z.bmod (2 ^ 32) = z := Int.bmod_eq_of_le (by omega) (by omega)
theorem fm_rng (x : Int32) : -2147483648 ≤ x.toInt ∧ x.toInt < 2147483648 := ⟨by have := Int32.le_toInt x; omega, by have := Int32.toInt_lt x; omega⟩
theorem fm_rem (x : Int32) {m : Nat} (hm : m = 4 ∨ m = 6 ∨ m = 16) : (x - x / nI m * nI m).toInt = x.toInt - x.toInt.tdiv m * m ∧ (if 0 ≤ x.toInt ∨ (m : Int) ∣ x.toInt then x.toInt - x.toInt.tdiv m * m = x.toInt % m else x.toInt - x.toInt.tdiv m * m = x.toInt % m - m) := by
  obtain ⟨r1, r2⟩ := fm_rng x
  have hy : (nI m).toInt = (m : Int) := nI_toInt (by omega)
  have hne : nI m ≠ -1 := by
    intro z
    have := congrArg Int32.toInt z
    rw [hy] at this
    have e : (-1 : Int32).toInt = -1 := by decide
    rw [e] at this
    omega
  have hd : (x / nI m).toInt = x.toInt.tdiv m := by rw [Int32.toInt_div_of_ne_right _ _ hne, hy]
  have hs : (m : Int).sign = 1 := by rcases hm with rfl | rfl | rfl <;> rfl
  rw [Int32.toInt_sub, Int32.toInt_mul, hd, hy, Int.tdiv_eq_ediv, hs]
  generalize x.toInt = X at r1 r2
  rcases hm with rfl | rfl | rfl
  · by_cases h : 0 ≤ X ∨ ((4 : Nat) : Int) ∣ X
    · rw [if_pos h, if_pos h]
      have e : (X / ((4 : Nat) : Int) + 0) * ((4 : Nat) : Int) = X - X % 4 := by omega
      rw [e, fm_bm (X - X % 4) (by omega) (by omega), fm_bm _ (by omega) (by omega)]
      exact ⟨rfl, by omega⟩
    · rw [if_neg h, if_neg h]
      have e : (X / ((4 : Nat) : Int) + 1) * ((4 : Nat) : Int) = X - X % 4 + 4 := by omega
      rw [e, fm_bm (X - X % 4 + 4) (by omega) (by omega), fm_bm _ (by omega) (by omega)]
      exact ⟨rfl, by omega⟩
  · by_cases h : 0 ≤ X ∨ ((6 : Nat) : Int) ∣ X
    · rw [if_pos h, if_pos h]
      have e : (X / ((6 : Nat) : Int) + 0) * ((6 : Nat) : Int) = X - X % 6 := by omega
      rw [e, fm_bm (X - X % 6) (by omega) (by omega), fm_bm _ (by omega) (by omega)]
      exact ⟨rfl, by omega⟩
    · rw [if_neg h, if_neg h]
      have e : (X / ((6 : Nat) : Int) + 1) * ((6 : Nat) : Int) = X - X % 6 + 6 := by omega
      rw [e, fm_bm (X - X % 6 + 6) (by omega) (by omega), fm_bm _ (by omega) (by omega)]
      exact ⟨rfl, by omega⟩
  · by_cases h : 0 ≤ X ∨ ((16 : Nat) : Int) ∣ X
    · rw [if_pos h, if_pos h]
      have e : (X / ((16 : Nat) : Int) + 0) * ((16 : Nat) : Int) = X - X % 16 := by omega
      rw [e, fm_bm (X - X % 16) (by omega) (by omega), fm_bm _ (by omega) (by omega)]
      exact ⟨rfl, by omega⟩
    · rw [if_neg h, if_neg h]
      have e : (X / ((16 : Nat) : Int) + 1) * ((16 : Nat) : Int) = X - X % 16 + 16 := by omega
      rw [e, fm_bm (X - X % 16 + 16) (by omega) (by omega), fm_bm _ (by omega) (by omega)]
      exact ⟨rfl, by omega⟩
theorem fm_xor (x y : Int32) (hy : 0 ≤ y.toInt) : (x ^^^ y).toInt < 0 ↔ x.toInt < 0 := by
  have a : (x ^^^ y).toBitVec.msb = (x.toBitVec.msb ^^ y.toBitVec.msb) := by rw [Int32.toBitVec_xor, BitVec.msb_xor]
  have e : ∀ z : Int32, z.toBitVec.msb = decide (z.toInt < 0) := fun z => BitVec.msb_eq_toInt
  rw [e, e, e, decide_eq_false (show ¬ y.toInt < 0 by omega), Bool.xor_false] at a
  exact decide_eq_decide.mp a
theorem fmod_lt (x : Int32) {m : Nat} (h : 0 < m) : fmod x m < m := by
  unfold fmod
  have h1 := Int.emod_nonneg x.toInt (show (m : Int) ≠ 0 by omega)
  have h2 := Int.emod_lt_of_pos x.toInt (show (0 : Int) < m by omega)
  omega
theorem fmod_int (x : Int32) {m : Nat} (hm : 0 < m) (h2 : m < 2 ^ 30) : (nI (fmod x m)).toInt = x.toInt % m := by
  have h := fmod_lt x hm
  rw [nI_toInt (by omega)]
  unfold fmod
  have h1 := Int.emod_nonneg x.toInt (show (m : Int) ≠ 0 by omega)
  omega
theorem fm_pos {x : Int32} {m : Nat} (hm : m = 4 ∨ m = 6 ∨ m = 16) (h : 0 ≤ x ^^^ nI m) : x - x / nI m * nI m = nI (fmod x m) := by
  obtain ⟨a, b⟩ := fm_rem x hm
  have hx : 0 ≤ x.toInt := by
    have h1 : ¬ (x ^^^ nI m).toInt < 0 := by
      have := Int32.le_iff_toInt_le.mp h
      rw [Int32.toInt_zero] at this
      omega
    have h2 := mt (fm_xor x (nI m) (by rw [nI_toInt (by omega)]; omega)).mpr h1
    omega
  rw [if_pos (Or.inl hx)] at b
  apply Int32.toInt_inj.mp
  rw [a, b, fmod_int x (by omega) (by omega)]
theorem fm_zero {x : Int32} {m : Nat} (hm : m = 4 ∨ m = 6 ∨ m = 16) (h : x - x / nI m * nI m = 0) : x - x / nI m * nI m = nI (fmod x m) := by
  obtain ⟨a, b⟩ := fm_rem x hm
  rw [h, Int32.toInt_zero] at a
  apply Int32.toInt_inj.mp
  rw [h, Int32.toInt_zero, fmod_int x (by omega) (by omega)]
  have h1 := Int.emod_nonneg x.toInt (show (m : Int) ≠ 0 by omega)
  have h2 := Int.emod_lt_of_pos x.toInt (show (0 : Int) < m by omega)
  by_cases c : 0 ≤ x.toInt ∨ (m : Int) ∣ x.toInt
  · rw [if_pos c] at b; omega
  · rw [if_neg c] at b; omega
theorem fm_neg {x : Int32} {m : Nat} (hm : m = 4 ∨ m = 6 ∨ m = 16) (h0 : ¬ 0 ≤ x ^^^ nI m) (h : ¬ x - x / nI m * nI m = 0) : x - x / nI m * nI m + nI m = nI (fmod x m) := by
  obtain ⟨a, b⟩ := fm_rem x hm
  have hy : (nI m).toInt = (m : Int) := nI_toInt (by omega)
  have hx : x.toInt < 0 := by
    have h1 : (x ^^^ nI m).toInt < 0 := by
      have := mt Int32.le_iff_toInt_le.mpr h0
      rw [Int32.toInt_zero] at this
      omega
    exact (fm_xor x (nI m) (by rw [hy]; omega)).mp h1
  have h1 := Int.emod_nonneg x.toInt (show (m : Int) ≠ 0 by omega)
  have h2 := Int.emod_lt_of_pos x.toInt (show (0 : Int) < m by omega)
  have hne : x.toInt - x.toInt.tdiv m * m ≠ 0 := by
    intro z
    apply h
    apply Int32.toInt_inj.mp
    rw [a, z, Int32.toInt_zero]
  have hc : ¬ (0 ≤ x.toInt ∨ (m : Int) ∣ x.toInt) := by
    intro c
    rw [if_pos c] at b
    rcases c with c | c
    · omega
    · rw [Int.emod_eq_zero_of_dvd c] at b
      exact hne b
  rw [if_neg hc] at b
  apply Int32.toInt_inj.mp
  rw [Int32.toInt_add, a, b, hy, fmod_int x (by omega) (by omega)]
  rw [show x.toInt % (m : Int) - m + m = x.toInt % m by omega]
  exact fm_bm _ (by omega) (by omega)
/-- a contract out of a walk, of a method of a class whose natives the machine knows -/
theorem ct_ofF {l : Launch} {D : va_G} {cl : List vw_C} {tys : List (ClassId × FieldType)} {nl : List (String × Nat × MethodName × String)} {N : Nat} {ad : Nat → Nat} {y : MethodName} {TB : List Cond} {rm : Room} {As : List Value} {σ : Nat → va_E} {Rr : Option Value → (Nat → va_E) → Prop} {cc : ByteArray} {n : Nat} {ret : Option FieldType}
    (hy : plainFor y = true) (hn : (lg_sl As).length ≤ n)
    (body : ∀ Γ : GT, gL Γ = l → gD Γ = D → gN Γ = n → Cx Γ cc y.cls rm TB cl tys nl → Rx Γ N ad ret Rr 0 0 → G Γ 0 0 N ad σ 0 (inL As n) []) : Ct l D cl tys nl N ad y (.code y cc n ret :: TB) rm As σ Rr := by
  intro sz
  refine va_MetF (cc := cc) (maxL := n) (ret := ret) hy rfl ?_
  intro p e s m args below meth c s₁ B hml hv
  obtain ⟨rfl, hsz, hP, hK, hD0⟩ := hv
  have hts := atoms_spec (ws := .code y cc n ret :: TB) B.pre
  have hown : s.vm.findClass y.cls = some m.cls := findClass_of_methodNamed B.named
  subst hsz
  have hD := hD0.self (sz := s.heap.size)
  rw [lg_entry_eq]
  exact body (p, l, e, rm, s, m, As.toArray, below, meth, c, MQ below (cQc D cl N ad (va_A (gl N ad σ) s.heap.size) Rr) As.toArray s 0 0 (va_A (gl N ad σ) s.heap.size), D, cl, va_A (gl N ad σ) s.heap.size, n) rfl rfl rfl
    ⟨B.exec, B.bytes, hml, hown, rfl, fun w hw => hts w (List.mem_cons_of_mem _ hw), rfl, hK, fun q h => Or.inr h⟩ ⟨B.returns, B.notSynchronized, rfl⟩ s.heap [] _ hP hD va_S.rf (inL_has hn)
theorem okC_I {C : CS} {f n : Nat} {v : Int32} (h : okC C) (h2 : f ≠ 2) (h3 : f ≠ 3) (h4 : f ≠ 4) (h5 : f ≠ 5) (h7 : f ≠ 7) (h8 : f ≠ 8) (h14 : f ≠ 14) (h19 : f ≠ 19) : okC (sI C f n v) :=
  okC_of h (fun g hg m => sI_o (by omega)) rfl (by rw [sI_o (by omega)]; exact h.2.2.1)
theorem okC_7 {C : CS} {n a : Nat} (h : okC C) (ha : a < 4) : okC (sI C 7 n (nI a)) := by
  obtain ⟨h1, h2, h3, h4⟩ := h
  refine ⟨fun m hm => ?_, h2, by rw [sI_o (by decide)]; exact h3, by rw [sI_o (by decide)]; exact h4⟩
  obtain ⟨a1, a2, a3, a4, a5, a6⟩ := h1 m hm
  rw [sI_o (by decide), sI_o (by decide), sI_o (by decide), sI_o (by decide), sI_o (f := 7) (g := 8) (by decide)]
  refine ⟨a1, a2, a3, a4, ?_, a6⟩
  rw [sI_1]
  split
  · exact ⟨a, ha, rfl⟩
  · exact a5
theorem okC_8 {C : CS} {n a : Nat} (h : okC C) (ha : a < 4) : okC (sI C 8 n (nI a)) := by
  obtain ⟨h1, h2, h3, h4⟩ := h
  refine ⟨fun m hm => ?_, h2, by rw [sI_o (by decide)]; exact h3, by rw [sI_o (by decide)]; exact h4⟩
  obtain ⟨a1, a2, a3, a4, a5, a6⟩ := h1 m hm
  rw [sI_o (by decide), sI_o (by decide), sI_o (by decide), sI_o (by decide), sI_o (f := 8) (g := 7) (by decide)]
  refine ⟨a1, a2, a3, a4, a5, ?_⟩
  rw [sI_1]
  split
  · exact ⟨a, ha, rfl⟩
  · exact a6
theorem okC_beg {C : CS} {n : Nat} (h : okC C) : okC (cbeg C n) := okC_I (okC_I h (by decide) (by decide) (by decide) (by decide) (by decide) (by decide) (by decide) (by decide)) (by decide) (by decide) (by decide) (by decide) (by decide) (by decide) (by decide) (by decide)
theorem cbelow_y {C : CS} {x y : Int64} {p : Int32} (h1 : isNum x) (h2 : isNum y) : cbelow C x y p = (0, if x < y then sI C 21 0 (nI (fmod p 16)) else C) := by unfold cbelow; rw [if_pos ⟨h1, h2⟩]
end

-- part 18.proc2
section
set_option maxHeartbeats 4000000 in
set_option maxRecDepth 100000 in
theorem c_Math_floorMod {l : Launch} {D : va_G} {t : Nat → ClassId} {ad : Nat → Nat} {C : CS} {x : Int32} {m : Nat} (hm : m = 4 ∨ m = 6 ∨ m = 16) : Cd l D t ad y_Math_floorMod b_Math_floorMod 3 (some .int) { frames := 0, cells := 0, slots := 0, locals := 0 } [.int x, .int (nI m)] (C) (some (.int (nI (fmod x m)))) (C) := by
  refine ct_ofF (by decide +kernel) (Nat.le_of_ble_eq_true rfl) ?_
  intro Γ _ _ hN h r
  refine g_at (L' := [some (.int x), some (.int (nI m)), none]) rfl rfl rfl ?_
  refine g_iload_n h d_Math_floorMod_0 rfl rfl ?_
  refine g_iload_n h d_Math_floorMod_1 rfl rfl ?_
  refine g_irem h d_Math_floorMod_2 (nI_ne0 (by omega) (by omega)) ?_
  refine g_istore_n h d_Math_floorMod_3 rfl rfl (by rw [hN]; decide) ?_
  refine g_iload_n h d_Math_floorMod_4 rfl rfl ?_
  refine g_iload_n h d_Math_floorMod_5 rfl rfl ?_
  refine g_ixor h d_Math_floorMod_6 ?_
  refine g_if_ge (tgt := 18) h d_Math_floorMod_7 (by decide) (fun c_7 => ?_) (fun c_7 => ?_)
  · refine g_iload_n h d_Math_floorMod_18 rfl rfl ?_
    exact g_iret h r d_Math_floorMod_19 (⟨by first | rw [fm_pos hm c_7] | rw [fm_zero hm c_11], rfl⟩)
  · refine g_iload_n h d_Math_floorMod_10 rfl rfl ?_
    refine g_if_eq (tgt := 18) h d_Math_floorMod_11 (by decide) (fun c_11 => ?_) (fun c_11 => ?_)
    · refine g_iload_n h d_Math_floorMod_18 rfl rfl ?_
      exact g_iret h r d_Math_floorMod_19 (⟨by first | rw [fm_pos hm c_7] | rw [fm_zero hm c_11], rfl⟩)
    · refine g_iload_n h d_Math_floorMod_14 rfl rfl ?_
      refine g_iload_n h d_Math_floorMod_15 rfl rfl ?_
      refine g_iadd h d_Math_floorMod_16 ?_
      exact g_iret h r d_Math_floorMod_17 (⟨by rw [fm_neg hm c_7 c_11], rfl⟩)
set_option maxHeartbeats 4000000 in
set_option maxRecDepth 100000 in
theorem c_Pro_jumpIf {l : Launch} {D : va_G} {t : Nat → ClassId} {ad : Nat → Nat} {C : CS} {b x : Int32} : Cd l D t ad y_Pro_jumpIf b_Pro_jumpIf 3 (some .int) { frames := 1, cells := 0, slots := 0, locals := 22 } [.ref (ad (ix 10 0)), .int b, .int x] (C) (some (.int 0)) (if b = 0 then C else sI C 21 0 (nI (fmod x 16))) := by
  refine ct_of (by decide) (Nat.le_of_ble_eq_true rfl) ?_
  intro Γ _ _ hN h r
  refine g_at (L' := [some (.ref (ad (ix 10 0))), some (.int b), some (.int x)]) rfl rfl rfl ?_
  refine g_iload_n h d_Pro_jumpIf_0 rfl rfl ?_
  refine g_if_eq (tgt := 14) h d_Pro_jumpIf_1 (by decide) (fun c_1 => ?_) (fun c_1 => ?_)
  · refine g_iconst (v := 0) h d_Pro_jumpIf_14 (by decide) ?_
    exact g_iret h r d_Pro_jumpIf_15 (⟨rfl, by simp [c_1]⟩)
  · refine g_aload_n h d_Pro_jumpIf_4 rfl rfl ?_
    refine g_iload_n h d_Pro_jumpIf_5 rfl rfl ?_
    refine g_bipush (v := 16) h d_Pro_jumpIf_6 (by decide) ?_
    refine g_dSi h tb_good (c_Math_floorMod (m := 16) (by omega)) v_Pro_108 nm_Math_floorMod rfl ⟨rfl, rfl, Nat.le_of_ble_eq_true rfl, Nat.le_of_ble_eq_true rfl, Nat.zero_le _, Nat.zero_le _⟩ rfl (Nat.le_of_ble_eq_true rfl) d_Pro_jumpIf_8 ?_
    refine pf_Pro_nextPlace h f_Pro_30 d_Pro_jumpIf_11 ?_
    refine g_iconst (v := 0) h d_Pro_jumpIf_14 (by decide) ?_
    exact g_iret h r d_Pro_jumpIf_15 (⟨rfl, by simp [c_1]⟩)
set_option maxHeartbeats 4000000 in
set_option maxRecDepth 100000 in
theorem c_Pro_jumpIfBelow {l : Launch} {D : va_G} {t : Nat → ClassId} {ad : Nat → Nat} {C : CS} {x y : Int64} {p : Int32} : Cd l D t ad y_Pro_jumpIfBelow b_Pro_jumpIfBelow 6 (some .int) { frames := 2, cells := 0, slots := 0, locals := 44 } [.ref (ad (ix 10 0)), .long x, .long y, .int p] (C) (some (.int (cbelow C x y p).1)) ((cbelow C x y p).2) := by
  refine ct_of (by decide) (Nat.le_of_ble_eq_true rfl) ?_
  intro Γ _ _ hN h r
  refine g_at (L' := [some (.ref (ad (ix 10 0))), some (.long x), none, some (.long y), none, some (.int p)]) rfl rfl rfl ?_
  refine g_lload_n h d_Pro_jumpIfBelow_0 rfl rfl ?_
  refine g_dNi h tb_good (c_TCM_isNumber) (host := "TriColourMachine") nl_Pro_165 cd_TCM_isNumber in_TCM st_TCM_isNumber nm_TCM_isNumber rfl ⟨rfl, rfl, Nat.le_of_ble_eq_true rfl, Nat.le_of_ble_eq_true rfl, Nat.zero_le _, Nat.zero_le _⟩ rfl (Nat.le_of_ble_eq_true rfl) d_Pro_jumpIfBelow_1 ?_
  by_cases h1 : (-2147483648 ≤ x ∧ x ≤ 2147483647)
  · rw [if_pos h1]
    refine g_if_eq (tgt := 14) h d_Pro_jumpIfBelow_4 (by decide) (fun c_4 => ?_) (fun c_4 => ?_)
    · exact absurd c_4 (by decide)
    · refine g_lload_n h d_Pro_jumpIfBelow_7 rfl rfl ?_
      refine g_dNi h tb_good (c_TCM_isNumber) (host := "TriColourMachine") nl_Pro_165 cd_TCM_isNumber in_TCM st_TCM_isNumber nm_TCM_isNumber rfl ⟨rfl, rfl, Nat.le_of_ble_eq_true rfl, Nat.le_of_ble_eq_true rfl, Nat.zero_le _, Nat.zero_le _⟩ rfl (Nat.le_of_ble_eq_true rfl) d_Pro_jumpIfBelow_8 ?_
      by_cases h2 : (-2147483648 ≤ y ∧ y ≤ 2147483647)
      · rw [if_pos h2]
        refine g_if_ne (tgt := 16) h d_Pro_jumpIfBelow_11 (by decide) (fun c_11 => ?_) (fun c_11 => ?_)
        · refine g_aload_n h d_Pro_jumpIfBelow_16 rfl rfl ?_
          refine g_lload_n h d_Pro_jumpIfBelow_17 rfl rfl ?_
          refine g_lload_n h d_Pro_jumpIfBelow_18 rfl rfl ?_
          refine g_lc_ge (tgt := 27) h d_Pro_jumpIfBelow_19 d_Pro_jumpIfBelow_20 (by decide) (fun c_20 => ?_) (fun c_20 => ?_)
          · refine g_iconst (v := 0) h d_Pro_jumpIfBelow_27 (by decide) ?_
            refine g_iload h d_Pro_jumpIfBelow_28 rfl ?_
            refine g_dVi h tb_good (c_Pro_jumpIf) (ix_lt 10 (by decide) _ (by decide)) (wc_at (by decide) (by decide)) rfl v_Pro_145 nm_Pro_jumpIf rfl ⟨rfl, rfl, Nat.le_of_ble_eq_true rfl, Nat.le_of_ble_eq_true rfl, Nat.zero_le _, Nat.zero_le _⟩ rfl (Nat.le_of_ble_eq_true rfl) d_Pro_jumpIfBelow_30 ?_
            exact g_iret h r d_Pro_jumpIfBelow_33 (⟨by rw [cbelow_y h1 h2], by first | (simp [cbelow_y h1 h2, Int64.not_le.mp c_20]; done) | (simp [cbelow_y h1 h2, Int64.not_lt.mpr c_20]; done)⟩)
          · refine g_iconst (v := 1) h d_Pro_jumpIfBelow_23 (by decide) ?_
            refine g_goto (tgt := 28) h d_Pro_jumpIfBelow_24 (by decide) ?_
            refine g_iload h d_Pro_jumpIfBelow_28 rfl ?_
            refine g_dVi h tb_good (c_Pro_jumpIf) (ix_lt 10 (by decide) _ (by decide)) (wc_at (by decide) (by decide)) rfl v_Pro_145 nm_Pro_jumpIf rfl ⟨rfl, rfl, Nat.le_of_ble_eq_true rfl, Nat.le_of_ble_eq_true rfl, Nat.zero_le _, Nat.zero_le _⟩ rfl (Nat.le_of_ble_eq_true rfl) d_Pro_jumpIfBelow_30 ?_
            exact g_iret h r d_Pro_jumpIfBelow_33 (⟨by rw [cbelow_y h1 h2], by first | (simp [cbelow_y h1 h2, Int64.not_le.mp c_20]; done) | (simp [cbelow_y h1 h2, Int64.not_lt.mpr c_20]; done)⟩)
        · exact absurd c_11 (by decide)
      · rw [if_neg h2]
        refine g_if_ne (tgt := 16) h d_Pro_jumpIfBelow_11 (by decide) (fun c_11 => ?_) (fun c_11 => ?_)
        · exact absurd rfl c_11
        · refine g_iconst (v := 1) h d_Pro_jumpIfBelow_14 (by decide) ?_
          exact g_iret h r d_Pro_jumpIfBelow_15 (⟨by unfold cbelow isNum; first | (rw [if_neg (fun z => h1 z.1)]; done) | (rw [if_neg (fun z => h2 z.2)]; done), by unfold cbelow isNum; first | (rw [if_neg (fun z => h1 z.1)]; done) | (rw [if_neg (fun z => h2 z.2)]; done)⟩)
  · rw [if_neg h1]
    refine g_if_eq (tgt := 14) h d_Pro_jumpIfBelow_4 (by decide) (fun c_4 => ?_) (fun c_4 => ?_)
    · refine g_iconst (v := 1) h d_Pro_jumpIfBelow_14 (by decide) ?_
      exact g_iret h r d_Pro_jumpIfBelow_15 (⟨by unfold cbelow isNum; first | (rw [if_neg (fun z => h1 z.1)]; done) | (rw [if_neg (fun z => h2 z.2)]; done), by unfold cbelow isNum; first | (rw [if_neg (fun z => h1 z.1)]; done) | (rw [if_neg (fun z => h2 z.2)]; done)⟩)
    · exact absurd rfl c_4
end
