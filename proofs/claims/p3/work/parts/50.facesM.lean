set_option maxHeartbeats 4000000 in
set_option maxRecDepth 100000 in
theorem c_Mod_thrown {l : Launch} {D : va_G} {u : Nat → ClassId} {ad : Nat → Nat} {M : CS}  : Cm l D u ad y_Mod_thrown b_Mod_thrown 1 (some .int) { frames := 0, cells := 0, slots := 0, locals := 0 } [.ref (ad 0)] (M) (some (.int (M.1 21 0))) (M) := by
  refine ct_of (by decide) (Nat.le_of_ble_eq_true rfl) ?_
  intro Γ _ _ hN h r
  refine g_at (L' := [some (.ref (ad 0))]) rfl rfl rfl ?_
  refine g_aload_n h d_Mod_thrown_0 rfl rfl ?_
  refine gf_Mod_thrown h f_Mod_64 d_Mod_thrown_1 ?_
  exact g_iret h r d_Mod_thrown_4 (⟨rfl, rfl⟩)
set_option maxHeartbeats 4000000 in
set_option maxRecDepth 100000 in
theorem c_Mod_number {l : Launch} {D : va_G} {u : Nat → ClassId} {ad : Nat → Nat} {M : CS} {g v : Int32} : Cm l D u ad y_Mod_number b_Mod_number 3 none { frames := 1, cells := 0, slots := 0, locals := 21 } [.ref (ad 0), .int g, .int v] (M) (none) (mnumber M g v) := by
  refine ct_of (by decide) (Nat.le_of_ble_eq_true rfl) ?_
  intro Γ _ _ hN h r
  refine g_at (L' := [some (.ref (ad 0)), some (.int g), some (.int v)]) rfl rfl rfl ?_
  refine g_aload_n h d_Mod_number_0 rfl rfl ?_
  refine g_aload_n h d_Mod_number_1 rfl rfl ?_
  refine g_iload_n h d_Mod_number_2 rfl rfl ?_
  refine g_dVi h tb_good (c_Mod_badGlobal) (q := 0) (by decide) rfl rfl v_Mod_78 nm_Mod_badGlobal rfl ⟨rfl, rfl, Nat.le_of_ble_eq_true rfl, Nat.le_of_ble_eq_true rfl, Nat.zero_le _, Nat.zero_le _⟩ rfl (Nat.le_of_ble_eq_true rfl) d_Mod_number_3 ?_
  by_cases hb : g < 0 ∨ 5 < g
  · rw [if_pos hb]
    refine g_if_eq (tgt := 13) h d_Mod_number_6 (by decide) (fun c_6 => ?_) (fun c_6 => ?_)
    · exact absurd c_6 (by decide)
    · skip
      · refine g_iconst (v := 1) h d_Mod_number_9 (by decide) ?_
        refine g_goto (tgt := 14) h d_Mod_number_10 (by decide) ?_
        refine pf_Mod_thrown h f_Mod_64 d_Mod_number_14 ?_
        refine g_aload_n h d_Mod_number_17 rfl rfl ?_
        refine gf_Mod_thrown h f_Mod_64 d_Mod_number_18 ?_
        simp only [sI_1, sI_2, sJ_1, sJ_2, sJ_3, sR_1, sR_2, sR_3, Nat.reduceEqDiff, Nat.zero_ne_one, Nat.one_ne_zero, Nat.succ_ne_zero, reduceCtorEq, false_and, if_false, true_and, and_self, if_true, and_true, and_false, reduceIte]
        refine g_if_ne (tgt := 32) h d_Mod_number_21 (by decide) (fun c_21 => ?_) (fun c_21 => ?_)
        · exact g_vret h r d_Mod_number_32 (⟨rfl, by simp [mnumber, hb]⟩)
        · exact absurd c_21 (by decide)
  · rw [if_neg hb]
    obtain ⟨hj, hje⟩ := gl_num hb
    refine g_if_eq (tgt := 13) h d_Mod_number_6 (by decide) (fun c_6 => ?_) (fun c_6 => ?_)
    · skip
      · refine g_iconst (v := 0) h d_Mod_number_13 (by decide) ?_
        refine pf_Mod_thrown h f_Mod_64 d_Mod_number_14 ?_
        refine g_aload_n h d_Mod_number_17 rfl rfl ?_
        refine gf_Mod_thrown h f_Mod_64 d_Mod_number_18 ?_
        simp only [sI_1, sI_2, sJ_1, sJ_2, sJ_3, sR_1, sR_2, sR_3, Nat.reduceEqDiff, Nat.zero_ne_one, Nat.one_ne_zero, Nat.succ_ne_zero, reduceCtorEq, false_and, if_false, true_and, and_self, if_true, and_true, and_false, reduceIte]
        refine g_if_ne (tgt := 32) h d_Mod_number_21 (by decide) (fun c_21 => ?_) (fun c_21 => ?_)
        · exact absurd rfl c_21
        · refine g_aload_n h d_Mod_number_24 rfl rfl ?_
          refine gf_Mod_globals h f_Mod_22 d_Mod_number_25 ?_
          refine g_iload_n h d_Mod_number_28 rfl rfl ?_
          refine g_iload_n h d_Mod_number_29 rfl rfl ?_
          refine g_i2l h d_Mod_number_30 ?_
          refine pj_globals h hje hj d_Mod_number_31 ?_
          exact g_vret h r d_Mod_number_32 (⟨rfl, by simp [mnumber, hb]⟩)
    · exact absurd rfl c_6
set_option maxHeartbeats 4000000 in
set_option maxRecDepth 100000 in
theorem c_Mod_global {l : Launch} {D : va_G} {u : Nat → ClassId} {ad : Nat → Nat} {M : CS} {g : Int32} : Cm l D u ad y_Mod_global b_Mod_global 2 (some .long) { frames := 1, cells := 0, slots := 0, locals := 21 } [.ref (ad 0), .int g] (M) (some (.long (mglobal M g).1)) ((mglobal M g).2) := by
  refine ct_of (by decide) (Nat.le_of_ble_eq_true rfl) ?_
  intro Γ _ _ hN h r
  refine g_at (L' := [some (.ref (ad 0)), some (.int g)]) rfl rfl rfl ?_
  refine g_aload_n h d_Mod_global_0 rfl rfl ?_
  refine g_aload_n h d_Mod_global_1 rfl rfl ?_
  refine g_iload_n h d_Mod_global_2 rfl rfl ?_
  refine g_dVi h tb_good (c_Mod_badGlobal) (q := 0) (by decide) rfl rfl v_Mod_78 nm_Mod_badGlobal rfl ⟨rfl, rfl, Nat.le_of_ble_eq_true rfl, Nat.le_of_ble_eq_true rfl, Nat.zero_le _, Nat.zero_le _⟩ rfl (Nat.le_of_ble_eq_true rfl) d_Mod_global_3 ?_
  by_cases hb : g < 0 ∨ 5 < g
  · rw [if_pos hb]
    refine g_if_eq (tgt := 13) h d_Mod_global_6 (by decide) (fun c_6 => ?_) (fun c_6 => ?_)
    · exact absurd c_6 (by decide)
    · skip
      · refine g_iconst (v := 1) h d_Mod_global_9 (by decide) ?_
        refine g_goto (tgt := 14) h d_Mod_global_10 (by decide) ?_
        refine pf_Mod_thrown h f_Mod_64 d_Mod_global_14 ?_
        refine g_aload_n h d_Mod_global_17 rfl rfl ?_
        refine gf_Mod_thrown h f_Mod_64 d_Mod_global_18 ?_
        simp only [sI_1, sI_2, sJ_1, sJ_2, sJ_3, sR_1, sR_2, sR_3, Nat.reduceEqDiff, Nat.zero_ne_one, Nat.one_ne_zero, Nat.succ_ne_zero, reduceCtorEq, false_and, if_false, true_and, and_self, if_true, and_true, and_false, reduceIte]
        refine g_if_ne (tgt := 33) h d_Mod_global_21 (by decide) (fun c_21 => ?_) (fun c_21 => ?_)
        · refine g_lconst (v := 0) h d_Mod_global_33 (by decide) ?_
          exact g_lret h r d_Mod_global_34 (⟨by first | (simp [mglobal, hb]; done) | (simp only [mglobal, if_neg hb]; rfl), by simp [mglobal, hb]⟩)
        · exact absurd c_21 (by decide)
  · rw [if_neg hb]
    obtain ⟨hj, hje⟩ := gl_num hb
    refine g_if_eq (tgt := 13) h d_Mod_global_6 (by decide) (fun c_6 => ?_) (fun c_6 => ?_)
    · skip
      · refine g_iconst (v := 0) h d_Mod_global_13 (by decide) ?_
        refine pf_Mod_thrown h f_Mod_64 d_Mod_global_14 ?_
        refine g_aload_n h d_Mod_global_17 rfl rfl ?_
        refine gf_Mod_thrown h f_Mod_64 d_Mod_global_18 ?_
        simp only [sI_1, sI_2, sJ_1, sJ_2, sJ_3, sR_1, sR_2, sR_3, Nat.reduceEqDiff, Nat.zero_ne_one, Nat.one_ne_zero, Nat.succ_ne_zero, reduceCtorEq, false_and, if_false, true_and, and_self, if_true, and_true, and_false, reduceIte]
        refine g_if_ne (tgt := 33) h d_Mod_global_21 (by decide) (fun c_21 => ?_) (fun c_21 => ?_)
        · exact absurd rfl c_21
        · refine g_aload_n h d_Mod_global_24 rfl rfl ?_
          refine gf_Mod_globals h f_Mod_22 d_Mod_global_25 ?_
          refine g_iload_n h d_Mod_global_28 rfl rfl ?_
          refine gj_globals h hje hj d_Mod_global_29 ?_
          refine g_goto (tgt := 34) h d_Mod_global_30 (by decide) ?_
          exact g_lret h r d_Mod_global_34 (⟨by first | (simp [mglobal, hb]; done) | (simp only [mglobal, if_neg hb]; rfl), by simp [mglobal, hb]⟩)
    · exact absurd rfl c_6
set_option maxHeartbeats 4000000 in
set_option maxRecDepth 100000 in
theorem c_Mod_move {l : Launch} {D : va_G} {u : Nat → ClassId} {ad : Nat → Nat} {M : CS} {g k : Int32} : Cm l D u ad y_Mod_move b_Mod_move 3 none { frames := 1, cells := 0, slots := 0, locals := 21 } [.ref (ad 0), .int g, .int k] (M) (none) (mmove M g k) := by
  refine ct_of (by decide) (Nat.le_of_ble_eq_true rfl) ?_
  intro Γ _ _ hN h r
  refine g_at (L' := [some (.ref (ad 0)), some (.int g), some (.int k)]) rfl rfl rfl ?_
  refine g_aload_n h d_Mod_move_0 rfl rfl ?_
  refine g_aload_n h d_Mod_move_1 rfl rfl ?_
  refine g_iload_n h d_Mod_move_2 rfl rfl ?_
  refine g_dVi h tb_good (c_Mod_badGlobal) (q := 0) (by decide) rfl rfl v_Mod_78 nm_Mod_badGlobal rfl ⟨rfl, rfl, Nat.le_of_ble_eq_true rfl, Nat.le_of_ble_eq_true rfl, Nat.zero_le _, Nat.zero_le _⟩ rfl (Nat.le_of_ble_eq_true rfl) d_Mod_move_3 ?_
  by_cases hb : g < 0 ∨ 5 < g
  · rw [if_pos hb]
    refine g_if_ne (tgt := 19) h d_Mod_move_6 (by decide) (fun c_6 => ?_) (fun c_6 => ?_)
    · skip
      · refine g_iconst (v := 1) h d_Mod_move_19 (by decide) ?_
        refine g_goto (tgt := 24) h d_Mod_move_20 (by decide) ?_
        refine pf_Mod_thrown h f_Mod_64 d_Mod_move_24 ?_
        refine g_aload_n h d_Mod_move_27 rfl rfl ?_
        refine gf_Mod_thrown h f_Mod_64 d_Mod_move_28 ?_
        simp only [sI_1, sI_2, sJ_1, sJ_2, sJ_3, sR_1, sR_2, sR_3, Nat.reduceEqDiff, Nat.zero_ne_one, Nat.one_ne_zero, Nat.succ_ne_zero, reduceCtorEq, false_and, if_false, true_and, and_self, if_true, and_true, and_false, reduceIte]
        refine g_if_ne (tgt := 56) h d_Mod_move_31 (by decide) (fun c_31 => ?_) (fun c_31 => ?_)
        · exact g_vret h r d_Mod_move_56 (⟨rfl, by unfold mmove; first | (rw [if_pos (Or.inl hb)]; done) | (rw [if_pos (Or.inr (Or.inl c_11))]; done) | (rw [if_pos (Or.inr (Or.inr (Int32.not_le.mp c_16)))]; done) | (rw [if_neg (fun z => z.elim hb (fun z => z.elim c_11 (Int32.not_lt.mpr c_16))), if_pos (Int32.not_le.mp c_40)]; done) | (rw [if_neg (fun z => z.elim hb (fun z => z.elim c_11 (Int32.not_lt.mpr c_16))), if_neg (Int32.not_lt.mpr c_40)]; rfl)⟩)
        · exact absurd c_31 (by decide)
    · exact absurd c_6 (by decide)
  · rw [if_neg hb]
    obtain ⟨hj, hje⟩ := gl_num hb
    refine g_if_ne (tgt := 19) h d_Mod_move_6 (by decide) (fun c_6 => ?_) (fun c_6 => ?_)
    · exact absurd rfl c_6
    · refine g_iload_n h d_Mod_move_9 rfl rfl ?_
      refine g_iconst (v := -1) h d_Mod_move_10 (by decide) ?_
      refine g_icmp_lt (tgt := 19) h d_Mod_move_11 (by decide) (fun c_11 => ?_) (fun c_11 => ?_)
      · skip
        · refine g_iconst (v := 1) h d_Mod_move_19 (by decide) ?_
          refine g_goto (tgt := 24) h d_Mod_move_20 (by decide) ?_
          refine pf_Mod_thrown h f_Mod_64 d_Mod_move_24 ?_
          refine g_aload_n h d_Mod_move_27 rfl rfl ?_
          refine gf_Mod_thrown h f_Mod_64 d_Mod_move_28 ?_
          simp only [sI_1, sI_2, sJ_1, sJ_2, sJ_3, sR_1, sR_2, sR_3, Nat.reduceEqDiff, Nat.zero_ne_one, Nat.one_ne_zero, Nat.succ_ne_zero, reduceCtorEq, false_and, if_false, true_and, and_self, if_true, and_true, and_false, reduceIte]
          refine g_if_ne (tgt := 56) h d_Mod_move_31 (by decide) (fun c_31 => ?_) (fun c_31 => ?_)
          · exact g_vret h r d_Mod_move_56 (⟨rfl, by unfold mmove; first | (rw [if_pos (Or.inl hb)]; done) | (rw [if_pos (Or.inr (Or.inl c_11))]; done) | (rw [if_pos (Or.inr (Or.inr (Int32.not_le.mp c_16)))]; done) | (rw [if_neg (fun z => z.elim hb (fun z => z.elim c_11 (Int32.not_lt.mpr c_16))), if_pos (Int32.not_le.mp c_40)]; done) | (rw [if_neg (fun z => z.elim hb (fun z => z.elim c_11 (Int32.not_lt.mpr c_16))), if_neg (Int32.not_lt.mpr c_40)]; rfl)⟩)
          · exact absurd c_31 (by decide)
      · refine g_iload_n h d_Mod_move_14 rfl rfl ?_
        refine g_iconst (v := 5) h d_Mod_move_15 (by decide) ?_
        refine g_icmp_le (tgt := 23) h d_Mod_move_16 (by decide) (fun c_16 => ?_) (fun c_16 => ?_)
        · skip
          · refine g_iconst (v := 0) h d_Mod_move_23 (by decide) ?_
            refine pf_Mod_thrown h f_Mod_64 d_Mod_move_24 ?_
            refine g_aload_n h d_Mod_move_27 rfl rfl ?_
            refine gf_Mod_thrown h f_Mod_64 d_Mod_move_28 ?_
            simp only [sI_1, sI_2, sJ_1, sJ_2, sJ_3, sR_1, sR_2, sR_3, Nat.reduceEqDiff, Nat.zero_ne_one, Nat.one_ne_zero, Nat.succ_ne_zero, reduceCtorEq, false_and, if_false, true_and, and_self, if_true, and_true, and_false, reduceIte]
            refine g_if_ne (tgt := 56) h d_Mod_move_31 (by decide) (fun c_31 => ?_) (fun c_31 => ?_)
            · exact absurd rfl c_31
            · refine g_aload_n h d_Mod_move_34 rfl rfl ?_
              refine gf_Mod_globals h f_Mod_22 d_Mod_move_35 ?_
              refine g_iload_n h d_Mod_move_38 rfl rfl ?_
              refine g_iload_n h d_Mod_move_39 rfl rfl ?_
              refine g_if_ge (tgt := 49) h d_Mod_move_40 (by decide) (fun c_40 => ?_) (fun c_40 => ?_)
              · obtain ⟨hk, hke⟩ := i32_num (m := 5) (by decide) (Int32.not_lt.mpr c_40) (Int32.not_lt.mpr c_16)
                refine g_aload_n h d_Mod_move_49 rfl rfl ?_
                refine gf_Mod_globals h f_Mod_22 d_Mod_move_50 ?_
                refine g_iload_n h d_Mod_move_53 rfl rfl ?_
                refine gj_globals h hke (by omega) d_Mod_move_54 ?_
                refine pj_globals h hje hj d_Mod_move_55 ?_
                exact g_vret h r d_Mod_move_56 (⟨rfl, by unfold mmove; first | (rw [if_pos (Or.inl hb)]; done) | (rw [if_pos (Or.inr (Or.inl c_11))]; done) | (rw [if_pos (Or.inr (Or.inr (Int32.not_le.mp c_16)))]; done) | (rw [if_neg (fun z => z.elim hb (fun z => z.elim c_11 (Int32.not_lt.mpr c_16))), if_pos (Int32.not_le.mp c_40)]; done) | (rw [if_neg (fun z => z.elim hb (fun z => z.elim c_11 (Int32.not_lt.mpr c_16))), if_neg (Int32.not_lt.mpr c_40)]; rfl)⟩)
              · refine g_ldc2 (v := -1000000000000) h d_Mod_move_43 k_Mod_62 ?_
                refine g_goto (tgt := 55) h d_Mod_move_46 (by decide) ?_
                refine pj_globals h hje hj d_Mod_move_55 ?_
                exact g_vret h r d_Mod_move_56 (⟨rfl, by unfold mmove; first | (rw [if_pos (Or.inl hb)]; done) | (rw [if_pos (Or.inr (Or.inl c_11))]; done) | (rw [if_pos (Or.inr (Or.inr (Int32.not_le.mp c_16)))]; done) | (rw [if_neg (fun z => z.elim hb (fun z => z.elim c_11 (Int32.not_lt.mpr c_16))), if_pos (Int32.not_le.mp c_40)]; done) | (rw [if_neg (fun z => z.elim hb (fun z => z.elim c_11 (Int32.not_lt.mpr c_16))), if_neg (Int32.not_lt.mpr c_40)]; rfl)⟩)
        · skip
          · refine g_iconst (v := 1) h d_Mod_move_19 (by decide) ?_
            refine g_goto (tgt := 24) h d_Mod_move_20 (by decide) ?_
            refine pf_Mod_thrown h f_Mod_64 d_Mod_move_24 ?_
            refine g_aload_n h d_Mod_move_27 rfl rfl ?_
            refine gf_Mod_thrown h f_Mod_64 d_Mod_move_28 ?_
            simp only [sI_1, sI_2, sJ_1, sJ_2, sJ_3, sR_1, sR_2, sR_3, Nat.reduceEqDiff, Nat.zero_ne_one, Nat.one_ne_zero, Nat.succ_ne_zero, reduceCtorEq, false_and, if_false, true_and, and_self, if_true, and_true, and_false, reduceIte]
            refine g_if_ne (tgt := 56) h d_Mod_move_31 (by decide) (fun c_31 => ?_) (fun c_31 => ?_)
            · exact g_vret h r d_Mod_move_56 (⟨rfl, by unfold mmove; first | (rw [if_pos (Or.inl hb)]; done) | (rw [if_pos (Or.inr (Or.inl c_11))]; done) | (rw [if_pos (Or.inr (Or.inr (Int32.not_le.mp c_16)))]; done) | (rw [if_neg (fun z => z.elim hb (fun z => z.elim c_11 (Int32.not_lt.mpr c_16))), if_pos (Int32.not_le.mp c_40)]; done) | (rw [if_neg (fun z => z.elim hb (fun z => z.elim c_11 (Int32.not_lt.mpr c_16))), if_neg (Int32.not_lt.mpr c_40)]; rfl)⟩)
            · exact absurd c_31 (by decide)
set_option maxHeartbeats 4000000 in
set_option maxRecDepth 100000 in
theorem c_Mod_code {l : Launch} {D : va_G} {u : Nat → ClassId} {ad : Nat → Nat} {M : CS} {f i op a b c : Int32} : Cm l D u ad y_Mod_code b_Mod_code 8 none { frames := 0, cells := 0, slots := 0, locals := 0 } [.ref (ad 0), .int f, .int i, .int op, .int a, .int b, .int c] (M) (none) (mcode M f i op a b c) := by
  refine ct_of (by decide) (Nat.le_of_ble_eq_true rfl) ?_
  intro Γ _ _ hN h r
  refine g_at (L' := [some (.ref (ad 0)), some (.int f), some (.int i), some (.int op), some (.int a), some (.int b), some (.int c), none]) rfl rfl rfl ?_
  refine g_aload_n h d_Mod_code_0 rfl rfl ?_
  refine g_iload_n h d_Mod_code_1 rfl rfl ?_
  refine g_if_lt (tgt := 31) h d_Mod_code_2 (by decide) (fun c_2 => ?_) (fun c_2 => ?_)
  · skip
    · refine g_iconst (v := 1) h d_Mod_code_31 (by decide) ?_
      refine g_goto (tgt := 36) h d_Mod_code_32 (by decide) ?_
      refine pf_Mod_thrown h f_Mod_64 d_Mod_code_36 ?_
      refine g_aload_n h d_Mod_code_39 rfl rfl ?_
      refine gf_Mod_thrown h f_Mod_64 d_Mod_code_40 ?_
      simp only [sI_1, sI_2, sJ_1, sJ_2, sJ_3, sR_1, sR_2, sR_3, Nat.reduceEqDiff, Nat.zero_ne_one, Nat.one_ne_zero, Nat.succ_ne_zero, reduceCtorEq, false_and, if_false, true_and, and_self, if_true, and_true, and_false, reduceIte]
      refine g_if_eq (tgt := 47) h d_Mod_code_43 (by decide) (fun c_43 => ?_) (fun c_43 => ?_)
      · exact absurd c_43 (by decide)
      · exact g_vret h r d_Mod_code_46 (⟨rfl, by unfold mcode; rw [if_pos (by first | exact .inl c_2 | exact .inr (.inl c_7) | exact .inr (.inr (.inl c_11)) | exact .inr (.inr (.inr (.inl c_17))) | exact .inr (.inr (.inr (.inr (.inl c_22)))) | exact .inr (.inr (.inr (.inr (.inr (Int32.not_le.mp c_28))))))]⟩)
  · refine g_iload_n h d_Mod_code_5 rfl rfl ?_
    refine g_iconst (v := 3) h d_Mod_code_6 (by decide) ?_
    refine g_icmp_gt (tgt := 31) h d_Mod_code_7 (by decide) (fun c_7 => ?_) (fun c_7 => ?_)
    · skip
      · refine g_iconst (v := 1) h d_Mod_code_31 (by decide) ?_
        refine g_goto (tgt := 36) h d_Mod_code_32 (by decide) ?_
        refine pf_Mod_thrown h f_Mod_64 d_Mod_code_36 ?_
        refine g_aload_n h d_Mod_code_39 rfl rfl ?_
        refine gf_Mod_thrown h f_Mod_64 d_Mod_code_40 ?_
        simp only [sI_1, sI_2, sJ_1, sJ_2, sJ_3, sR_1, sR_2, sR_3, Nat.reduceEqDiff, Nat.zero_ne_one, Nat.one_ne_zero, Nat.succ_ne_zero, reduceCtorEq, false_and, if_false, true_and, and_self, if_true, and_true, and_false, reduceIte]
        refine g_if_eq (tgt := 47) h d_Mod_code_43 (by decide) (fun c_43 => ?_) (fun c_43 => ?_)
        · exact absurd c_43 (by decide)
        · exact g_vret h r d_Mod_code_46 (⟨rfl, by unfold mcode; rw [if_pos (by first | exact .inl c_2 | exact .inr (.inl c_7) | exact .inr (.inr (.inl c_11)) | exact .inr (.inr (.inr (.inl c_17))) | exact .inr (.inr (.inr (.inr (.inl c_22)))) | exact .inr (.inr (.inr (.inr (.inr (Int32.not_le.mp c_28))))))]⟩)
    · refine g_iload_n h d_Mod_code_10 rfl rfl ?_
      refine g_if_lt (tgt := 31) h d_Mod_code_11 (by decide) (fun c_11 => ?_) (fun c_11 => ?_)
      · skip
        · refine g_iconst (v := 1) h d_Mod_code_31 (by decide) ?_
          refine g_goto (tgt := 36) h d_Mod_code_32 (by decide) ?_
          refine pf_Mod_thrown h f_Mod_64 d_Mod_code_36 ?_
          refine g_aload_n h d_Mod_code_39 rfl rfl ?_
          refine gf_Mod_thrown h f_Mod_64 d_Mod_code_40 ?_
          simp only [sI_1, sI_2, sJ_1, sJ_2, sJ_3, sR_1, sR_2, sR_3, Nat.reduceEqDiff, Nat.zero_ne_one, Nat.one_ne_zero, Nat.succ_ne_zero, reduceCtorEq, false_and, if_false, true_and, and_self, if_true, and_true, and_false, reduceIte]
          refine g_if_eq (tgt := 47) h d_Mod_code_43 (by decide) (fun c_43 => ?_) (fun c_43 => ?_)
          · exact absurd c_43 (by decide)
          · exact g_vret h r d_Mod_code_46 (⟨rfl, by unfold mcode; rw [if_pos (by first | exact .inl c_2 | exact .inr (.inl c_7) | exact .inr (.inr (.inl c_11)) | exact .inr (.inr (.inr (.inl c_17))) | exact .inr (.inr (.inr (.inr (.inl c_22)))) | exact .inr (.inr (.inr (.inr (.inr (Int32.not_le.mp c_28))))))]⟩)
      · refine g_iload_n h d_Mod_code_14 rfl rfl ?_
        refine g_bipush (v := 15) h d_Mod_code_15 (by decide) ?_
        refine g_icmp_gt (tgt := 31) h d_Mod_code_17 (by decide) (fun c_17 => ?_) (fun c_17 => ?_)
        · skip
          · refine g_iconst (v := 1) h d_Mod_code_31 (by decide) ?_
            refine g_goto (tgt := 36) h d_Mod_code_32 (by decide) ?_
            refine pf_Mod_thrown h f_Mod_64 d_Mod_code_36 ?_
            refine g_aload_n h d_Mod_code_39 rfl rfl ?_
            refine gf_Mod_thrown h f_Mod_64 d_Mod_code_40 ?_
            simp only [sI_1, sI_2, sJ_1, sJ_2, sJ_3, sR_1, sR_2, sR_3, Nat.reduceEqDiff, Nat.zero_ne_one, Nat.one_ne_zero, Nat.succ_ne_zero, reduceCtorEq, false_and, if_false, true_and, and_self, if_true, and_true, and_false, reduceIte]
            refine g_if_eq (tgt := 47) h d_Mod_code_43 (by decide) (fun c_43 => ?_) (fun c_43 => ?_)
            · exact absurd c_43 (by decide)
            · exact g_vret h r d_Mod_code_46 (⟨rfl, by unfold mcode; rw [if_pos (by first | exact .inl c_2 | exact .inr (.inl c_7) | exact .inr (.inr (.inl c_11)) | exact .inr (.inr (.inr (.inl c_17))) | exact .inr (.inr (.inr (.inr (.inl c_22)))) | exact .inr (.inr (.inr (.inr (.inr (Int32.not_le.mp c_28))))))]⟩)
        · refine g_iload_n h d_Mod_code_20 rfl rfl ?_
          refine g_iconst (v := -1) h d_Mod_code_21 (by decide) ?_
          refine g_icmp_lt (tgt := 31) h d_Mod_code_22 (by decide) (fun c_22 => ?_) (fun c_22 => ?_)
          · skip
            · refine g_iconst (v := 1) h d_Mod_code_31 (by decide) ?_
              refine g_goto (tgt := 36) h d_Mod_code_32 (by decide) ?_
              refine pf_Mod_thrown h f_Mod_64 d_Mod_code_36 ?_
              refine g_aload_n h d_Mod_code_39 rfl rfl ?_
              refine gf_Mod_thrown h f_Mod_64 d_Mod_code_40 ?_
              simp only [sI_1, sI_2, sJ_1, sJ_2, sJ_3, sR_1, sR_2, sR_3, Nat.reduceEqDiff, Nat.zero_ne_one, Nat.one_ne_zero, Nat.succ_ne_zero, reduceCtorEq, false_and, if_false, true_and, and_self, if_true, and_true, and_false, reduceIte]
              refine g_if_eq (tgt := 47) h d_Mod_code_43 (by decide) (fun c_43 => ?_) (fun c_43 => ?_)
              · exact absurd c_43 (by decide)
              · exact g_vret h r d_Mod_code_46 (⟨rfl, by unfold mcode; rw [if_pos (by first | exact .inl c_2 | exact .inr (.inl c_7) | exact .inr (.inr (.inl c_11)) | exact .inr (.inr (.inr (.inl c_17))) | exact .inr (.inr (.inr (.inr (.inl c_22)))) | exact .inr (.inr (.inr (.inr (.inr (Int32.not_le.mp c_28))))))]⟩)
          · refine g_iload_n h d_Mod_code_25 rfl rfl ?_
            refine g_bipush (v := 21) h d_Mod_code_26 (by decide) ?_
            refine g_icmp_le (tgt := 35) h d_Mod_code_28 (by decide) (fun c_28 => ?_) (fun c_28 => ?_)
            · skip
              · refine g_iconst (v := 0) h d_Mod_code_35 (by decide) ?_
                refine pf_Mod_thrown h f_Mod_64 d_Mod_code_36 ?_
                refine g_aload_n h d_Mod_code_39 rfl rfl ?_
                refine gf_Mod_thrown h f_Mod_64 d_Mod_code_40 ?_
                simp only [sI_1, sI_2, sJ_1, sJ_2, sJ_3, sR_1, sR_2, sR_3, Nat.reduceEqDiff, Nat.zero_ne_one, Nat.one_ne_zero, Nat.succ_ne_zero, reduceCtorEq, false_and, if_false, true_and, and_self, if_true, and_true, and_false, reduceIte]
                refine g_if_eq (tgt := 47) h d_Mod_code_43 (by decide) (fun c_43 => ?_) (fun c_43 => ?_)
                · obtain ⟨h1, h1e⟩ := i32_num (m := 3) (by decide) c_2 (Int32.not_lt.mpr (Int32.not_lt.mp c_7))
                  obtain ⟨h2, h2e⟩ := i32_num (m := 15) (by decide) c_11 (Int32.not_lt.mpr (Int32.not_lt.mp c_17))
                  have hx : f * 16 + i = nI (mcodeAt f i) := by
                    unfold mcodeAt
                    rw [← nI_at16, ← h1e, ← h2e]
                  have hx2 : mcodeAt f i < 64 := by unfold mcodeAt; omega
                  refine g_iload_n h d_Mod_code_47 rfl rfl ?_
                  refine g_bipush (v := 16) h d_Mod_code_48 (by decide) ?_
                  refine g_imul h d_Mod_code_50 ?_
                  refine g_iload_n h d_Mod_code_51 rfl rfl ?_
                  refine g_iadd h d_Mod_code_52 ?_
                  refine g_istore h d_Mod_code_53 rfl (by rw [hN]; decide) ?_
                  refine g_aload_n h d_Mod_code_55 rfl rfl ?_
                  refine gf_Mod_ops h f_Mod_7 d_Mod_code_56 ?_
                  refine g_iload h d_Mod_code_59 rfl ?_
                  refine g_iload_n h d_Mod_code_61 rfl rfl ?_
                  refine pi_ops h hx hx2 d_Mod_code_62 ?_
                  refine g_aload_n h d_Mod_code_63 rfl rfl ?_
                  refine gf_Mod_as h f_Mod_13 d_Mod_code_64 ?_
                  refine g_iload h d_Mod_code_67 rfl ?_
                  refine g_iload h d_Mod_code_69 rfl ?_
                  refine pi_as h hx hx2 d_Mod_code_71 ?_
                  refine g_aload_n h d_Mod_code_72 rfl rfl ?_
                  refine gf_Mod_bs h f_Mod_16 d_Mod_code_73 ?_
                  refine g_iload h d_Mod_code_76 rfl ?_
                  refine g_iload h d_Mod_code_78 rfl ?_
                  refine pi_bs h hx hx2 d_Mod_code_80 ?_
                  refine g_aload_n h d_Mod_code_81 rfl rfl ?_
                  refine gf_Mod_cs h f_Mod_19 d_Mod_code_82 ?_
                  refine g_iload h d_Mod_code_85 rfl ?_
                  refine g_iload h d_Mod_code_87 rfl ?_
                  refine pi_cs h hx hx2 d_Mod_code_89 ?_
                  exact g_vret h r d_Mod_code_90 (⟨rfl, by unfold mcode; rw [if_neg (fun z => by rcases z with z | z | z | z | z | z <;> first | exact c_2 z | exact c_7 z | exact c_11 z | exact c_17 z | exact c_22 z | exact Int32.not_lt.mpr c_28 z)]⟩)
                · exact absurd rfl c_43
            · skip
              · refine g_iconst (v := 1) h d_Mod_code_31 (by decide) ?_
                refine g_goto (tgt := 36) h d_Mod_code_32 (by decide) ?_
                refine pf_Mod_thrown h f_Mod_64 d_Mod_code_36 ?_
                refine g_aload_n h d_Mod_code_39 rfl rfl ?_
                refine gf_Mod_thrown h f_Mod_64 d_Mod_code_40 ?_
                simp only [sI_1, sI_2, sJ_1, sJ_2, sJ_3, sR_1, sR_2, sR_3, Nat.reduceEqDiff, Nat.zero_ne_one, Nat.one_ne_zero, Nat.succ_ne_zero, reduceCtorEq, false_and, if_false, true_and, and_self, if_true, and_true, and_false, reduceIte]
                refine g_if_eq (tgt := 47) h d_Mod_code_43 (by decide) (fun c_43 => ?_) (fun c_43 => ?_)
                · exact absurd c_43 (by decide)
                · exact g_vret h r d_Mod_code_46 (⟨rfl, by unfold mcode; rw [if_pos (by first | exact .inl c_2 | exact .inr (.inl c_7) | exact .inr (.inr (.inl c_11)) | exact .inr (.inr (.inr (.inl c_17))) | exact .inr (.inr (.inr (.inr (.inl c_22)))) | exact .inr (.inr (.inr (.inr (.inr (Int32.not_le.mp c_28))))))]⟩)
set_option maxHeartbeats 4000000 in
set_option maxRecDepth 100000 in
theorem c_Mod_full {l : Launch} {D : va_G} {u : Nat → ClassId} {ad : Nat → Nat} {M : CS} (hok : okM M) : Cm l D u ad y_Mod_full b_Mod_full 1 (some .int) { frames := 5, cells := 0, slots := 0, locals := 110 } [.ref (ad 0)] (M) (some (.int (mwhole (sI M 21 0 0)).1)) ((mwhole (sI M 21 0 0)).2) := by
  refine ct_of (by decide) (Nat.le_of_ble_eq_true rfl) ?_
  intro Γ _ _ hN h r
  refine g_at (L' := [some (.ref (ad 0))]) rfl rfl rfl ?_
  refine g_aload_n h d_Mod_full_0 rfl rfl ?_
  refine g_iconst (v := 0) h d_Mod_full_1 (by decide) ?_
  refine pf_Mod_thrown h f_Mod_64 d_Mod_full_2 ?_
  refine g_aload_n h d_Mod_full_5 rfl rfl ?_
  refine g_dVi h tb_good (c_Mod_whole (okM_keep (by decide) hok)) (q := 0) (by decide) rfl rfl v_Mod_121 nm_Mod_whole rfl ⟨rfl, rfl, Nat.le_of_ble_eq_true rfl, Nat.le_of_ble_eq_true rfl, Nat.zero_le _, Nat.zero_le _⟩ rfl (Nat.le_of_ble_eq_true rfl) d_Mod_full_6 ?_
  exact g_iret h r d_Mod_full_9 (⟨rfl, rfl⟩)
set_option maxHeartbeats 4000000 in
set_option maxRecDepth 100000 in
theorem c_Mod_make {l : Launch} {D : va_G} {u : Nat → ClassId} {ad : Nat → Nat} {M : CS} {g f : Int32} (hok : okM M) : Cm l D u ad y_Mod_make b_Mod_make 4 (some .int) { frames := 6, cells := 0, slots := 0, locals := 134 } [.ref (ad 0), .int g, .int f] (M) (some (.int (mmake M g f).1)) ((mmake M g f).2) := by
  refine ct_of (by decide) (Nat.le_of_ble_eq_true rfl) ?_
  intro Γ _ _ hN h r
  refine g_at (L' := [some (.ref (ad 0)), some (.int g), some (.int f), none]) rfl rfl rfl ?_
  refine g_aload_n h d_Mod_make_0 rfl rfl ?_
  refine g_aload_n h d_Mod_make_1 rfl rfl ?_
  refine g_iload_n h d_Mod_make_2 rfl rfl ?_
  refine g_dVi h tb_good (c_Mod_badGlobal) (q := 0) (by decide) rfl rfl v_Mod_78 nm_Mod_badGlobal rfl ⟨rfl, rfl, Nat.le_of_ble_eq_true rfl, Nat.le_of_ble_eq_true rfl, Nat.zero_le _, Nat.zero_le _⟩ rfl (Nat.le_of_ble_eq_true rfl) d_Mod_make_3 ?_
  by_cases hb : g < 0 ∨ 5 < g
  · rw [if_pos hb]
    refine g_if_ne (tgt := 19) h d_Mod_make_6 (by decide) (fun c_6 => ?_) (fun c_6 => ?_)
    · skip
      · refine g_iconst (v := 1) h d_Mod_make_19 (by decide) ?_
        refine g_goto (tgt := 24) h d_Mod_make_20 (by decide) ?_
        refine pf_Mod_thrown h f_Mod_64 d_Mod_make_24 ?_
        refine g_aload_n h d_Mod_make_27 rfl rfl ?_
        refine gf_Mod_thrown h f_Mod_64 d_Mod_make_28 ?_
        simp only [sI_1, sI_2, sJ_1, sJ_2, sJ_3, sR_1, sR_2, sR_3, Nat.reduceEqDiff, Nat.zero_ne_one, Nat.one_ne_zero, Nat.succ_ne_zero, reduceCtorEq, false_and, if_false, true_and, and_self, if_true, and_true, and_false, reduceIte]
        refine g_if_eq (tgt := 36) h d_Mod_make_31 (by decide) (fun c_31 => ?_) (fun c_31 => ?_)
        · exact absurd c_31 (by decide)
        · refine g_iconst (v := 0) h d_Mod_make_34 (by decide) ?_
          exact g_iret h r d_Mod_make_35 (⟨(by unfold mmake; first | (rw [if_pos (Or.inl hb)]; done) | (rw [if_pos (Or.inr (Or.inl c_11))]; done) | (rw [if_pos (Or.inr (Or.inr (Int32.not_le.mp c_16)))]; done)), (by unfold mmake; first | (rw [if_pos (Or.inl hb)]; done) | (rw [if_pos (Or.inr (Or.inl c_11))]; done) | (rw [if_pos (Or.inr (Or.inr (Int32.not_le.mp c_16)))]; done))⟩)
    · exact absurd c_6 (by decide)
  · rw [if_neg hb]
    obtain ⟨hj, hje⟩ := gl_num hb
    refine g_if_ne (tgt := 19) h d_Mod_make_6 (by decide) (fun c_6 => ?_) (fun c_6 => ?_)
    · exact absurd rfl c_6
    · refine g_iload_n h d_Mod_make_9 rfl rfl ?_
      refine g_iconst (v := -1) h d_Mod_make_10 (by decide) ?_
      refine g_icmp_lt (tgt := 19) h d_Mod_make_11 (by decide) (fun c_11 => ?_) (fun c_11 => ?_)
      · skip
        · refine g_iconst (v := 1) h d_Mod_make_19 (by decide) ?_
          refine g_goto (tgt := 24) h d_Mod_make_20 (by decide) ?_
          refine pf_Mod_thrown h f_Mod_64 d_Mod_make_24 ?_
          refine g_aload_n h d_Mod_make_27 rfl rfl ?_
          refine gf_Mod_thrown h f_Mod_64 d_Mod_make_28 ?_
          simp only [sI_1, sI_2, sJ_1, sJ_2, sJ_3, sR_1, sR_2, sR_3, Nat.reduceEqDiff, Nat.zero_ne_one, Nat.one_ne_zero, Nat.succ_ne_zero, reduceCtorEq, false_and, if_false, true_and, and_self, if_true, and_true, and_false, reduceIte]
          refine g_if_eq (tgt := 36) h d_Mod_make_31 (by decide) (fun c_31 => ?_) (fun c_31 => ?_)
          · exact absurd c_31 (by decide)
          · refine g_iconst (v := 0) h d_Mod_make_34 (by decide) ?_
            exact g_iret h r d_Mod_make_35 (⟨(by unfold mmake; first | (rw [if_pos (Or.inl hb)]; done) | (rw [if_pos (Or.inr (Or.inl c_11))]; done) | (rw [if_pos (Or.inr (Or.inr (Int32.not_le.mp c_16)))]; done)), (by unfold mmake; first | (rw [if_pos (Or.inl hb)]; done) | (rw [if_pos (Or.inr (Or.inl c_11))]; done) | (rw [if_pos (Or.inr (Or.inr (Int32.not_le.mp c_16)))]; done))⟩)
      · refine g_iload_n h d_Mod_make_14 rfl rfl ?_
        refine g_iconst (v := 3) h d_Mod_make_15 (by decide) ?_
        refine g_icmp_le (tgt := 23) h d_Mod_make_16 (by decide) (fun c_16 => ?_) (fun c_16 => ?_)
        · skip
          · refine g_iconst (v := 0) h d_Mod_make_23 (by decide) ?_
            refine pf_Mod_thrown h f_Mod_64 d_Mod_make_24 ?_
            refine g_aload_n h d_Mod_make_27 rfl rfl ?_
            refine gf_Mod_thrown h f_Mod_64 d_Mod_make_28 ?_
            simp only [sI_1, sI_2, sJ_1, sJ_2, sJ_3, sR_1, sR_2, sR_3, Nat.reduceEqDiff, Nat.zero_ne_one, Nat.one_ne_zero, Nat.succ_ne_zero, reduceCtorEq, false_and, if_false, true_and, and_self, if_true, and_true, and_false, reduceIte]
            refine g_if_eq (tgt := 36) h d_Mod_make_31 (by decide) (fun c_31 => ?_) (fun c_31 => ?_)
            · refine g_aload_n h d_Mod_make_36 rfl rfl ?_
              refine g_iload_n h d_Mod_make_37 rfl rfl ?_
              refine g_if_ge (tgt := 45) h d_Mod_make_38 (by decide) (fun c_38 => ?_) (fun c_38 => ?_)
              · skip
                · refine g_iconst (v := 2) h d_Mod_make_45 (by decide) ?_
                  refine g_iload_n h d_Mod_make_46 rfl rfl ?_
                  refine g_dVi h tb_good (c_Mod_create (okM_keep (by decide) hok)) (q := 0) (by decide) rfl rfl v_Mod_127 nm_Mod_create rfl ⟨rfl, rfl, Nat.le_of_ble_eq_true rfl, Nat.le_of_ble_eq_true rfl, Nat.zero_le _, Nat.zero_le _⟩ rfl (Nat.le_of_ble_eq_true rfl) d_Mod_make_47 ?_
                  rcases hf : (mcreate (sI M 21 0 0) 2 f).1 with _ | q <;> simp only [enc]
                  · refine g_istore_n h d_Mod_make_50 rfl rfl (by rw [hN]; decide) ?_
                    refine g_aload_n h d_Mod_make_51 rfl rfl ?_
                    refine g_iload_n h d_Mod_make_52 rfl rfl ?_
                    refine g_if_ge (tgt := 60) h d_Mod_make_53 (by decide) (fun c_53 => ?_) (fun c_53 => ?_)
                    · exact absurd c_53 (by decide)
                    · refine g_iconst (v := 2) h d_Mod_make_56 (by decide) ?_
                      refine g_goto (tgt := 61) h d_Mod_make_57 (by decide) ?_
                      refine pf_Mod_thrown h f_Mod_64 d_Mod_make_61 ?_
                      refine g_iload_n h d_Mod_make_64 rfl rfl ?_
                      refine g_if_ge (tgt := 70) h d_Mod_make_65 (by decide) (fun c_65 => ?_) (fun c_65 => ?_)
                      · exact absurd c_65 (by decide)
                      · refine g_iconst (v := 0) h d_Mod_make_68 (by decide) ?_
                        exact g_iret h r d_Mod_make_69 (⟨by unfold mmake; rw [if_neg (fun z => z.elim hb (fun z => z.elim c_11 (Int32.not_lt.mpr c_16))), if_neg (Int32.not_lt.mpr c_38), hf], by unfold mmake; rw [if_neg (fun z => z.elim hb (fun z => z.elim c_11 (Int32.not_lt.mpr c_16))), if_neg (Int32.not_lt.mpr c_38), hf]⟩)
                  · have hq := mcreate_lt hf
                    refine g_istore_n h d_Mod_make_50 rfl rfl (by rw [hN]; decide) ?_
                    refine g_aload_n h d_Mod_make_51 rfl rfl ?_
                    refine g_iload_n h d_Mod_make_52 rfl rfl ?_
                    refine g_if_ge (tgt := 60) h d_Mod_make_53 (by decide) (fun c_53 => ?_) (fun c_53 => ?_)
                    · refine g_iconst (v := 0) h d_Mod_make_60 (by decide) ?_
                      refine pf_Mod_thrown h f_Mod_64 d_Mod_make_61 ?_
                      refine g_iload_n h d_Mod_make_64 rfl rfl ?_
                      refine g_if_ge (tgt := 70) h d_Mod_make_65 (by decide) (fun c_65 => ?_) (fun c_65 => ?_)
                      · refine g_aload_n h d_Mod_make_70 rfl rfl ?_
                        refine gf_Mod_globals h f_Mod_22 d_Mod_make_71 ?_
                        refine g_iload_n h d_Mod_make_74 rfl rfl ?_
                        refine g_ldc2 (v := 10000000000) h d_Mod_make_75 k_Mod_72 ?_
                        refine g_iload_n h d_Mod_make_78 rfl rfl ?_
                        refine g_i2l h d_Mod_make_79 ?_
                        refine g_ladd h d_Mod_make_80 ?_
                        refine pj_globals h hje hj d_Mod_make_81 ?_
                        refine g_iload_n h d_Mod_make_82 rfl rfl ?_
                        exact g_iret h r d_Mod_make_83 (⟨by unfold mmake; rw [if_neg (fun z => z.elim hb (fun z => z.elim c_11 (Int32.not_lt.mpr c_16))), if_neg (Int32.not_lt.mpr c_38), hf], by unfold mmake; rw [if_neg (fun z => z.elim hb (fun z => z.elim c_11 (Int32.not_lt.mpr c_16))), if_neg (Int32.not_lt.mpr c_38), hf]⟩)
                      · exact absurd (nI_pos' (by omega)) c_65
                    · exact absurd (nI_pos' (by omega)) c_53
              · skip
                · refine g_iconst (v := 1) h d_Mod_make_41 (by decide) ?_
                  refine g_goto (tgt := 46) h d_Mod_make_42 (by decide) ?_
                  refine g_iload_n h d_Mod_make_46 rfl rfl ?_
                  refine g_dVi h tb_good (c_Mod_create (okM_keep (by decide) hok)) (q := 0) (by decide) rfl rfl v_Mod_127 nm_Mod_create rfl ⟨rfl, rfl, Nat.le_of_ble_eq_true rfl, Nat.le_of_ble_eq_true rfl, Nat.zero_le _, Nat.zero_le _⟩ rfl (Nat.le_of_ble_eq_true rfl) d_Mod_make_47 ?_
                  rcases hf : (mcreate (sI M 21 0 0) 1 f).1 with _ | q <;> simp only [enc]
                  · refine g_istore_n h d_Mod_make_50 rfl rfl (by rw [hN]; decide) ?_
                    refine g_aload_n h d_Mod_make_51 rfl rfl ?_
                    refine g_iload_n h d_Mod_make_52 rfl rfl ?_
                    refine g_if_ge (tgt := 60) h d_Mod_make_53 (by decide) (fun c_53 => ?_) (fun c_53 => ?_)
                    · exact absurd c_53 (by decide)
                    · refine g_iconst (v := 2) h d_Mod_make_56 (by decide) ?_
                      refine g_goto (tgt := 61) h d_Mod_make_57 (by decide) ?_
                      refine pf_Mod_thrown h f_Mod_64 d_Mod_make_61 ?_
                      refine g_iload_n h d_Mod_make_64 rfl rfl ?_
                      refine g_if_ge (tgt := 70) h d_Mod_make_65 (by decide) (fun c_65 => ?_) (fun c_65 => ?_)
                      · exact absurd c_65 (by decide)
                      · refine g_iconst (v := 0) h d_Mod_make_68 (by decide) ?_
                        exact g_iret h r d_Mod_make_69 (⟨by unfold mmake; rw [if_neg (fun z => z.elim hb (fun z => z.elim c_11 (Int32.not_lt.mpr c_16))), if_pos (Int32.not_le.mp c_38), hf], by unfold mmake; rw [if_neg (fun z => z.elim hb (fun z => z.elim c_11 (Int32.not_lt.mpr c_16))), if_pos (Int32.not_le.mp c_38), hf]⟩)
                  · have hq := mcreate_lt hf
                    refine g_istore_n h d_Mod_make_50 rfl rfl (by rw [hN]; decide) ?_
                    refine g_aload_n h d_Mod_make_51 rfl rfl ?_
                    refine g_iload_n h d_Mod_make_52 rfl rfl ?_
                    refine g_if_ge (tgt := 60) h d_Mod_make_53 (by decide) (fun c_53 => ?_) (fun c_53 => ?_)
                    · refine g_iconst (v := 0) h d_Mod_make_60 (by decide) ?_
                      refine pf_Mod_thrown h f_Mod_64 d_Mod_make_61 ?_
                      refine g_iload_n h d_Mod_make_64 rfl rfl ?_
                      refine g_if_ge (tgt := 70) h d_Mod_make_65 (by decide) (fun c_65 => ?_) (fun c_65 => ?_)
                      · refine g_aload_n h d_Mod_make_70 rfl rfl ?_
                        refine gf_Mod_globals h f_Mod_22 d_Mod_make_71 ?_
                        refine g_iload_n h d_Mod_make_74 rfl rfl ?_
                        refine g_ldc2 (v := 10000000000) h d_Mod_make_75 k_Mod_72 ?_
                        refine g_iload_n h d_Mod_make_78 rfl rfl ?_
                        refine g_i2l h d_Mod_make_79 ?_
                        refine g_ladd h d_Mod_make_80 ?_
                        refine pj_globals h hje hj d_Mod_make_81 ?_
                        refine g_iload_n h d_Mod_make_82 rfl rfl ?_
                        exact g_iret h r d_Mod_make_83 (⟨by unfold mmake; rw [if_neg (fun z => z.elim hb (fun z => z.elim c_11 (Int32.not_lt.mpr c_16))), if_pos (Int32.not_le.mp c_38), hf], by unfold mmake; rw [if_neg (fun z => z.elim hb (fun z => z.elim c_11 (Int32.not_lt.mpr c_16))), if_pos (Int32.not_le.mp c_38), hf]⟩)
                      · exact absurd (nI_pos' (by omega)) c_65
                    · exact absurd (nI_pos' (by omega)) c_53
            · exact absurd rfl c_31
        · skip
          · refine g_iconst (v := 1) h d_Mod_make_19 (by decide) ?_
            refine g_goto (tgt := 24) h d_Mod_make_20 (by decide) ?_
            refine pf_Mod_thrown h f_Mod_64 d_Mod_make_24 ?_
            refine g_aload_n h d_Mod_make_27 rfl rfl ?_
            refine gf_Mod_thrown h f_Mod_64 d_Mod_make_28 ?_
            simp only [sI_1, sI_2, sJ_1, sJ_2, sJ_3, sR_1, sR_2, sR_3, Nat.reduceEqDiff, Nat.zero_ne_one, Nat.one_ne_zero, Nat.succ_ne_zero, reduceCtorEq, false_and, if_false, true_and, and_self, if_true, and_true, and_false, reduceIte]
            refine g_if_eq (tgt := 36) h d_Mod_make_31 (by decide) (fun c_31 => ?_) (fun c_31 => ?_)
            · exact absurd c_31 (by decide)
            · refine g_iconst (v := 0) h d_Mod_make_34 (by decide) ?_
              exact g_iret h r d_Mod_make_35 (⟨(by unfold mmake; first | (rw [if_pos (Or.inl hb)]; done) | (rw [if_pos (Or.inr (Or.inl c_11))]; done) | (rw [if_pos (Or.inr (Or.inr (Int32.not_le.mp c_16)))]; done)), (by unfold mmake; first | (rw [if_pos (Or.inl hb)]; done) | (rw [if_pos (Or.inr (Or.inl c_11))]; done) | (rw [if_pos (Or.inr (Or.inr (Int32.not_le.mp c_16)))]; done))⟩)
set_option maxHeartbeats 4000000 in
set_option maxRecDepth 100000 in
theorem c_Mod_collect {l : Launch} {D : va_G} {u : Nat → ClassId} {ad : Nat → Nat} {M : CS} {n : Int32} (hok : okM M) : Cm l D u ad y_Mod_collect b_Mod_collect 4 (some .int) { frames := 4, cells := 0, slots := 0, locals := 89 } [.ref (ad 0), .int n] (M) (some (.int (mcollect M n).1)) ((mcollect M n).2) := by
  refine ct_of (by decide) (Nat.le_of_ble_eq_true rfl) ?_
  intro Γ _ _ hN h r
  have loop : ∀ (c k : Nat) (a : Int32) (M2 : CS), n = nI n.toNatClampNeg ∧ n.toNatClampNeg ≤ 100 ∧ k + c = n.toNatClampNeg → okM M2 → M2.1 21 0 = 0 → mcoll c a M2 = mcollect M n → G Γ 0 0 18 ad (mob ad u M2) 24 [some (.ref (ad 0)), some (.int n), some (.int a), some (.int (nI k))] [] := by
    intro c
    induction c with
    | zero =>
      intro k a M2 hk hM ht he
      obtain ⟨hne, hn1, hk⟩ := hk
      refine g_iload_n h d_Mod_collect_24 rfl rfl ?_
      refine g_iload_n h d_Mod_collect_25 rfl rfl ?_
      refine g_icmp_ge (tgt := 49) h d_Mod_collect_26 (by decide) (fun c_26 => ?_) (fun c_26 => ?_)
      · refine g_iload_n h d_Mod_collect_49 rfl rfl ?_
        exact g_iret h r d_Mod_collect_50 (⟨by rw [← he]; rfl, by rw [← he]; rfl⟩)
      · exact absurd (hne ▸ nI_le (by omega) (by omega)) c_26
    | succ c ih =>
      intro k a M2 hk hM ht he
      obtain ⟨hne, hn1, hk⟩ := hk
      refine g_iload_n h d_Mod_collect_24 rfl rfl ?_
      refine g_iload_n h d_Mod_collect_25 rfl rfl ?_
      refine g_icmp_ge (tgt := 49) h d_Mod_collect_26 (by decide) (fun c_26 => ?_) (fun c_26 => ?_)
      · exact absurd (hne ▸ c_26) (nI_ge (by omega) (by omega))
      · refine g_aload_n h d_Mod_collect_29 rfl rfl ?_
        refine gf_Mod_thrown h f_Mod_64 d_Mod_collect_30 ?_
        rw [ht]
        refine g_if_ne (tgt := 49) h d_Mod_collect_33 (by decide) (fun c_33 => ?_) (fun c_33 => ?_)
        · exact absurd rfl c_33
        · refine g_iload_n h d_Mod_collect_36 rfl rfl ?_
          refine g_aload_n h d_Mod_collect_37 rfl rfl ?_
          refine g_dVi h tb_good (c_Mod_unit hM) (q := 0) (by decide) rfl rfl v_Mod_115 nm_Mod_unit rfl ⟨rfl, rfl, Nat.le_of_ble_eq_true rfl, Nat.le_of_ble_eq_true rfl, Nat.zero_le _, Nat.zero_le _⟩ rfl (Nat.le_of_ble_eq_true rfl) d_Mod_collect_38 ?_
          refine g_iadd h d_Mod_collect_41 ?_
          refine g_istore_n h d_Mod_collect_42 rfl rfl (by rw [hN]; decide) ?_
          refine g_iinc (v := nI (k + 1)) h d_Mod_collect_43 rfl (by rw [nI_succ]; rfl) rfl (by rw [hN]; decide) ?_
          refine g_goto (tgt := 24) h d_Mod_collect_46 (by decide) ?_
          exact ih (k + 1) _ _ ⟨hne, hn1, by omega⟩ (okM_unit hM) (by rw [munit_e (by decide)]; exact ht) he
  refine g_at (L' := [some (.ref (ad 0)), some (.int n), none, none]) rfl rfl rfl ?_
  refine g_aload_n h d_Mod_collect_0 rfl rfl ?_
  refine g_iload_n h d_Mod_collect_1 rfl rfl ?_
  refine g_iconst (v := 1) h d_Mod_collect_2 (by decide) ?_
  refine g_icmp_lt (tgt := 12) h d_Mod_collect_3 (by decide) (fun c_3 => ?_) (fun c_3 => ?_)
  · skip
    · refine g_iconst (v := 1) h d_Mod_collect_12 (by decide) ?_
      refine g_goto (tgt := 17) h d_Mod_collect_13 (by decide) ?_
      refine pf_Mod_thrown h f_Mod_64 d_Mod_collect_17 ?_
      refine g_iconst (v := 0) h d_Mod_collect_20 (by decide) ?_
      refine g_istore_n h d_Mod_collect_21 rfl rfl (by rw [hN]; decide) ?_
      refine g_iconst (v := 0) h d_Mod_collect_22 (by decide) ?_
      refine g_istore_n h d_Mod_collect_23 rfl rfl (by rw [hN]; decide) ?_
      refine g_iload_n h d_Mod_collect_24 rfl rfl ?_
      refine g_iload_n h d_Mod_collect_25 rfl rfl ?_
      refine g_icmp_ge (tgt := 49) h d_Mod_collect_26 (by decide) (fun c_26 => ?_) (fun c_26 => ?_)
      · refine g_iload_n h d_Mod_collect_49 rfl rfl ?_
        exact g_iret h r d_Mod_collect_50 (⟨by unfold mcollect; rw [if_pos (by first | exact .inl c_3 | exact .inr (Int32.not_le.mp c_9))], by unfold mcollect; rw [if_pos (by first | exact .inl c_3 | exact .inr (Int32.not_le.mp c_9))]⟩)
      · refine g_aload_n h d_Mod_collect_29 rfl rfl ?_
        refine gf_Mod_thrown h f_Mod_64 d_Mod_collect_30 ?_
        simp only [sI_1, sI_2, sJ_1, sJ_2, sJ_3, sR_1, sR_2, sR_3, Nat.reduceEqDiff, Nat.zero_ne_one, Nat.one_ne_zero, Nat.succ_ne_zero, reduceCtorEq, false_and, if_false, true_and, and_self, if_true, and_true, and_false, reduceIte]
        refine g_if_ne (tgt := 49) h d_Mod_collect_33 (by decide) (fun c_33 => ?_) (fun c_33 => ?_)
        · refine g_iload_n h d_Mod_collect_49 rfl rfl ?_
          exact g_iret h r d_Mod_collect_50 (⟨by unfold mcollect; rw [if_pos (by first | exact .inl c_3 | exact .inr (Int32.not_le.mp c_9))], by unfold mcollect; rw [if_pos (by first | exact .inl c_3 | exact .inr (Int32.not_le.mp c_9))]⟩)
        · exact absurd c_33 (by decide)
  · refine g_iload_n h d_Mod_collect_6 rfl rfl ?_
    refine g_bipush (v := 100) h d_Mod_collect_7 (by decide) ?_
    refine g_icmp_le (tgt := 16) h d_Mod_collect_9 (by decide) (fun c_9 => ?_) (fun c_9 => ?_)
    · refine g_iconst (v := 0) h d_Mod_collect_16 (by decide) ?_
      refine pf_Mod_thrown h f_Mod_64 d_Mod_collect_17 ?_
      refine g_iconst (v := 0) h d_Mod_collect_20 (by decide) ?_
      refine g_istore_n h d_Mod_collect_21 rfl rfl (by rw [hN]; decide) ?_
      refine g_iconst (v := 0) h d_Mod_collect_22 (by decide) ?_
      refine g_istore_n h d_Mod_collect_23 rfl rfl (by rw [hN]; decide) ?_
      obtain ⟨hn1, hne⟩ := i32_num (g := n) (m := 100) (by decide) (fun z => c_3 (Int32.lt_of_lt_of_le z (by decide))) (Int32.not_lt.mpr c_9)
      exact loop n.toNatClampNeg 0 0 _ ⟨hne, hn1, by omega⟩ (okM_keep (by decide) hok) sI_self (by unfold mcollect; rw [if_neg (fun z => z.elim c_3 (Int32.not_lt.mpr c_9))])
    · skip
      · refine g_iconst (v := 1) h d_Mod_collect_12 (by decide) ?_
        refine g_goto (tgt := 17) h d_Mod_collect_13 (by decide) ?_
        refine pf_Mod_thrown h f_Mod_64 d_Mod_collect_17 ?_
        refine g_iconst (v := 0) h d_Mod_collect_20 (by decide) ?_
        refine g_istore_n h d_Mod_collect_21 rfl rfl (by rw [hN]; decide) ?_
        refine g_iconst (v := 0) h d_Mod_collect_22 (by decide) ?_
        refine g_istore_n h d_Mod_collect_23 rfl rfl (by rw [hN]; decide) ?_
        refine g_iload_n h d_Mod_collect_24 rfl rfl ?_
        refine g_iload_n h d_Mod_collect_25 rfl rfl ?_
        refine g_icmp_ge (tgt := 49) h d_Mod_collect_26 (by decide) (fun c_26 => ?_) (fun c_26 => ?_)
        · refine g_iload_n h d_Mod_collect_49 rfl rfl ?_
          exact g_iret h r d_Mod_collect_50 (⟨by unfold mcollect; rw [if_pos (by first | exact .inl c_3 | exact .inr (Int32.not_le.mp c_9))], by unfold mcollect; rw [if_pos (by first | exact .inl c_3 | exact .inr (Int32.not_le.mp c_9))]⟩)
        · refine g_aload_n h d_Mod_collect_29 rfl rfl ?_
          refine gf_Mod_thrown h f_Mod_64 d_Mod_collect_30 ?_
          simp only [sI_1, sI_2, sJ_1, sJ_2, sJ_3, sR_1, sR_2, sR_3, Nat.reduceEqDiff, Nat.zero_ne_one, Nat.one_ne_zero, Nat.succ_ne_zero, reduceCtorEq, false_and, if_false, true_and, and_self, if_true, and_true, and_false, reduceIte]
          refine g_if_ne (tgt := 49) h d_Mod_collect_33 (by decide) (fun c_33 => ?_) (fun c_33 => ?_)
          · refine g_iload_n h d_Mod_collect_49 rfl rfl ?_
            exact g_iret h r d_Mod_collect_50 (⟨by unfold mcollect; rw [if_pos (by first | exact .inl c_3 | exact .inr (Int32.not_le.mp c_9))], by unfold mcollect; rw [if_pos (by first | exact .inl c_3 | exact .inr (Int32.not_le.mp c_9))]⟩)
          · exact absurd c_33 (by decide)
