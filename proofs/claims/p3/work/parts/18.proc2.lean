set_option maxHeartbeats 4000000 in
set_option maxRecDepth 100000 in
theorem c_Math_floorMod {l : Launch} {D : va_G} {t : Nat → ClassId} {ad : Nat → Nat} {C : CS} {x : Int32} {m : Nat} (hm : m = 4 ∨ m = 6 ∨ m = 16) : Cd l D t ad y_Math_floorMod b_Math_floorMod 3 (some .int) { frames := 0, cells := 0, slots := 0, locals := 0 } [.int x, .int (nI m)] (C) (some (.int (nI (fmod x m)))) (C) := by
  refine ct_ofF (by decide +kernel) (Nat.le_of_ble_eq_true rfl) ?_
  intro Γ _ _ hN h r
  refine g_at (L' := [some (.int x), some (.int (nI m)), none]) rfl rfl rfl ?_
  refine g_iload_n h d_Math_floorMod_0 rfl rfl ?_
  refine g_iload_n h d_Math_floorMod_1 rfl rfl ?_
  refine g_irem h d_Math_floorMod_2 (nI_ne0 (by omega) (by omega)) ?_
  refine g_istore_n h d_Math_floorMod_3 rfl rfl (by rw [hN]; decide) ?_
  refine g_iload_n h d_Math_floorMod_4 rfl rfl ?_
  refine g_iload_n h d_Math_floorMod_5 rfl rfl ?_
  refine g_ixor h d_Math_floorMod_6 ?_
  refine g_if_ge (tgt := 18) h d_Math_floorMod_7 (by decide) (fun c_7 => ?_) (fun c_7 => ?_)
  · refine g_iload_n h d_Math_floorMod_18 rfl rfl ?_
    exact g_iret h r d_Math_floorMod_19 (⟨by first | rw [fm_pos hm c_7] | rw [fm_zero hm c_11], rfl⟩)
  · refine g_iload_n h d_Math_floorMod_10 rfl rfl ?_
    refine g_if_eq (tgt := 18) h d_Math_floorMod_11 (by decide) (fun c_11 => ?_) (fun c_11 => ?_)
    · refine g_iload_n h d_Math_floorMod_18 rfl rfl ?_
      exact g_iret h r d_Math_floorMod_19 (⟨by first | rw [fm_pos hm c_7] | rw [fm_zero hm c_11], rfl⟩)
    · refine g_iload_n h d_Math_floorMod_14 rfl rfl ?_
      refine g_iload_n h d_Math_floorMod_15 rfl rfl ?_
      refine g_iadd h d_Math_floorMod_16 ?_
      exact g_iret h r d_Math_floorMod_17 (⟨by rw [fm_neg hm c_7 c_11], rfl⟩)
set_option maxHeartbeats 4000000 in
set_option maxRecDepth 100000 in
theorem c_Pro_jumpIf {l : Launch} {D : va_G} {t : Nat → ClassId} {ad : Nat → Nat} {C : CS} {b x : Int32} : Cd l D t ad y_Pro_jumpIf b_Pro_jumpIf 3 (some .int) { frames := 1, cells := 0, slots := 0, locals := 22 } [.ref (ad (ix 10 0)), .int b, .int x] (C) (some (.int 0)) (if b = 0 then C else sI C 21 0 (nI (fmod x 16))) := by
  refine ct_of (by decide) (Nat.le_of_ble_eq_true rfl) ?_
  intro Γ _ _ hN h r
  refine g_at (L' := [some (.ref (ad (ix 10 0))), some (.int b), some (.int x)]) rfl rfl rfl ?_
  refine g_iload_n h d_Pro_jumpIf_0 rfl rfl ?_
  refine g_if_eq (tgt := 14) h d_Pro_jumpIf_1 (by decide) (fun c_1 => ?_) (fun c_1 => ?_)
  · refine g_iconst (v := 0) h d_Pro_jumpIf_14 (by decide) ?_
    exact g_iret h r d_Pro_jumpIf_15 (⟨rfl, by simp [c_1]⟩)
  · refine g_aload_n h d_Pro_jumpIf_4 rfl rfl ?_
    refine g_iload_n h d_Pro_jumpIf_5 rfl rfl ?_
    refine g_bipush (v := 16) h d_Pro_jumpIf_6 (by decide) ?_
    refine g_dSi h tb_good (c_Math_floorMod (m := 16) (by omega)) v_Pro_108 nm_Math_floorMod rfl ⟨rfl, rfl, Nat.le_of_ble_eq_true rfl, Nat.le_of_ble_eq_true rfl, Nat.zero_le _, Nat.zero_le _⟩ rfl (Nat.le_of_ble_eq_true rfl) d_Pro_jumpIf_8 ?_
    refine pf_Pro_nextPlace h f_Pro_30 d_Pro_jumpIf_11 ?_
    refine g_iconst (v := 0) h d_Pro_jumpIf_14 (by decide) ?_
    exact g_iret h r d_Pro_jumpIf_15 (⟨rfl, by simp [c_1]⟩)
set_option maxHeartbeats 4000000 in
set_option maxRecDepth 100000 in
theorem c_Pro_jumpIfBelow {l : Launch} {D : va_G} {t : Nat → ClassId} {ad : Nat → Nat} {C : CS} {x y : Int64} {p : Int32} : Cd l D t ad y_Pro_jumpIfBelow b_Pro_jumpIfBelow 6 (some .int) { frames := 2, cells := 0, slots := 0, locals := 44 } [.ref (ad (ix 10 0)), .long x, .long y, .int p] (C) (some (.int (cbelow C x y p).1)) ((cbelow C x y p).2) := by
  refine ct_of (by decide) (Nat.le_of_ble_eq_true rfl) ?_
  intro Γ _ _ hN h r
  refine g_at (L' := [some (.ref (ad (ix 10 0))), some (.long x), none, some (.long y), none, some (.int p)]) rfl rfl rfl ?_
  refine g_lload_n h d_Pro_jumpIfBelow_0 rfl rfl ?_
  refine g_dNi h tb_good (c_TCM_isNumber) (host := "TriColourMachine") nl_Pro_165 cd_TCM_isNumber in_TCM st_TCM_isNumber nm_TCM_isNumber rfl ⟨rfl, rfl, Nat.le_of_ble_eq_true rfl, Nat.le_of_ble_eq_true rfl, Nat.zero_le _, Nat.zero_le _⟩ rfl (Nat.le_of_ble_eq_true rfl) d_Pro_jumpIfBelow_1 ?_
  by_cases h1 : (-2147483648 ≤ x ∧ x ≤ 2147483647)
  · rw [if_pos h1]
    refine g_if_eq (tgt := 14) h d_Pro_jumpIfBelow_4 (by decide) (fun c_4 => ?_) (fun c_4 => ?_)
    · exact absurd c_4 (by decide)
    · refine g_lload_n h d_Pro_jumpIfBelow_7 rfl rfl ?_
      refine g_dNi h tb_good (c_TCM_isNumber) (host := "TriColourMachine") nl_Pro_165 cd_TCM_isNumber in_TCM st_TCM_isNumber nm_TCM_isNumber rfl ⟨rfl, rfl, Nat.le_of_ble_eq_true rfl, Nat.le_of_ble_eq_true rfl, Nat.zero_le _, Nat.zero_le _⟩ rfl (Nat.le_of_ble_eq_true rfl) d_Pro_jumpIfBelow_8 ?_
      by_cases h2 : (-2147483648 ≤ y ∧ y ≤ 2147483647)
      · rw [if_pos h2]
        refine g_if_ne (tgt := 16) h d_Pro_jumpIfBelow_11 (by decide) (fun c_11 => ?_) (fun c_11 => ?_)
        · refine g_aload_n h d_Pro_jumpIfBelow_16 rfl rfl ?_
          refine g_lload_n h d_Pro_jumpIfBelow_17 rfl rfl ?_
          refine g_lload_n h d_Pro_jumpIfBelow_18 rfl rfl ?_
          refine g_lc_ge (tgt := 27) h d_Pro_jumpIfBelow_19 d_Pro_jumpIfBelow_20 (by decide) (fun c_20 => ?_) (fun c_20 => ?_)
          · refine g_iconst (v := 0) h d_Pro_jumpIfBelow_27 (by decide) ?_
            refine g_iload h d_Pro_jumpIfBelow_28 rfl ?_
            refine g_dVi h tb_good (c_Pro_jumpIf) (ix_lt 10 (by decide) _ (by decide)) (wc_at (by decide) (by decide)) rfl v_Pro_145 nm_Pro_jumpIf rfl ⟨rfl, rfl, Nat.le_of_ble_eq_true rfl, Nat.le_of_ble_eq_true rfl, Nat.zero_le _, Nat.zero_le _⟩ rfl (Nat.le_of_ble_eq_true rfl) d_Pro_jumpIfBelow_30 ?_
            exact g_iret h r d_Pro_jumpIfBelow_33 (⟨by rw [cbelow_y h1 h2], by first | (simp [cbelow_y h1 h2, Int64.not_le.mp c_20]; done) | (simp [cbelow_y h1 h2, Int64.not_lt.mpr c_20]; done)⟩)
          · refine g_iconst (v := 1) h d_Pro_jumpIfBelow_23 (by decide) ?_
            refine g_goto (tgt := 28) h d_Pro_jumpIfBelow_24 (by decide) ?_
            refine g_iload h d_Pro_jumpIfBelow_28 rfl ?_
            refine g_dVi h tb_good (c_Pro_jumpIf) (ix_lt 10 (by decide) _ (by decide)) (wc_at (by decide) (by decide)) rfl v_Pro_145 nm_Pro_jumpIf rfl ⟨rfl, rfl, Nat.le_of_ble_eq_true rfl, Nat.le_of_ble_eq_true rfl, Nat.zero_le _, Nat.zero_le _⟩ rfl (Nat.le_of_ble_eq_true rfl) d_Pro_jumpIfBelow_30 ?_
            exact g_iret h r d_Pro_jumpIfBelow_33 (⟨by rw [cbelow_y h1 h2], by first | (simp [cbelow_y h1 h2, Int64.not_le.mp c_20]; done) | (simp [cbelow_y h1 h2, Int64.not_lt.mpr c_20]; done)⟩)
        · exact absurd c_11 (by decide)
      · rw [if_neg h2]
        refine g_if_ne (tgt := 16) h d_Pro_jumpIfBelow_11 (by decide) (fun c_11 => ?_) (fun c_11 => ?_)
        · exact absurd rfl c_11
        · refine g_iconst (v := 1) h d_Pro_jumpIfBelow_14 (by decide) ?_
          exact g_iret h r d_Pro_jumpIfBelow_15 (⟨by unfold cbelow isNum; first | (rw [if_neg (fun z => h1 z.1)]; done) | (rw [if_neg (fun z => h2 z.2)]; done), by unfold cbelow isNum; first | (rw [if_neg (fun z => h1 z.1)]; done) | (rw [if_neg (fun z => h2 z.2)]; done)⟩)
  · rw [if_neg h1]
    refine g_if_eq (tgt := 14) h d_Pro_jumpIfBelow_4 (by decide) (fun c_4 => ?_) (fun c_4 => ?_)
    · refine g_iconst (v := 1) h d_Pro_jumpIfBelow_14 (by decide) ?_
      exact g_iret h r d_Pro_jumpIfBelow_15 (⟨by unfold cbelow isNum; first | (rw [if_neg (fun z => h1 z.1)]; done) | (rw [if_neg (fun z => h2 z.2)]; done), by unfold cbelow isNum; first | (rw [if_neg (fun z => h1 z.1)]; done) | (rw [if_neg (fun z => h2 z.2)]; done)⟩)
    · exact absurd rfl c_4
