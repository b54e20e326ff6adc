set_option maxHeartbeats 4000000 in
set_option maxRecDepth 100000 in
theorem c_Math_floorMod {l : Launch} {D : va_G} {t : Nat → ClassId} {ad : Nat → Nat} {C : CS} {x : Int32} {m : Nat} (hm : m = 4 ∨ m = 6 ∨ m = 16) : Cd l D t ad y_Math_floorMod b_Math_floorMod 3 (some .int) { frames := 0, cells := 0, slots := 0, locals := 0 } [.int x, .int (nI m)] (C) (some (.int (nI (fmod x m)))) (C) := by
  refine ct_ofF (by decide +kernel) (Nat.le_of_ble_eq_true rfl) ?_
  intro Γ _ _ hN h r
  refine g_at (L' := [some (.int x), some (.int (nI m)), none]) rfl rfl rfl ?_
  refine g_iload_n h d_Math_floorMod_0 rfl rfl ?_
  refine g_iload_n h d_Math_floorMod_1 rfl rfl ?_
  refine g_irem h d_Math_floorMod_2 (nI_ne0 (by omega) (by omega)) ?_
  refine g_istore_n h d_Math_floorMod_3 rfl rfl (by rw [hN]; decide) ?_
  refine g_iload_n h d_Math_floorMod_4 rfl rfl ?_
  refine g_iload_n h d_Math_floorMod_5 rfl rfl ?_
  refine g_ixor h d_Math_floorMod_6 ?_
  refine g_if_ge (tgt := 18) h d_Math_floorMod_7 (by decide) (fun c_7 => ?_) (fun c_7 => ?_)
  · refine g_iload_n h d_Math_floorMod_18 rfl rfl ?_
    exact g_iret h r d_Math_floorMod_19 (⟨by first | rw [fm_pos hm c_7] | rw [fm_zero hm c_11], rfl⟩)
  · refine g_iload_n h d_Math_floorMod_10 rfl rfl ?_
    refine g_if_eq (tgt := 18) h d_Math_floorMod_11 (by decide) (fun c_11 => ?_) (fun c_11 => ?_)
    · refine g_iload_n h d_Math_floorMod_18 rfl rfl ?_
      exact g_iret h r d_Math_floorMod_19 (⟨by first | rw [fm_pos hm c_7] | rw [fm_zero hm c_11], rfl⟩)
    · refine g_iload_n h d_Math_floorMod_14 rfl rfl ?_
      refine g_iload_n h d_Math_floorMod_15 rfl rfl ?_
      refine g_iadd h d_Math_floorMod_16 ?_
      exact g_iret h r d_Math_floorMod_17 (⟨by rw [fm_neg hm c_7 c_11], rfl⟩)
set_option maxHeartbeats 4000000 in
set_option maxRecDepth 100000 in
theorem c_Pro_jumpIf {l : Launch} {D : va_G} {t : Nat → ClassId} {ad : Nat → Nat} {C : CS} {b x : Int32} : Cd l D t ad y_Pro_jumpIf b_Pro_jumpIf 3 (some .int) { frames := 1, cells := 0, slots := 0, locals := 22 } [.ref (ad (ix 10 0)), .int b, .int x] (C) (some (.int 0)) (if b = 0 then C else sI C 21 0 (nI (fmod x 16))) := by
  refine ct_of (by decide) (Nat.le_of_ble_eq_true rfl) ?_
  intro Γ _ _ hN h r
  refine g_at (L' := [some (.ref (ad (ix 10 0))), some (.int b), some (.int x)]) rfl rfl rfl ?_
  refine g_iload_n h d_Pro_jumpIf_0 rfl rfl ?_
  refine g_if_eq (tgt := 14) h d_Pro_jumpIf_1 (by decide) (fun c_1 => ?_) (fun c_1 => ?_)
  · refine g_iconst (v := 0) h d_Pro_jumpIf_14 (by decide) ?_
    exact g_iret h r d_Pro_jumpIf_15 (⟨rfl, by simp [c_1]⟩)
  · refine g_aload_n h d_Pro_jumpIf_4 rfl rfl ?_
    refine g_iload_n h d_Pro_jumpIf_5 rfl rfl ?_
    refine g_bipush (v := 16) h d_Pro_jumpIf_6 (by decide) ?_
    refine g_dSi h tb_good (c_Math_floorMod (m := 16) (by omega)) v_Pro_108 nm_Math_floorMod rfl ⟨rfl, rfl, Nat.le_of_ble_eq_true rfl, Nat.le_of_ble_eq_true rfl, Nat.zero_le _, Nat.zero_le _⟩ rfl (Nat.le_of_ble_eq_true rfl) d_Pro_jumpIf_8 ?_
    refine pf_Pro_nextPlace h f_Pro_30 d_Pro_jumpIf_11 ?_
    refine g_iconst (v := 0) h d_Pro_jumpIf_14 (by decide) ?_
    exact g_iret h r d_Pro_jumpIf_15 (⟨rfl, by simp [c_1]⟩)
