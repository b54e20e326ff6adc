set_option maxHeartbeats 4000000 in
set_option maxRecDepth 100000 in
theorem c_Mod_leave {l : Launch} {D : va_G} {u : Nat → ClassId} {ad : Nat → Nat} {M : CS} {s : Int32} {v : Int64} {d : Nat} (hok : okM M) (hd : M.1 13 0 = nI (d + 1)) (hd5 : d < 5) (hlow : ∀ e, d = e + 1 → ∃ f p, f < 4 ∧ p ≤ 15 ∧ M.1 8 (mAct M e) = nI f ∧ M.1 9 (mAct M e) = nI p) : Cm l D u ad y_Mod_leave b_Mod_leave 6 none { frames := 0, cells := 0, slots := 0, locals := 0 } [.ref (ad 0), .int s, .long v] (M) (none) (mleave M s v) := by
  refine ct_of (by decide) (Nat.le_of_ble_eq_true rfl) ?_
  intro Γ _ _ hN h r
  obtain ⟨n, hn, ha⟩ := hok.2.2.2.2 d (by omega)
  have hdd : mDepth M = d + 1 := by unfold mDepth; rw [hd]; exact nI_clamp (by omega)
  have han : mAct M d = n := by unfold mAct; rw [ha]; exact nI_clamp (by omega)
  have hA : sJ (sI (sI M 13 0 (nI (d + 1) - 1)) 10 n s) 4 0 0 v = mleaveA M s v := by unfold mleaveA; rw [hd, hdd, Nat.add_sub_cancel, han]
  rw [nI_pred] at hA
  rcases Nat.eq_zero_or_pos d with h0 | h0
  · refine g_at (L' := [some (.ref (ad 0)), some (.int s), some (.long v), none, none, none]) rfl rfl rfl ?_
    refine g_aload_n h d_Mod_leave_0 rfl rfl ?_
    refine g_dup h d_Mod_leave_1 rfl ?_
    refine gf_Mod_depth h f_Mod_86 d_Mod_leave_2 ?_
    rw [hd]
    refine g_iconst (v := 1) h d_Mod_leave_5 (by decide) ?_
    refine g_isub h d_Mod_leave_6 ?_
    rw [nI_pred]
    refine pf_Mod_depth h f_Mod_86 d_Mod_leave_7 ?_
    refine g_aload_n h d_Mod_leave_10 rfl rfl ?_
    refine gf_Mod_state h f_Mod_53 d_Mod_leave_11 ?_
    refine g_aload_n h d_Mod_leave_14 rfl rfl ?_
    refine gf_Mod_active h f_Mod_59 d_Mod_leave_15 ?_
    refine g_aload_n h d_Mod_leave_18 rfl rfl ?_
    refine gf_Mod_depth h f_Mod_86 d_Mod_leave_19 ?_
    simp only [sI_1, sI_2, sJ_1, sJ_2, sJ_3, sR_1, sR_2, sR_3, Nat.reduceEqDiff, Nat.zero_ne_one, Nat.one_ne_zero, Nat.succ_ne_zero, reduceCtorEq, false_and, if_false, true_and, and_self, if_true, and_true, and_false, reduceIte]
    refine gi_active h rfl (show d < 6 by omega) d_Mod_leave_22 ?_
    simp only [sI_1, sI_2, sJ_1, sJ_2, sJ_3, sR_1, sR_2, sR_3, Nat.reduceEqDiff, Nat.zero_ne_one, Nat.one_ne_zero, Nat.succ_ne_zero, reduceCtorEq, false_and, if_false, true_and, and_self, if_true, and_true, and_false, reduceIte]
    rw [ha]
    refine g_iload_n h d_Mod_leave_23 rfl rfl ?_
    refine pi_state h rfl hn d_Mod_leave_24 ?_
    refine g_aload_n h d_Mod_leave_25 rfl rfl ?_
    refine g_lload_n h d_Mod_leave_26 rfl rfl ?_
    refine pf_Mod_outcome h f_Mod_162 d_Mod_leave_27 ?_
    refine g_aload_n h d_Mod_leave_30 rfl rfl ?_
    refine gf_Mod_depth h f_Mod_86 d_Mod_leave_31 ?_
    simp only [sI_1, sI_2, sJ_1, sJ_2, sJ_3, sR_1, sR_2, sR_3, Nat.reduceEqDiff, Nat.zero_ne_one, Nat.one_ne_zero, Nat.succ_ne_zero, reduceCtorEq, false_and, if_false, true_and, and_self, if_true, and_true, and_false, reduceIte]
    refine g_if_ne (tgt := 38) h d_Mod_leave_34 (by decide) (fun c_34 => ?_) (fun c_34 => ?_)
    · exact absurd (by rw [h0]; rfl) c_34
    · exact g_vret h r d_Mod_leave_37 (⟨rfl, by rw [hA]; unfold mleave; rw [if_pos (by omega)]⟩)
  · obtain ⟨e, he⟩ : ∃ e, d = e + 1 := ⟨d - 1, by omega⟩
    obtain ⟨m, hm, hb⟩ := hok.2.2.2.2 e (by omega)
    have hbn : mAct M e = m := by unfold mAct; rw [hb]; exact nI_clamp (by omega)
    obtain ⟨f, p, hf, hp, hf8, hp9⟩ := hlow e he
    rw [hbn] at hf8 hp9
    have hq4 := fmod_lt (M.1 1 (f * 16 + p)) (m := 4) (by decide)
    have hix : mIns M m = f * 16 + p := by unfold mIns; rw [hf8, hp9, nI_clamp (by omega), nI_clamp (by omega)]
    refine g_at (L' := [some (.ref (ad 0)), some (.int s), some (.long v), none, none, none]) rfl rfl rfl ?_
    refine g_aload_n h d_Mod_leave_0 rfl rfl ?_
    refine g_dup h d_Mod_leave_1 rfl ?_
    refine gf_Mod_depth h f_Mod_86 d_Mod_leave_2 ?_
    rw [hd]
    refine g_iconst (v := 1) h d_Mod_leave_5 (by decide) ?_
    refine g_isub h d_Mod_leave_6 ?_
    rw [nI_pred]
    refine pf_Mod_depth h f_Mod_86 d_Mod_leave_7 ?_
    refine g_aload_n h d_Mod_leave_10 rfl rfl ?_
    refine gf_Mod_state h f_Mod_53 d_Mod_leave_11 ?_
    refine g_aload_n h d_Mod_leave_14 rfl rfl ?_
    refine gf_Mod_active h f_Mod_59 d_Mod_leave_15 ?_
    refine g_aload_n h d_Mod_leave_18 rfl rfl ?_
    refine gf_Mod_depth h f_Mod_86 d_Mod_leave_19 ?_
    simp only [sI_1, sI_2, sJ_1, sJ_2, sJ_3, sR_1, sR_2, sR_3, Nat.reduceEqDiff, Nat.zero_ne_one, Nat.one_ne_zero, Nat.succ_ne_zero, reduceCtorEq, false_and, if_false, true_and, and_self, if_true, and_true, and_false, reduceIte]
    refine gi_active h rfl (show d < 6 by omega) d_Mod_leave_22 ?_
    simp only [sI_1, sI_2, sJ_1, sJ_2, sJ_3, sR_1, sR_2, sR_3, Nat.reduceEqDiff, Nat.zero_ne_one, Nat.one_ne_zero, Nat.succ_ne_zero, reduceCtorEq, false_and, if_false, true_and, and_self, if_true, and_true, and_false, reduceIte]
    rw [ha]
    refine g_iload_n h d_Mod_leave_23 rfl rfl ?_
    refine pi_state h rfl hn d_Mod_leave_24 ?_
    refine g_aload_n h d_Mod_leave_25 rfl rfl ?_
    refine g_lload_n h d_Mod_leave_26 rfl rfl ?_
    refine pf_Mod_outcome h f_Mod_162 d_Mod_leave_27 ?_
    refine g_aload_n h d_Mod_leave_30 rfl rfl ?_
    refine gf_Mod_depth h f_Mod_86 d_Mod_leave_31 ?_
    simp only [sI_1, sI_2, sJ_1, sJ_2, sJ_3, sR_1, sR_2, sR_3, Nat.reduceEqDiff, Nat.zero_ne_one, Nat.one_ne_zero, Nat.succ_ne_zero, reduceCtorEq, false_and, if_false, true_and, and_self, if_true, and_true, and_false, reduceIte]
    refine g_if_ne (tgt := 38) h d_Mod_leave_34 (by decide) (fun c_34 => ?_) (fun c_34 => ?_)
    · refine g_aload_n h d_Mod_leave_38 rfl rfl ?_
      refine gf_Mod_active h f_Mod_59 d_Mod_leave_39 ?_
      refine g_aload_n h d_Mod_leave_42 rfl rfl ?_
      refine gf_Mod_depth h f_Mod_86 d_Mod_leave_43 ?_
      simp only [sI_1, sI_2, sJ_1, sJ_2, sJ_3, sR_1, sR_2, sR_3, Nat.reduceEqDiff, Nat.zero_ne_one, Nat.one_ne_zero, Nat.succ_ne_zero, reduceCtorEq, false_and, if_false, true_and, and_self, if_true, and_true, and_false, reduceIte]
      rw [he]
      refine g_iconst (v := 1) h d_Mod_leave_46 (by decide) ?_
      refine g_isub h d_Mod_leave_47 ?_
      rw [nI_pred]
      refine gi_active h rfl (show e < 6 by omega) d_Mod_leave_48 ?_
      simp only [sI_1, sI_2, sJ_1, sJ_2, sJ_3, sR_1, sR_2, sR_3, Nat.reduceEqDiff, Nat.zero_ne_one, Nat.one_ne_zero, Nat.succ_ne_zero, reduceCtorEq, false_and, if_false, true_and, and_self, if_true, and_true, and_false, reduceIte]
      rw [hb]
      refine g_istore h d_Mod_leave_49 rfl (by rw [hN]; decide) ?_
      refine g_aload_n h d_Mod_leave_51 rfl rfl ?_
      refine gf_Mod_function h f_Mod_47 d_Mod_leave_52 ?_
      refine g_iload h d_Mod_leave_55 rfl ?_
      refine gi_function h rfl hm d_Mod_leave_57 ?_
      simp only [sI_1, sI_2, sJ_1, sJ_2, sJ_3, sR_1, sR_2, sR_3, Nat.reduceEqDiff, Nat.zero_ne_one, Nat.one_ne_zero, Nat.succ_ne_zero, reduceCtorEq, false_and, if_false, true_and, and_self, if_true, and_true, and_false, reduceIte]
      rw [hf8]
      refine g_bipush (v := 16) h d_Mod_leave_58 (by decide) ?_
      refine g_imul h d_Mod_leave_60 ?_
      refine g_aload_n h d_Mod_leave_61 rfl rfl ?_
      refine gf_Mod_place h f_Mod_50 d_Mod_leave_62 ?_
      refine g_iload h d_Mod_leave_65 rfl ?_
      refine gi_place h rfl hm d_Mod_leave_67 ?_
      simp only [sI_1, sI_2, sJ_1, sJ_2, sJ_3, sR_1, sR_2, sR_3, Nat.reduceEqDiff, Nat.zero_ne_one, Nat.one_ne_zero, Nat.succ_ne_zero, reduceCtorEq, false_and, if_false, true_and, and_self, if_true, and_true, and_false, reduceIte]
      rw [hp9]
      refine g_iadd h d_Mod_leave_68 ?_
      rw [nI_at16]
      refine g_istore h d_Mod_leave_69 rfl (by rw [hN]; decide) ?_
      refine g_aload_n h d_Mod_leave_71 rfl rfl ?_
      refine gf_Mod_registers h f_Mod_44 d_Mod_leave_72 ?_
      refine g_iload h d_Mod_leave_75 rfl ?_
      refine g_iconst (v := 4) h d_Mod_leave_77 (by decide) ?_
      refine g_imul h d_Mod_leave_78 ?_
      refine g_aload_n h d_Mod_leave_79 rfl rfl ?_
      refine gf_Mod_as h f_Mod_13 d_Mod_leave_80 ?_
      refine g_iload h d_Mod_leave_83 rfl ?_
      refine gi_as h rfl (show f * 16 + p < 64 by omega) d_Mod_leave_85 ?_
      simp only [sI_1, sI_2, sJ_1, sJ_2, sJ_3, sR_1, sR_2, sR_3, Nat.reduceEqDiff, Nat.zero_ne_one, Nat.one_ne_zero, Nat.succ_ne_zero, reduceCtorEq, false_and, if_false, true_and, and_self, if_true, and_true, and_false, reduceIte]
      refine g_iconst (v := 3) h d_Mod_leave_86 (by decide) ?_
      refine g_iand h d_Mod_leave_87 ?_
      rw [and3]
      refine g_iadd h d_Mod_leave_88 ?_
      rw [nI_at4]
      refine g_lload_n h d_Mod_leave_89 rfl rfl ?_
      refine pj_registers h rfl (by omega) d_Mod_leave_90 ?_
      refine g_aload_n h d_Mod_leave_91 rfl rfl ?_
      refine gf_Mod_place h f_Mod_50 d_Mod_leave_92 ?_
      refine g_iload h d_Mod_leave_95 rfl ?_
      refine g_dup2 h d_Mod_leave_97 rfl rfl ?_
      refine gi_place h rfl hm d_Mod_leave_98 ?_
      simp only [sI_1, sI_2, sJ_1, sJ_2, sJ_3, sR_1, sR_2, sR_3, Nat.reduceEqDiff, Nat.zero_ne_one, Nat.one_ne_zero, Nat.succ_ne_zero, reduceCtorEq, false_and, if_false, true_and, and_self, if_true, and_true, and_false, reduceIte]
      refine g_iconst (v := 1) h d_Mod_leave_99 (by decide) ?_
      refine g_iadd h d_Mod_leave_100 ?_
      refine pi_place h rfl hm d_Mod_leave_101 ?_
      exact g_vret h r d_Mod_leave_102 (⟨rfl, by rw [← he, hA]; unfold mleave; rw [if_neg (by omega), hdd, show d + 1 - 2 = e by omega, hbn, hix]⟩)
    · exact absurd c_34 (nI_ne0 h0 (by omega))
