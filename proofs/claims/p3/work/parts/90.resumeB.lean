set_option maxHeartbeats 4000000 in
set_option maxRecDepth 100000 in
theorem c_Mod_resumeB {l : Launch} {D : va_G} {u : Nat → ClassId} {ad : Nat → Nat} {M : CS} {g v w : Int32} (hok : okM M) (hbad : (g < 0 ∨ 5 < g) ∨ (v < 0 ∨ 5 < v) ∨ (w < 0 ∨ 5 < w)) : Cm l D u ad y_Mod_resume b_Mod_resume 6 (some .long) { frames := 7, cells := 0, slots := 0, locals := 168 } [.ref (ad 0), .int g, .int v, .int w] (M) (some (.long 0)) (sI M 21 0 1) := by
  refine ct_of (by decide) (Nat.le_of_ble_eq_true rfl) ?_
  intro Γ _ _ hN h r
  refine g_at (L' := [some (.ref (ad 0)), some (.int g), some (.int v), some (.int w), none, none]) rfl rfl rfl ?_
  refine g_aload_n h d_Mod_resume_0 rfl rfl ?_
  refine g_aload_n h d_Mod_resume_1 rfl rfl ?_
  refine g_iload_n h d_Mod_resume_2 rfl rfl ?_
  refine g_dVi h tb_good (c_Mod_badGlobal) (q := 0) (by decide) rfl rfl v_Mod_78 nm_Mod_badGlobal rfl ⟨rfl, rfl, Nat.le_of_ble_eq_true rfl, Nat.le_of_ble_eq_true rfl, Nat.zero_le _, Nat.zero_le _⟩ rfl (Nat.le_of_ble_eq_true rfl) d_Mod_resume_3 ?_
  by_cases hb : g < 0 ∨ 5 < g
  · rw [if_pos hb]
    refine g_if_ne (tgt := 25) h d_Mod_resume_6 (by decide) (fun c_6 => ?_) (fun c_6 => ?_)
    · skip
      · refine g_iconst (v := 1) h d_Mod_resume_25 (by decide) ?_
        refine g_goto (tgt := 30) h d_Mod_resume_26 (by decide) ?_
        refine pf_Mod_thrown h f_Mod_64 d_Mod_resume_30 ?_
        refine g_aload_n h d_Mod_resume_33 rfl rfl ?_
        refine gf_Mod_thrown h f_Mod_64 d_Mod_resume_34 ?_
        simp only [sI_1, sI_2, sJ_1, sJ_2, sJ_3, sR_1, sR_2, sR_3, Nat.reduceEqDiff, Nat.zero_ne_one, Nat.one_ne_zero, Nat.succ_ne_zero, reduceCtorEq, false_and, if_false, true_and, and_self, if_true, and_true, and_false, reduceIte]
        refine g_if_eq (tgt := 42) h d_Mod_resume_37 (by decide) (fun c_37 => ?_) (fun c_37 => ?_)
        · exact absurd c_37 (by decide)
        · refine g_lconst (v := 0) h d_Mod_resume_40 (by decide) ?_
          exact g_lret h r d_Mod_resume_41 (⟨rfl, rfl⟩)
    · exact absurd c_6 (by decide)
  · rw [if_neg hb]
    obtain ⟨hj, hje⟩ := gl_num hb
    refine g_if_ne (tgt := 25) h d_Mod_resume_6 (by decide) (fun c_6 => ?_) (fun c_6 => ?_)
    · exact absurd rfl c_6
    · refine g_aload_n h d_Mod_resume_9 rfl rfl ?_
      refine g_iload_n h d_Mod_resume_10 rfl rfl ?_
      refine g_dVi h tb_good (c_Mod_badGlobal) (q := 0) (by decide) rfl rfl v_Mod_78 nm_Mod_badGlobal rfl ⟨rfl, rfl, Nat.le_of_ble_eq_true rfl, Nat.le_of_ble_eq_true rfl, Nat.zero_le _, Nat.zero_le _⟩ rfl (Nat.le_of_ble_eq_true rfl) d_Mod_resume_11 ?_
      by_cases hb2 : v < 0 ∨ 5 < v
      · rw [if_pos hb2]
        refine g_if_ne (tgt := 25) h d_Mod_resume_14 (by decide) (fun c_14 => ?_) (fun c_14 => ?_)
        · skip
          · refine g_iconst (v := 1) h d_Mod_resume_25 (by decide) ?_
            refine g_goto (tgt := 30) h d_Mod_resume_26 (by decide) ?_
            refine pf_Mod_thrown h f_Mod_64 d_Mod_resume_30 ?_
            refine g_aload_n h d_Mod_resume_33 rfl rfl ?_
            refine gf_Mod_thrown h f_Mod_64 d_Mod_resume_34 ?_
            simp only [sI_1, sI_2, sJ_1, sJ_2, sJ_3, sR_1, sR_2, sR_3, Nat.reduceEqDiff, Nat.zero_ne_one, Nat.one_ne_zero, Nat.succ_ne_zero, reduceCtorEq, false_and, if_false, true_and, and_self, if_true, and_true, and_false, reduceIte]
            refine g_if_eq (tgt := 42) h d_Mod_resume_37 (by decide) (fun c_37 => ?_) (fun c_37 => ?_)
            · exact absurd c_37 (by decide)
            · refine g_lconst (v := 0) h d_Mod_resume_40 (by decide) ?_
              exact g_lret h r d_Mod_resume_41 (⟨rfl, rfl⟩)
        · exact absurd c_14 (by decide)
      · rw [if_neg hb2]
        obtain ⟨hk, hke⟩ := gl_num hb2
        refine g_if_ne (tgt := 25) h d_Mod_resume_14 (by decide) (fun c_14 => ?_) (fun c_14 => ?_)
        · exact absurd rfl c_14
        · refine g_aload_n h d_Mod_resume_17 rfl rfl ?_
          refine g_iload_n h d_Mod_resume_18 rfl rfl ?_
          refine g_dVi h tb_good (c_Mod_badGlobal) (q := 0) (by decide) rfl rfl v_Mod_78 nm_Mod_badGlobal rfl ⟨rfl, rfl, Nat.le_of_ble_eq_true rfl, Nat.le_of_ble_eq_true rfl, Nat.zero_le _, Nat.zero_le _⟩ rfl (Nat.le_of_ble_eq_true rfl) d_Mod_resume_19 ?_
          by_cases hb3 : w < 0 ∨ 5 < w
          · rw [if_pos hb3]
            refine g_if_eq (tgt := 29) h d_Mod_resume_22 (by decide) (fun c_22 => ?_) (fun c_22 => ?_)
            · exact absurd c_22 (by decide)
            · skip
              · refine g_iconst (v := 1) h d_Mod_resume_25 (by decide) ?_
                refine g_goto (tgt := 30) h d_Mod_resume_26 (by decide) ?_
                refine pf_Mod_thrown h f_Mod_64 d_Mod_resume_30 ?_
                refine g_aload_n h d_Mod_resume_33 rfl rfl ?_
                refine gf_Mod_thrown h f_Mod_64 d_Mod_resume_34 ?_
                simp only [sI_1, sI_2, sJ_1, sJ_2, sJ_3, sR_1, sR_2, sR_3, Nat.reduceEqDiff, Nat.zero_ne_one, Nat.one_ne_zero, Nat.succ_ne_zero, reduceCtorEq, false_and, if_false, true_and, and_self, if_true, and_true, and_false, reduceIte]
                refine g_if_eq (tgt := 42) h d_Mod_resume_37 (by decide) (fun c_37 => ?_) (fun c_37 => ?_)
                · exact absurd c_37 (by decide)
                · refine g_lconst (v := 0) h d_Mod_resume_40 (by decide) ?_
                  exact g_lret h r d_Mod_resume_41 (⟨rfl, rfl⟩)
          · rw [if_neg hb3]
            obtain ⟨hv, hve⟩ := gl_num hb3
            refine g_if_eq (tgt := 29) h d_Mod_resume_22 (by decide) (fun c_22 => ?_) (fun c_22 => ?_)
            · skip
              · refine g_iconst (v := 0) h d_Mod_resume_29 (by decide) ?_
                refine pf_Mod_thrown h f_Mod_64 d_Mod_resume_30 ?_
                refine g_aload_n h d_Mod_resume_33 rfl rfl ?_
                refine gf_Mod_thrown h f_Mod_64 d_Mod_resume_34 ?_
                simp only [sI_1, sI_2, sJ_1, sJ_2, sJ_3, sR_1, sR_2, sR_3, Nat.reduceEqDiff, Nat.zero_ne_one, Nat.one_ne_zero, Nat.succ_ne_zero, reduceCtorEq, false_and, if_false, true_and, and_self, if_true, and_true, and_false, reduceIte]
                refine g_if_eq (tgt := 42) h d_Mod_resume_37 (by decide) (fun c_37 => ?_) (fun c_37 => ?_)
                · exact (hbad.elim hb (fun z => z.elim hb2 hb3)).elim
                · exact absurd rfl c_37
            · exact absurd rfl c_22
