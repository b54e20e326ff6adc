set_option maxHeartbeats 4000000 in
set_option maxRecDepth 100000 in
theorem c_Mod_object {l : Launch} {D : va_G} {u : Nat → ClassId} {ad : Nat → Nat} {M : CS} {n w : Int32} : Cm l D u ad y_Mod_object b_Mod_object 3 (some .int) { frames := 0, cells := 0, slots := 0, locals := 0 } [.ref (ad 0), .int n, .int w] (M) (some (.int (mobject M n w).1)) ((mobject M n w).2) := by
  refine ct_of (by decide) (Nat.le_of_ble_eq_true rfl) ?_
  intro Γ _ _ hN h r
  refine g_at (L' := [some (.ref (ad 0)), some (.int n), some (.int w)]) rfl rfl rfl ?_
  refine g_aload_n h d_Mod_object_0 rfl rfl ?_
  refine g_iload_n h d_Mod_object_1 rfl rfl ?_
  refine g_if_lt (tgt := 20) h d_Mod_object_2 (by decide) (fun c_2 => ?_) (fun c_2 => ?_)
  · skip
    · refine g_iconst (v := 1) h d_Mod_object_20 (by decide) ?_
      refine g_goto (tgt := 42) h d_Mod_object_21 (by decide) ?_
      refine pf_Mod_thrown h f_Mod_64 d_Mod_object_42 ?_
      refine g_aload_n h d_Mod_object_45 rfl rfl ?_
      refine gf_Mod_thrown h f_Mod_64 d_Mod_object_46 ?_
      simp only [sI_1, sI_2, sJ_1, sJ_2, sJ_3, sR_1, sR_2, sR_3, Nat.reduceEqDiff, Nat.zero_ne_one, Nat.one_ne_zero, Nat.succ_ne_zero, reduceCtorEq, false_and, if_false, true_and, and_self, if_true, and_true, and_false, reduceIte]
      refine g_if_eq (tgt := 54) h d_Mod_object_49 (by decide) (fun c_49 => ?_) (fun c_49 => ?_)
      · exact absurd c_49 (by decide)
      · refine g_iconst (v := 0) h d_Mod_object_52 (by decide) ?_
        exact g_iret h r d_Mod_object_53 (⟨by unfold mobject; first | (rw [if_pos (by first | exact .inl c_2 | exact .inr (.inl c_8) | exact .inr (.inr (.inl c_12)) | exact .inr (.inr (.inr (Int32.not_le.mp c_17))))]; done) | (rw [if_neg (fun z => by rcases z with z | z | z | z <;> first | exact c_2 z | exact c_8 z | exact c_12 z | exact Int32.not_lt.mpr c_17 z), if_pos ⟨Int32.not_le.mp c_25, c_34⟩]; done), by unfold mobject; first | (rw [if_pos (by first | exact .inl c_2 | exact .inr (.inl c_8) | exact .inr (.inr (.inl c_12)) | exact .inr (.inr (.inr (Int32.not_le.mp c_17))))]; done) | (rw [if_neg (fun z => by rcases z with z | z | z | z <;> first | exact c_2 z | exact c_8 z | exact c_12 z | exact Int32.not_lt.mpr c_17 z), if_pos ⟨Int32.not_le.mp c_25, c_34⟩]; done)⟩)
  · refine g_iload_n h d_Mod_object_5 rfl rfl ?_
    refine g_bipush (v := 15) h d_Mod_object_6 (by decide) ?_
    refine g_icmp_gt (tgt := 20) h d_Mod_object_8 (by decide) (fun c_8 => ?_) (fun c_8 => ?_)
    · skip
      · refine g_iconst (v := 1) h d_Mod_object_20 (by decide) ?_
        refine g_goto (tgt := 42) h d_Mod_object_21 (by decide) ?_
        refine pf_Mod_thrown h f_Mod_64 d_Mod_object_42 ?_
        refine g_aload_n h d_Mod_object_45 rfl rfl ?_
        refine gf_Mod_thrown h f_Mod_64 d_Mod_object_46 ?_
        simp only [sI_1, sI_2, sJ_1, sJ_2, sJ_3, sR_1, sR_2, sR_3, Nat.reduceEqDiff, Nat.zero_ne_one, Nat.one_ne_zero, Nat.succ_ne_zero, reduceCtorEq, false_and, if_false, true_and, and_self, if_true, and_true, and_false, reduceIte]
        refine g_if_eq (tgt := 54) h d_Mod_object_49 (by decide) (fun c_49 => ?_) (fun c_49 => ?_)
        · exact absurd c_49 (by decide)
        · refine g_iconst (v := 0) h d_Mod_object_52 (by decide) ?_
          exact g_iret h r d_Mod_object_53 (⟨by unfold mobject; first | (rw [if_pos (by first | exact .inl c_2 | exact .inr (.inl c_8) | exact .inr (.inr (.inl c_12)) | exact .inr (.inr (.inr (Int32.not_le.mp c_17))))]; done) | (rw [if_neg (fun z => by rcases z with z | z | z | z <;> first | exact c_2 z | exact c_8 z | exact c_12 z | exact Int32.not_lt.mpr c_17 z), if_pos ⟨Int32.not_le.mp c_25, c_34⟩]; done), by unfold mobject; first | (rw [if_pos (by first | exact .inl c_2 | exact .inr (.inl c_8) | exact .inr (.inr (.inl c_12)) | exact .inr (.inr (.inr (Int32.not_le.mp c_17))))]; done) | (rw [if_neg (fun z => by rcases z with z | z | z | z <;> first | exact c_2 z | exact c_8 z | exact c_12 z | exact Int32.not_lt.mpr c_17 z), if_pos ⟨Int32.not_le.mp c_25, c_34⟩]; done)⟩)
    · refine g_iload_n h d_Mod_object_11 rfl rfl ?_
      refine g_if_lt (tgt := 20) h d_Mod_object_12 (by decide) (fun c_12 => ?_) (fun c_12 => ?_)
      · skip
        · refine g_iconst (v := 1) h d_Mod_object_20 (by decide) ?_
          refine g_goto (tgt := 42) h d_Mod_object_21 (by decide) ?_
          refine pf_Mod_thrown h f_Mod_64 d_Mod_object_42 ?_
          refine g_aload_n h d_Mod_object_45 rfl rfl ?_
          refine gf_Mod_thrown h f_Mod_64 d_Mod_object_46 ?_
          simp only [sI_1, sI_2, sJ_1, sJ_2, sJ_3, sR_1, sR_2, sR_3, Nat.reduceEqDiff, Nat.zero_ne_one, Nat.one_ne_zero, Nat.succ_ne_zero, reduceCtorEq, false_and, if_false, true_and, and_self, if_true, and_true, and_false, reduceIte]
          refine g_if_eq (tgt := 54) h d_Mod_object_49 (by decide) (fun c_49 => ?_) (fun c_49 => ?_)
          · exact absurd c_49 (by decide)
          · refine g_iconst (v := 0) h d_Mod_object_52 (by decide) ?_
            exact g_iret h r d_Mod_object_53 (⟨by unfold mobject; first | (rw [if_pos (by first | exact .inl c_2 | exact .inr (.inl c_8) | exact .inr (.inr (.inl c_12)) | exact .inr (.inr (.inr (Int32.not_le.mp c_17))))]; done) | (rw [if_neg (fun z => by rcases z with z | z | z | z <;> first | exact c_2 z | exact c_8 z | exact c_12 z | exact Int32.not_lt.mpr c_17 z), if_pos ⟨Int32.not_le.mp c_25, c_34⟩]; done), by unfold mobject; first | (rw [if_pos (by first | exact .inl c_2 | exact .inr (.inl c_8) | exact .inr (.inr (.inl c_12)) | exact .inr (.inr (.inr (Int32.not_le.mp c_17))))]; done) | (rw [if_neg (fun z => by rcases z with z | z | z | z <;> first | exact c_2 z | exact c_8 z | exact c_12 z | exact Int32.not_lt.mpr c_17 z), if_pos ⟨Int32.not_le.mp c_25, c_34⟩]; done)⟩)
      · refine g_iload_n h d_Mod_object_15 rfl rfl ?_
        refine g_iconst (v := 3) h d_Mod_object_16 (by decide) ?_
        refine g_icmp_le (tgt := 24) h d_Mod_object_17 (by decide) (fun c_17 => ?_) (fun c_17 => ?_)
        · obtain ⟨hn, hne⟩ := i32_num (m := 15) (by decide) c_2 c_8
          refine g_iload_n h d_Mod_object_24 rfl rfl ?_
          refine g_if_le (tgt := 41) h d_Mod_object_25 (by decide) (fun c_25 => ?_) (fun c_25 => ?_)
          · skip
            · refine g_iconst (v := 0) h d_Mod_object_41 (by decide) ?_
              refine pf_Mod_thrown h f_Mod_64 d_Mod_object_42 ?_
              refine g_aload_n h d_Mod_object_45 rfl rfl ?_
              refine gf_Mod_thrown h f_Mod_64 d_Mod_object_46 ?_
              simp only [sI_1, sI_2, sJ_1, sJ_2, sJ_3, sR_1, sR_2, sR_3, Nat.reduceEqDiff, Nat.zero_ne_one, Nat.one_ne_zero, Nat.succ_ne_zero, reduceCtorEq, false_and, if_false, true_and, and_self, if_true, and_true, and_false, reduceIte]
              refine g_if_eq (tgt := 54) h d_Mod_object_49 (by decide) (fun c_49 => ?_) (fun c_49 => ?_)
              · refine g_iload_n h d_Mod_object_54 rfl rfl ?_
                refine g_if_ne (tgt := 65) h d_Mod_object_55 (by decide) (fun c_55 => ?_) (fun c_55 => ?_)
                · refine g_iload_n h d_Mod_object_65 rfl rfl ?_
                  refine g_iconst (v := 1) h d_Mod_object_66 (by decide) ?_
                  refine g_icmp_ne (tgt := 77) h d_Mod_object_67 (by decide) (fun c_67 => ?_) (fun c_67 => ?_)
                  · refine g_iload_n h d_Mod_object_77 rfl rfl ?_
                    refine g_iconst (v := 2) h d_Mod_object_78 (by decide) ?_
                    refine g_icmp_ne (tgt := 108) h d_Mod_object_79 (by decide) (fun c_79 => ?_) (fun c_79 => ?_)
                    · refine g_aload_n h d_Mod_object_108 rfl rfl ?_
                      refine gf_Mod_kind h f_Mod_26 d_Mod_object_109 ?_
                      refine g_iload_n h d_Mod_object_112 rfl rfl ?_
                      refine gi_kind h hne (show n.toNatClampNeg < 16 by omega) d_Mod_object_113 ?_
                      simp only [sI_1, sI_2, sJ_1, sJ_2, sJ_3, sR_1, sR_2, sR_3, Nat.reduceEqDiff, Nat.zero_ne_one, Nat.one_ne_zero, Nat.succ_ne_zero, reduceCtorEq, false_and, if_false, true_and, and_self, if_true, and_true, and_false, reduceIte]
                      refine g_iconst (v := 1) h d_Mod_object_114 (by decide) ?_
                      refine g_icmp_ne (tgt := 127) h d_Mod_object_115 (by decide) (fun c_115 => ?_) (fun c_115 => ?_)
                      · refine g_aload_n h d_Mod_object_127 rfl rfl ?_
                        refine gf_Mod_state h f_Mod_53 d_Mod_object_128 ?_
                        refine g_iload_n h d_Mod_object_131 rfl rfl ?_
                        refine gi_state h hne (show n.toNatClampNeg < 16 by omega) d_Mod_object_132 ?_
                        exact g_iret h r d_Mod_object_133 (⟨by unfold mobject; rw [if_neg (fun z => by rcases z with z | z | z | z <;> first | exact c_2 z | exact c_8 z | exact c_12 z | exact Int32.not_lt.mpr c_17 z), if_neg (fun z => by first | exact absurd z.1 (Int32.not_lt.mpr c_25) | exact c_34 z.2)]; first | (simp only [if_neg c_55, if_neg c_67, if_neg c_79, if_pos c_115]; first | done | rfl) | (simp only [if_neg c_55, if_neg c_67, if_neg c_79, if_neg c_115]; first | done | rfl), by unfold mobject; rw [if_neg (fun z => by rcases z with z | z | z | z <;> first | exact c_2 z | exact c_8 z | exact c_12 z | exact Int32.not_lt.mpr c_17 z), if_neg (fun z => by first | exact absurd z.1 (Int32.not_lt.mpr c_25) | exact c_34 z.2)]⟩)
                      · refine g_aload_n h d_Mod_object_118 rfl rfl ?_
                        refine gf_Mod_metaOf h f_Mod_35 d_Mod_object_119 ?_
                        refine g_iload_n h d_Mod_object_122 rfl rfl ?_
                        refine gi_metaOf h hne (show n.toNatClampNeg < 16 by omega) d_Mod_object_123 ?_
                        refine g_goto (tgt := 133) h d_Mod_object_124 (by decide) ?_
                        exact g_iret h r d_Mod_object_133 (⟨by unfold mobject; rw [if_neg (fun z => by rcases z with z | z | z | z <;> first | exact c_2 z | exact c_8 z | exact c_12 z | exact Int32.not_lt.mpr c_17 z), if_neg (fun z => by first | exact absurd z.1 (Int32.not_lt.mpr c_25) | exact c_34 z.2)]; first | (simp only [if_neg c_55, if_neg c_67, if_neg c_79, if_pos c_115]; first | done | rfl) | (simp only [if_neg c_55, if_neg c_67, if_neg c_79, if_neg c_115]; first | done | rfl), by unfold mobject; rw [if_neg (fun z => by rcases z with z | z | z | z <;> first | exact c_2 z | exact c_8 z | exact c_12 z | exact Int32.not_lt.mpr c_17 z), if_neg (fun z => by first | exact absurd z.1 (Int32.not_lt.mpr c_25) | exact c_34 z.2)]⟩)
                    · refine g_aload_n h d_Mod_object_82 rfl rfl ?_
                      refine gf_Mod_kind h f_Mod_26 d_Mod_object_83 ?_
                      refine g_iload_n h d_Mod_object_86 rfl rfl ?_
                      refine gi_kind h hne (show n.toNatClampNeg < 16 by omega) d_Mod_object_87 ?_
                      simp only [sI_1, sI_2, sJ_1, sJ_2, sJ_3, sR_1, sR_2, sR_3, Nat.reduceEqDiff, Nat.zero_ne_one, Nat.one_ne_zero, Nat.succ_ne_zero, reduceCtorEq, false_and, if_false, true_and, and_self, if_true, and_true, and_false, reduceIte]
                      refine g_iconst (v := 1) h d_Mod_object_88 (by decide) ?_
                      refine g_icmp_ne (tgt := 101) h d_Mod_object_89 (by decide) (fun c_89 => ?_) (fun c_89 => ?_)
                      · refine g_aload_n h d_Mod_object_101 rfl rfl ?_
                        refine gf_Mod_place h f_Mod_50 d_Mod_object_102 ?_
                        refine g_iload_n h d_Mod_object_105 rfl rfl ?_
                        refine gi_place h hne (show n.toNatClampNeg < 16 by omega) d_Mod_object_106 ?_
                        exact g_iret h r d_Mod_object_107 (⟨by unfold mobject; rw [if_neg (fun z => by rcases z with z | z | z | z <;> first | exact c_2 z | exact c_8 z | exact c_12 z | exact Int32.not_lt.mpr c_17 z), if_neg (fun z => by first | exact absurd z.1 (Int32.not_lt.mpr c_25) | exact c_34 z.2)]; first | (simp only [if_neg c_55, if_neg c_67, if_pos c_79, if_pos c_89]; first | done | rfl) | (simp only [if_neg c_55, if_neg c_67, if_pos c_79, if_neg c_89]; first | done | rfl), by unfold mobject; rw [if_neg (fun z => by rcases z with z | z | z | z <;> first | exact c_2 z | exact c_8 z | exact c_12 z | exact Int32.not_lt.mpr c_17 z), if_neg (fun z => by first | exact absurd z.1 (Int32.not_lt.mpr c_25) | exact c_34 z.2)]⟩)
                      · refine g_aload_n h d_Mod_object_92 rfl rfl ?_
                        refine gf_Mod_size h f_Mod_32 d_Mod_object_93 ?_
                        refine g_iload_n h d_Mod_object_96 rfl rfl ?_
                        refine gi_size h hne (show n.toNatClampNeg < 16 by omega) d_Mod_object_97 ?_
                        refine g_goto (tgt := 107) h d_Mod_object_98 (by decide) ?_
                        exact g_iret h r d_Mod_object_107 (⟨by unfold mobject; rw [if_neg (fun z => by rcases z with z | z | z | z <;> first | exact c_2 z | exact c_8 z | exact c_12 z | exact Int32.not_lt.mpr c_17 z), if_neg (fun z => by first | exact absurd z.1 (Int32.not_lt.mpr c_25) | exact c_34 z.2)]; first | (simp only [if_neg c_55, if_neg c_67, if_pos c_79, if_pos c_89]; first | done | rfl) | (simp only [if_neg c_55, if_neg c_67, if_pos c_79, if_neg c_89]; first | done | rfl), by unfold mobject; rw [if_neg (fun z => by rcases z with z | z | z | z <;> first | exact c_2 z | exact c_8 z | exact c_12 z | exact Int32.not_lt.mpr c_17 z), if_neg (fun z => by first | exact absurd z.1 (Int32.not_lt.mpr c_25) | exact c_34 z.2)]⟩)
                  · refine g_aload_n h d_Mod_object_70 rfl rfl ?_
                    refine gf_Mod_colour h f_Mod_29 d_Mod_object_71 ?_
                    refine g_iload_n h d_Mod_object_74 rfl rfl ?_
                    refine gi_colour h hne (show n.toNatClampNeg < 16 by omega) d_Mod_object_75 ?_
                    exact g_iret h r d_Mod_object_76 (⟨by unfold mobject; rw [if_neg (fun z => by rcases z with z | z | z | z <;> first | exact c_2 z | exact c_8 z | exact c_12 z | exact Int32.not_lt.mpr c_17 z), if_neg (fun z => by first | exact absurd z.1 (Int32.not_lt.mpr c_25) | exact c_34 z.2)]; first | (simp only [if_neg c_55, if_pos c_67]; first | done | rfl), by unfold mobject; rw [if_neg (fun z => by rcases z with z | z | z | z <;> first | exact c_2 z | exact c_8 z | exact c_12 z | exact Int32.not_lt.mpr c_17 z), if_neg (fun z => by first | exact absurd z.1 (Int32.not_lt.mpr c_25) | exact c_34 z.2)]⟩)
                · refine g_aload_n h d_Mod_object_58 rfl rfl ?_
                  refine gf_Mod_kind h f_Mod_26 d_Mod_object_59 ?_
                  refine g_iload_n h d_Mod_object_62 rfl rfl ?_
                  refine gi_kind h hne (show n.toNatClampNeg < 16 by omega) d_Mod_object_63 ?_
                  exact g_iret h r d_Mod_object_64 (⟨by unfold mobject; rw [if_neg (fun z => by rcases z with z | z | z | z <;> first | exact c_2 z | exact c_8 z | exact c_12 z | exact Int32.not_lt.mpr c_17 z), if_neg (fun z => by first | exact absurd z.1 (Int32.not_lt.mpr c_25) | exact c_34 z.2)]; first | (simp only [if_pos c_55]; first | done | rfl), by unfold mobject; rw [if_neg (fun z => by rcases z with z | z | z | z <;> first | exact c_2 z | exact c_8 z | exact c_12 z | exact Int32.not_lt.mpr c_17 z), if_neg (fun z => by first | exact absurd z.1 (Int32.not_lt.mpr c_25) | exact c_34 z.2)]⟩)
              · exact absurd rfl c_49
          · refine g_aload_n h d_Mod_object_28 rfl rfl ?_
            refine gf_Mod_kind h f_Mod_26 d_Mod_object_29 ?_
            refine g_iload_n h d_Mod_object_32 rfl rfl ?_
            refine gi_kind h hne (show n.toNatClampNeg < 16 by omega) d_Mod_object_33 ?_
            refine g_if_ne (tgt := 41) h d_Mod_object_34 (by decide) (fun c_34 => ?_) (fun c_34 => ?_)
            · skip
              · refine g_iconst (v := 0) h d_Mod_object_41 (by decide) ?_
                refine pf_Mod_thrown h f_Mod_64 d_Mod_object_42 ?_
                refine g_aload_n h d_Mod_object_45 rfl rfl ?_
                refine gf_Mod_thrown h f_Mod_64 d_Mod_object_46 ?_
                simp only [sI_1, sI_2, sJ_1, sJ_2, sJ_3, sR_1, sR_2, sR_3, Nat.reduceEqDiff, Nat.zero_ne_one, Nat.one_ne_zero, Nat.succ_ne_zero, reduceCtorEq, false_and, if_false, true_and, and_self, if_true, and_true, and_false, reduceIte]
                refine g_if_eq (tgt := 54) h d_Mod_object_49 (by decide) (fun c_49 => ?_) (fun c_49 => ?_)
                · refine g_iload_n h d_Mod_object_54 rfl rfl ?_
                  refine g_if_ne (tgt := 65) h d_Mod_object_55 (by decide) (fun c_55 => ?_) (fun c_55 => ?_)
                  · refine g_iload_n h d_Mod_object_65 rfl rfl ?_
                    refine g_iconst (v := 1) h d_Mod_object_66 (by decide) ?_
                    refine g_icmp_ne (tgt := 77) h d_Mod_object_67 (by decide) (fun c_67 => ?_) (fun c_67 => ?_)
                    · refine g_iload_n h d_Mod_object_77 rfl rfl ?_
                      refine g_iconst (v := 2) h d_Mod_object_78 (by decide) ?_
                      refine g_icmp_ne (tgt := 108) h d_Mod_object_79 (by decide) (fun c_79 => ?_) (fun c_79 => ?_)
                      · refine g_aload_n h d_Mod_object_108 rfl rfl ?_
                        refine gf_Mod_kind h f_Mod_26 d_Mod_object_109 ?_
                        refine g_iload_n h d_Mod_object_112 rfl rfl ?_
                        refine gi_kind h hne (show n.toNatClampNeg < 16 by omega) d_Mod_object_113 ?_
                        simp only [sI_1, sI_2, sJ_1, sJ_2, sJ_3, sR_1, sR_2, sR_3, Nat.reduceEqDiff, Nat.zero_ne_one, Nat.one_ne_zero, Nat.succ_ne_zero, reduceCtorEq, false_and, if_false, true_and, and_self, if_true, and_true, and_false, reduceIte]
                        refine g_iconst (v := 1) h d_Mod_object_114 (by decide) ?_
                        refine g_icmp_ne (tgt := 127) h d_Mod_object_115 (by decide) (fun c_115 => ?_) (fun c_115 => ?_)
                        · refine g_aload_n h d_Mod_object_127 rfl rfl ?_
                          refine gf_Mod_state h f_Mod_53 d_Mod_object_128 ?_
                          refine g_iload_n h d_Mod_object_131 rfl rfl ?_
                          refine gi_state h hne (show n.toNatClampNeg < 16 by omega) d_Mod_object_132 ?_
                          exact g_iret h r d_Mod_object_133 (⟨by unfold mobject; rw [if_neg (fun z => by rcases z with z | z | z | z <;> first | exact c_2 z | exact c_8 z | exact c_12 z | exact Int32.not_lt.mpr c_17 z), if_neg (fun z => by first | exact absurd z.1 (Int32.not_lt.mpr c_25) | exact c_34 z.2)]; first | (simp only [if_neg c_55, if_neg c_67, if_neg c_79, if_pos c_115]; first | done | rfl) | (simp only [if_neg c_55, if_neg c_67, if_neg c_79, if_neg c_115]; first | done | rfl), by unfold mobject; rw [if_neg (fun z => by rcases z with z | z | z | z <;> first | exact c_2 z | exact c_8 z | exact c_12 z | exact Int32.not_lt.mpr c_17 z), if_neg (fun z => by first | exact absurd z.1 (Int32.not_lt.mpr c_25) | exact c_34 z.2)]⟩)
                        · refine g_aload_n h d_Mod_object_118 rfl rfl ?_
                          refine gf_Mod_metaOf h f_Mod_35 d_Mod_object_119 ?_
                          refine g_iload_n h d_Mod_object_122 rfl rfl ?_
                          refine gi_metaOf h hne (show n.toNatClampNeg < 16 by omega) d_Mod_object_123 ?_
                          refine g_goto (tgt := 133) h d_Mod_object_124 (by decide) ?_
                          exact g_iret h r d_Mod_object_133 (⟨by unfold mobject; rw [if_neg (fun z => by rcases z with z | z | z | z <;> first | exact c_2 z | exact c_8 z | exact c_12 z | exact Int32.not_lt.mpr c_17 z), if_neg (fun z => by first | exact absurd z.1 (Int32.not_lt.mpr c_25) | exact c_34 z.2)]; first | (simp only [if_neg c_55, if_neg c_67, if_neg c_79, if_pos c_115]; first | done | rfl) | (simp only [if_neg c_55, if_neg c_67, if_neg c_79, if_neg c_115]; first | done | rfl), by unfold mobject; rw [if_neg (fun z => by rcases z with z | z | z | z <;> first | exact c_2 z | exact c_8 z | exact c_12 z | exact Int32.not_lt.mpr c_17 z), if_neg (fun z => by first | exact absurd z.1 (Int32.not_lt.mpr c_25) | exact c_34 z.2)]⟩)
                      · refine g_aload_n h d_Mod_object_82 rfl rfl ?_
                        refine gf_Mod_kind h f_Mod_26 d_Mod_object_83 ?_
                        refine g_iload_n h d_Mod_object_86 rfl rfl ?_
                        refine gi_kind h hne (show n.toNatClampNeg < 16 by omega) d_Mod_object_87 ?_
                        simp only [sI_1, sI_2, sJ_1, sJ_2, sJ_3, sR_1, sR_2, sR_3, Nat.reduceEqDiff, Nat.zero_ne_one, Nat.one_ne_zero, Nat.succ_ne_zero, reduceCtorEq, false_and, if_false, true_and, and_self, if_true, and_true, and_false, reduceIte]
                        refine g_iconst (v := 1) h d_Mod_object_88 (by decide) ?_
                        refine g_icmp_ne (tgt := 101) h d_Mod_object_89 (by decide) (fun c_89 => ?_) (fun c_89 => ?_)
                        · refine g_aload_n h d_Mod_object_101 rfl rfl ?_
                          refine gf_Mod_place h f_Mod_50 d_Mod_object_102 ?_
                          refine g_iload_n h d_Mod_object_105 rfl rfl ?_
                          refine gi_place h hne (show n.toNatClampNeg < 16 by omega) d_Mod_object_106 ?_
                          exact g_iret h r d_Mod_object_107 (⟨by unfold mobject; rw [if_neg (fun z => by rcases z with z | z | z | z <;> first | exact c_2 z | exact c_8 z | exact c_12 z | exact Int32.not_lt.mpr c_17 z), if_neg (fun z => by first | exact absurd z.1 (Int32.not_lt.mpr c_25) | exact c_34 z.2)]; first | (simp only [if_neg c_55, if_neg c_67, if_pos c_79, if_pos c_89]; first | done | rfl) | (simp only [if_neg c_55, if_neg c_67, if_pos c_79, if_neg c_89]; first | done | rfl), by unfold mobject; rw [if_neg (fun z => by rcases z with z | z | z | z <;> first | exact c_2 z | exact c_8 z | exact c_12 z | exact Int32.not_lt.mpr c_17 z), if_neg (fun z => by first | exact absurd z.1 (Int32.not_lt.mpr c_25) | exact c_34 z.2)]⟩)
                        · refine g_aload_n h d_Mod_object_92 rfl rfl ?_
                          refine gf_Mod_size h f_Mod_32 d_Mod_object_93 ?_
                          refine g_iload_n h d_Mod_object_96 rfl rfl ?_
                          refine gi_size h hne (show n.toNatClampNeg < 16 by omega) d_Mod_object_97 ?_
                          refine g_goto (tgt := 107) h d_Mod_object_98 (by decide) ?_
                          exact g_iret h r d_Mod_object_107 (⟨by unfold mobject; rw [if_neg (fun z => by rcases z with z | z | z | z <;> first | exact c_2 z | exact c_8 z | exact c_12 z | exact Int32.not_lt.mpr c_17 z), if_neg (fun z => by first | exact absurd z.1 (Int32.not_lt.mpr c_25) | exact c_34 z.2)]; first | (simp only [if_neg c_55, if_neg c_67, if_pos c_79, if_pos c_89]; first | done | rfl) | (simp only [if_neg c_55, if_neg c_67, if_pos c_79, if_neg c_89]; first | done | rfl), by unfold mobject; rw [if_neg (fun z => by rcases z with z | z | z | z <;> first | exact c_2 z | exact c_8 z | exact c_12 z | exact Int32.not_lt.mpr c_17 z), if_neg (fun z => by first | exact absurd z.1 (Int32.not_lt.mpr c_25) | exact c_34 z.2)]⟩)
                    · refine g_aload_n h d_Mod_object_70 rfl rfl ?_
                      refine gf_Mod_colour h f_Mod_29 d_Mod_object_71 ?_
                      refine g_iload_n h d_Mod_object_74 rfl rfl ?_
                      refine gi_colour h hne (show n.toNatClampNeg < 16 by omega) d_Mod_object_75 ?_
                      exact g_iret h r d_Mod_object_76 (⟨by unfold mobject; rw [if_neg (fun z => by rcases z with z | z | z | z <;> first | exact c_2 z | exact c_8 z | exact c_12 z | exact Int32.not_lt.mpr c_17 z), if_neg (fun z => by first | exact absurd z.1 (Int32.not_lt.mpr c_25) | exact c_34 z.2)]; first | (simp only [if_neg c_55, if_pos c_67]; first | done | rfl), by unfold mobject; rw [if_neg (fun z => by rcases z with z | z | z | z <;> first | exact c_2 z | exact c_8 z | exact c_12 z | exact Int32.not_lt.mpr c_17 z), if_neg (fun z => by first | exact absurd z.1 (Int32.not_lt.mpr c_25) | exact c_34 z.2)]⟩)
                  · refine g_aload_n h d_Mod_object_58 rfl rfl ?_
                    refine gf_Mod_kind h f_Mod_26 d_Mod_object_59 ?_
                    refine g_iload_n h d_Mod_object_62 rfl rfl ?_
                    refine gi_kind h hne (show n.toNatClampNeg < 16 by omega) d_Mod_object_63 ?_
                    exact g_iret h r d_Mod_object_64 (⟨by unfold mobject; rw [if_neg (fun z => by rcases z with z | z | z | z <;> first | exact c_2 z | exact c_8 z | exact c_12 z | exact Int32.not_lt.mpr c_17 z), if_neg (fun z => by first | exact absurd z.1 (Int32.not_lt.mpr c_25) | exact c_34 z.2)]; first | (simp only [if_pos c_55]; first | done | rfl), by unfold mobject; rw [if_neg (fun z => by rcases z with z | z | z | z <;> first | exact c_2 z | exact c_8 z | exact c_12 z | exact Int32.not_lt.mpr c_17 z), if_neg (fun z => by first | exact absurd z.1 (Int32.not_lt.mpr c_25) | exact c_34 z.2)]⟩)
                · exact absurd rfl c_49
            · skip
              · refine g_iconst (v := 2) h d_Mod_object_37 (by decide) ?_
                refine g_goto (tgt := 42) h d_Mod_object_38 (by decide) ?_
                refine pf_Mod_thrown h f_Mod_64 d_Mod_object_42 ?_
                refine g_aload_n h d_Mod_object_45 rfl rfl ?_
                refine gf_Mod_thrown h f_Mod_64 d_Mod_object_46 ?_
                simp only [sI_1, sI_2, sJ_1, sJ_2, sJ_3, sR_1, sR_2, sR_3, Nat.reduceEqDiff, Nat.zero_ne_one, Nat.one_ne_zero, Nat.succ_ne_zero, reduceCtorEq, false_and, if_false, true_and, and_self, if_true, and_true, and_false, reduceIte]
                refine g_if_eq (tgt := 54) h d_Mod_object_49 (by decide) (fun c_49 => ?_) (fun c_49 => ?_)
                · exact absurd c_49 (by decide)
                · refine g_iconst (v := 0) h d_Mod_object_52 (by decide) ?_
                  exact g_iret h r d_Mod_object_53 (⟨by unfold mobject; first | (rw [if_pos (by first | exact .inl c_2 | exact .inr (.inl c_8) | exact .inr (.inr (.inl c_12)) | exact .inr (.inr (.inr (Int32.not_le.mp c_17))))]; done) | (rw [if_neg (fun z => by rcases z with z | z | z | z <;> first | exact c_2 z | exact c_8 z | exact c_12 z | exact Int32.not_lt.mpr c_17 z), if_pos ⟨Int32.not_le.mp c_25, c_34⟩]; done), by unfold mobject; first | (rw [if_pos (by first | exact .inl c_2 | exact .inr (.inl c_8) | exact .inr (.inr (.inl c_12)) | exact .inr (.inr (.inr (Int32.not_le.mp c_17))))]; done) | (rw [if_neg (fun z => by rcases z with z | z | z | z <;> first | exact c_2 z | exact c_8 z | exact c_12 z | exact Int32.not_lt.mpr c_17 z), if_pos ⟨Int32.not_le.mp c_25, c_34⟩]; done)⟩)
        · skip
          · refine g_iconst (v := 1) h d_Mod_object_20 (by decide) ?_
            refine g_goto (tgt := 42) h d_Mod_object_21 (by decide) ?_
            refine pf_Mod_thrown h f_Mod_64 d_Mod_object_42 ?_
            refine g_aload_n h d_Mod_object_45 rfl rfl ?_
            refine gf_Mod_thrown h f_Mod_64 d_Mod_object_46 ?_
            simp only [sI_1, sI_2, sJ_1, sJ_2, sJ_3, sR_1, sR_2, sR_3, Nat.reduceEqDiff, Nat.zero_ne_one, Nat.one_ne_zero, Nat.succ_ne_zero, reduceCtorEq, false_and, if_false, true_and, and_self, if_true, and_true, and_false, reduceIte]
            refine g_if_eq (tgt := 54) h d_Mod_object_49 (by decide) (fun c_49 => ?_) (fun c_49 => ?_)
            · exact absurd c_49 (by decide)
            · refine g_iconst (v := 0) h d_Mod_object_52 (by decide) ?_
              exact g_iret h r d_Mod_object_53 (⟨by unfold mobject; first | (rw [if_pos (by first | exact .inl c_2 | exact .inr (.inl c_8) | exact .inr (.inr (.inl c_12)) | exact .inr (.inr (.inr (Int32.not_le.mp c_17))))]; done) | (rw [if_neg (fun z => by rcases z with z | z | z | z <;> first | exact c_2 z | exact c_8 z | exact c_12 z | exact Int32.not_lt.mpr c_17 z), if_pos ⟨Int32.not_le.mp c_25, c_34⟩]; done), by unfold mobject; first | (rw [if_pos (by first | exact .inl c_2 | exact .inr (.inl c_8) | exact .inr (.inr (.inl c_12)) | exact .inr (.inr (.inr (Int32.not_le.mp c_17))))]; done) | (rw [if_neg (fun z => by rcases z with z | z | z | z <;> first | exact c_2 z | exact c_8 z | exact c_12 z | exact Int32.not_lt.mpr c_17 z), if_pos ⟨Int32.not_le.mp c_25, c_34⟩]; done)⟩)
