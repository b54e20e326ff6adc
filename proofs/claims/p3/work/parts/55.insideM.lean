set_option maxHeartbeats 4000000 in
set_option maxRecDepth 100000 in
theorem c_Mod_inside {l : Launch} {D : va_G} {u : Nat → ClassId} {ad : Nat → Nat} {M : CS} {n i b : Int32} (hok : okM M) : Cm l D u ad y_Mod_inside b_Mod_inside 4 (some .long) { frames := 0, cells := 0, slots := 0, locals := 0 } [.ref (ad 0), .int n, .int i, .int b] (M) (some (.long (minside M n i b).1)) ((minside M n i b).2) := by
  refine ct_of (by decide) (Nat.le_of_ble_eq_true rfl) ?_
  intro Γ _ _ hN h r
  refine g_at (L' := [some (.ref (ad 0)), some (.int n), some (.int i), some (.int b)]) rfl rfl rfl ?_
  refine g_aload_n h d_Mod_inside_0 rfl rfl ?_
  refine g_iload_n h d_Mod_inside_1 rfl rfl ?_
  refine g_if_lt (tgt := 11) h d_Mod_inside_2 (by decide) (fun c_2 => ?_) (fun c_2 => ?_)
  · skip
    · refine g_iconst (v := 1) h d_Mod_inside_11 (by decide) ?_
      refine g_goto (tgt := 69) h d_Mod_inside_12 (by decide) ?_
      refine pf_Mod_thrown h f_Mod_64 d_Mod_inside_69 ?_
      refine g_aload_n h d_Mod_inside_72 rfl rfl ?_
      refine gf_Mod_thrown h f_Mod_64 d_Mod_inside_73 ?_
      simp only [sI_1, sI_2, sJ_1, sJ_2, sJ_3, sR_1, sR_2, sR_3, Nat.reduceEqDiff, Nat.zero_ne_one, Nat.one_ne_zero, Nat.succ_ne_zero, reduceCtorEq, false_and, if_false, true_and, and_self, if_true, and_true, and_false, reduceIte]
      refine g_if_eq (tgt := 81) h d_Mod_inside_76 (by decide) (fun c_76 => ?_) (fun c_76 => ?_)
      · exact absurd c_76 (by decide)
      · refine g_lconst (v := 0) h d_Mod_inside_79 (by decide) ?_
        exact g_lret h r d_Mod_inside_80 (⟨by unfold minside; first | (rw [if_pos (by first | exact .inl c_2 | exact .inr (Int32.not_le.mp c_8))]; done) | (rw [if_neg (fun z => by rcases z with z | z <;> first | exact c_2 z | exact Int32.not_lt.mpr c_8 z), if_pos (Or.inl c_16)]; done) | (rw [if_neg (fun z => by rcases z with z | z <;> first | exact c_2 z | exact Int32.not_lt.mpr c_8 z), if_pos (Or.inr (by rw [hrw]; exact c_61))]; done), by unfold minside; first | (rw [if_pos (by first | exact .inl c_2 | exact .inr (Int32.not_le.mp c_8))]; done) | (rw [if_neg (fun z => by rcases z with z | z <;> first | exact c_2 z | exact Int32.not_lt.mpr c_8 z), if_pos (Or.inl c_16)]; done) | (rw [if_neg (fun z => by rcases z with z | z <;> first | exact c_2 z | exact Int32.not_lt.mpr c_8 z), if_pos (Or.inr (by rw [hrw]; exact c_61))]; done)⟩)
  · refine g_iload_n h d_Mod_inside_5 rfl rfl ?_
    refine g_bipush (v := 15) h d_Mod_inside_6 (by decide) ?_
    refine g_icmp_le (tgt := 15) h d_Mod_inside_8 (by decide) (fun c_8 => ?_) (fun c_8 => ?_)
    · obtain ⟨hn, hne⟩ := i32_num (m := 15) (by decide) c_2 (Int32.not_lt.mpr c_8)
      refine g_iload_n h d_Mod_inside_15 rfl rfl ?_
      refine g_if_lt (tgt := 64) h d_Mod_inside_16 (by decide) (fun c_16 => ?_) (fun c_16 => ?_)
      · skip
        · refine g_iconst (v := 2) h d_Mod_inside_64 (by decide) ?_
          refine g_goto (tgt := 69) h d_Mod_inside_65 (by decide) ?_
          refine pf_Mod_thrown h f_Mod_64 d_Mod_inside_69 ?_
          refine g_aload_n h d_Mod_inside_72 rfl rfl ?_
          refine gf_Mod_thrown h f_Mod_64 d_Mod_inside_73 ?_
          simp only [sI_1, sI_2, sJ_1, sJ_2, sJ_3, sR_1, sR_2, sR_3, Nat.reduceEqDiff, Nat.zero_ne_one, Nat.one_ne_zero, Nat.succ_ne_zero, reduceCtorEq, false_and, if_false, true_and, and_self, if_true, and_true, and_false, reduceIte]
          refine g_if_eq (tgt := 81) h d_Mod_inside_76 (by decide) (fun c_76 => ?_) (fun c_76 => ?_)
          · exact absurd c_76 (by decide)
          · refine g_lconst (v := 0) h d_Mod_inside_79 (by decide) ?_
            exact g_lret h r d_Mod_inside_80 (⟨by unfold minside; first | (rw [if_pos (by first | exact .inl c_2 | exact .inr (Int32.not_le.mp c_8))]; done) | (rw [if_neg (fun z => by rcases z with z | z <;> first | exact c_2 z | exact Int32.not_lt.mpr c_8 z), if_pos (Or.inl c_16)]; done) | (rw [if_neg (fun z => by rcases z with z | z <;> first | exact c_2 z | exact Int32.not_lt.mpr c_8 z), if_pos (Or.inr (by rw [hrw]; exact c_61))]; done), by unfold minside; first | (rw [if_pos (by first | exact .inl c_2 | exact .inr (Int32.not_le.mp c_8))]; done) | (rw [if_neg (fun z => by rcases z with z | z <;> first | exact c_2 z | exact Int32.not_lt.mpr c_8 z), if_pos (Or.inl c_16)]; done) | (rw [if_neg (fun z => by rcases z with z | z <;> first | exact c_2 z | exact Int32.not_lt.mpr c_8 z), if_pos (Or.inr (by rw [hrw]; exact c_61))]; done)⟩)
      · refine g_iload_n h d_Mod_inside_19 rfl rfl ?_
        refine g_aload_n h d_Mod_inside_20 rfl rfl ?_
        refine gf_Mod_kind h f_Mod_26 d_Mod_inside_21 ?_
        refine g_iload_n h d_Mod_inside_24 rfl rfl ?_
        refine gi_kind h hne (show n.toNatClampNeg < 16 by omega) d_Mod_inside_25 ?_
        refine g_if_ne (tgt := 33) h d_Mod_inside_26 (by decide) (fun c_26 => ?_) (fun c_26 => ?_)
        · refine g_aload_n h d_Mod_inside_33 rfl rfl ?_
          refine gf_Mod_kind h f_Mod_26 d_Mod_inside_34 ?_
          refine g_iload_n h d_Mod_inside_37 rfl rfl ?_
          refine gi_kind h hne (show n.toNatClampNeg < 16 by omega) d_Mod_inside_38 ?_
          refine g_iconst (v := 1) h d_Mod_inside_39 (by decide) ?_
          refine g_icmp_ne (tgt := 52) h d_Mod_inside_40 (by decide) (fun c_40 => ?_) (fun c_40 => ?_)
          · refine g_iload_n h d_Mod_inside_52 rfl rfl ?_
            refine g_if_eq (tgt := 60) h d_Mod_inside_53 (by decide) (fun c_53 => ?_) (fun c_53 => ?_)
            · skip
              · refine g_iconst (v := 4) h d_Mod_inside_60 (by decide) ?_
                have hrw : mrows M n.toNatClampNeg b = 4 := by first | (unfold mrows; rw [if_pos c_26]; first | done | rfl) | (unfold mrows; rw [if_neg c_26, if_pos c_40]; first | done | rfl) | (unfold mrows; rw [if_neg c_26, if_neg c_40, if_pos c_53]; first | done | rfl) | (unfold mrows; rw [if_neg c_26, if_neg c_40, if_neg c_53]; first | done | rfl)
                refine g_icmp_lt (tgt := 68) h d_Mod_inside_61 (by decide) (fun c_61 => ?_) (fun c_61 => ?_)
                · skip
                  · obtain ⟨hi, hie⟩ := i32_lt (m := 4) (by decide) c_16 c_61
                    refine g_iconst (v := 0) h d_Mod_inside_68 (by decide) ?_
                    refine pf_Mod_thrown h f_Mod_64 d_Mod_inside_69 ?_
                    refine g_aload_n h d_Mod_inside_72 rfl rfl ?_
                    refine gf_Mod_thrown h f_Mod_64 d_Mod_inside_73 ?_
                    simp only [sI_1, sI_2, sJ_1, sJ_2, sJ_3, sR_1, sR_2, sR_3, Nat.reduceEqDiff, Nat.zero_ne_one, Nat.one_ne_zero, Nat.succ_ne_zero, reduceCtorEq, false_and, if_false, true_and, and_self, if_true, and_true, and_false, reduceIte]
                    refine g_if_eq (tgt := 81) h d_Mod_inside_76 (by decide) (fun c_76 => ?_) (fun c_76 => ?_)
                    · refine g_aload_n h d_Mod_inside_81 rfl rfl ?_
                      refine gf_Mod_kind h f_Mod_26 d_Mod_inside_82 ?_
                      refine g_iload_n h d_Mod_inside_85 rfl rfl ?_
                      refine gi_kind h hne (show n.toNatClampNeg < 16 by omega) d_Mod_inside_86 ?_
                      refine g_iconst (v := 2) h d_Mod_inside_87 (by decide) ?_
                      simp only [sI_1, sI_2, sJ_1, sJ_2, sJ_3, sR_1, sR_2, sR_3, Nat.reduceEqDiff, Nat.zero_ne_one, Nat.one_ne_zero, Nat.succ_ne_zero, reduceCtorEq, false_and, if_false, true_and, and_self, if_true, and_true, and_false, reduceIte]
                      refine g_icmp_ne (tgt := 102) h d_Mod_inside_88 (by decide) (fun c_88 => ?_) (fun c_88 => ?_)
                      · refine g_iload_n h d_Mod_inside_102 rfl rfl ?_
                        refine g_if_eq (tgt := 120) h d_Mod_inside_103 (by decide) (fun c_103 => ?_) (fun c_103 => ?_)
                        · refine g_aload_n h d_Mod_inside_120 rfl rfl ?_
                          refine gf_Mod_keys h f_Mod_38 d_Mod_inside_121 ?_
                          refine g_iload_n h d_Mod_inside_124 rfl rfl ?_
                          refine g_bipush (v := 6) h d_Mod_inside_125 (by decide) ?_
                          refine g_imul h d_Mod_inside_127 ?_
                          refine g_iload_n h d_Mod_inside_128 rfl rfl ?_
                          refine g_iadd h d_Mod_inside_129 ?_
                          refine gj_keys h (j := n.toNatClampNeg * 6 + i.toNatClampNeg) (by rw [← nI_at6, ← hne, ← hie]) (by omega) d_Mod_inside_130 ?_
                          exact g_lret h r d_Mod_inside_131 (⟨by unfold minside; rw [if_neg (fun z => by rcases z with z | z <;> first | exact c_2 z | exact Int32.not_lt.mpr c_8 z), if_neg (fun z => z.elim c_16 (fun z => z (by rw [hrw]; exact c_61)))]; first | (simp only [if_neg c_88, if_pos c_103]; first | done | rfl) | (simp only [if_neg c_88, if_neg c_103]; first | done | rfl), by unfold minside; rw [if_neg (fun z => by rcases z with z | z <;> first | exact c_2 z | exact Int32.not_lt.mpr c_8 z), if_neg (fun z => z.elim c_16 (fun z => z (by rw [hrw]; exact c_61)))]⟩)
                        · refine g_aload_n h d_Mod_inside_106 rfl rfl ?_
                          refine gf_Mod_values h f_Mod_41 d_Mod_inside_107 ?_
                          refine g_iload_n h d_Mod_inside_110 rfl rfl ?_
                          refine g_bipush (v := 6) h d_Mod_inside_111 (by decide) ?_
                          refine g_imul h d_Mod_inside_113 ?_
                          refine g_iload_n h d_Mod_inside_114 rfl rfl ?_
                          refine g_iadd h d_Mod_inside_115 ?_
                          refine gj_values h (j := n.toNatClampNeg * 6 + i.toNatClampNeg) (by rw [← nI_at6, ← hne, ← hie]) (by omega) d_Mod_inside_116 ?_
                          refine g_goto (tgt := 131) h d_Mod_inside_117 (by decide) ?_
                          exact g_lret h r d_Mod_inside_131 (⟨by unfold minside; rw [if_neg (fun z => by rcases z with z | z <;> first | exact c_2 z | exact Int32.not_lt.mpr c_8 z), if_neg (fun z => z.elim c_16 (fun z => z (by rw [hrw]; exact c_61)))]; first | (simp only [if_neg c_88, if_pos c_103]; first | done | rfl) | (simp only [if_neg c_88, if_neg c_103]; first | done | rfl), by unfold minside; rw [if_neg (fun z => by rcases z with z | z <;> first | exact c_2 z | exact Int32.not_lt.mpr c_8 z), if_neg (fun z => z.elim c_16 (fun z => z (by rw [hrw]; exact c_61)))]⟩)
                      · refine g_aload_n h d_Mod_inside_91 rfl rfl ?_
                        refine gf_Mod_registers h f_Mod_44 d_Mod_inside_92 ?_
                        refine g_iload_n h d_Mod_inside_95 rfl rfl ?_
                        refine g_iconst (v := 4) h d_Mod_inside_96 (by decide) ?_
                        refine g_imul h d_Mod_inside_97 ?_
                        refine g_iload_n h d_Mod_inside_98 rfl rfl ?_
                        refine g_iadd h d_Mod_inside_99 ?_
                        refine gj_registers h (j := n.toNatClampNeg * 4 + i.toNatClampNeg) (by rw [← nI_at4, ← hne, ← hie]) (by omega) d_Mod_inside_100 ?_
                        exact g_lret h r d_Mod_inside_101 (⟨by unfold minside; rw [if_neg (fun z => by rcases z with z | z <;> first | exact c_2 z | exact Int32.not_lt.mpr c_8 z), if_neg (fun z => z.elim c_16 (fun z => z (by rw [hrw]; exact c_61)))]; first | (simp only [if_pos c_88]; first | done | rfl), by unfold minside; rw [if_neg (fun z => by rcases z with z | z <;> first | exact c_2 z | exact Int32.not_lt.mpr c_8 z), if_neg (fun z => z.elim c_16 (fun z => z (by rw [hrw]; exact c_61)))]⟩)
                    · exact absurd rfl c_76
                · skip
                  · refine g_iconst (v := 2) h d_Mod_inside_64 (by decide) ?_
                    refine g_goto (tgt := 69) h d_Mod_inside_65 (by decide) ?_
                    refine pf_Mod_thrown h f_Mod_64 d_Mod_inside_69 ?_
                    refine g_aload_n h d_Mod_inside_72 rfl rfl ?_
                    refine gf_Mod_thrown h f_Mod_64 d_Mod_inside_73 ?_
                    simp only [sI_1, sI_2, sJ_1, sJ_2, sJ_3, sR_1, sR_2, sR_3, Nat.reduceEqDiff, Nat.zero_ne_one, Nat.one_ne_zero, Nat.succ_ne_zero, reduceCtorEq, false_and, if_false, true_and, and_self, if_true, and_true, and_false, reduceIte]
                    refine g_if_eq (tgt := 81) h d_Mod_inside_76 (by decide) (fun c_76 => ?_) (fun c_76 => ?_)
                    · exact absurd c_76 (by decide)
                    · refine g_lconst (v := 0) h d_Mod_inside_79 (by decide) ?_
                      exact g_lret h r d_Mod_inside_80 (⟨by unfold minside; first | (rw [if_pos (by first | exact .inl c_2 | exact .inr (Int32.not_le.mp c_8))]; done) | (rw [if_neg (fun z => by rcases z with z | z <;> first | exact c_2 z | exact Int32.not_lt.mpr c_8 z), if_pos (Or.inl c_16)]; done) | (rw [if_neg (fun z => by rcases z with z | z <;> first | exact c_2 z | exact Int32.not_lt.mpr c_8 z), if_pos (Or.inr (by rw [hrw]; exact c_61))]; done), by unfold minside; first | (rw [if_pos (by first | exact .inl c_2 | exact .inr (Int32.not_le.mp c_8))]; done) | (rw [if_neg (fun z => by rcases z with z | z <;> first | exact c_2 z | exact Int32.not_lt.mpr c_8 z), if_pos (Or.inl c_16)]; done) | (rw [if_neg (fun z => by rcases z with z | z <;> first | exact c_2 z | exact Int32.not_lt.mpr c_8 z), if_pos (Or.inr (by rw [hrw]; exact c_61))]; done)⟩)
            · skip
              · refine g_iconst (v := 0) h d_Mod_inside_56 (by decide) ?_
                refine g_goto (tgt := 61) h d_Mod_inside_57 (by decide) ?_
                have hrw : mrows M n.toNatClampNeg b = 0 := by first | (unfold mrows; rw [if_pos c_26]; first | done | rfl) | (unfold mrows; rw [if_neg c_26, if_pos c_40]; first | done | rfl) | (unfold mrows; rw [if_neg c_26, if_neg c_40, if_pos c_53]; first | done | rfl) | (unfold mrows; rw [if_neg c_26, if_neg c_40, if_neg c_53]; first | done | rfl)
                refine g_icmp_lt (tgt := 68) h d_Mod_inside_61 (by decide) (fun c_61 => ?_) (fun c_61 => ?_)
                · exact absurd c_61 c_16
                · skip
                  · refine g_iconst (v := 2) h d_Mod_inside_64 (by decide) ?_
                    refine g_goto (tgt := 69) h d_Mod_inside_65 (by decide) ?_
                    refine pf_Mod_thrown h f_Mod_64 d_Mod_inside_69 ?_
                    refine g_aload_n h d_Mod_inside_72 rfl rfl ?_
                    refine gf_Mod_thrown h f_Mod_64 d_Mod_inside_73 ?_
                    simp only [sI_1, sI_2, sJ_1, sJ_2, sJ_3, sR_1, sR_2, sR_3, Nat.reduceEqDiff, Nat.zero_ne_one, Nat.one_ne_zero, Nat.succ_ne_zero, reduceCtorEq, false_and, if_false, true_and, and_self, if_true, and_true, and_false, reduceIte]
                    refine g_if_eq (tgt := 81) h d_Mod_inside_76 (by decide) (fun c_76 => ?_) (fun c_76 => ?_)
                    · exact absurd c_76 (by decide)
                    · refine g_lconst (v := 0) h d_Mod_inside_79 (by decide) ?_
                      exact g_lret h r d_Mod_inside_80 (⟨by unfold minside; first | (rw [if_pos (by first | exact .inl c_2 | exact .inr (Int32.not_le.mp c_8))]; done) | (rw [if_neg (fun z => by rcases z with z | z <;> first | exact c_2 z | exact Int32.not_lt.mpr c_8 z), if_pos (Or.inl c_16)]; done) | (rw [if_neg (fun z => by rcases z with z | z <;> first | exact c_2 z | exact Int32.not_lt.mpr c_8 z), if_pos (Or.inr (by rw [hrw]; exact c_61))]; done), by unfold minside; first | (rw [if_pos (by first | exact .inl c_2 | exact .inr (Int32.not_le.mp c_8))]; done) | (rw [if_neg (fun z => by rcases z with z | z <;> first | exact c_2 z | exact Int32.not_lt.mpr c_8 z), if_pos (Or.inl c_16)]; done) | (rw [if_neg (fun z => by rcases z with z | z <;> first | exact c_2 z | exact Int32.not_lt.mpr c_8 z), if_pos (Or.inr (by rw [hrw]; exact c_61))]; done)⟩)
          · skip
            · refine g_aload_n h d_Mod_inside_43 rfl rfl ?_
              refine gf_Mod_size h f_Mod_32 d_Mod_inside_44 ?_
              refine g_iload_n h d_Mod_inside_47 rfl rfl ?_
              refine gi_size h hne (show n.toNatClampNeg < 16 by omega) d_Mod_inside_48 ?_
              refine g_goto (tgt := 61) h d_Mod_inside_49 (by decide) ?_
              have hrw : mrows M n.toNatClampNeg b = M.1 6 n.toNatClampNeg := by first | (unfold mrows; rw [if_pos c_26]; first | done | rfl) | (unfold mrows; rw [if_neg c_26, if_pos c_40]; first | done | rfl) | (unfold mrows; rw [if_neg c_26, if_neg c_40, if_pos c_53]; first | done | rfl) | (unfold mrows; rw [if_neg c_26, if_neg c_40, if_neg c_53]; first | done | rfl)
              refine g_icmp_lt (tgt := 68) h d_Mod_inside_61 (by decide) (fun c_61 => ?_) (fun c_61 => ?_)
              · skip
                · obtain ⟨⟨P, hP, hp⟩, -⟩ := hok.1 n.toNatClampNeg (by omega)
                  obtain ⟨hi, hie⟩ := i32_lt (m := P) (by omega) c_16 (hp ▸ c_61)
                  refine g_iconst (v := 0) h d_Mod_inside_68 (by decide) ?_
                  refine pf_Mod_thrown h f_Mod_64 d_Mod_inside_69 ?_
                  refine g_aload_n h d_Mod_inside_72 rfl rfl ?_
                  refine gf_Mod_thrown h f_Mod_64 d_Mod_inside_73 ?_
                  simp only [sI_1, sI_2, sJ_1, sJ_2, sJ_3, sR_1, sR_2, sR_3, Nat.reduceEqDiff, Nat.zero_ne_one, Nat.one_ne_zero, Nat.succ_ne_zero, reduceCtorEq, false_and, if_false, true_and, and_self, if_true, and_true, and_false, reduceIte]
                  refine g_if_eq (tgt := 81) h d_Mod_inside_76 (by decide) (fun c_76 => ?_) (fun c_76 => ?_)
                  · refine g_aload_n h d_Mod_inside_81 rfl rfl ?_
                    refine gf_Mod_kind h f_Mod_26 d_Mod_inside_82 ?_
                    refine g_iload_n h d_Mod_inside_85 rfl rfl ?_
                    refine gi_kind h hne (show n.toNatClampNeg < 16 by omega) d_Mod_inside_86 ?_
                    refine g_iconst (v := 2) h d_Mod_inside_87 (by decide) ?_
                    simp only [sI_1, sI_2, sJ_1, sJ_2, sJ_3, sR_1, sR_2, sR_3, Nat.reduceEqDiff, Nat.zero_ne_one, Nat.one_ne_zero, Nat.succ_ne_zero, reduceCtorEq, false_and, if_false, true_and, and_self, if_true, and_true, and_false, reduceIte]
                    refine g_icmp_ne (tgt := 102) h d_Mod_inside_88 (by decide) (fun c_88 => ?_) (fun c_88 => ?_)
                    · refine g_iload_n h d_Mod_inside_102 rfl rfl ?_
                      refine g_if_eq (tgt := 120) h d_Mod_inside_103 (by decide) (fun c_103 => ?_) (fun c_103 => ?_)
                      · refine g_aload_n h d_Mod_inside_120 rfl rfl ?_
                        refine gf_Mod_keys h f_Mod_38 d_Mod_inside_121 ?_
                        refine g_iload_n h d_Mod_inside_124 rfl rfl ?_
                        refine g_bipush (v := 6) h d_Mod_inside_125 (by decide) ?_
                        refine g_imul h d_Mod_inside_127 ?_
                        refine g_iload_n h d_Mod_inside_128 rfl rfl ?_
                        refine g_iadd h d_Mod_inside_129 ?_
                        refine gj_keys h (j := n.toNatClampNeg * 6 + i.toNatClampNeg) (by rw [← nI_at6, ← hne, ← hie]) (by omega) d_Mod_inside_130 ?_
                        exact g_lret h r d_Mod_inside_131 (⟨by unfold minside; rw [if_neg (fun z => by rcases z with z | z <;> first | exact c_2 z | exact Int32.not_lt.mpr c_8 z), if_neg (fun z => z.elim c_16 (fun z => z (by rw [hrw]; exact c_61)))]; first | (simp only [if_neg c_88, if_pos c_103]; first | done | rfl) | (simp only [if_neg c_88, if_neg c_103]; first | done | rfl), by unfold minside; rw [if_neg (fun z => by rcases z with z | z <;> first | exact c_2 z | exact Int32.not_lt.mpr c_8 z), if_neg (fun z => z.elim c_16 (fun z => z (by rw [hrw]; exact c_61)))]⟩)
                      · refine g_aload_n h d_Mod_inside_106 rfl rfl ?_
                        refine gf_Mod_values h f_Mod_41 d_Mod_inside_107 ?_
                        refine g_iload_n h d_Mod_inside_110 rfl rfl ?_
                        refine g_bipush (v := 6) h d_Mod_inside_111 (by decide) ?_
                        refine g_imul h d_Mod_inside_113 ?_
                        refine g_iload_n h d_Mod_inside_114 rfl rfl ?_
                        refine g_iadd h d_Mod_inside_115 ?_
                        refine gj_values h (j := n.toNatClampNeg * 6 + i.toNatClampNeg) (by rw [← nI_at6, ← hne, ← hie]) (by omega) d_Mod_inside_116 ?_
                        refine g_goto (tgt := 131) h d_Mod_inside_117 (by decide) ?_
                        exact g_lret h r d_Mod_inside_131 (⟨by unfold minside; rw [if_neg (fun z => by rcases z with z | z <;> first | exact c_2 z | exact Int32.not_lt.mpr c_8 z), if_neg (fun z => z.elim c_16 (fun z => z (by rw [hrw]; exact c_61)))]; first | (simp only [if_neg c_88, if_pos c_103]; first | done | rfl) | (simp only [if_neg c_88, if_neg c_103]; first | done | rfl), by unfold minside; rw [if_neg (fun z => by rcases z with z | z <;> first | exact c_2 z | exact Int32.not_lt.mpr c_8 z), if_neg (fun z => z.elim c_16 (fun z => z (by rw [hrw]; exact c_61)))]⟩)
                    · exact absurd (c_40.symm.trans c_88) (by decide)
                  · exact absurd rfl c_76
              · skip
                · refine g_iconst (v := 2) h d_Mod_inside_64 (by decide) ?_
                  refine g_goto (tgt := 69) h d_Mod_inside_65 (by decide) ?_
                  refine pf_Mod_thrown h f_Mod_64 d_Mod_inside_69 ?_
                  refine g_aload_n h d_Mod_inside_72 rfl rfl ?_
                  refine gf_Mod_thrown h f_Mod_64 d_Mod_inside_73 ?_
                  simp only [sI_1, sI_2, sJ_1, sJ_2, sJ_3, sR_1, sR_2, sR_3, Nat.reduceEqDiff, Nat.zero_ne_one, Nat.one_ne_zero, Nat.succ_ne_zero, reduceCtorEq, false_and, if_false, true_and, and_self, if_true, and_true, and_false, reduceIte]
                  refine g_if_eq (tgt := 81) h d_Mod_inside_76 (by decide) (fun c_76 => ?_) (fun c_76 => ?_)
                  · exact absurd c_76 (by decide)
                  · refine g_lconst (v := 0) h d_Mod_inside_79 (by decide) ?_
                    exact g_lret h r d_Mod_inside_80 (⟨by unfold minside; first | (rw [if_pos (by first | exact .inl c_2 | exact .inr (Int32.not_le.mp c_8))]; done) | (rw [if_neg (fun z => by rcases z with z | z <;> first | exact c_2 z | exact Int32.not_lt.mpr c_8 z), if_pos (Or.inl c_16)]; done) | (rw [if_neg (fun z => by rcases z with z | z <;> first | exact c_2 z | exact Int32.not_lt.mpr c_8 z), if_pos (Or.inr (by rw [hrw]; exact c_61))]; done), by unfold minside; first | (rw [if_pos (by first | exact .inl c_2 | exact .inr (Int32.not_le.mp c_8))]; done) | (rw [if_neg (fun z => by rcases z with z | z <;> first | exact c_2 z | exact Int32.not_lt.mpr c_8 z), if_pos (Or.inl c_16)]; done) | (rw [if_neg (fun z => by rcases z with z | z <;> first | exact c_2 z | exact Int32.not_lt.mpr c_8 z), if_pos (Or.inr (by rw [hrw]; exact c_61))]; done)⟩)
        · skip
          · refine g_iconst (v := 0) h d_Mod_inside_29 (by decide) ?_
            refine g_goto (tgt := 61) h d_Mod_inside_30 (by decide) ?_
            have hrw : mrows M n.toNatClampNeg b = 0 := by first | (unfold mrows; rw [if_pos c_26]; first | done | rfl) | (unfold mrows; rw [if_neg c_26, if_pos c_40]; first | done | rfl) | (unfold mrows; rw [if_neg c_26, if_neg c_40, if_pos c_53]; first | done | rfl) | (unfold mrows; rw [if_neg c_26, if_neg c_40, if_neg c_53]; first | done | rfl)
            refine g_icmp_lt (tgt := 68) h d_Mod_inside_61 (by decide) (fun c_61 => ?_) (fun c_61 => ?_)
            · exact absurd c_61 c_16
            · skip
              · refine g_iconst (v := 2) h d_Mod_inside_64 (by decide) ?_
                refine g_goto (tgt := 69) h d_Mod_inside_65 (by decide) ?_
                refine pf_Mod_thrown h f_Mod_64 d_Mod_inside_69 ?_
                refine g_aload_n h d_Mod_inside_72 rfl rfl ?_
                refine gf_Mod_thrown h f_Mod_64 d_Mod_inside_73 ?_
                simp only [sI_1, sI_2, sJ_1, sJ_2, sJ_3, sR_1, sR_2, sR_3, Nat.reduceEqDiff, Nat.zero_ne_one, Nat.one_ne_zero, Nat.succ_ne_zero, reduceCtorEq, false_and, if_false, true_and, and_self, if_true, and_true, and_false, reduceIte]
                refine g_if_eq (tgt := 81) h d_Mod_inside_76 (by decide) (fun c_76 => ?_) (fun c_76 => ?_)
                · exact absurd c_76 (by decide)
                · refine g_lconst (v := 0) h d_Mod_inside_79 (by decide) ?_
                  exact g_lret h r d_Mod_inside_80 (⟨by unfold minside; first | (rw [if_pos (by first | exact .inl c_2 | exact .inr (Int32.not_le.mp c_8))]; done) | (rw [if_neg (fun z => by rcases z with z | z <;> first | exact c_2 z | exact Int32.not_lt.mpr c_8 z), if_pos (Or.inl c_16)]; done) | (rw [if_neg (fun z => by rcases z with z | z <;> first | exact c_2 z | exact Int32.not_lt.mpr c_8 z), if_pos (Or.inr (by rw [hrw]; exact c_61))]; done), by unfold minside; first | (rw [if_pos (by first | exact .inl c_2 | exact .inr (Int32.not_le.mp c_8))]; done) | (rw [if_neg (fun z => by rcases z with z | z <;> first | exact c_2 z | exact Int32.not_lt.mpr c_8 z), if_pos (Or.inl c_16)]; done) | (rw [if_neg (fun z => by rcases z with z | z <;> first | exact c_2 z | exact Int32.not_lt.mpr c_8 z), if_pos (Or.inr (by rw [hrw]; exact c_61))]; done)⟩)
    · skip
      · refine g_iconst (v := 1) h d_Mod_inside_11 (by decide) ?_
        refine g_goto (tgt := 69) h d_Mod_inside_12 (by decide) ?_
        refine pf_Mod_thrown h f_Mod_64 d_Mod_inside_69 ?_
        refine g_aload_n h d_Mod_inside_72 rfl rfl ?_
        refine gf_Mod_thrown h f_Mod_64 d_Mod_inside_73 ?_
        simp only [sI_1, sI_2, sJ_1, sJ_2, sJ_3, sR_1, sR_2, sR_3, Nat.reduceEqDiff, Nat.zero_ne_one, Nat.one_ne_zero, Nat.succ_ne_zero, reduceCtorEq, false_and, if_false, true_and, and_self, if_true, and_true, and_false, reduceIte]
        refine g_if_eq (tgt := 81) h d_Mod_inside_76 (by decide) (fun c_76 => ?_) (fun c_76 => ?_)
        · exact absurd c_76 (by decide)
        · refine g_lconst (v := 0) h d_Mod_inside_79 (by decide) ?_
          exact g_lret h r d_Mod_inside_80 (⟨by unfold minside; first | (rw [if_pos (by first | exact .inl c_2 | exact .inr (Int32.not_le.mp c_8))]; done) | (rw [if_neg (fun z => by rcases z with z | z <;> first | exact c_2 z | exact Int32.not_lt.mpr c_8 z), if_pos (Or.inl c_16)]; done) | (rw [if_neg (fun z => by rcases z with z | z <;> first | exact c_2 z | exact Int32.not_lt.mpr c_8 z), if_pos (Or.inr (by rw [hrw]; exact c_61))]; done), by unfold minside; first | (rw [if_pos (by first | exact .inl c_2 | exact .inr (Int32.not_le.mp c_8))]; done) | (rw [if_neg (fun z => by rcases z with z | z <;> first | exact c_2 z | exact Int32.not_lt.mpr c_8 z), if_pos (Or.inl c_16)]; done) | (rw [if_neg (fun z => by rcases z with z | z <;> first | exact c_2 z | exact Int32.not_lt.mpr c_8 z), if_pos (Or.inr (by rw [hrw]; exact c_61))]; done)⟩)
