-- part 55.insideM
section
set_option maxHeartbeats 4000000 in
set_option maxRecDepth 100000 in
theorem c_Mod_inside {l : Launch} {D : va_G} {u : Nat → ClassId} {ad : Nat → Nat} {M : CS} {n i b : Int32} (hok : okM M) : Cm l D u ad y_Mod_inside b_Mod_inside 4 (some .long) { frames := 0, cells := 0, slots := 0, locals := 0 } [.ref (ad 0), .int n, .int i, .int b] (M) (some (.long (minside M n i b).1)) ((minside M n i b).2) := by
  refine ct_of (by decide) (Nat.le_of_ble_eq_true rfl) ?_
  intro Γ _ _ hN h r
  refine g_at (L' := [some (.ref (ad 0)), some (.int n), some (.int i), some (.int b)]) rfl rfl rfl ?_
  refine g_aload_n h d_Mod_inside_0 rfl rfl ?_
  refine g_iload_n h d_Mod_inside_1 rfl rfl ?_
  refine g_if_lt (tgt := 11) h d_Mod_inside_2 (by decide) (fun c_2 => ?_) (fun c_2 => ?_)
  · skip
    · refine g_iconst (v := 1) h d_Mod_inside_11 (by decide) ?_
      refine g_goto (tgt := 69) h d_Mod_inside_12 (by decide) ?_
      refine pf_Mod_thrown h f_Mod_64 d_Mod_inside_69 ?_
      refine g_aload_n h d_Mod_inside_72 rfl rfl ?_
      refine gf_Mod_thrown h f_Mod_64 d_Mod_inside_73 ?_
      simp only [sI_1, sI_2, sJ_1, sJ_2, sJ_3, sR_1, sR_2, sR_3, Nat.reduceEqDiff, Nat.zero_ne_one, Nat.one_ne_zero, Nat.succ_ne_zero, reduceCtorEq, false_and, if_false, true_and, and_self, if_true, and_true, and_false, reduceIte]
      refine g_if_eq (tgt := 81) h d_Mod_inside_76 (by decide) (fun c_76 => ?_) (fun c_76 => ?_)
      · exact absurd c_76 (by decide)
      · refine g_lconst (v := 0) h d_Mod_inside_79 (by decide) ?_
        exact g_lret h r d_Mod_inside_80 (⟨by unfold minside; first | (rw [if_pos (by first | exact .inl c_2 | exact .inr (Int32.not_le.mp c_8))]; done) | (rw [if_neg (fun z => by rcases z with z | z <;> first | exact c_2 z | exact Int32.not_lt.mpr c_8 z), if_pos (Or.inl c_16)]; done) | (rw [if_neg (fun z => by rcases z with z | z <;> first | exact c_2 z | exact Int32.not_lt.mpr c_8 z), if_pos (Or.inr (by rw [hrw]; exact c_61))]; done), by unfold minside; first | (rw [if_pos (by first | exact .inl c_2 | exact .inr (Int32.not_le.mp c_8))]; done) | (rw [if_neg (fun z => by rcases z with z | z <;> first | exact c_2 z | exact Int32.not_lt.mpr c_8 z), if_pos (Or.inl c_16)]; done) | (rw [if_neg (fun z => by rcases z with z | z <;> first | exact c_2 z | exact Int32.not_lt.mpr c_8 z), if_pos (Or.inr (by rw [hrw]; exact c_61))]; done)⟩)
  · refine g_iload_n h d_Mod_inside_5 rfl rfl ?_
    refine g_bipush (v := 15) h d_Mod_inside_6 (by decide) ?_
    refine g_icmp_le (tgt := 15) h d_Mod_inside_8 (by decide) (fun c_8 => ?_) (fun c_8 => ?_)
    · obtain ⟨hn, hne⟩ := i32_num (m := 15) (by decide) c_2 (Int32.not_lt.mpr c_8)
      refine g_iload_n h d_Mod_inside_15 rfl rfl ?_
      refine g_if_lt (tgt := 64) h d_Mod_inside_16 (by decide) (fun c_16 => ?_) (fun c_16 => ?_)
      · skip
        · refine g_iconst (v := 2) h d_Mod_inside_64 (by decide) ?_
          refine g_goto (tgt := 69) h d_Mod_inside_65 (by decide) ?_
          refine pf_Mod_thrown h f_Mod_64 d_Mod_inside_69 ?_
          refine g_aload_n h d_Mod_inside_72 rfl rfl ?_
          refine gf_Mod_thrown h f_Mod_64 d_Mod_inside_73 ?_
          simp only [sI_1, sI_2, sJ_1, sJ_2, sJ_3, sR_1, sR_2, sR_3, Nat.reduceEqDiff, Nat.zero_ne_one, Nat.one_ne_zero, Nat.succ_ne_zero, reduceCtorEq, false_and, if_false, true_and, and_self, if_true, and_true, and_false, reduceIte]
          refine g_if_eq (tgt := 81) h d_Mod_inside_76 (by decide) (fun c_76 => ?_) (fun c_76 => ?_)
          · exact absurd c_76 (by decide)
          · refine g_lconst (v := 0) h d_Mod_inside_79 (by decide) ?_
            exact g_lret h r d_Mod_inside_80 (⟨by unfold minside; first | (rw [if_pos (by first | exact .inl c_2 | exact .inr (Int32.not_le.mp c_8))]; done) | (rw [if_neg (fun z => by rcases z with z | z <;> first | exact c_2 z | exact Int32.not_lt.mpr c_8 z), if_pos (Or.inl c_16)]; done) | (rw [if_neg (fun z => by rcases z with z | z <;> first | exact c_2 z | exact Int32.not_lt.mpr c_8 z), if_pos (Or.inr (by rw [hrw]; exact c_61))]; done), by unfold minside; first | (rw [if_pos (by first | exact .inl c_2 | exact .inr (Int32.not_le.mp c_8))]; done) | (rw [if_neg (fun z => by rcases z with z | z <;> first | exact c_2 z | exact Int32.not_lt.mpr c_8 z), if_pos (Or.inl c_16)]; done) | (rw [if_neg (fun z => by rcases z with z | z <;> first | exact c_2 z | exact Int32.not_lt.mpr c_8 z), if_pos (Or.inr (by rw [hrw]; exact c_61))]; done)⟩)
      · refine g_iload_n h d_Mod_inside_19 rfl rfl ?_
        refine g_aload_n h d_Mod_inside_20 rfl rfl ?_
        refine gf_Mod_kind h f_Mod_26 d_Mod_inside_21 ?_
        refine g_iload_n h d_Mod_inside_24 rfl rfl ?_
        refine gi_kind h hne (show n.toNatClampNeg < 16 by omega) d_Mod_inside_25 ?_
        refine g_if_ne (tgt := 33) h d_Mod_inside_26 (by decide) (fun c_26 => ?_) (fun c_26 => ?_)
        · refine g_aload_n h d_Mod_inside_33 rfl rfl ?_
          refine gf_Mod_kind h f_Mod_26 d_Mod_inside_34 ?_
          refine g_iload_n h d_Mod_inside_37 rfl rfl ?_
          refine gi_kind h hne (show n.toNatClampNeg < 16 by omega) d_Mod_inside_38 ?_
          refine g_iconst (v := 1) h d_Mod_inside_39 (by decide) ?_
          refine g_icmp_ne (tgt := 52) h d_Mod_inside_40 (by decide) (fun c_40 => ?_) (fun c_40 => ?_)
          · refine g_iload_n h d_Mod_inside_52 rfl rfl ?_
            refine g_if_eq (tgt := 60) h d_Mod_inside_53 (by decide) (fun c_53 => ?_) (fun c_53 => ?_)
            · skip
              · refine g_iconst (v := 4) h d_Mod_inside_60 (by decide) ?_
                have hrw : mrows M n.toNatClampNeg b = 4 := by first | (unfold mrows; rw [if_pos c_26]; first | done | rfl) | (unfold mrows; rw [if_neg c_26, if_pos c_40]; first | done | rfl) | (unfold mrows; rw [if_neg c_26, if_neg c_40, if_pos c_53]; first | done | rfl) | (unfold mrows; rw [if_neg c_26, if_neg c_40, if_neg c_53]; first | done | rfl)
                refine g_icmp_lt (tgt := 68) h d_Mod_inside_61 (by decide) (fun c_61 => ?_) (fun c_61 => ?_)
                · skip
                  · obtain ⟨hi, hie⟩ := i32_lt (m := 4) (by decide) c_16 c_61
                    refine g_iconst (v := 0) h d_Mod_inside_68 (by decide) ?_
                    refine pf_Mod_thrown h f_Mod_64 d_Mod_inside_69 ?_
                    refine g_aload_n h d_Mod_inside_72 rfl rfl ?_
                    refine gf_Mod_thrown h f_Mod_64 d_Mod_inside_73 ?_
                    simp only [sI_1, sI_2, sJ_1, sJ_2, sJ_3, sR_1, sR_2, sR_3, Nat.reduceEqDiff, Nat.zero_ne_one, Nat.one_ne_zero, Nat.succ_ne_zero, reduceCtorEq, false_and, if_false, true_and, and_self, if_true, and_true, and_false, reduceIte]
                    refine g_if_eq (tgt := 81) h d_Mod_inside_76 (by decide) (fun c_76 => ?_) (fun c_76 => ?_)
                    · refine g_aload_n h d_Mod_inside_81 rfl rfl ?_
                      refine gf_Mod_kind h f_Mod_26 d_Mod_inside_82 ?_
                      refine g_iload_n h d_Mod_inside_85 rfl rfl ?_
                      refine gi_kind h hne (show n.toNatClampNeg < 16 by omega) d_Mod_inside_86 ?_
                      refine g_iconst (v := 2) h d_Mod_inside_87 (by decide) ?_
                      simp only [sI_1, sI_2, sJ_1, sJ_2, sJ_3, sR_1, sR_2, sR_3, Nat.reduceEqDiff, Nat.zero_ne_one, Nat.one_ne_zero, Nat.succ_ne_zero, reduceCtorEq, false_and, if_false, true_and, and_self, if_true, and_true, and_false, reduceIte]
                      refine g_icmp_ne (tgt := 102) h d_Mod_inside_88 (by decide) (fun c_88 => ?_) (fun c_88 => ?_)
                      · refine g_iload_n h d_Mod_inside_102 rfl rfl ?_
                        refine g_if_eq (tgt := 120) h d_Mod_inside_103 (by decide) (fun c_103 => ?_) (fun c_103 => ?_)
                        · refine g_aload_n h d_Mod_inside_120 rfl rfl ?_
                          refine gf_Mod_keys h f_Mod_38 d_Mod_inside_121 ?_
                          refine g_iload_n h d_Mod_inside_124 rfl rfl ?_
                          refine g_bipush (v := 6) h d_Mod_inside_125 (by decide) ?_
                          refine g_imul h d_Mod_inside_127 ?_
                          refine g_iload_n h d_Mod_inside_128 rfl rfl ?_
                          refine g_iadd h d_Mod_inside_129 ?_
                          refine gj_keys h (j := n.toNatClampNeg * 6 + i.toNatClampNeg) (by rw [← nI_at6, ← hne, ← hie]) (by omega) d_Mod_inside_130 ?_
                          exact g_lret h r d_Mod_inside_131 (⟨by unfold minside; rw [if_neg (fun z => by rcases z with z | z <;> first | exact c_2 z | exact Int32.not_lt.mpr c_8 z), if_neg (fun z => z.elim c_16 (fun z => z (by rw [hrw]; exact c_61)))]; first | (simp only [if_neg c_88, if_pos c_103]; first | done | rfl) | (simp only [if_neg c_88, if_neg c_103]; first | done | rfl), by unfold minside; rw [if_neg (fun z => by rcases z with z | z <;> first | exact c_2 z | exact Int32.not_lt.mpr c_8 z), if_neg (fun z => z.elim c_16 (fun z => z (by rw [hrw]; exact c_61)))]⟩)
                        · refine g_aload_n h d_Mod_inside_106 rfl rfl ?_
                          refine gf_Mod_values h f_Mod_41 d_Mod_inside_107 ?_
                          refine g_iload_n h d_Mod_inside_110 rfl rfl ?_
                          refine g_bipush (v := 6) h d_Mod_inside_111 (by decide) ?_
                          refine g_imul h d_Mod_inside_113 ?_
                          refine g_iload_n h d_Mod_inside_114 rfl rfl ?_
                          refine g_iadd h d_Mod_inside_115 ?_
                          refine gj_values h (j := n.toNatClampNeg * 6 + i.toNatClampNeg) (by rw [← nI_at6, ← hne, ← hie]) (by omega) d_Mod_inside_116 ?_
                          refine g_goto (tgt := 131) h d_Mod_inside_117 (by decide) ?_
                          exact g_lret h r d_Mod_inside_131 (⟨by unfold minside; rw [if_neg (fun z => by rcases z with z | z <;> first | exact c_2 z | exact Int32.not_lt.mpr c_8 z), if_neg (fun z => z.elim c_16 (fun z => z (by rw [hrw]; exact c_61)))]; first | (simp only [if_neg c_88, if_pos c_103]; first | done | rfl) | (simp only [if_neg c_88, if_neg c_103]; first | done | rfl), by unfold minside; rw [if_neg (fun z => by rcases z with z | z <;> first | exact c_2 z | exact Int32.not_lt.mpr c_8 z), if_neg (fun z => z.elim c_16 (fun z => z (by rw [hrw]; exact c_61)))]⟩)
                      · refine g_aload_n h d_Mod_inside_91 rfl rfl ?_
                        refine gf_Mod_registers h f_Mod_44 d_Mod_inside_92 ?_
                        refine g_iload_n h d_Mod_inside_95 rfl rfl ?_
                        refine g_iconst (v := 4) h d_Mod_inside_96 (by decide) ?_
                        refine g_imul h d_Mod_inside_97 ?_
                        refine g_iload_n h d_Mod_inside_98 rfl rfl ?_
                        refine g_iadd h d_Mod_inside_99 ?_
                        refine gj_registers h (j := n.toNatClampNeg * 4 + i.toNatClampNeg) (by rw [← nI_at4, ← hne, ← hie]) (by omega) d_Mod_inside_100 ?_
                        exact g_lret h r d_Mod_inside_101 (⟨by unfold minside; rw [if_neg (fun z => by rcases z with z | z <;> first | exact c_2 z | exact Int32.not_lt.mpr c_8 z), if_neg (fun z => z.elim c_16 (fun z => z (by rw [hrw]; exact c_61)))]; first | (simp only [if_pos c_88]; first | done | rfl), by unfold minside; rw [if_neg (fun z => by rcases z with z | z <;> first | exact c_2 z | exact Int32.not_lt.mpr c_8 z), if_neg (fun z => z.elim c_16 (fun z => z (by rw [hrw]; exact c_61)))]⟩)
                    · exact absurd rfl c_76
                · skip
                  · refine g_iconst (v := 2) h d_Mod_inside_64 (by decide) ?_
                    refine g_goto (tgt := 69) h d_Mod_inside_65 (by decide) ?_
                    refine pf_Mod_thrown h f_Mod_64 d_Mod_inside_69 ?_
                    refine g_aload_n h d_Mod_inside_72 rfl rfl ?_
                    refine gf_Mod_thrown h f_Mod_64 d_Mod_inside_73 ?_
                    simp only [sI_1, sI_2, sJ_1, sJ_2, sJ_3, sR_1, sR_2, sR_3, Nat.reduceEqDiff, Nat.zero_ne_one, Nat.one_ne_zero, Nat.succ_ne_zero, reduceCtorEq, false_and, if_false, true_and, and_self, if_true, and_true, and_false, reduceIte]
                    refine g_if_eq (tgt := 81) h d_Mod_inside_76 (by decide) (fun c_76 => ?_) (fun c_76 => ?_)
                    · exact absurd c_76 (by decide)
                    · refine g_lconst (v := 0) h d_Mod_inside_79 (by decide) ?_
                      exact g_lret h r d_Mod_inside_80 (⟨by unfold minside; first | (rw [if_pos (by first | exact .inl c_2 | exact .inr (Int32.not_le.mp c_8))]; done) | (rw [if_neg (fun z => by rcases z with z | z <;> first | exact c_2 z | exact Int32.not_lt.mpr c_8 z), if_pos (Or.inl c_16)]; done) | (rw [if_neg (fun z => by rcases z with z | z <;> first | exact c_2 z | exact Int32.not_lt.mpr c_8 z), if_pos (Or.inr (by rw [hrw]; exact c_61))]; done), by unfold minside; first | (rw [if_pos (by first | exact .inl c_2 | exact .inr (Int32.not_le.mp c_8))]; done) | (rw [if_neg (fun z => by rcases z with z | z <;> first | exact c_2 z | exact Int32.not_lt.mpr c_8 z), if_pos (Or.inl c_16)]; done) | (rw [if_neg (fun z => by rcases z with z | z <;> first | exact c_2 z | exact Int32.not_lt.mpr c_8 z), if_pos (Or.inr (by rw [hrw]; exact c_61))]; done)⟩)
            · skip
              · refine g_iconst (v := 0) h d_Mod_inside_56 (by decide) ?_
                refine g_goto (tgt := 61) h d_Mod_inside_57 (by decide) ?_
                have hrw : mrows M n.toNatClampNeg b = 0 := by first | (unfold mrows; rw [if_pos c_26]; first | done | rfl) | (unfold mrows; rw [if_neg c_26, if_pos c_40]; first | done | rfl) | (unfold mrows; rw [if_neg c_26, if_neg c_40, if_pos c_53]; first | done | rfl) | (unfold mrows; rw [if_neg c_26, if_neg c_40, if_neg c_53]; first | done | rfl)
                refine g_icmp_lt (tgt := 68) h d_Mod_inside_61 (by decide) (fun c_61 => ?_) (fun c_61 => ?_)
                · exact absurd c_61 c_16
                · skip
                  · refine g_iconst (v := 2) h d_Mod_inside_64 (by decide) ?_
                    refine g_goto (tgt := 69) h d_Mod_inside_65 (by decide) ?_
                    refine pf_Mod_thrown h f_Mod_64 d_Mod_inside_69 ?_
                    refine g_aload_n h d_Mod_inside_72 rfl rfl ?_
                    refine gf_Mod_thrown h f_Mod_64 d_Mod_inside_73 ?_
                    simp only [sI_1, sI_2, sJ_1, sJ_2, sJ_3, sR_1, sR_2, sR_3, Nat.reduceEqDiff, Nat.zero_ne_one, Nat.one_ne_zero, Nat.succ_ne_zero, reduceCtorEq, false_and, if_false, true_and, and_self, if_true, and_true, and_false, reduceIte]
                    refine g_if_eq (tgt := 81) h d_Mod_inside_76 (by decide) (fun c_76 => ?_) (fun c_76 => ?_)
                    · exact absurd c_76 (by decide)
                    · refine g_lconst (v := 0) h d_Mod_inside_79 (by decide) ?_
                      exact g_lret h r d_Mod_inside_80 (⟨by unfold minside; first | (rw [if_pos (by first | exact .inl c_2 | exact .inr (Int32.not_le.mp c_8))]; done) | (rw [if_neg (fun z => by rcases z with z | z <;> first | exact c_2 z | exact Int32.not_lt.mpr c_8 z), if_pos (Or.inl c_16)]; done) | (rw [if_neg (fun z => by rcases z with z | z <;> first | exact c_2 z | exact Int32.not_lt.mpr c_8 z), if_pos (Or.inr (by rw [hrw]; exact c_61))]; done), by unfold minside; first | (rw [if_pos (by first | exact .inl c_2 | exact .inr (Int32.not_le.mp c_8))]; done) | (rw [if_neg (fun z => by rcases z with z | z <;> first | exact c_2 z | exact Int32.not_lt.mpr c_8 z), if_pos (Or.inl c_16)]; done) | (rw [if_neg (fun z => by rcases z with z | z <;> first | exact c_2 z | exact Int32.not_lt.mpr c_8 z), if_pos (Or.inr (by rw [hrw]; exact c_61))]; done)⟩)
          · skip
            · refine g_aload_n h d_Mod_inside_43 rfl rfl ?_
              refine gf_Mod_size h f_Mod_32 d_Mod_inside_44 ?_
              refine g_iload_n h d_Mod_inside_47 rfl rfl ?_
              refine gi_size h hne (show n.toNatClampNeg < 16 by omega) d_Mod_inside_48 ?_
              refine g_goto (tgt := 61) h d_Mod_inside_49 (by decide) ?_
              have hrw : mrows M n.toNatClampNeg b = M.1 6 n.toNatClampNeg := by first | (unfold mrows; rw [if_pos c_26]; first | done | rfl) | (unfold mrows; rw [if_neg c_26, if_pos c_40]; first | done | rfl) | (unfold mrows; rw [if_neg c_26, if_neg c_40, if_pos c_53]; first | done | rfl) | (unfold mrows; rw [if_neg c_26, if_neg c_40, if_neg c_53]; first | done | rfl)
              refine g_icmp_lt (tgt := 68) h d_Mod_inside_61 (by decide) (fun c_61 => ?_) (fun c_61 => ?_)
              · skip
                · obtain ⟨⟨P, hP, hp⟩, -⟩ := hok.1 n.toNatClampNeg (by omega)
                  obtain ⟨hi, hie⟩ := i32_lt (m := P) (by omega) c_16 (hp ▸ c_61)
                  refine g_iconst (v := 0) h d_Mod_inside_68 (by decide) ?_
                  refine pf_Mod_thrown h f_Mod_64 d_Mod_inside_69 ?_
                  refine g_aload_n h d_Mod_inside_72 rfl rfl ?_
                  refine gf_Mod_thrown h f_Mod_64 d_Mod_inside_73 ?_
                  simp only [sI_1, sI_2, sJ_1, sJ_2, sJ_3, sR_1, sR_2, sR_3, Nat.reduceEqDiff, Nat.zero_ne_one, Nat.one_ne_zero, Nat.succ_ne_zero, reduceCtorEq, false_and, if_false, true_and, and_self, if_true, and_true, and_false, reduceIte]
                  refine g_if_eq (tgt := 81) h d_Mod_inside_76 (by decide) (fun c_76 => ?_) (fun c_76 => ?_)
                  · refine g_aload_n h d_Mod_inside_81 rfl rfl ?_
                    refine gf_Mod_kind h f_Mod_26 d_Mod_inside_82 ?_
                    refine g_iload_n h d_Mod_inside_85 rfl rfl ?_
                    refine gi_kind h hne (show n.toNatClampNeg < 16 by omega) d_Mod_inside_86 ?_
                    refine g_iconst (v := 2) h d_Mod_inside_87 (by decide) ?_
                    simp only [sI_1, sI_2, sJ_1, sJ_2, sJ_3, sR_1, sR_2, sR_3, Nat.reduceEqDiff, Nat.zero_ne_one, Nat.one_ne_zero, Nat.succ_ne_zero, reduceCtorEq, false_and, if_false, true_and, and_self, if_true, and_true, and_false, reduceIte]
                    refine g_icmp_ne (tgt := 102) h d_Mod_inside_88 (by decide) (fun c_88 => ?_) (fun c_88 => ?_)
                    · refine g_iload_n h d_Mod_inside_102 rfl rfl ?_
                      refine g_if_eq (tgt := 120) h d_Mod_inside_103 (by decide) (fun c_103 => ?_) (fun c_103 => ?_)
                      · refine g_aload_n h d_Mod_inside_120 rfl rfl ?_
                        refine gf_Mod_keys h f_Mod_38 d_Mod_inside_121 ?_
                        refine g_iload_n h d_Mod_inside_124 rfl rfl ?_
                        refine g_bipush (v := 6) h d_Mod_inside_125 (by decide) ?_
                        refine g_imul h d_Mod_inside_127 ?_
                        refine g_iload_n h d_Mod_inside_128 rfl rfl ?_
                        refine g_iadd h d_Mod_inside_129 ?_
                        refine gj_keys h (j := n.toNatClampNeg * 6 + i.toNatClampNeg) (by rw [← nI_at6, ← hne, ← hie]) (by omega) d_Mod_inside_130 ?_
                        exact g_lret h r d_Mod_inside_131 (⟨by unfold minside; rw [if_neg (fun z => by rcases z with z | z <;> first | exact c_2 z | exact Int32.not_lt.mpr c_8 z), if_neg (fun z => z.elim c_16 (fun z => z (by rw [hrw]; exact c_61)))]; first | (simp only [if_neg c_88, if_pos c_103]; first | done | rfl) | (simp only [if_neg c_88, if_neg c_103]; first | done | rfl), by unfold minside; rw [if_neg (fun z => by rcases z with z | z <;> first | exact c_2 z | exact Int32.not_lt.mpr c_8 z), if_neg (fun z => z.elim c_16 (fun z => z (by rw [hrw]; exact c_61)))]⟩)
                      · refine g_aload_n h d_Mod_inside_106 rfl rfl ?_
                        refine gf_Mod_values h f_Mod_41 d_Mod_inside_107 ?_
                        refine g_iload_n h d_Mod_inside_110 rfl rfl ?_
                        refine g_bipush (v := 6) h d_Mod_inside_111 (by decide) ?_
                        refine g_imul h d_Mod_inside_113 ?_
                        refine g_iload_n h d_Mod_inside_114 rfl rfl ?_
                        refine g_iadd h d_Mod_inside_115 ?_
                        refine gj_values h (j := n.toNatClampNeg * 6 + i.toNatClampNeg) (by rw [← nI_at6, ← hne, ← hie]) (by omega) d_Mod_inside_116 ?_
                        refine g_goto (tgt := 131) h d_Mod_inside_117 (by decide) ?_
                        exact g_lret h r d_Mod_inside_131 (⟨by unfold minside; rw [if_neg (fun z => by rcases z with z | z <;> first | exact c_2 z | exact Int32.not_lt.mpr c_8 z), if_neg (fun z => z.elim c_16 (fun z => z (by rw [hrw]; exact c_61)))]; first | (simp only [if_neg c_88, if_pos c_103]; first | done | rfl) | (simp only [if_neg c_88, if_neg c_103]; first | done | rfl), by unfold minside; rw [if_neg (fun z => by rcases z with z | z <;> first | exact c_2 z | exact Int32.not_lt.mpr c_8 z), if_neg (fun z => z.elim c_16 (fun z => z (by rw [hrw]; exact c_61)))]⟩)
                    · exact absurd (c_40.symm.trans c_88) (by decide)
                  · exact absurd rfl c_76
              · skip
                · refine g_iconst (v := 2) h d_Mod_inside_64 (by decide) ?_
                  refine g_goto (tgt := 69) h d_Mod_inside_65 (by decide) ?_
                  refine pf_Mod_thrown h f_Mod_64 d_Mod_inside_69 ?_
                  refine g_aload_n h d_Mod_inside_72 rfl rfl ?_
                  refine gf_Mod_thrown h f_Mod_64 d_Mod_inside_73 ?_
                  simp only [sI_1, sI_2, sJ_1, sJ_2, sJ_3, sR_1, sR_2, sR_3, Nat.reduceEqDiff, Nat.zero_ne_one, Nat.one_ne_zero, Nat.succ_ne_zero, reduceCtorEq, false_and, if_false, true_and, and_self, if_true, and_true, and_false, reduceIte]
                  refine g_if_eq (tgt := 81) h d_Mod_inside_76 (by decide) (fun c_76 => ?_) (fun c_76 => ?_)
                  · exact absurd c_76 (by decide)
                  · refine g_lconst (v := 0) h d_Mod_inside_79 (by decide) ?_
                    exact g_lret h r d_Mod_inside_80 (⟨by unfold minside; first | (rw [if_pos (by first | exact .inl c_2 | exact .inr (Int32.not_le.mp c_8))]; done) | (rw [if_neg (fun z => by rcases z with z | z <;> first | exact c_2 z | exact Int32.not_lt.mpr c_8 z), if_pos (Or.inl c_16)]; done) | (rw [if_neg (fun z => by rcases z with z | z <;> first | exact c_2 z | exact Int32.not_lt.mpr c_8 z), if_pos (Or.inr (by rw [hrw]; exact c_61))]; done), by unfold minside; first | (rw [if_pos (by first | exact .inl c_2 | exact .inr (Int32.not_le.mp c_8))]; done) | (rw [if_neg (fun z => by rcases z with z | z <;> first | exact c_2 z | exact Int32.not_lt.mpr c_8 z), if_pos (Or.inl c_16)]; done) | (rw [if_neg (fun z => by rcases z with z | z <;> first | exact c_2 z | exact Int32.not_lt.mpr c_8 z), if_pos (Or.inr (by rw [hrw]; exact c_61))]; done)⟩)
        · skip
          · refine g_iconst (v := 0) h d_Mod_inside_29 (by decide) ?_
            refine g_goto (tgt := 61) h d_Mod_inside_30 (by decide) ?_
            have hrw : mrows M n.toNatClampNeg b = 0 := by first | (unfold mrows; rw [if_pos c_26]; first | done | rfl) | (unfold mrows; rw [if_neg c_26, if_pos c_40]; first | done | rfl) | (unfold mrows; rw [if_neg c_26, if_neg c_40, if_pos c_53]; first | done | rfl) | (unfold mrows; rw [if_neg c_26, if_neg c_40, if_neg c_53]; first | done | rfl)
            refine g_icmp_lt (tgt := 68) h d_Mod_inside_61 (by decide) (fun c_61 => ?_) (fun c_61 => ?_)
            · exact absurd c_61 c_16
            · skip
              · refine g_iconst (v := 2) h d_Mod_inside_64 (by decide) ?_
                refine g_goto (tgt := 69) h d_Mod_inside_65 (by decide) ?_
                refine pf_Mod_thrown h f_Mod_64 d_Mod_inside_69 ?_
                refine g_aload_n h d_Mod_inside_72 rfl rfl ?_
                refine gf_Mod_thrown h f_Mod_64 d_Mod_inside_73 ?_
                simp only [sI_1, sI_2, sJ_1, sJ_2, sJ_3, sR_1, sR_2, sR_3, Nat.reduceEqDiff, Nat.zero_ne_one, Nat.one_ne_zero, Nat.succ_ne_zero, reduceCtorEq, false_and, if_false, true_and, and_self, if_true, and_true, and_false, reduceIte]
                refine g_if_eq (tgt := 81) h d_Mod_inside_76 (by decide) (fun c_76 => ?_) (fun c_76 => ?_)
                · exact absurd c_76 (by decide)
                · refine g_lconst (v := 0) h d_Mod_inside_79 (by decide) ?_
                  exact g_lret h r d_Mod_inside_80 (⟨by unfold minside; first | (rw [if_pos (by first | exact .inl c_2 | exact .inr (Int32.not_le.mp c_8))]; done) | (rw [if_neg (fun z => by rcases z with z | z <;> first | exact c_2 z | exact Int32.not_lt.mpr c_8 z), if_pos (Or.inl c_16)]; done) | (rw [if_neg (fun z => by rcases z with z | z <;> first | exact c_2 z | exact Int32.not_lt.mpr c_8 z), if_pos (Or.inr (by rw [hrw]; exact c_61))]; done), by unfold minside; first | (rw [if_pos (by first | exact .inl c_2 | exact .inr (Int32.not_le.mp c_8))]; done) | (rw [if_neg (fun z => by rcases z with z | z <;> first | exact c_2 z | exact Int32.not_lt.mpr c_8 z), if_pos (Or.inl c_16)]; done) | (rw [if_neg (fun z => by rcases z with z | z <;> first | exact c_2 z | exact Int32.not_lt.mpr c_8 z), if_pos (Or.inr (by rw [hrw]; exact c_61))]; done)⟩)
    · skip
      · refine g_iconst (v := 1) h d_Mod_inside_11 (by decide) ?_
        refine g_goto (tgt := 69) h d_Mod_inside_12 (by decide) ?_
        refine pf_Mod_thrown h f_Mod_64 d_Mod_inside_69 ?_
        refine g_aload_n h d_Mod_inside_72 rfl rfl ?_
        refine gf_Mod_thrown h f_Mod_64 d_Mod_inside_73 ?_
        simp only [sI_1, sI_2, sJ_1, sJ_2, sJ_3, sR_1, sR_2, sR_3, Nat.reduceEqDiff, Nat.zero_ne_one, Nat.one_ne_zero, Nat.succ_ne_zero, reduceCtorEq, false_and, if_false, true_and, and_self, if_true, and_true, and_false, reduceIte]
        refine g_if_eq (tgt := 81) h d_Mod_inside_76 (by decide) (fun c_76 => ?_) (fun c_76 => ?_)
        · exact absurd c_76 (by decide)
        · refine g_lconst (v := 0) h d_Mod_inside_79 (by decide) ?_
          exact g_lret h r d_Mod_inside_80 (⟨by unfold minside; first | (rw [if_pos (by first | exact .inl c_2 | exact .inr (Int32.not_le.mp c_8))]; done) | (rw [if_neg (fun z => by rcases z with z | z <;> first | exact c_2 z | exact Int32.not_lt.mpr c_8 z), if_pos (Or.inl c_16)]; done) | (rw [if_neg (fun z => by rcases z with z | z <;> first | exact c_2 z | exact Int32.not_lt.mpr c_8 z), if_pos (Or.inr (by rw [hrw]; exact c_61))]; done), by unfold minside; first | (rw [if_pos (by first | exact .inl c_2 | exact .inr (Int32.not_le.mp c_8))]; done) | (rw [if_neg (fun z => by rcases z with z | z <;> first | exact c_2 z | exact Int32.not_lt.mpr c_8 z), if_pos (Or.inl c_16)]; done) | (rw [if_neg (fun z => by rcases z with z | z <;> first | exact c_2 z | exact Int32.not_lt.mpr c_8 z), if_pos (Or.inr (by rw [hrw]; exact c_61))]; done)⟩)
end

-- part 56.countM
section
set_option maxHeartbeats 4000000 in
set_option maxRecDepth 100000 in
theorem c_Mod_count {l : Launch} {D : va_G} {u : Nat → ClassId} {ad : Nat → Nat} {M : CS} {w : Int32} : Cm l D u ad y_Mod_count b_Mod_count 5 (some .int) { frames := 0, cells := 0, slots := 0, locals := 0 } [.ref (ad 0), .int w] (M) (some (.int (mcount (sI M 21 0 0) w))) (sI M 21 0 0) := by
  refine ct_of (by decide) (Nat.le_of_ble_eq_true rfl) ?_
  intro Γ _ _ hN h r
  have tail : ∀ x : Int32, G Γ 0 0 18 ad (mob ad u (sI M 21 0 0)) 62 [some (.ref (ad 0)), some (.int w), some (.int (mcnt (sI M 21 0 0) 16 0 0 0).1), some (.int (mcnt (sI M 21 0 0) 16 0 0 0).2), some (.int x)] [] := by
    intro x
    by_cases hw : w.toInt < 0 ∨ 8 < w.toInt
    · refine g_iload_n h d_Mod_count_62 rfl rfl ?_
      refine g_tableOut (tgt := 151) h d_Mod_count_63 hw (by decide) ?_
      refine g_iconst (v := -1) h d_Mod_count_151 (by decide) ?_
      exact g_iret h r d_Mod_count_152 (⟨by unfold mcount; rw [if_pos hw], rfl⟩)
    · rcases i32_cases hw with rfl | rfl | rfl | rfl | rfl | rfl | rfl | rfl | rfl
      · refine g_iload_n h d_Mod_count_62 rfl rfl ?_
        refine g_tableIn (off := 49) (tgt := 112) h d_Mod_count_63 (by decide) (by decide) (by decide) (by decide) ?_
        refine g_iload_n h d_Mod_count_112 rfl rfl ?_
        exact g_iret h r d_Mod_count_113 (⟨rfl, rfl⟩)
      · refine g_iload_n h d_Mod_count_62 rfl rfl ?_
        refine g_tableIn (off := 51) (tgt := 114) h d_Mod_count_63 (by decide) (by decide) (by decide) (by decide) ?_
        refine g_aload_n h d_Mod_count_114 rfl rfl ?_
        refine gf_Mod_phase h f_Mod_92 d_Mod_count_115 ?_
        exact g_iret h r d_Mod_count_118 (⟨rfl, rfl⟩)
      · refine g_iload_n h d_Mod_count_62 rfl rfl ?_
        refine g_tableIn (off := 56) (tgt := 119) h d_Mod_count_63 (by decide) (by decide) (by decide) (by decide) ?_
        refine g_aload_n h d_Mod_count_119 rfl rfl ?_
        refine gf_Mod_sweep h f_Mod_106 d_Mod_count_120 ?_
        exact g_iret h r d_Mod_count_123 (⟨rfl, rfl⟩)
      · refine g_iload_n h d_Mod_count_62 rfl rfl ?_
        refine g_tableIn (off := 61) (tgt := 124) h d_Mod_count_63 (by decide) (by decide) (by decide) (by decide) ?_
        refine g_aload_n h d_Mod_count_124 rfl rfl ?_
        refine gf_Mod_made h f_Mod_124 d_Mod_count_125 ?_
        exact g_iret h r d_Mod_count_128 (⟨rfl, rfl⟩)
      · refine g_iload_n h d_Mod_count_62 rfl rfl ?_
        refine g_tableIn (off := 66) (tgt := 129) h d_Mod_count_63 (by decide) (by decide) (by decide) (by decide) ?_
        refine g_aload_n h d_Mod_count_129 rfl rfl ?_
        refine gf_Mod_gone h f_Mod_109 d_Mod_count_130 ?_
        exact g_iret h r d_Mod_count_133 (⟨rfl, rfl⟩)
      · refine g_iload_n h d_Mod_count_62 rfl rfl ?_
        refine g_tableIn (off := 71) (tgt := 134) h d_Mod_count_63 (by decide) (by decide) (by decide) (by decide) ?_
        refine g_aload_n h d_Mod_count_134 rfl rfl ?_
        refine gf_Mod_done h f_Mod_170 d_Mod_count_135 ?_
        exact g_iret h r d_Mod_count_138 (⟨rfl, rfl⟩)
      · refine g_iload_n h d_Mod_count_62 rfl rfl ?_
        refine g_tableIn (off := 76) (tgt := 139) h d_Mod_count_63 (by decide) (by decide) (by decide) (by decide) ?_
        refine g_iload_n h d_Mod_count_139 rfl rfl ?_
        exact g_iret h r d_Mod_count_140 (⟨rfl, rfl⟩)
      · refine g_iload_n h d_Mod_count_62 rfl rfl ?_
        refine g_tableIn (off := 78) (tgt := 141) h d_Mod_count_63 (by decide) (by decide) (by decide) (by decide) ?_
        refine g_aload_n h d_Mod_count_141 rfl rfl ?_
        refine gf_Mod_units h f_Mod_89 d_Mod_count_142 ?_
        exact g_iret h r d_Mod_count_145 (⟨rfl, rfl⟩)
      · refine g_iload_n h d_Mod_count_62 rfl rfl ?_
        refine g_tableIn (off := 83) (tgt := 146) h d_Mod_count_63 (by decide) (by decide) (by decide) (by decide) ?_
        refine g_aload_n h d_Mod_count_146 rfl rfl ?_
        refine gf_Mod_fulls h f_Mod_112 d_Mod_count_147 ?_
        exact g_iret h r d_Mod_count_150 (⟨rfl, rfl⟩)
  have loop : ∀ (c i : Nat) (a g : Int32), i + c = 16 → mcnt (sI M 21 0 0) c i a g = mcnt (sI M 21 0 0) 16 0 0 0 → G Γ 0 0 18 ad (mob ad u (sI M 21 0 0)) 12 [some (.ref (ad 0)), some (.int w), some (.int a), some (.int g), some (.int (nI i))] [] := by
    intro c
    induction c with
    | zero =>
      intro i a g hi he
      refine g_iload h d_Mod_count_12 rfl ?_
      refine g_bipush (v := 16) h d_Mod_count_14 (by decide) ?_
      refine g_icmp_ge (tgt := 62) h d_Mod_count_16 (by decide) (fun c_16 => ?_) (fun c_16 => ?_)
      · rw [show a = (mcnt (sI M 21 0 0) 16 0 0 0).1 by rw [← he]; rfl, show g = (mcnt (sI M 21 0 0) 16 0 0 0).2 by rw [← he]; rfl]
        exact tail _
      · exact absurd (nI_le (a := 16) (b := i) (by omega) (by omega)) c_16
    | succ c ih =>
      intro i a g hi he
      refine g_iload h d_Mod_count_12 rfl ?_
      refine g_bipush (v := 16) h d_Mod_count_14 (by decide) ?_
      refine g_icmp_ge (tgt := 62) h d_Mod_count_16 (by decide) (fun c_16 => ?_) (fun c_16 => ?_)
      · exact absurd c_16 (nI_ge (b := 16) (by omega) (by decide))
      · refine g_aload_n h d_Mod_count_19 rfl rfl ?_
        refine gf_Mod_kind h f_Mod_26 d_Mod_count_20 ?_
        refine g_iload h d_Mod_count_23 rfl ?_
        refine gi_kind h rfl (by omega) d_Mod_count_25 ?_
        refine g_if_eq (tgt := 32) h d_Mod_count_26 (by decide) (fun c_26 => ?_) (fun c_26 => ?_)
        · skip
          · refine g_aload_n h d_Mod_count_32 rfl rfl ?_
            refine gf_Mod_kind h f_Mod_26 d_Mod_count_33 ?_
            refine g_iload h d_Mod_count_36 rfl ?_
            refine gi_kind h rfl (by omega) d_Mod_count_38 ?_
            refine g_if_eq (tgt := 56) h d_Mod_count_39 (by decide) (fun c_39 => ?_) (fun c_39 => ?_)
            · refine g_iinc (v := nI (i + 1)) h d_Mod_count_56 rfl (by rw [nI_succ]; rfl) rfl (by rw [hN]; decide) ?_
              refine g_goto (tgt := 12) h d_Mod_count_59 (by decide) ?_
              exact ih (i + 1) _ _ (by omega) (by rw [← he]; first | (simp [mcnt, c_26, c_39]; done) | (simp [mcnt, c_26, c_50]; done))
            · exact absurd c_26 c_39
        · skip
          · refine g_iinc (v := a + 1) h d_Mod_count_29 rfl rfl rfl (by rw [hN]; decide) ?_
            skip
            · refine g_aload_n h d_Mod_count_32 rfl rfl ?_
              refine gf_Mod_kind h f_Mod_26 d_Mod_count_33 ?_
              refine g_iload h d_Mod_count_36 rfl ?_
              refine gi_kind h rfl (by omega) d_Mod_count_38 ?_
              refine g_if_eq (tgt := 56) h d_Mod_count_39 (by decide) (fun c_39 => ?_) (fun c_39 => ?_)
              · exact absurd c_39 c_26
              · refine g_aload_n h d_Mod_count_42 rfl rfl ?_
                refine gf_Mod_colour h f_Mod_29 d_Mod_count_43 ?_
                refine g_iload h d_Mod_count_46 rfl ?_
                refine gi_colour h rfl (by omega) d_Mod_count_48 ?_
                refine g_iconst (v := 1) h d_Mod_count_49 (by decide) ?_
                refine g_icmp_ne (tgt := 56) h d_Mod_count_50 (by decide) (fun c_50 => ?_) (fun c_50 => ?_)
                · refine g_iinc (v := nI (i + 1)) h d_Mod_count_56 rfl (by rw [nI_succ]; rfl) rfl (by rw [hN]; decide) ?_
                  refine g_goto (tgt := 12) h d_Mod_count_59 (by decide) ?_
                  exact ih (i + 1) _ _ (by omega) (by rw [← he]; first | (simp [mcnt, c_26, c_39]; done) | (simp [mcnt, c_26, c_50]; done))
                · refine g_iinc (v := g + 1) h d_Mod_count_53 rfl rfl rfl (by rw [hN]; decide) ?_
                  refine g_iinc (v := nI (i + 1)) h d_Mod_count_56 rfl (by rw [nI_succ]; rfl) rfl (by rw [hN]; decide) ?_
                  refine g_goto (tgt := 12) h d_Mod_count_59 (by decide) ?_
                  exact ih (i + 1) _ _ (by omega) (by rw [← he]; first | (simp [mcnt, c_26, c_39]; done) | (simp [mcnt, c_26, c_50]; done))
  refine g_at (L' := [some (.ref (ad 0)), some (.int w), none, none, none]) rfl rfl rfl ?_
  refine g_aload_n h d_Mod_count_0 rfl rfl ?_
  refine g_iconst (v := 0) h d_Mod_count_1 (by decide) ?_
  refine pf_Mod_thrown h f_Mod_64 d_Mod_count_2 ?_
  refine g_iconst (v := 0) h d_Mod_count_5 (by decide) ?_
  refine g_istore_n h d_Mod_count_6 rfl rfl (by rw [hN]; decide) ?_
  refine g_iconst (v := 0) h d_Mod_count_7 (by decide) ?_
  refine g_istore_n h d_Mod_count_8 rfl rfl (by rw [hN]; decide) ?_
  refine g_iconst (v := 0) h d_Mod_count_9 (by decide) ?_
  refine g_istore h d_Mod_count_10 rfl (by rw [hN]; decide) ?_
  exact loop 16 0 0 0 (by omega) rfl
end

-- part 57.specM7
section
theorem and_mod {x : Int32} {k : Nat} (hk : k = 2 ∨ k = 4) : (x &&& nI (2 ^ k - 1)) = nI (fmod x (2 ^ k)) := by
  have e1 : (x &&& nI (2 ^ k - 1)).toBitVec.toNat = x.toBitVec.toNat % 2 ^ k := by
    rw [Int32.toBitVec_and, BitVec.toNat_and]
    have : (nI (2 ^ k - 1)).toBitVec.toNat = 2 ^ k - 1 := by rcases hk with rfl | rfl <;> rfl
    rw [this, Nat.and_two_pow_sub_one_eq_mod]
  have e2 : (nI (fmod x (2 ^ k))).toBitVec.toNat = fmod x (2 ^ k) := by
    have h := fmod_lt x (m := 2 ^ k) (by rcases hk with rfl | rfl <;> decide)
    have h2 : fmod x (2 ^ k) < 2 ^ 32 := by rcases hk with rfl | rfl <;> omega
    show (BitVec.ofNat 32 (fmod x (2 ^ k))).toNat = _
    rw [BitVec.toNat_ofNat, Nat.mod_eq_of_lt h2]
  apply Int32.toBitVec_inj.mp
  apply BitVec.eq_of_toNat_eq
  rw [e1, e2]
  unfold fmod
  have h3 : x.toInt = if 2 * x.toBitVec.toNat < 2 ^ 32 then (x.toBitVec.toNat : Int) else (x.toBitVec.toNat : Int) - (2 ^ 32 : Nat) := BitVec.toInt_eq_toNat_cond x.toBitVec
  rw [h3]
  rcases hk with rfl | rfl
  · split <;> omega
  · split <;> omega
theorem and3 (x : Int32) : x &&& 3 = nI (fmod x 4) := and_mod (k := 2) (.inl rfl)
theorem and15 (x : Int32) : x &&& 15 = nI (fmod x 16) := and_mod (k := 4) (.inr rfl)
def mIns (M : CS) (n : Nat) : Nat := (M.1 8 n).toNatClampNeg * 16 + (M.1 9 n).toNatClampNeg
def mleaveA (M : CS) (s : Int32) (v : Int64) : CS := sJ (sI (sI M 13 0 (M.1 13 0 - 1)) 10 (mAct M (mDepth M - 1)) s) 4 0 0 v
def mleave (M : CS) (s : Int32) (v : Int64) : CS := if mDepth M = 1 then mleaveA M s v else
  sI (sJ (mleaveA M s v) 3 0 (mAct M (mDepth M - 2) * 4 + fmod (M.1 1 (mIns M (mAct M (mDepth M - 2)))) 4) v) 9 (mAct M (mDepth M - 2)) (M.1 9 (mAct M (mDepth M - 2)) + 1)
end

-- part 58.leaveM
section
set_option maxHeartbeats 4000000 in
set_option maxRecDepth 100000 in
theorem c_Mod_leave {l : Launch} {D : va_G} {u : Nat → ClassId} {ad : Nat → Nat} {M : CS} {s : Int32} {v : Int64} {d : Nat} (hok : okM M) (hd : M.1 13 0 = nI (d + 1)) (hd5 : d < 5) (hlow : ∀ e, d = e + 1 → ∃ f p, f < 4 ∧ p ≤ 15 ∧ M.1 8 (mAct M e) = nI f ∧ M.1 9 (mAct M e) = nI p) : Cm l D u ad y_Mod_leave b_Mod_leave 6 none { frames := 0, cells := 0, slots := 0, locals := 0 } [.ref (ad 0), .int s, .long v] (M) (none) (mleave M s v) := by
  refine ct_of (by decide) (Nat.le_of_ble_eq_true rfl) ?_
  intro Γ _ _ hN h r
  obtain ⟨n, hn, ha⟩ := hok.2.2.2.2 d (by omega)
  have hdd : mDepth M = d + 1 := by unfold mDepth; rw [hd]; exact nI_clamp (by omega)
  have han : mAct M d = n := by unfold mAct; rw [ha]; exact nI_clamp (by omega)
  have hA : sJ (sI (sI M 13 0 (nI (d + 1) - 1)) 10 n s) 4 0 0 v = mleaveA M s v := by unfold mleaveA; rw [hd, hdd, Nat.add_sub_cancel, han]
  rw [nI_pred] at hA
  rcases Nat.eq_zero_or_pos d with h0 | h0
  · refine g_at (L' := [some (.ref (ad 0)), some (.int s), some (.long v), none, none, none]) rfl rfl rfl ?_
    refine g_aload_n h d_Mod_leave_0 rfl rfl ?_
    refine g_dup h d_Mod_leave_1 rfl ?_
    refine gf_Mod_depth h f_Mod_86 d_Mod_leave_2 ?_
    rw [hd]
    refine g_iconst (v := 1) h d_Mod_leave_5 (by decide) ?_
    refine g_isub h d_Mod_leave_6 ?_
    rw [nI_pred]
    refine pf_Mod_depth h f_Mod_86 d_Mod_leave_7 ?_
    refine g_aload_n h d_Mod_leave_10 rfl rfl ?_
    refine gf_Mod_state h f_Mod_53 d_Mod_leave_11 ?_
    refine g_aload_n h d_Mod_leave_14 rfl rfl ?_
    refine gf_Mod_active h f_Mod_59 d_Mod_leave_15 ?_
    refine g_aload_n h d_Mod_leave_18 rfl rfl ?_
    refine gf_Mod_depth h f_Mod_86 d_Mod_leave_19 ?_
    simp only [sI_1, sI_2, sJ_1, sJ_2, sJ_3, sR_1, sR_2, sR_3, Nat.reduceEqDiff, Nat.zero_ne_one, Nat.one_ne_zero, Nat.succ_ne_zero, reduceCtorEq, false_and, if_false, true_and, and_self, if_true, and_true, and_false, reduceIte]
    refine gi_active h rfl (show d < 6 by omega) d_Mod_leave_22 ?_
    simp only [sI_1, sI_2, sJ_1, sJ_2, sJ_3, sR_1, sR_2, sR_3, Nat.reduceEqDiff, Nat.zero_ne_one, Nat.one_ne_zero, Nat.succ_ne_zero, reduceCtorEq, false_and, if_false, true_and, and_self, if_true, and_true, and_false, reduceIte]
    rw [ha]
    refine g_iload_n h d_Mod_leave_23 rfl rfl ?_
    refine pi_state h rfl hn d_Mod_leave_24 ?_
    refine g_aload_n h d_Mod_leave_25 rfl rfl ?_
    refine g_lload_n h d_Mod_leave_26 rfl rfl ?_
    refine pf_Mod_outcome h f_Mod_162 d_Mod_leave_27 ?_
    refine g_aload_n h d_Mod_leave_30 rfl rfl ?_
    refine gf_Mod_depth h f_Mod_86 d_Mod_leave_31 ?_
    simp only [sI_1, sI_2, sJ_1, sJ_2, sJ_3, sR_1, sR_2, sR_3, Nat.reduceEqDiff, Nat.zero_ne_one, Nat.one_ne_zero, Nat.succ_ne_zero, reduceCtorEq, false_and, if_false, true_and, and_self, if_true, and_true, and_false, reduceIte]
    refine g_if_ne (tgt := 38) h d_Mod_leave_34 (by decide) (fun c_34 => ?_) (fun c_34 => ?_)
    · exact absurd (by rw [h0]; rfl) c_34
    · exact g_vret h r d_Mod_leave_37 (⟨rfl, by rw [hA]; unfold mleave; rw [if_pos (by omega)]⟩)
  · obtain ⟨e, he⟩ : ∃ e, d = e + 1 := ⟨d - 1, by omega⟩
    obtain ⟨m, hm, hb⟩ := hok.2.2.2.2 e (by omega)
    have hbn : mAct M e = m := by unfold mAct; rw [hb]; exact nI_clamp (by omega)
    obtain ⟨f, p, hf, hp, hf8, hp9⟩ := hlow e he
    rw [hbn] at hf8 hp9
    have hq4 := fmod_lt (M.1 1 (f * 16 + p)) (m := 4) (by decide)
    have hix : mIns M m = f * 16 + p := by unfold mIns; rw [hf8, hp9, nI_clamp (by omega), nI_clamp (by omega)]
    refine g_at (L' := [some (.ref (ad 0)), some (.int s), some (.long v), none, none, none]) rfl rfl rfl ?_
    refine g_aload_n h d_Mod_leave_0 rfl rfl ?_
    refine g_dup h d_Mod_leave_1 rfl ?_
    refine gf_Mod_depth h f_Mod_86 d_Mod_leave_2 ?_
    rw [hd]
    refine g_iconst (v := 1) h d_Mod_leave_5 (by decide) ?_
    refine g_isub h d_Mod_leave_6 ?_
    rw [nI_pred]
    refine pf_Mod_depth h f_Mod_86 d_Mod_leave_7 ?_
    refine g_aload_n h d_Mod_leave_10 rfl rfl ?_
    refine gf_Mod_state h f_Mod_53 d_Mod_leave_11 ?_
    refine g_aload_n h d_Mod_leave_14 rfl rfl ?_
    refine gf_Mod_active h f_Mod_59 d_Mod_leave_15 ?_
    refine g_aload_n h d_Mod_leave_18 rfl rfl ?_
    refine gf_Mod_depth h f_Mod_86 d_Mod_leave_19 ?_
    simp only [sI_1, sI_2, sJ_1, sJ_2, sJ_3, sR_1, sR_2, sR_3, Nat.reduceEqDiff, Nat.zero_ne_one, Nat.one_ne_zero, Nat.succ_ne_zero, reduceCtorEq, false_and, if_false, true_and, and_self, if_true, and_true, and_false, reduceIte]
    refine gi_active h rfl (show d < 6 by omega) d_Mod_leave_22 ?_
    simp only [sI_1, sI_2, sJ_1, sJ_2, sJ_3, sR_1, sR_2, sR_3, Nat.reduceEqDiff, Nat.zero_ne_one, Nat.one_ne_zero, Nat.succ_ne_zero, reduceCtorEq, false_and, if_false, true_and, and_self, if_true, and_true, and_false, reduceIte]
    rw [ha]
    refine g_iload_n h d_Mod_leave_23 rfl rfl ?_
    refine pi_state h rfl hn d_Mod_leave_24 ?_
    refine g_aload_n h d_Mod_leave_25 rfl rfl ?_
    refine g_lload_n h d_Mod_leave_26 rfl rfl ?_
    refine pf_Mod_outcome h f_Mod_162 d_Mod_leave_27 ?_
    refine g_aload_n h d_Mod_leave_30 rfl rfl ?_
    refine gf_Mod_depth h f_Mod_86 d_Mod_leave_31 ?_
    simp only [sI_1, sI_2, sJ_1, sJ_2, sJ_3, sR_1, sR_2, sR_3, Nat.reduceEqDiff, Nat.zero_ne_one, Nat.one_ne_zero, Nat.succ_ne_zero, reduceCtorEq, false_and, if_false, true_and, and_self, if_true, and_true, and_false, reduceIte]
    refine g_if_ne (tgt := 38) h d_Mod_leave_34 (by decide) (fun c_34 => ?_) (fun c_34 => ?_)
    · refine g_aload_n h d_Mod_leave_38 rfl rfl ?_
      refine gf_Mod_active h f_Mod_59 d_Mod_leave_39 ?_
      refine g_aload_n h d_Mod_leave_42 rfl rfl ?_
      refine gf_Mod_depth h f_Mod_86 d_Mod_leave_43 ?_
      simp only [sI_1, sI_2, sJ_1, sJ_2, sJ_3, sR_1, sR_2, sR_3, Nat.reduceEqDiff, Nat.zero_ne_one, Nat.one_ne_zero, Nat.succ_ne_zero, reduceCtorEq, false_and, if_false, true_and, and_self, if_true, and_true, and_false, reduceIte]
      rw [he]
      refine g_iconst (v := 1) h d_Mod_leave_46 (by decide) ?_
      refine g_isub h d_Mod_leave_47 ?_
      rw [nI_pred]
      refine gi_active h rfl (show e < 6 by omega) d_Mod_leave_48 ?_
      simp only [sI_1, sI_2, sJ_1, sJ_2, sJ_3, sR_1, sR_2, sR_3, Nat.reduceEqDiff, Nat.zero_ne_one, Nat.one_ne_zero, Nat.succ_ne_zero, reduceCtorEq, false_and, if_false, true_and, and_self, if_true, and_true, and_false, reduceIte]
      rw [hb]
      refine g_istore h d_Mod_leave_49 rfl (by rw [hN]; decide) ?_
      refine g_aload_n h d_Mod_leave_51 rfl rfl ?_
      refine gf_Mod_function h f_Mod_47 d_Mod_leave_52 ?_
      refine g_iload h d_Mod_leave_55 rfl ?_
      refine gi_function h rfl hm d_Mod_leave_57 ?_
      simp only [sI_1, sI_2, sJ_1, sJ_2, sJ_3, sR_1, sR_2, sR_3, Nat.reduceEqDiff, Nat.zero_ne_one, Nat.one_ne_zero, Nat.succ_ne_zero, reduceCtorEq, false_and, if_false, true_and, and_self, if_true, and_true, and_false, reduceIte]
      rw [hf8]
      refine g_bipush (v := 16) h d_Mod_leave_58 (by decide) ?_
      refine g_imul h d_Mod_leave_60 ?_
      refine g_aload_n h d_Mod_leave_61 rfl rfl ?_
      refine gf_Mod_place h f_Mod_50 d_Mod_leave_62 ?_
      refine g_iload h d_Mod_leave_65 rfl ?_
      refine gi_place h rfl hm d_Mod_leave_67 ?_
      simp only [sI_1, sI_2, sJ_1, sJ_2, sJ_3, sR_1, sR_2, sR_3, Nat.reduceEqDiff, Nat.zero_ne_one, Nat.one_ne_zero, Nat.succ_ne_zero, reduceCtorEq, false_and, if_false, true_and, and_self, if_true, and_true, and_false, reduceIte]
      rw [hp9]
      refine g_iadd h d_Mod_leave_68 ?_
      rw [nI_at16]
      refine g_istore h d_Mod_leave_69 rfl (by rw [hN]; decide) ?_
      refine g_aload_n h d_Mod_leave_71 rfl rfl ?_
      refine gf_Mod_registers h f_Mod_44 d_Mod_leave_72 ?_
      refine g_iload h d_Mod_leave_75 rfl ?_
      refine g_iconst (v := 4) h d_Mod_leave_77 (by decide) ?_
      refine g_imul h d_Mod_leave_78 ?_
      refine g_aload_n h d_Mod_leave_79 rfl rfl ?_
      refine gf_Mod_as h f_Mod_13 d_Mod_leave_80 ?_
      refine g_iload h d_Mod_leave_83 rfl ?_
      refine gi_as h rfl (show f * 16 + p < 64 by omega) d_Mod_leave_85 ?_
      simp only [sI_1, sI_2, sJ_1, sJ_2, sJ_3, sR_1, sR_2, sR_3, Nat.reduceEqDiff, Nat.zero_ne_one, Nat.one_ne_zero, Nat.succ_ne_zero, reduceCtorEq, false_and, if_false, true_and, and_self, if_true, and_true, and_false, reduceIte]
      refine g_iconst (v := 3) h d_Mod_leave_86 (by decide) ?_
      refine g_iand h d_Mod_leave_87 ?_
      rw [and3]
      refine g_iadd h d_Mod_leave_88 ?_
      rw [nI_at4]
      refine g_lload_n h d_Mod_leave_89 rfl rfl ?_
      refine pj_registers h rfl (by omega) d_Mod_leave_90 ?_
      refine g_aload_n h d_Mod_leave_91 rfl rfl ?_
      refine gf_Mod_place h f_Mod_50 d_Mod_leave_92 ?_
      refine g_iload h d_Mod_leave_95 rfl ?_
      refine g_dup2 h d_Mod_leave_97 rfl rfl ?_
      refine gi_place h rfl hm d_Mod_leave_98 ?_
      simp only [sI_1, sI_2, sJ_1, sJ_2, sJ_3, sR_1, sR_2, sR_3, Nat.reduceEqDiff, Nat.zero_ne_one, Nat.one_ne_zero, Nat.succ_ne_zero, reduceCtorEq, false_and, if_false, true_and, and_self, if_true, and_true, and_false, reduceIte]
      refine g_iconst (v := 1) h d_Mod_leave_99 (by decide) ?_
      refine g_iadd h d_Mod_leave_100 ?_
      refine pi_place h rfl hm d_Mod_leave_101 ?_
      exact g_vret h r d_Mod_leave_102 (⟨rfl, by rw [← he, hA]; unfold mleave; rw [if_neg (by omega), hdd, show d + 1 - 2 = e by omega, hbn, hix]⟩)
    · exact absurd c_34 (nI_ne0 h0 (by omega))
end

-- part 59.specM8
section
theorem rem6_pos {x : Int32} (h : 0 ≤ x - x / 6 * 6) : x - x / 6 * 6 = nI (fmod x 6) := by
  obtain ⟨a, b⟩ := fm_rem x (m := 6) (.inr (.inl rfl))
  have h1 := Int.emod_nonneg x.toInt (show ((6 : Nat) : Int) ≠ 0 by omega)
  have h2 := Int.emod_lt_of_pos x.toInt (show (0 : Int) < ((6 : Nat) : Int) by omega)
  have h3 : 0 ≤ (x - x / nI 6 * nI 6).toInt := by
    have := Int32.le_iff_toInt_le.mp h
    rw [Int32.toInt_zero] at this
    exact this
  apply Int32.toInt_inj.mp
  show (x - x / nI 6 * nI 6).toInt = _
  rw [fmod_int x (by omega) (by omega), a]
  rw [a] at h3
  by_cases c : 0 ≤ x.toInt ∨ ((6 : Nat) : Int) ∣ x.toInt
  · rw [if_pos c] at b; exact b
  · rw [if_neg c] at b; omega
theorem rem6_neg {x : Int32} (h : ¬ 0 ≤ x - x / 6 * 6) : x - x / 6 * 6 + 6 = nI (fmod x 6) := by
  obtain ⟨a, b⟩ := fm_rem x (m := 6) (.inr (.inl rfl))
  have h1 := Int.emod_nonneg x.toInt (show ((6 : Nat) : Int) ≠ 0 by omega)
  have h2 := Int.emod_lt_of_pos x.toInt (show (0 : Int) < ((6 : Nat) : Int) by omega)
  have h3 : ¬ 0 ≤ (x - x / nI 6 * nI 6).toInt := by
    have := mt Int32.le_iff_toInt_le.mpr h
    rw [Int32.toInt_zero] at this
    exact this
  apply Int32.toInt_inj.mp
  show (x - x / nI 6 * nI 6 + nI 6).toInt = _
  rw [fmod_int x (by omega) (by omega), Int32.toInt_add, a, nI_toInt (by decide)]
  rw [a] at h3
  by_cases c : 0 ≤ x.toInt ∨ ((6 : Nat) : Int) ∣ x.toInt
  · rw [if_pos c] at b; omega
  · rw [if_neg c] at b
    rw [b, show x.toInt % ((6 : Nat) : Int) - ((6 : Nat) : Int) + ((6 : Nat) : Int) = x.toInt % ((6 : Nat) : Int) by omega]
    exact fm_bm _ (by omega) (by omega)
abbrev mA (M : CS) (n i : Nat) : Nat := n * 4 + fmod (M.1 1 i) 4
abbrev mX (M : CS) (n i : Nat) : Int64 := M.2.1 3 0 (n * 4 + fmod (M.1 1 i) 4)
abbrev mY (M : CS) (n i : Nat) : Int64 := M.2.1 3 0 (n * 4 + fmod (M.1 2 i) 4)
abbrev mZ (M : CS) (n i : Nat) : Int64 := M.2.1 3 0 (n * 4 + fmod (M.1 3 i) 4)
/-- an INSTRUCTION is through: the next place, if there was no TROUBLE -/
def mT (M : CS) (n : Nat) : CS := if M.1 22 0 = 0 then sI M 9 n (M.1 9 n + 1) else M
def mkeep (r : Int64 × CS) (a : Nat) : CS := if r.2.1 22 0 = 0 then sJ r.2 3 0 a r.1 else r.2
def mnew (r : Option Nat × CS) (a : Nat) : CS := match r.1 with
  | none => sI r.2 22 0 2
  | some m => sJ r.2 3 0 a (10000000000 + (nI m).toInt64)
def mjmp (M : CS) (n i : Nat) (op : Int32) : CS :=
  if (mjumpsM M op (mX M n i) (mY M n i)).1 22 0 = 0 then sI (mjumpsM M op (mX M n i) (mY M n i)) 9 n (if (op = 11 ∧ mX M n i < mY M n i) ∨ op = 12 ∨ (op = 13 ∧ mX M n i = -1000000000000) ∨ (op = 14 ∧ mX M n i = mY M n i) then nI (fmod ((mjumpsM M op (mX M n i) (mY M n i)).1 3 i) 16) else (mjumpsM M op (mX M n i) (mY M n i)).1 9 n + 1)
  else mjumpsM M op (mX M n i) (mY M n i)
def mway (M : CS) (n i : Nat) : CS := sI (sI M 11 n (nI (fmod (M.1 1 i) 4))) 9 n (M.1 9 n + 1)
/-- INSTRUCTION i done by coroutine n, its op the number o (done is counted already) -/
def mstepO (M : CS) (n i : Nat) : Nat → CS
  | 0 => mT (sJ M 3 0 (mA M n i) (-1000000000000)) n
  | 1 => mT (sJ M 3 0 (mA M n i) (M.1 3 i).toInt64) n
  | 2 => mT (sJ M 3 0 (mA M n i) (mY M n i)) n
  | 3 => mT (sJ M 3 0 (mA M n i) (M.2.1 0 0 (fmod (M.1 3 i) 6))) n
  | 4 => mT (sJ M 0 0 (fmod (M.1 3 i) 6) (mX M n i)) n
  | 5 => mT (mnew (mcreate M 1 (nI (fmod (M.1 3 i) 4))) (mA M n i)) n
  | 6 => match mOf M 1 (mY M n i) with
    | none => mT (sI M 22 0 3) n
    | some t => mT (mkeep (mgetting M (mZ M n i) 5 t) (mA M n i)) n
  | 7 => match mOf M 1 (mX M n i) with
    | none => mT (sI M 22 0 3) n
    | some t => mT (msetting M t (mY M n i) (mZ M n i)) n
  | 8 => mT (mcalc M 8 (mA M n i) (mY M n i) (mZ M n i)) n
  | 9 => mT (mcalc M 9 (mA M n i) (mY M n i) (mZ M n i)) n
  | 10 => mT (mcalc M 10 (mA M n i) (mY M n i) (mZ M n i)) n
  | 11 => mjmp M n i 11
  | 12 => mjmp M n i 12
  | 13 => mjmp M n i 13
  | 14 => mjmp M n i 14
  | 15 => mT (mjoin M (mX M n i) (mY M n i)) n
  | 16 => mT (mnew (mcreate M 2 (nI (fmod (M.1 3 i) 4))) (mA M n i)) n
  | 17 => menter M (mY M n i) (mZ M n i)
  | 18 => mleave (mway M n i) 1 (mX M n i)
  | 19 => mleave (mway M n i) 3 (mX M n i)
  | 20 => match mOf M 1 (mY M n i) with
    | none => mT (sI M 22 0 3) n
    | some t => mT (mkeep (mfollow M t (mZ M n i)) (mA M n i)) n
  | _ => match mOf M 1 (mY M n i) with
    | none => mT (sI M 22 0 3) n
    | some t => mT (sJ M 3 0 (mA M n i) (M.1 6 t).toInt64) n
end
