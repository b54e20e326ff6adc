set_option maxHeartbeats 4000000 in
set_option maxRecDepth 100000 in
theorem c_Mod_unit {l : Launch} {D : va_G} {u : Nat → ClassId} {ad : Nat → Nat} {M : CS} (hok : okM M) : Cm l D u ad y_Mod_unit b_Mod_unit 3 (some .int) { frames := 3, cells := 0, slots := 0, locals := 67 } [.ref (ad 0)] (M) (some (.int (munit M).1)) ((munit M).2) := by
  refine ct_of (by decide) (Nat.le_of_ble_eq_true rfl) ?_
  intro Γ _ _ hN h r
  have hok1 : okM (sI M 19 0 (M.1 19 0 + 1)) := okM_keep (by decide) hok
  obtain ⟨i, hi, hk⟩ := hok.2.2.1
  have hcl : (nI i).toNatClampNeg = i := nI_clamp (by omega)
  refine g_at (L' := [some (.ref (ad 0)), none, none]) rfl rfl rfl ?_
  refine g_aload_n h d_Mod_unit_0 rfl rfl ?_
  refine g_dup h d_Mod_unit_1 rfl ?_
  refine gf_Mod_units h f_Mod_89 d_Mod_unit_2 ?_
  refine g_iconst (v := 1) h d_Mod_unit_5 (by decide) ?_
  refine g_iadd h d_Mod_unit_6 ?_
  refine pf_Mod_units h f_Mod_89 d_Mod_unit_7 ?_
  refine g_iconst (v := 0) h d_Mod_unit_10 (by decide) ?_
  refine g_istore_n h d_Mod_unit_11 rfl rfl (by rw [hN]; decide) ?_
  refine g_aload_n h d_Mod_unit_12 rfl rfl ?_
  refine gf_Mod_phase h f_Mod_92 d_Mod_unit_13 ?_
  simp only [sI_1, sI_2, sJ_1, sJ_2, sJ_3, sR_1, sR_2, sR_3, Nat.reduceEqDiff, Nat.zero_ne_one, Nat.one_ne_zero, Nat.succ_ne_zero, reduceCtorEq, false_and, if_false, true_and, and_self, if_true, and_true, and_false, reduceIte]
  refine g_if_ne (tgt := 31) h d_Mod_unit_16 (by decide) (fun c_16 => ?_) (fun c_16 => ?_)
  · refine g_aload_n h d_Mod_unit_31 rfl rfl ?_
    refine gf_Mod_phase h f_Mod_92 d_Mod_unit_32 ?_
    refine g_iconst (v := 1) h d_Mod_unit_35 (by decide) ?_
    simp only [sI_1, sI_2, sJ_1, sJ_2, sJ_3, sR_1, sR_2, sR_3, Nat.reduceEqDiff, Nat.zero_ne_one, Nat.one_ne_zero, Nat.succ_ne_zero, reduceCtorEq, false_and, if_false, true_and, and_self, if_true, and_true, and_false, reduceIte]
    refine g_icmp_ne (tgt := 84) h d_Mod_unit_36 (by decide) (fun c_36 => ?_) (fun c_36 => ?_)
    · refine g_aload_n h d_Mod_unit_84 rfl rfl ?_
      refine gf_Mod_kind h f_Mod_26 d_Mod_unit_85 ?_
      refine g_aload_n h d_Mod_unit_88 rfl rfl ?_
      refine gf_Mod_sweep h f_Mod_106 d_Mod_unit_89 ?_
      simp only [sI_1, sI_2, sJ_1, sJ_2, sJ_3, sR_1, sR_2, sR_3, Nat.reduceEqDiff, Nat.zero_ne_one, Nat.one_ne_zero, Nat.succ_ne_zero, reduceCtorEq, false_and, if_false, true_and, and_self, if_true, and_true, and_false, reduceIte, hk]
      refine gi_kind h rfl hi d_Mod_unit_92 ?_
      simp only [sI_1, sI_2, sJ_1, sJ_2, sJ_3, sR_1, sR_2, sR_3, Nat.reduceEqDiff, Nat.zero_ne_one, Nat.one_ne_zero, Nat.succ_ne_zero, reduceCtorEq, false_and, if_false, true_and, and_self, if_true, and_true, and_false, reduceIte]
      refine g_if_eq (tgt := 130) h d_Mod_unit_93 (by decide) (fun c_93 => ?_) (fun c_93 => ?_)
      · refine g_aload_n h d_Mod_unit_130 rfl rfl ?_
        refine gf_Mod_colour h f_Mod_29 d_Mod_unit_131 ?_
        refine g_aload_n h d_Mod_unit_134 rfl rfl ?_
        refine gf_Mod_sweep h f_Mod_106 d_Mod_unit_135 ?_
        simp only [sI_1, sI_2, sJ_1, sJ_2, sJ_3, sR_1, sR_2, sR_3, Nat.reduceEqDiff, Nat.zero_ne_one, Nat.one_ne_zero, Nat.succ_ne_zero, reduceCtorEq, false_and, if_false, true_and, and_self, if_true, and_true, and_false, reduceIte, hk]
        refine g_iconst (v := 0) h d_Mod_unit_138 (by decide) ?_
        refine pi_colour h rfl hi d_Mod_unit_139 ?_
        refine g_aload_n h d_Mod_unit_140 rfl rfl ?_
        refine g_dup h d_Mod_unit_141 rfl ?_
        refine gf_Mod_sweep h f_Mod_106 d_Mod_unit_142 ?_
        simp only [sI_1, sI_2, sJ_1, sJ_2, sJ_3, sR_1, sR_2, sR_3, Nat.reduceEqDiff, Nat.zero_ne_one, Nat.one_ne_zero, Nat.succ_ne_zero, reduceCtorEq, false_and, if_false, true_and, and_self, if_true, and_true, and_false, reduceIte, hk]
        refine g_iconst (v := 1) h d_Mod_unit_145 (by decide) ?_
        refine g_iadd h d_Mod_unit_146 ?_
        refine pf_Mod_sweep h f_Mod_106 d_Mod_unit_147 ?_
        refine g_aload_n h d_Mod_unit_150 rfl rfl ?_
        refine gf_Mod_sweep h f_Mod_106 d_Mod_unit_151 ?_
        try simp only [sI_1, sI_2, sJ_1, sJ_2, sJ_3, sR_1, sR_2, sR_3, Nat.reduceEqDiff, Nat.zero_ne_one, Nat.one_ne_zero, Nat.succ_ne_zero, reduceCtorEq, false_and, if_false, true_and, and_self, if_true, and_true, and_false, reduceIte, hk]
        refine g_bipush (v := 16) h d_Mod_unit_154 (by decide) ?_
        refine g_icmp_ne (tgt := 169) h d_Mod_unit_156 (by decide) (fun c_156 => ?_) (fun c_156 => ?_)
        · refine g_iload_n h d_Mod_unit_169 rfl rfl ?_
          exact g_iret h r d_Mod_unit_170 (⟨by first | (simp [munit, c_16]; done) | (simp [munit, c_16, c_36, hg]; done) | (simp [munit, c_16, c_36, hg, hg2]; done) | (simp [munit, c_16, c_36, hk, hcl, c_93]; done) | (simp [munit, c_16, c_36, hk, hcl, c_93, c_105]; done), by first | (simp [munit, c_16]; done) | (simp [munit, c_16, c_36, hg]; done) | (simp [munit, c_16, c_36, hg, hg2]; done) | (simp [munit, c_16, c_36, hk, hcl, c_93, c_156]; done) | (simp [munit, c_16, c_36, hk, hcl, c_93, c_105, c_156]; done)⟩)
        · refine g_aload_n h d_Mod_unit_159 rfl rfl ?_
          refine g_iconst (v := 0) h d_Mod_unit_160 (by decide) ?_
          refine pf_Mod_sweep h f_Mod_106 d_Mod_unit_161 ?_
          refine g_aload_n h d_Mod_unit_164 rfl rfl ?_
          refine g_iconst (v := 0) h d_Mod_unit_165 (by decide) ?_
          refine pf_Mod_phase h f_Mod_92 d_Mod_unit_166 ?_
          refine g_iload_n h d_Mod_unit_169 rfl rfl ?_
          exact g_iret h r d_Mod_unit_170 (⟨by first | (simp [munit, c_16]; done) | (simp [munit, c_16, c_36, hg]; done) | (simp [munit, c_16, c_36, hg, hg2]; done) | (simp [munit, c_16, c_36, hk, hcl, c_93]; done) | (simp [munit, c_16, c_36, hk, hcl, c_93, c_105]; done), by first | (simp [munit, c_16]; done) | (simp [munit, c_16, c_36, hg]; done) | (simp [munit, c_16, c_36, hg, hg2]; done) | (simp [munit, c_16, c_36, hk, hcl, c_93, c_156]; done) | (simp [munit, c_16, c_36, hk, hcl, c_93, c_105, c_156]; done)⟩)
      · refine g_aload_n h d_Mod_unit_96 rfl rfl ?_
        refine gf_Mod_colour h f_Mod_29 d_Mod_unit_97 ?_
        refine g_aload_n h d_Mod_unit_100 rfl rfl ?_
        refine gf_Mod_sweep h f_Mod_106 d_Mod_unit_101 ?_
        simp only [sI_1, sI_2, sJ_1, sJ_2, sJ_3, sR_1, sR_2, sR_3, Nat.reduceEqDiff, Nat.zero_ne_one, Nat.one_ne_zero, Nat.succ_ne_zero, reduceCtorEq, false_and, if_false, true_and, and_self, if_true, and_true, and_false, reduceIte, hk]
        refine gi_colour h rfl hi d_Mod_unit_104 ?_
        simp only [sI_1, sI_2, sJ_1, sJ_2, sJ_3, sR_1, sR_2, sR_3, Nat.reduceEqDiff, Nat.zero_ne_one, Nat.one_ne_zero, Nat.succ_ne_zero, reduceCtorEq, false_and, if_false, true_and, and_self, if_true, and_true, and_false, reduceIte]
        refine g_if_ne (tgt := 130) h d_Mod_unit_105 (by decide) (fun c_105 => ?_) (fun c_105 => ?_)
        · refine g_aload_n h d_Mod_unit_130 rfl rfl ?_
          refine gf_Mod_colour h f_Mod_29 d_Mod_unit_131 ?_
          refine g_aload_n h d_Mod_unit_134 rfl rfl ?_
          refine gf_Mod_sweep h f_Mod_106 d_Mod_unit_135 ?_
          simp only [sI_1, sI_2, sJ_1, sJ_2, sJ_3, sR_1, sR_2, sR_3, Nat.reduceEqDiff, Nat.zero_ne_one, Nat.one_ne_zero, Nat.succ_ne_zero, reduceCtorEq, false_and, if_false, true_and, and_self, if_true, and_true, and_false, reduceIte, hk]
          refine g_iconst (v := 0) h d_Mod_unit_138 (by decide) ?_
          refine pi_colour h rfl hi d_Mod_unit_139 ?_
          refine g_aload_n h d_Mod_unit_140 rfl rfl ?_
          refine g_dup h d_Mod_unit_141 rfl ?_
          refine gf_Mod_sweep h f_Mod_106 d_Mod_unit_142 ?_
          simp only [sI_1, sI_2, sJ_1, sJ_2, sJ_3, sR_1, sR_2, sR_3, Nat.reduceEqDiff, Nat.zero_ne_one, Nat.one_ne_zero, Nat.succ_ne_zero, reduceCtorEq, false_and, if_false, true_and, and_self, if_true, and_true, and_false, reduceIte, hk]
          refine g_iconst (v := 1) h d_Mod_unit_145 (by decide) ?_
          refine g_iadd h d_Mod_unit_146 ?_
          refine pf_Mod_sweep h f_Mod_106 d_Mod_unit_147 ?_
          refine g_aload_n h d_Mod_unit_150 rfl rfl ?_
          refine gf_Mod_sweep h f_Mod_106 d_Mod_unit_151 ?_
          try simp only [sI_1, sI_2, sJ_1, sJ_2, sJ_3, sR_1, sR_2, sR_3, Nat.reduceEqDiff, Nat.zero_ne_one, Nat.one_ne_zero, Nat.succ_ne_zero, reduceCtorEq, false_and, if_false, true_and, and_self, if_true, and_true, and_false, reduceIte, hk]
          refine g_bipush (v := 16) h d_Mod_unit_154 (by decide) ?_
          refine g_icmp_ne (tgt := 169) h d_Mod_unit_156 (by decide) (fun c_156 => ?_) (fun c_156 => ?_)
          · refine g_iload_n h d_Mod_unit_169 rfl rfl ?_
            exact g_iret h r d_Mod_unit_170 (⟨by first | (simp [munit, c_16]; done) | (simp [munit, c_16, c_36, hg]; done) | (simp [munit, c_16, c_36, hg, hg2]; done) | (simp [munit, c_16, c_36, hk, hcl, c_93]; done) | (simp [munit, c_16, c_36, hk, hcl, c_93, c_105]; done), by first | (simp [munit, c_16]; done) | (simp [munit, c_16, c_36, hg]; done) | (simp [munit, c_16, c_36, hg, hg2]; done) | (simp [munit, c_16, c_36, hk, hcl, c_93, c_156]; done) | (simp [munit, c_16, c_36, hk, hcl, c_93, c_105, c_156]; done)⟩)
          · refine g_aload_n h d_Mod_unit_159 rfl rfl ?_
            refine g_iconst (v := 0) h d_Mod_unit_160 (by decide) ?_
            refine pf_Mod_sweep h f_Mod_106 d_Mod_unit_161 ?_
            refine g_aload_n h d_Mod_unit_164 rfl rfl ?_
            refine g_iconst (v := 0) h d_Mod_unit_165 (by decide) ?_
            refine pf_Mod_phase h f_Mod_92 d_Mod_unit_166 ?_
            refine g_iload_n h d_Mod_unit_169 rfl rfl ?_
            exact g_iret h r d_Mod_unit_170 (⟨by first | (simp [munit, c_16]; done) | (simp [munit, c_16, c_36, hg]; done) | (simp [munit, c_16, c_36, hg, hg2]; done) | (simp [munit, c_16, c_36, hk, hcl, c_93]; done) | (simp [munit, c_16, c_36, hk, hcl, c_93, c_105]; done), by first | (simp [munit, c_16]; done) | (simp [munit, c_16, c_36, hg]; done) | (simp [munit, c_16, c_36, hg, hg2]; done) | (simp [munit, c_16, c_36, hk, hcl, c_93, c_156]; done) | (simp [munit, c_16, c_36, hk, hcl, c_93, c_105, c_156]; done)⟩)
        · refine g_aload_n h d_Mod_unit_108 rfl rfl ?_
          refine gf_Mod_kind h f_Mod_26 d_Mod_unit_109 ?_
          refine g_aload_n h d_Mod_unit_112 rfl rfl ?_
          refine gf_Mod_sweep h f_Mod_106 d_Mod_unit_113 ?_
          simp only [sI_1, sI_2, sJ_1, sJ_2, sJ_3, sR_1, sR_2, sR_3, Nat.reduceEqDiff, Nat.zero_ne_one, Nat.one_ne_zero, Nat.succ_ne_zero, reduceCtorEq, false_and, if_false, true_and, and_self, if_true, and_true, and_false, reduceIte, hk]
          refine g_iconst (v := 0) h d_Mod_unit_116 (by decide) ?_
          refine pi_kind h rfl hi d_Mod_unit_117 ?_
          refine g_aload_n h d_Mod_unit_118 rfl rfl ?_
          refine g_dup h d_Mod_unit_119 rfl ?_
          refine gf_Mod_gone h f_Mod_109 d_Mod_unit_120 ?_
          simp only [sI_1, sI_2, sJ_1, sJ_2, sJ_3, sR_1, sR_2, sR_3, Nat.reduceEqDiff, Nat.zero_ne_one, Nat.one_ne_zero, Nat.succ_ne_zero, reduceCtorEq, false_and, if_false, true_and, and_self, if_true, and_true, and_false, reduceIte]
          refine g_iconst (v := 1) h d_Mod_unit_123 (by decide) ?_
          refine g_iadd h d_Mod_unit_124 ?_
          refine pf_Mod_gone h f_Mod_109 d_Mod_unit_125 ?_
          refine g_iconst (v := 1) h d_Mod_unit_128 (by decide) ?_
          refine g_istore_n h d_Mod_unit_129 rfl rfl (by rw [hN]; decide) ?_
          refine g_aload_n h d_Mod_unit_130 rfl rfl ?_
          refine gf_Mod_colour h f_Mod_29 d_Mod_unit_131 ?_
          refine g_aload_n h d_Mod_unit_134 rfl rfl ?_
          refine gf_Mod_sweep h f_Mod_106 d_Mod_unit_135 ?_
          simp only [sI_1, sI_2, sJ_1, sJ_2, sJ_3, sR_1, sR_2, sR_3, Nat.reduceEqDiff, Nat.zero_ne_one, Nat.one_ne_zero, Nat.succ_ne_zero, reduceCtorEq, false_and, if_false, true_and, and_self, if_true, and_true, and_false, reduceIte, hk]
          refine g_iconst (v := 0) h d_Mod_unit_138 (by decide) ?_
          refine pi_colour h rfl hi d_Mod_unit_139 ?_
          refine g_aload_n h d_Mod_unit_140 rfl rfl ?_
          refine g_dup h d_Mod_unit_141 rfl ?_
          refine gf_Mod_sweep h f_Mod_106 d_Mod_unit_142 ?_
          simp only [sI_1, sI_2, sJ_1, sJ_2, sJ_3, sR_1, sR_2, sR_3, Nat.reduceEqDiff, Nat.zero_ne_one, Nat.one_ne_zero, Nat.succ_ne_zero, reduceCtorEq, false_and, if_false, true_and, and_self, if_true, and_true, and_false, reduceIte, hk]
          refine g_iconst (v := 1) h d_Mod_unit_145 (by decide) ?_
          refine g_iadd h d_Mod_unit_146 ?_
          refine pf_Mod_sweep h f_Mod_106 d_Mod_unit_147 ?_
          refine g_aload_n h d_Mod_unit_150 rfl rfl ?_
          refine gf_Mod_sweep h f_Mod_106 d_Mod_unit_151 ?_
          try simp only [sI_1, sI_2, sJ_1, sJ_2, sJ_3, sR_1, sR_2, sR_3, Nat.reduceEqDiff, Nat.zero_ne_one, Nat.one_ne_zero, Nat.succ_ne_zero, reduceCtorEq, false_and, if_false, true_and, and_self, if_true, and_true, and_false, reduceIte, hk]
          refine g_bipush (v := 16) h d_Mod_unit_154 (by decide) ?_
          refine g_icmp_ne (tgt := 169) h d_Mod_unit_156 (by decide) (fun c_156 => ?_) (fun c_156 => ?_)
          · refine g_iload_n h d_Mod_unit_169 rfl rfl ?_
            exact g_iret h r d_Mod_unit_170 (⟨by first | (simp [munit, c_16]; done) | (simp [munit, c_16, c_36, hg]; done) | (simp [munit, c_16, c_36, hg, hg2]; done) | (simp [munit, c_16, c_36, hk, hcl, c_93]; done) | (simp [munit, c_16, c_36, hk, hcl, c_93, c_105]; done), by first | (simp [munit, c_16]; done) | (simp [munit, c_16, c_36, hg]; done) | (simp [munit, c_16, c_36, hg, hg2]; done) | (simp [munit, c_16, c_36, hk, hcl, c_93, c_156]; done) | (simp [munit, c_16, c_36, hk, hcl, c_93, c_105, c_156]; done)⟩)
          · refine g_aload_n h d_Mod_unit_159 rfl rfl ?_
            refine g_iconst (v := 0) h d_Mod_unit_160 (by decide) ?_
            refine pf_Mod_sweep h f_Mod_106 d_Mod_unit_161 ?_
            refine g_aload_n h d_Mod_unit_164 rfl rfl ?_
            refine g_iconst (v := 0) h d_Mod_unit_165 (by decide) ?_
            refine pf_Mod_phase h f_Mod_92 d_Mod_unit_166 ?_
            refine g_iload_n h d_Mod_unit_169 rfl rfl ?_
            exact g_iret h r d_Mod_unit_170 (⟨by first | (simp [munit, c_16]; done) | (simp [munit, c_16, c_36, hg]; done) | (simp [munit, c_16, c_36, hg, hg2]; done) | (simp [munit, c_16, c_36, hk, hcl, c_93]; done) | (simp [munit, c_16, c_36, hk, hcl, c_93, c_105]; done), by first | (simp [munit, c_16]; done) | (simp [munit, c_16, c_36, hg]; done) | (simp [munit, c_16, c_36, hg, hg2]; done) | (simp [munit, c_16, c_36, hk, hcl, c_93, c_156]; done) | (simp [munit, c_16, c_36, hk, hcl, c_93, c_105, c_156]; done)⟩)
    · refine g_aload_n h d_Mod_unit_39 rfl rfl ?_
      refine g_dVi h tb_good (c_Mod_leastGray) (q := 0) (by decide) rfl rfl v_Mod_98 nm_Mod_leastGray rfl ⟨rfl, rfl, Nat.le_of_ble_eq_true rfl, Nat.le_of_ble_eq_true rfl, Nat.zero_le _, Nat.zero_le _⟩ rfl (Nat.le_of_ble_eq_true rfl) d_Mod_unit_40 ?_
      rcases hg : mgray (sI M 19 0 (M.1 19 0 + 1)) with _ | q <;> simp only [enc]
      · refine g_istore_n h d_Mod_unit_43 rfl rfl (by rw [hN]; decide) ?_
        refine g_iload_n h d_Mod_unit_44 rfl rfl ?_
        refine g_if_lt (tgt := 56) h d_Mod_unit_45 (by decide) (fun c_45 => ?_) (fun c_45 => ?_)
        · refine g_aload_n h d_Mod_unit_56 rfl rfl ?_
          refine g_dVv h tb_good (c_Mod_shadeRoots hok1) (q := 0) (by decide) rfl rfl v_Mod_95 nm_Mod_shadeRoots rfl ⟨rfl, rfl, Nat.le_of_ble_eq_true rfl, Nat.le_of_ble_eq_true rfl, Nat.zero_le _, Nat.zero_le _⟩ rfl (Nat.le_of_ble_eq_true rfl) d_Mod_unit_57 ?_
          refine g_iload_n h d_Mod_unit_60 rfl rfl ?_
          refine g_if_ge (tgt := 81) h d_Mod_unit_61 (by decide) (fun c_61 => ?_) (fun c_61 => ?_)
          · exact absurd c_61 (by decide)
          · refine g_aload_n h d_Mod_unit_64 rfl rfl ?_
            refine g_dVi h tb_good (c_Mod_leastGray) (q := 0) (by decide) rfl rfl v_Mod_98 nm_Mod_leastGray rfl ⟨rfl, rfl, Nat.le_of_ble_eq_true rfl, Nat.le_of_ble_eq_true rfl, Nat.zero_le _, Nat.zero_le _⟩ rfl (Nat.le_of_ble_eq_true rfl) d_Mod_unit_65 ?_
            rcases hg2 : mgray (mshadeRoots (sI M 19 0 (M.1 19 0 + 1))) with _ | q2 <;> simp only [enc]
            · refine g_if_ge (tgt := 81) h d_Mod_unit_68 (by decide) (fun c_68 => ?_) (fun c_68 => ?_)
              · exact absurd c_68 (by decide)
              · refine g_aload_n h d_Mod_unit_71 rfl rfl ?_
                refine g_iconst (v := 2) h d_Mod_unit_72 (by decide) ?_
                refine pf_Mod_phase h f_Mod_92 d_Mod_unit_73 ?_
                refine g_aload_n h d_Mod_unit_76 rfl rfl ?_
                refine g_iconst (v := 0) h d_Mod_unit_77 (by decide) ?_
                refine pf_Mod_sweep h f_Mod_106 d_Mod_unit_78 ?_
                refine g_goto (tgt := 169) h d_Mod_unit_81 (by decide) ?_
                refine g_iload_n h d_Mod_unit_169 rfl rfl ?_
                exact g_iret h r d_Mod_unit_170 (⟨by first | (simp [munit, c_16]; done) | (simp [munit, c_16, c_36, hg]; done) | (simp [munit, c_16, c_36, hg, hg2]; done) | (simp [munit, c_16, c_36, hk, hcl, c_93]; done) | (simp [munit, c_16, c_36, hk, hcl, c_93, c_105]; done), by first | (simp [munit, c_16]; done) | (simp [munit, c_16, c_36, hg]; done) | (simp [munit, c_16, c_36, hg, hg2]; done) | (simp [munit, c_16, c_36, hk, hcl, c_93, c_156]; done) | (simp [munit, c_16, c_36, hk, hcl, c_93, c_105, c_156]; done)⟩)
            · have hq2 := mgray_lt hg2
              refine g_if_ge (tgt := 81) h d_Mod_unit_68 (by decide) (fun c_68 => ?_) (fun c_68 => ?_)
              · refine g_goto (tgt := 169) h d_Mod_unit_81 (by decide) ?_
                refine g_iload_n h d_Mod_unit_169 rfl rfl ?_
                exact g_iret h r d_Mod_unit_170 (⟨by first | (simp [munit, c_16]; done) | (simp [munit, c_16, c_36, hg]; done) | (simp [munit, c_16, c_36, hg, hg2]; done) | (simp [munit, c_16, c_36, hk, hcl, c_93]; done) | (simp [munit, c_16, c_36, hk, hcl, c_93, c_105]; done), by first | (simp [munit, c_16]; done) | (simp [munit, c_16, c_36, hg]; done) | (simp [munit, c_16, c_36, hg, hg2]; done) | (simp [munit, c_16, c_36, hk, hcl, c_93, c_156]; done) | (simp [munit, c_16, c_36, hk, hcl, c_93, c_105, c_156]; done)⟩)
              · exact absurd (nI_pos' (by omega)) c_68
        · exact absurd (by decide) c_45
      · have hq := mgray_lt hg
        refine g_istore_n h d_Mod_unit_43 rfl rfl (by rw [hN]; decide) ?_
        refine g_iload_n h d_Mod_unit_44 rfl rfl ?_
        refine g_if_lt (tgt := 56) h d_Mod_unit_45 (by decide) (fun c_45 => ?_) (fun c_45 => ?_)
        · exact absurd c_45 (nI_pos (by omega))
        · refine g_aload_n h d_Mod_unit_48 rfl rfl ?_
          refine g_iload_n h d_Mod_unit_49 rfl rfl ?_
          refine g_dVv h tb_good (c_Mod_blacken hok1 hq) (q := 0) (by decide) rfl rfl v_Mod_102 nm_Mod_blacken rfl ⟨rfl, rfl, Nat.le_of_ble_eq_true rfl, Nat.le_of_ble_eq_true rfl, Nat.zero_le _, Nat.zero_le _⟩ rfl (Nat.le_of_ble_eq_true rfl) d_Mod_unit_50 ?_
          refine g_goto (tgt := 60) h d_Mod_unit_53 (by decide) ?_
          refine g_iload_n h d_Mod_unit_60 rfl rfl ?_
          refine g_if_ge (tgt := 81) h d_Mod_unit_61 (by decide) (fun c_61 => ?_) (fun c_61 => ?_)
          · refine g_goto (tgt := 169) h d_Mod_unit_81 (by decide) ?_
            refine g_iload_n h d_Mod_unit_169 rfl rfl ?_
            exact g_iret h r d_Mod_unit_170 (⟨by first | (simp [munit, c_16]; done) | (simp [munit, c_16, c_36, hg]; done) | (simp [munit, c_16, c_36, hg, hg2]; done) | (simp [munit, c_16, c_36, hk, hcl, c_93]; done) | (simp [munit, c_16, c_36, hk, hcl, c_93, c_105]; done), by first | (simp [munit, c_16]; done) | (simp [munit, c_16, c_36, hg]; done) | (simp [munit, c_16, c_36, hg, hg2]; done) | (simp [munit, c_16, c_36, hk, hcl, c_93, c_156]; done) | (simp [munit, c_16, c_36, hk, hcl, c_93, c_105, c_156]; done)⟩)
          · exact absurd (nI_pos' (by omega)) c_61
  · refine g_aload_n h d_Mod_unit_19 rfl rfl ?_
    refine g_dVv h tb_good (c_Mod_shadeRoots hok1) (q := 0) (by decide) rfl rfl v_Mod_95 nm_Mod_shadeRoots rfl ⟨rfl, rfl, Nat.le_of_ble_eq_true rfl, Nat.le_of_ble_eq_true rfl, Nat.zero_le _, Nat.zero_le _⟩ rfl (Nat.le_of_ble_eq_true rfl) d_Mod_unit_20 ?_
    refine g_aload_n h d_Mod_unit_23 rfl rfl ?_
    refine g_iconst (v := 1) h d_Mod_unit_24 (by decide) ?_
    refine pf_Mod_phase h f_Mod_92 d_Mod_unit_25 ?_
    refine g_goto (tgt := 169) h d_Mod_unit_28 (by decide) ?_
    refine g_iload_n h d_Mod_unit_169 rfl rfl ?_
    exact g_iret h r d_Mod_unit_170 (⟨by first | (simp [munit, c_16]; done) | (simp [munit, c_16, c_36, hg]; done) | (simp [munit, c_16, c_36, hg, hg2]; done) | (simp [munit, c_16, c_36, hk, hcl, c_93]; done) | (simp [munit, c_16, c_36, hk, hcl, c_93, c_105]; done), by first | (simp [munit, c_16]; done) | (simp [munit, c_16, c_36, hg]; done) | (simp [munit, c_16, c_36, hg, hg2]; done) | (simp [munit, c_16, c_36, hk, hcl, c_93, c_156]; done) | (simp [munit, c_16, c_36, hk, hcl, c_93, c_105, c_156]; done)⟩)
