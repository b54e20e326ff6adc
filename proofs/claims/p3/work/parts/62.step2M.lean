set_option maxHeartbeats 4000000 in
set_option maxRecDepth 100000 in
theorem c_Mod_step {l : Launch} {D : va_G} {u : Nat → ClassId} {ad : Nat → Nat} {M : CS} {d f : Nat} (hok : okM M) (hd : M.1 13 0 = nI (d + 1)) (hd5 : d < 5) (hf : f < 4) (hf8 : M.1 8 (mAct M d) = nI f) (hops : ∀ i, i < 64 → M.1 0 i = -1 ∨ ∃ o, o ≤ 21 ∧ M.1 0 i = nI o) (hlow : ∀ e, d = e + 1 → ∃ f p, f < 4 ∧ p ≤ 15 ∧ M.1 8 (mAct M e) = nI f ∧ M.1 9 (mAct M e) = nI p) (hdis : ∀ e, d = e + 1 → mAct M e ≠ mAct M d) : Cm l D u ad y_Mod_step b_Mod_step 15 none { frames := 6, cells := 0, slots := 0, locals := 134 } [.ref (ad 0)] (M) (none) (mstep M) := by
  refine ct_of (by decide) (Nat.le_of_ble_eq_true rfl) ?_
  intro Γ _ _ hN h r
  obtain ⟨n, hn, ha⟩ := hok.2.2.2.2 d (by omega)
  have hdd : mDepth M = d + 1 := by unfold mDepth; rw [hd]; exact nI_clamp (by omega)
  have han : mAct M d = n := by unfold mAct; rw [ha]; exact nI_clamp (by omega)
  have hmn : mAct M (mDepth M - 1) = n := by rw [hdd, Nat.add_sub_cancel, han]
  obtain ⟨p, hp, hp9⟩ := (hok.1 n hn).2.2.1
  rw [han] at hf8
  have hix : mIns M n = f * 16 + p := by unfold mIns; rw [hf8, hp9, nI_clamp (by omega), nI_clamp (by omega)]
  rcases Nat.lt_or_ge 15 p with hp15 | hp15
  · refine g_at (L' := [some (.ref (ad 0)), none, none, none, none, none, none, none, none, none, none, none, none, none, none]) rfl rfl rfl ?_
    refine g_aload_n h d_Mod_step_0 rfl rfl ?_
    refine gf_Mod_active h f_Mod_59 d_Mod_step_1 ?_
    refine g_aload_n h d_Mod_step_4 rfl rfl ?_
    refine gf_Mod_depth h f_Mod_86 d_Mod_step_5 ?_
    refine g_iconst (v := 1) h d_Mod_step_8 (by decide) ?_
    refine g_isub h d_Mod_step_9 ?_
    rw [hd, nI_pred]
    refine gi_active h rfl (show d < 6 by omega) d_Mod_step_10 ?_
    rw [ha]
    refine g_istore_n h d_Mod_step_11 rfl rfl (by rw [hN]; decide) ?_
    refine g_aload_n h d_Mod_step_12 rfl rfl ?_
    refine gf_Mod_function h f_Mod_47 d_Mod_step_13 ?_
    refine g_iload_n h d_Mod_step_16 rfl rfl ?_
    refine gi_function h rfl hn d_Mod_step_17 ?_
    rw [hf8]
    refine g_bipush (v := 16) h d_Mod_step_18 (by decide) ?_
    refine g_imul h d_Mod_step_20 ?_
    refine g_aload_n h d_Mod_step_21 rfl rfl ?_
    refine gf_Mod_place h f_Mod_50 d_Mod_step_22 ?_
    refine g_iload_n h d_Mod_step_25 rfl rfl ?_
    refine gi_place h rfl hn d_Mod_step_26 ?_
    rw [hp9]
    refine g_iadd h d_Mod_step_27 ?_
    rw [nI_at16]
    refine g_istore_n h d_Mod_step_28 rfl rfl (by rw [hN]; decide) ?_
    refine g_aload_n h d_Mod_step_29 rfl rfl ?_
    refine gf_Mod_place h f_Mod_50 d_Mod_step_30 ?_
    refine g_iload_n h d_Mod_step_33 rfl rfl ?_
    refine gi_place h rfl hn d_Mod_step_34 ?_
    rw [hp9]
    refine g_bipush (v := 15) h d_Mod_step_35 (by decide) ?_
    refine g_icmp_gt (tgt := 49) h d_Mod_step_37 (by decide) (fun c_37 => ?_) (fun c_37 => ?_)
    · refine g_aload_n h d_Mod_step_49 rfl rfl ?_
      refine g_iconst (v := 3) h d_Mod_step_50 (by decide) ?_
      refine pf_Mod_trouble h f_Mod_141 d_Mod_step_51 ?_
      exact g_vret h r d_Mod_step_54 (⟨rfl, by unfold mstep; rw [hmn, if_pos (Or.inl (by rw [hp9]; exact c_37))]⟩)
    · exact absurd (show nI 15 < nI p from nI_lt hp15 (by omega)) c_37
  · have hi : f * 16 + p < 64 := by omega
    rcases hops _ hi with hop | ⟨o, ho, hop⟩
    · refine g_at (L' := [some (.ref (ad 0)), none, none, none, none, none, none, none, none, none, none, none, none, none, none]) rfl rfl rfl ?_
      refine g_aload_n h d_Mod_step_0 rfl rfl ?_
      refine gf_Mod_active h f_Mod_59 d_Mod_step_1 ?_
      refine g_aload_n h d_Mod_step_4 rfl rfl ?_
      refine gf_Mod_depth h f_Mod_86 d_Mod_step_5 ?_
      refine g_iconst (v := 1) h d_Mod_step_8 (by decide) ?_
      refine g_isub h d_Mod_step_9 ?_
      rw [hd, nI_pred]
      refine gi_active h rfl (show d < 6 by omega) d_Mod_step_10 ?_
      rw [ha]
      refine g_istore_n h d_Mod_step_11 rfl rfl (by rw [hN]; decide) ?_
      refine g_aload_n h d_Mod_step_12 rfl rfl ?_
      refine gf_Mod_function h f_Mod_47 d_Mod_step_13 ?_
      refine g_iload_n h d_Mod_step_16 rfl rfl ?_
      refine gi_function h rfl hn d_Mod_step_17 ?_
      rw [hf8]
      refine g_bipush (v := 16) h d_Mod_step_18 (by decide) ?_
      refine g_imul h d_Mod_step_20 ?_
      refine g_aload_n h d_Mod_step_21 rfl rfl ?_
      refine gf_Mod_place h f_Mod_50 d_Mod_step_22 ?_
      refine g_iload_n h d_Mod_step_25 rfl rfl ?_
      refine gi_place h rfl hn d_Mod_step_26 ?_
      rw [hp9]
      refine g_iadd h d_Mod_step_27 ?_
      rw [nI_at16]
      refine g_istore_n h d_Mod_step_28 rfl rfl (by rw [hN]; decide) ?_
      refine g_aload_n h d_Mod_step_29 rfl rfl ?_
      refine gf_Mod_place h f_Mod_50 d_Mod_step_30 ?_
      refine g_iload_n h d_Mod_step_33 rfl rfl ?_
      refine gi_place h rfl hn d_Mod_step_34 ?_
      rw [hp9]
      refine g_bipush (v := 15) h d_Mod_step_35 (by decide) ?_
      refine g_icmp_gt (tgt := 49) h d_Mod_step_37 (by decide) (fun c_37 => ?_) (fun c_37 => ?_)
      · exact absurd c_37 (nI_nlt (b := p) (a := 15) (by omega) (by decide))
      · refine g_aload_n h d_Mod_step_40 rfl rfl ?_
        refine gf_Mod_ops h f_Mod_7 d_Mod_step_41 ?_
        refine g_iload_n h d_Mod_step_44 rfl rfl ?_
        refine gi_ops h rfl hi d_Mod_step_45 ?_
        rw [hop]
        refine g_if_ge (tgt := 55) h d_Mod_step_46 (by decide) (fun c_46 => ?_) (fun c_46 => ?_)
        · exact absurd c_46 (by decide)
        · refine g_aload_n h d_Mod_step_49 rfl rfl ?_
          refine g_iconst (v := 3) h d_Mod_step_50 (by decide) ?_
          refine pf_Mod_trouble h f_Mod_141 d_Mod_step_51 ?_
          exact g_vret h r d_Mod_step_54 (⟨rfl, by unfold mstep; rw [hmn, hix, if_pos (Or.inr (by rw [hop]; decide))]⟩)
    · have hres : mstep M = mstepO (sI M 18 0 (M.1 18 0 + 1)) n (f * 16 + p) o := by
        unfold mstep
        rw [hmn, hix, if_neg (fun z => z.elim (fun z => absurd z (by rw [hp9]; exact nI_nlt (b := p) (a := 15) (by omega) (by decide))) (fun z => absurd z (by rw [hop]; exact nI_pos (by omega)))), hop, nI_clamp (by omega)]
      rw [hres] at r
      have hokB : okM (sI M 18 0 (M.1 18 0 + 1)) := okM_keep (by decide) hok
      have q1 := fmod_lt ((sI M 18 0 (M.1 18 0 + 1)).1 1 (f * 16 + p)) (m := 4) (by decide)
      have q2 := fmod_lt ((sI M 18 0 (M.1 18 0 + 1)).1 2 (f * 16 + p)) (m := 4) (by decide)
      have q3 := fmod_lt ((sI M 18 0 (M.1 18 0 + 1)).1 3 (f * 16 + p)) (m := 4) (by decide)
      have hlowS : ∀ e, d = e + 1 → ∃ f1 p1, f1 < 4 ∧ p1 ≤ 15 ∧ (mway (sI M 18 0 (M.1 18 0 + 1)) n (f * 16 + p)).1 8 (mAct (mway (sI M 18 0 (M.1 18 0 + 1)) n (f * 16 + p)) e) = nI f1 ∧ (mway (sI M 18 0 (M.1 18 0 + 1)) n (f * 16 + p)).1 9 (mAct (mway (sI M 18 0 (M.1 18 0 + 1)) n (f * 16 + p)) e) = nI p1 := by
        intro e he
        obtain ⟨f1, p1, b1, b2, b3, b4⟩ := hlow e he
        refine ⟨f1, p1, b1, b2, b3, ?_⟩
        unfold mway
        rw [sI_1, if_neg (fun z => hdis e he (by rw [han]; exact z.2))]
        exact b4
      refine g_at (L' := [some (.ref (ad 0)), none, none, none, none, none, none, none, none, none, none, none, none, none, none]) rfl rfl rfl ?_
      refine g_aload_n h d_Mod_step_0 rfl rfl ?_
      refine gf_Mod_active h f_Mod_59 d_Mod_step_1 ?_
      refine g_aload_n h d_Mod_step_4 rfl rfl ?_
      refine gf_Mod_depth h f_Mod_86 d_Mod_step_5 ?_
      refine g_iconst (v := 1) h d_Mod_step_8 (by decide) ?_
      refine g_isub h d_Mod_step_9 ?_
      rw [hd, nI_pred]
      refine gi_active h rfl (show d < 6 by omega) d_Mod_step_10 ?_
      rw [ha]
      refine g_istore_n h d_Mod_step_11 rfl rfl (by rw [hN]; decide) ?_
      refine g_aload_n h d_Mod_step_12 rfl rfl ?_
      refine gf_Mod_function h f_Mod_47 d_Mod_step_13 ?_
      refine g_iload_n h d_Mod_step_16 rfl rfl ?_
      refine gi_function h rfl hn d_Mod_step_17 ?_
      rw [hf8]
      refine g_bipush (v := 16) h d_Mod_step_18 (by decide) ?_
      refine g_imul h d_Mod_step_20 ?_
      refine g_aload_n h d_Mod_step_21 rfl rfl ?_
      refine gf_Mod_place h f_Mod_50 d_Mod_step_22 ?_
      refine g_iload_n h d_Mod_step_25 rfl rfl ?_
      refine gi_place h rfl hn d_Mod_step_26 ?_
      rw [hp9]
      refine g_iadd h d_Mod_step_27 ?_
      rw [nI_at16]
      refine g_istore_n h d_Mod_step_28 rfl rfl (by rw [hN]; decide) ?_
      refine g_aload_n h d_Mod_step_29 rfl rfl ?_
      refine gf_Mod_place h f_Mod_50 d_Mod_step_30 ?_
      refine g_iload_n h d_Mod_step_33 rfl rfl ?_
      refine gi_place h rfl hn d_Mod_step_34 ?_
      rw [hp9]
      refine g_bipush (v := 15) h d_Mod_step_35 (by decide) ?_
      refine g_icmp_gt (tgt := 49) h d_Mod_step_37 (by decide) (fun c_37 => ?_) (fun c_37 => ?_)
      · exact absurd c_37 (nI_nlt (b := p) (a := 15) (by omega) (by decide))
      · refine g_aload_n h d_Mod_step_40 rfl rfl ?_
        refine gf_Mod_ops h f_Mod_7 d_Mod_step_41 ?_
        refine g_iload_n h d_Mod_step_44 rfl rfl ?_
        refine gi_ops h rfl hi d_Mod_step_45 ?_
        rw [hop]
        refine g_if_ge (tgt := 55) h d_Mod_step_46 (by decide) (fun c_46 => ?_) (fun c_46 => ?_)
        · refine g_aload_n h d_Mod_step_55 rfl rfl ?_
          refine g_dup h d_Mod_step_56 rfl ?_
          refine gf_Mod_done h f_Mod_170 d_Mod_step_57 ?_
          refine g_iconst (v := 1) h d_Mod_step_60 (by decide) ?_
          refine g_iadd h d_Mod_step_61 ?_
          refine pf_Mod_done h f_Mod_170 d_Mod_step_62 ?_
          refine g_aload_n h d_Mod_step_65 rfl rfl ?_
          refine gf_Mod_ops h f_Mod_7 d_Mod_step_66 ?_
          refine g_iload_n h d_Mod_step_69 rfl rfl ?_
          refine gi_ops h rfl hi d_Mod_step_70 ?_
          rw [show (sI M 18 0 (M.1 18 0 + 1)).1 0 (f * 16 + p) = nI o from hop]
          refine g_istore_n h d_Mod_step_71 rfl rfl (by rw [hN]; decide) ?_
          refine g_iload_n h d_Mod_step_72 rfl rfl ?_
          refine g_iconst (v := 4) h d_Mod_step_73 (by decide) ?_
          refine g_imul h d_Mod_step_74 ?_
          refine g_aload_n h d_Mod_step_75 rfl rfl ?_
          refine gf_Mod_as h f_Mod_13 d_Mod_step_76 ?_
          refine g_iload_n h d_Mod_step_79 rfl rfl ?_
          refine gi_as h rfl hi d_Mod_step_80 ?_
          refine g_iconst (v := 3) h d_Mod_step_81 (by decide) ?_
          refine g_iand h d_Mod_step_82 ?_
          rw [and3]
          refine g_iadd h d_Mod_step_83 ?_
          rw [nI_at4]
          refine g_istore h d_Mod_step_84 rfl (by rw [hN]; decide) ?_
          refine g_aload_n h d_Mod_step_86 rfl rfl ?_
          refine gf_Mod_registers h f_Mod_44 d_Mod_step_87 ?_
          refine g_iload h d_Mod_step_90 rfl ?_
          refine gj_registers h rfl (by omega) d_Mod_step_92 ?_
          refine g_lstore h d_Mod_step_93 rfl (by rw [hN]; decide) ?_
          refine g_aload_n h d_Mod_step_95 rfl rfl ?_
          refine gf_Mod_registers h f_Mod_44 d_Mod_step_96 ?_
          refine g_iload_n h d_Mod_step_99 rfl rfl ?_
          refine g_iconst (v := 4) h d_Mod_step_100 (by decide) ?_
          refine g_imul h d_Mod_step_101 ?_
          refine g_aload_n h d_Mod_step_102 rfl rfl ?_
          refine gf_Mod_bs h f_Mod_16 d_Mod_step_103 ?_
          refine g_iload_n h d_Mod_step_106 rfl rfl ?_
          refine gi_bs h rfl hi d_Mod_step_107 ?_
          refine g_iconst (v := 3) h d_Mod_step_108 (by decide) ?_
          refine g_iand h d_Mod_step_109 ?_
          rw [and3]
          refine g_iadd h d_Mod_step_110 ?_
          rw [nI_at4]
          refine gj_registers h rfl (by omega) d_Mod_step_111 ?_
          refine g_lstore h d_Mod_step_112 rfl (by rw [hN]; decide) ?_
          refine g_aload_n h d_Mod_step_114 rfl rfl ?_
          refine gf_Mod_registers h f_Mod_44 d_Mod_step_115 ?_
          refine g_iload_n h d_Mod_step_118 rfl rfl ?_
          refine g_iconst (v := 4) h d_Mod_step_119 (by decide) ?_
          refine g_imul h d_Mod_step_120 ?_
          refine g_aload_n h d_Mod_step_121 rfl rfl ?_
          refine gf_Mod_cs h f_Mod_19 d_Mod_step_122 ?_
          refine g_iload_n h d_Mod_step_125 rfl rfl ?_
          refine gi_cs h rfl hi d_Mod_step_126 ?_
          refine g_iconst (v := 3) h d_Mod_step_127 (by decide) ?_
          refine g_iand h d_Mod_step_128 ?_
          rw [and3]
          refine g_iadd h d_Mod_step_129 ?_
          rw [nI_at4]
          refine gj_registers h rfl (by omega) d_Mod_step_130 ?_
          refine g_lstore h d_Mod_step_131 rfl (by rw [hN]; decide) ?_
          refine g_aload_n h d_Mod_step_133 rfl rfl ?_
          refine gf_Mod_cs h f_Mod_19 d_Mod_step_134 ?_
          refine g_iload_n h d_Mod_step_137 rfl rfl ?_
          refine gi_cs h rfl hi d_Mod_step_138 ?_
          refine g_bipush (v := 6) h d_Mod_step_139 (by decide) ?_
          refine g_irem h d_Mod_step_141 (by decide) ?_
          refine g_if_ge (tgt := 160) h d_Mod_step_142 (by decide) (fun c_142 => ?_) (fun c_142 => ?_)
          · refine g_aload_n h d_Mod_step_160 rfl rfl ?_
            refine gf_Mod_cs h f_Mod_19 d_Mod_step_161 ?_
            refine g_iload_n h d_Mod_step_164 rfl rfl ?_
            refine gi_cs h rfl hi d_Mod_step_165 ?_
            refine g_bipush (v := 6) h d_Mod_step_166 (by decide) ?_
            refine g_irem h d_Mod_step_168 (by decide) ?_
            first | rw [rem6_pos c_142] | rw [rem6_neg c_142]
            refine g_istore h d_Mod_step_169 rfl (by rw [hN]; decide) ?_
            have hoo : o = 0 ∨ o = 1 ∨ o = 2 ∨ o = 3 ∨ o = 4 ∨ o = 5 ∨ o = 6 ∨ o = 7 ∨ o = 8 ∨ o = 9 ∨ o = 10 ∨ o = 11 ∨ o = 12 ∨ o = 13 ∨ o = 14 ∨ o = 15 ∨ o = 16 ∨ o = 17 ∨ o = 18 ∨ o = 19 ∨ o = 20 ∨ o = 21 := by omega
            rcases hoo with rfl | rfl | rfl | rfl | rfl | rfl | rfl | rfl | rfl | rfl | rfl | rfl | rfl | rfl | rfl | rfl | rfl | rfl | rfl | rfl | rfl | rfl
            · exact g_step_0 h hN r hokB hn hi
            · exact g_step_1 h hN r hokB hn hi
            · exact g_step_2 h hN r hokB hn hi
            · exact g_step_3 h hN r hokB hn hi
            · exact g_step_4 h hN r hokB hn hi
            · exact g_step_5 h hN r hokB hn hi
            · exact g_step_6 h hN r hokB hn hi
            · exact g_step_7 h hN r hokB hn hi
            · exact g_step_8 h hN r hokB hn hi
            · exact g_step_9 h hN r hokB hn hi
            · exact g_step_10 h hN r hokB hn hi
            · exact g_step_11 h hN r hokB hn hi
            · exact g_step_12 h hN r hokB hn hi
            · exact g_step_13 h hN r hokB hn hi
            · exact g_step_14 h hN r hokB hn hi
            · exact g_step_15 h hN r hokB hn hi
            · exact g_step_16 h hN r hokB hn hi
            · exact g_step_17 h hN r hokB hn hi
            · exact g_step_18 h hN r hokB hn hi (okM_way hp15 hp9 hokB) hd hd5 hlowS
            · exact g_step_19 h hN r hokB hn hi (okM_way hp15 hp9 hokB) hd hd5 hlowS
            · exact g_step_20 h hN r hokB hn hi
            · exact g_step_21 h hN r hokB hn hi
          · refine g_aload_n h d_Mod_step_145 rfl rfl ?_
            refine gf_Mod_cs h f_Mod_19 d_Mod_step_146 ?_
            refine g_iload_n h d_Mod_step_149 rfl rfl ?_
            refine gi_cs h rfl hi d_Mod_step_150 ?_
            refine g_bipush (v := 6) h d_Mod_step_151 (by decide) ?_
            refine g_irem h d_Mod_step_153 (by decide) ?_
            refine g_bipush (v := 6) h d_Mod_step_154 (by decide) ?_
            refine g_iadd h d_Mod_step_156 ?_
            refine g_goto (tgt := 169) h d_Mod_step_157 (by decide) ?_
            first | rw [rem6_pos c_142] | rw [rem6_neg c_142]
            refine g_istore h d_Mod_step_169 rfl (by rw [hN]; decide) ?_
            have hoo : o = 0 ∨ o = 1 ∨ o = 2 ∨ o = 3 ∨ o = 4 ∨ o = 5 ∨ o = 6 ∨ o = 7 ∨ o = 8 ∨ o = 9 ∨ o = 10 ∨ o = 11 ∨ o = 12 ∨ o = 13 ∨ o = 14 ∨ o = 15 ∨ o = 16 ∨ o = 17 ∨ o = 18 ∨ o = 19 ∨ o = 20 ∨ o = 21 := by omega
            rcases hoo with rfl | rfl | rfl | rfl | rfl | rfl | rfl | rfl | rfl | rfl | rfl | rfl | rfl | rfl | rfl | rfl | rfl | rfl | rfl | rfl | rfl | rfl
            · exact g_step_0 h hN r hokB hn hi
            · exact g_step_1 h hN r hokB hn hi
            · exact g_step_2 h hN r hokB hn hi
            · exact g_step_3 h hN r hokB hn hi
            · exact g_step_4 h hN r hokB hn hi
            · exact g_step_5 h hN r hokB hn hi
            · exact g_step_6 h hN r hokB hn hi
            · exact g_step_7 h hN r hokB hn hi
            · exact g_step_8 h hN r hokB hn hi
            · exact g_step_9 h hN r hokB hn hi
            · exact g_step_10 h hN r hokB hn hi
            · exact g_step_11 h hN r hokB hn hi
            · exact g_step_12 h hN r hokB hn hi
            · exact g_step_13 h hN r hokB hn hi
            · exact g_step_14 h hN r hokB hn hi
            · exact g_step_15 h hN r hokB hn hi
            · exact g_step_16 h hN r hokB hn hi
            · exact g_step_17 h hN r hokB hn hi
            · exact g_step_18 h hN r hokB hn hi (okM_way hp15 hp9 hokB) hd hd5 hlowS
            · exact g_step_19 h hN r hokB hn hi (okM_way hp15 hp9 hokB) hd hd5 hlowS
            · exact g_step_20 h hN r hokB hn hi
            · exact g_step_21 h hN r hokB hn hi
        · exact absurd (nI_pos' (by omega)) c_46
