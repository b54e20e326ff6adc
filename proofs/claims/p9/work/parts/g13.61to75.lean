-- part 61.specM9
section
def mstep (M : CS) : CS := if 15 < M.1 9 (mAct M (mDepth M - 1)) ∨ M.1 0 (mIns M (mAct M (mDepth M - 1))) < 0 then sI M 22 0 3 else
  mstepO (sI M 18 0 (M.1 18 0 + 1)) (mAct M (mDepth M - 1)) (mIns M (mAct M (mDepth M - 1))) (M.1 0 (mIns M (mAct M (mDepth M - 1)))).toNatClampNeg
theorem okM_9 {M : CS} {n p : Nat} (hp : p ≤ 16) (h : okM M) : okM (sI M 9 n (nI p)) := by
  obtain ⟨h1, h2, h3, h4, h5⟩ := h
  refine ⟨fun m hm => ?_, fun f j => h2 f j, ?_, ?_, fun k hk => ?_⟩
  · obtain ⟨a1, a2, a3, a4⟩ := h1 m hm
    rw [sI_e (g := 6) (by decide), sI_e (g := 7) (by decide), sI_e (g := 11) (by decide)]
    refine ⟨a1, a2, ?_, a4⟩
    rw [sI_1]
    split
    · exact ⟨p, hp, rfl⟩
    · exact a3
  · rw [sI_e (by decide)]; exact h3
  · rw [sI_e (by decide)]; exact h4
  · rw [sI_e (by decide)]; exact h5 k hk
theorem okM_11 {M : CS} {n a : Nat} (ha : a < 4) (h : okM M) : okM (sI M 11 n (nI a)) := by
  obtain ⟨h1, h2, h3, h4, h5⟩ := h
  refine ⟨fun m hm => ?_, fun f j => h2 f j, ?_, ?_, fun k hk => ?_⟩
  · obtain ⟨a1, a2, a3, a4⟩ := h1 m hm
    rw [sI_e (g := 6) (by decide), sI_e (g := 7) (by decide), sI_e (g := 9) (by decide)]
    refine ⟨a1, a2, a3, ?_⟩
    rw [sI_1]
    split
    · exact ⟨a, ha, rfl⟩
    · exact a4
  · rw [sI_e (by decide)]; exact h3
  · rw [sI_e (by decide)]; exact h4
  · rw [sI_e (by decide)]; exact h5 k hk
theorem okM_way {M : CS} {n i p : Nat} (hp : p ≤ 15) (hp9 : M.1 9 n = nI p) (h : okM M) : okM (mway M n i) := by
  unfold mway
  rw [hp9, nI_1]
  exact okM_9 (by omega) (okM_11 (fmod_lt _ (by decide)) h)
end

-- part 62.step2M
section
set_option maxHeartbeats 4000000 in
set_option maxRecDepth 100000 in
theorem c_Mod_step {l : Launch} {D : va_G} {u : Nat → ClassId} {ad : Nat → Nat} {M : CS} {d f : Nat} (hok : okM M) (hd : M.1 13 0 = nI (d + 1)) (hd5 : d < 5) (hf : f < 4) (hf8 : M.1 8 (mAct M d) = nI f) (hops : ∀ i, i < 64 → M.1 0 i = -1 ∨ ∃ o, o ≤ 21 ∧ M.1 0 i = nI o) (hlow : ∀ e, d = e + 1 → ∃ f p, f < 4 ∧ p ≤ 15 ∧ M.1 8 (mAct M e) = nI f ∧ M.1 9 (mAct M e) = nI p) (hdis : ∀ e, d = e + 1 → mAct M e ≠ mAct M d) : Cm l D u ad y_Mod_step b_Mod_step 15 none { frames := 6, cells := 0, slots := 0, locals := 134 } [.ref (ad 0)] (M) (none) (mstep M) := by
  refine ct_of (by decide) (Nat.le_of_ble_eq_true rfl) ?_
  intro Γ _ _ hN h r
  obtain ⟨n, hn, ha⟩ := hok.2.2.2.2 d (by omega)
  have hdd : mDepth M = d + 1 := by unfold mDepth; rw [hd]; exact nI_clamp (by omega)
  have han : mAct M d = n := by unfold mAct; rw [ha]; exact nI_clamp (by omega)
  have hmn : mAct M (mDepth M - 1) = n := by rw [hdd, Nat.add_sub_cancel, han]
  obtain ⟨p, hp, hp9⟩ := (hok.1 n hn).2.2.1
  rw [han] at hf8
  have hix : mIns M n = f * 16 + p := by unfold mIns; rw [hf8, hp9, nI_clamp (by omega), nI_clamp (by omega)]
  rcases Nat.lt_or_ge 15 p with hp15 | hp15
  · refine g_at (L' := [some (.ref (ad 0)), none, none, none, none, none, none, none, none, none, none, none, none, none, none]) rfl rfl rfl ?_
    refine g_aload_n h d_Mod_step_0 rfl rfl ?_
    refine gf_Mod_active h f_Mod_59 d_Mod_step_1 ?_
    refine g_aload_n h d_Mod_step_4 rfl rfl ?_
    refine gf_Mod_depth h f_Mod_86 d_Mod_step_5 ?_
    refine g_iconst (v := 1) h d_Mod_step_8 (by decide) ?_
    refine g_isub h d_Mod_step_9 ?_
    rw [hd, nI_pred]
    refine gi_active h rfl (show d < 6 by omega) d_Mod_step_10 ?_
    rw [ha]
    refine g_istore_n h d_Mod_step_11 rfl rfl (by rw [hN]; decide) ?_
    refine g_aload_n h d_Mod_step_12 rfl rfl ?_
    refine gf_Mod_function h f_Mod_47 d_Mod_step_13 ?_
    refine g_iload_n h d_Mod_step_16 rfl rfl ?_
    refine gi_function h rfl hn d_Mod_step_17 ?_
    rw [hf8]
    refine g_bipush (v := 16) h d_Mod_step_18 (by decide) ?_
    refine g_imul h d_Mod_step_20 ?_
    refine g_aload_n h d_Mod_step_21 rfl rfl ?_
    refine gf_Mod_place h f_Mod_50 d_Mod_step_22 ?_
    refine g_iload_n h d_Mod_step_25 rfl rfl ?_
    refine gi_place h rfl hn d_Mod_step_26 ?_
    rw [hp9]
    refine g_iadd h d_Mod_step_27 ?_
    rw [nI_at16]
    refine g_istore_n h d_Mod_step_28 rfl rfl (by rw [hN]; decide) ?_
    refine g_aload_n h d_Mod_step_29 rfl rfl ?_
    refine gf_Mod_place h f_Mod_50 d_Mod_step_30 ?_
    refine g_iload_n h d_Mod_step_33 rfl rfl ?_
    refine gi_place h rfl hn d_Mod_step_34 ?_
    rw [hp9]
    refine g_bipush (v := 15) h d_Mod_step_35 (by decide) ?_
    refine g_icmp_gt (tgt := 49) h d_Mod_step_37 (by decide) (fun c_37 => ?_) (fun c_37 => ?_)
    · refine g_aload_n h d_Mod_step_49 rfl rfl ?_
      refine g_iconst (v := 3) h d_Mod_step_50 (by decide) ?_
      refine pf_Mod_trouble h f_Mod_141 d_Mod_step_51 ?_
      exact g_vret h r d_Mod_step_54 (⟨rfl, by unfold mstep; rw [hmn, if_pos (Or.inl (by rw [hp9]; exact c_37))]⟩)
    · exact absurd (show nI 15 < nI p from nI_lt hp15 (by omega)) c_37
  · have hi : f * 16 + p < 64 := by omega
    rcases hops _ hi with hop | ⟨o, ho, hop⟩
    · refine g_at (L' := [some (.ref (ad 0)), none, none, none, none, none, none, none, none, none, none, none, none, none, none]) rfl rfl rfl ?_
      refine g_aload_n h d_Mod_step_0 rfl rfl ?_
      refine gf_Mod_active h f_Mod_59 d_Mod_step_1 ?_
      refine g_aload_n h d_Mod_step_4 rfl rfl ?_
      refine gf_Mod_depth h f_Mod_86 d_Mod_step_5 ?_
      refine g_iconst (v := 1) h d_Mod_step_8 (by decide) ?_
      refine g_isub h d_Mod_step_9 ?_
      rw [hd, nI_pred]
      refine gi_active h rfl (show d < 6 by omega) d_Mod_step_10 ?_
      rw [ha]
      refine g_istore_n h d_Mod_step_11 rfl rfl (by rw [hN]; decide) ?_
      refine g_aload_n h d_Mod_step_12 rfl rfl ?_
      refine gf_Mod_function h f_Mod_47 d_Mod_step_13 ?_
      refine g_iload_n h d_Mod_step_16 rfl rfl ?_
      refine gi_function h rfl hn d_Mod_step_17 ?_
      rw [hf8]
      refine g_bipush (v := 16) h d_Mod_step_18 (by decide) ?_
      refine g_imul h d_Mod_step_20 ?_
      refine g_aload_n h d_Mod_step_21 rfl rfl ?_
      refine gf_Mod_place h f_Mod_50 d_Mod_step_22 ?_
      refine g_iload_n h d_Mod_step_25 rfl rfl ?_
      refine gi_place h rfl hn d_Mod_step_26 ?_
      rw [hp9]
      refine g_iadd h d_Mod_step_27 ?_
      rw [nI_at16]
      refine g_istore_n h d_Mod_step_28 rfl rfl (by rw [hN]; decide) ?_
      refine g_aload_n h d_Mod_step_29 rfl rfl ?_
      refine gf_Mod_place h f_Mod_50 d_Mod_step_30 ?_
      refine g_iload_n h d_Mod_step_33 rfl rfl ?_
      refine gi_place h rfl hn d_Mod_step_34 ?_
      rw [hp9]
      refine g_bipush (v := 15) h d_Mod_step_35 (by decide) ?_
      refine g_icmp_gt (tgt := 49) h d_Mod_step_37 (by decide) (fun c_37 => ?_) (fun c_37 => ?_)
      · exact absurd c_37 (nI_nlt (b := p) (a := 15) (by omega) (by decide))
      · refine g_aload_n h d_Mod_step_40 rfl rfl ?_
        refine gf_Mod_ops h f_Mod_7 d_Mod_step_41 ?_
        refine g_iload_n h d_Mod_step_44 rfl rfl ?_
        refine gi_ops h rfl hi d_Mod_step_45 ?_
        rw [hop]
        refine g_if_ge (tgt := 55) h d_Mod_step_46 (by decide) (fun c_46 => ?_) (fun c_46 => ?_)
        · exact absurd c_46 (by decide)
        · refine g_aload_n h d_Mod_step_49 rfl rfl ?_
          refine g_iconst (v := 3) h d_Mod_step_50 (by decide) ?_
          refine pf_Mod_trouble h f_Mod_141 d_Mod_step_51 ?_
          exact g_vret h r d_Mod_step_54 (⟨rfl, by unfold mstep; rw [hmn, hix, if_pos (Or.inr (by rw [hop]; decide))]⟩)
    · have hres : mstep M = mstepO (sI M 18 0 (M.1 18 0 + 1)) n (f * 16 + p) o := by
        unfold mstep
        rw [hmn, hix, if_neg (fun z => z.elim (fun z => absurd z (by rw [hp9]; exact nI_nlt (b := p) (a := 15) (by omega) (by decide))) (fun z => absurd z (by rw [hop]; exact nI_pos (by omega)))), hop, nI_clamp (by omega)]
      rw [hres] at r
      have hokB : okM (sI M 18 0 (M.1 18 0 + 1)) := okM_keep (by decide) hok
      have q1 := fmod_lt ((sI M 18 0 (M.1 18 0 + 1)).1 1 (f * 16 + p)) (m := 4) (by decide)
      have q2 := fmod_lt ((sI M 18 0 (M.1 18 0 + 1)).1 2 (f * 16 + p)) (m := 4) (by decide)
      have q3 := fmod_lt ((sI M 18 0 (M.1 18 0 + 1)).1 3 (f * 16 + p)) (m := 4) (by decide)
      have hlowS : ∀ e, d = e + 1 → ∃ f1 p1, f1 < 4 ∧ p1 ≤ 15 ∧ (mway (sI M 18 0 (M.1 18 0 + 1)) n (f * 16 + p)).1 8 (mAct (mway (sI M 18 0 (M.1 18 0 + 1)) n (f * 16 + p)) e) = nI f1 ∧ (mway (sI M 18 0 (M.1 18 0 + 1)) n (f * 16 + p)).1 9 (mAct (mway (sI M 18 0 (M.1 18 0 + 1)) n (f * 16 + p)) e) = nI p1 := by
        intro e he
        obtain ⟨f1, p1, b1, b2, b3, b4⟩ := hlow e he
        refine ⟨f1, p1, b1, b2, b3, ?_⟩
        unfold mway
        rw [sI_1, if_neg (fun z => hdis e he (by rw [han]; exact z.2))]
        exact b4
      refine g_at (L' := [some (.ref (ad 0)), none, none, none, none, none, none, none, none, none, none, none, none, none, none]) rfl rfl rfl ?_
      refine g_aload_n h d_Mod_step_0 rfl rfl ?_
      refine gf_Mod_active h f_Mod_59 d_Mod_step_1 ?_
      refine g_aload_n h d_Mod_step_4 rfl rfl ?_
      refine gf_Mod_depth h f_Mod_86 d_Mod_step_5 ?_
      refine g_iconst (v := 1) h d_Mod_step_8 (by decide) ?_
      refine g_isub h d_Mod_step_9 ?_
      rw [hd, nI_pred]
      refine gi_active h rfl (show d < 6 by omega) d_Mod_step_10 ?_
      rw [ha]
      refine g_istore_n h d_Mod_step_11 rfl rfl (by rw [hN]; decide) ?_
      refine g_aload_n h d_Mod_step_12 rfl rfl ?_
      refine gf_Mod_function h f_Mod_47 d_Mod_step_13 ?_
      refine g_iload_n h d_Mod_step_16 rfl rfl ?_
      refine gi_function h rfl hn d_Mod_step_17 ?_
      rw [hf8]
      refine g_bipush (v := 16) h d_Mod_step_18 (by decide) ?_
      refine g_imul h d_Mod_step_20 ?_
      refine g_aload_n h d_Mod_step_21 rfl rfl ?_
      refine gf_Mod_place h f_Mod_50 d_Mod_step_22 ?_
      refine g_iload_n h d_Mod_step_25 rfl rfl ?_
      refine gi_place h rfl hn d_Mod_step_26 ?_
      rw [hp9]
      refine g_iadd h d_Mod_step_27 ?_
      rw [nI_at16]
      refine g_istore_n h d_Mod_step_28 rfl rfl (by rw [hN]; decide) ?_
      refine g_aload_n h d_Mod_step_29 rfl rfl ?_
      refine gf_Mod_place h f_Mod_50 d_Mod_step_30 ?_
      refine g_iload_n h d_Mod_step_33 rfl rfl ?_
      refine gi_place h rfl hn d_Mod_step_34 ?_
      rw [hp9]
      refine g_bipush (v := 15) h d_Mod_step_35 (by decide) ?_
      refine g_icmp_gt (tgt := 49) h d_Mod_step_37 (by decide) (fun c_37 => ?_) (fun c_37 => ?_)
      · exact absurd c_37 (nI_nlt (b := p) (a := 15) (by omega) (by decide))
      · refine g_aload_n h d_Mod_step_40 rfl rfl ?_
        refine gf_Mod_ops h f_Mod_7 d_Mod_step_41 ?_
        refine g_iload_n h d_Mod_step_44 rfl rfl ?_
        refine gi_ops h rfl hi d_Mod_step_45 ?_
        rw [hop]
        refine g_if_ge (tgt := 55) h d_Mod_step_46 (by decide) (fun c_46 => ?_) (fun c_46 => ?_)
        · refine g_aload_n h d_Mod_step_55 rfl rfl ?_
          refine g_dup h d_Mod_step_56 rfl ?_
          refine gf_Mod_done h f_Mod_170 d_Mod_step_57 ?_
          refine g_iconst (v := 1) h d_Mod_step_60 (by decide) ?_
          refine g_iadd h d_Mod_step_61 ?_
          refine pf_Mod_done h f_Mod_170 d_Mod_step_62 ?_
          refine g_aload_n h d_Mod_step_65 rfl rfl ?_
          refine gf_Mod_ops h f_Mod_7 d_Mod_step_66 ?_
          refine g_iload_n h d_Mod_step_69 rfl rfl ?_
          refine gi_ops h rfl hi d_Mod_step_70 ?_
          rw [show (sI M 18 0 (M.1 18 0 + 1)).1 0 (f * 16 + p) = nI o from hop]
          refine g_istore_n h d_Mod_step_71 rfl rfl (by rw [hN]; decide) ?_
          refine g_iload_n h d_Mod_step_72 rfl rfl ?_
          refine g_iconst (v := 4) h d_Mod_step_73 (by decide) ?_
          refine g_imul h d_Mod_step_74 ?_
          refine g_aload_n h d_Mod_step_75 rfl rfl ?_
          refine gf_Mod_as h f_Mod_13 d_Mod_step_76 ?_
          refine g_iload_n h d_Mod_step_79 rfl rfl ?_
          refine gi_as h rfl hi d_Mod_step_80 ?_
          refine g_iconst (v := 3) h d_Mod_step_81 (by decide) ?_
          refine g_iand h d_Mod_step_82 ?_
          rw [and3]
          refine g_iadd h d_Mod_step_83 ?_
          rw [nI_at4]
          refine g_istore h d_Mod_step_84 rfl (by rw [hN]; decide) ?_
          refine g_aload_n h d_Mod_step_86 rfl rfl ?_
          refine gf_Mod_registers h f_Mod_44 d_Mod_step_87 ?_
          refine g_iload h d_Mod_step_90 rfl ?_
          refine gj_registers h rfl (by omega) d_Mod_step_92 ?_
          refine g_lstore h d_Mod_step_93 rfl (by rw [hN]; decide) ?_
          refine g_aload_n h d_Mod_step_95 rfl rfl ?_
          refine gf_Mod_registers h f_Mod_44 d_Mod_step_96 ?_
          refine g_iload_n h d_Mod_step_99 rfl rfl ?_
          refine g_iconst (v := 4) h d_Mod_step_100 (by decide) ?_
          refine g_imul h d_Mod_step_101 ?_
          refine g_aload_n h d_Mod_step_102 rfl rfl ?_
          refine gf_Mod_bs h f_Mod_16 d_Mod_step_103 ?_
          refine g_iload_n h d_Mod_step_106 rfl rfl ?_
          refine gi_bs h rfl hi d_Mod_step_107 ?_
          refine g_iconst (v := 3) h d_Mod_step_108 (by decide) ?_
          refine g_iand h d_Mod_step_109 ?_
          rw [and3]
          refine g_iadd h d_Mod_step_110 ?_
          rw [nI_at4]
          refine gj_registers h rfl (by omega) d_Mod_step_111 ?_
          refine g_lstore h d_Mod_step_112 rfl (by rw [hN]; decide) ?_
          refine g_aload_n h d_Mod_step_114 rfl rfl ?_
          refine gf_Mod_registers h f_Mod_44 d_Mod_step_115 ?_
          refine g_iload_n h d_Mod_step_118 rfl rfl ?_
          refine g_iconst (v := 4) h d_Mod_step_119 (by decide) ?_
          refine g_imul h d_Mod_step_120 ?_
          refine g_aload_n h d_Mod_step_121 rfl rfl ?_
          refine gf_Mod_cs h f_Mod_19 d_Mod_step_122 ?_
          refine g_iload_n h d_Mod_step_125 rfl rfl ?_
          refine gi_cs h rfl hi d_Mod_step_126 ?_
          refine g_iconst (v := 3) h d_Mod_step_127 (by decide) ?_
          refine g_iand h d_Mod_step_128 ?_
          rw [and3]
          refine g_iadd h d_Mod_step_129 ?_
          rw [nI_at4]
          refine gj_registers h rfl (by omega) d_Mod_step_130 ?_
          refine g_lstore h d_Mod_step_131 rfl (by rw [hN]; decide) ?_
          refine g_aload_n h d_Mod_step_133 rfl rfl ?_
          refine gf_Mod_cs h f_Mod_19 d_Mod_step_134 ?_
          refine g_iload_n h d_Mod_step_137 rfl rfl ?_
          refine gi_cs h rfl hi d_Mod_step_138 ?_
          refine g_bipush (v := 6) h d_Mod_step_139 (by decide) ?_
          refine g_irem h d_Mod_step_141 (by decide) ?_
          refine g_if_ge (tgt := 160) h d_Mod_step_142 (by decide) (fun c_142 => ?_) (fun c_142 => ?_)
          · refine g_aload_n h d_Mod_step_160 rfl rfl ?_
            refine gf_Mod_cs h f_Mod_19 d_Mod_step_161 ?_
            refine g_iload_n h d_Mod_step_164 rfl rfl ?_
            refine gi_cs h rfl hi d_Mod_step_165 ?_
            refine g_bipush (v := 6) h d_Mod_step_166 (by decide) ?_
            refine g_irem h d_Mod_step_168 (by decide) ?_
            first | rw [rem6_pos c_142] | rw [rem6_neg c_142]
            refine g_istore h d_Mod_step_169 rfl (by rw [hN]; decide) ?_
            have hoo : o = 0 ∨ o = 1 ∨ o = 2 ∨ o = 3 ∨ o = 4 ∨ o = 5 ∨ o = 6 ∨ o = 7 ∨ o = 8 ∨ o = 9 ∨ o = 10 ∨ o = 11 ∨ o = 12 ∨ o = 13 ∨ o = 14 ∨ o = 15 ∨ o = 16 ∨ o = 17 ∨ o = 18 ∨ o = 19 ∨ o = 20 ∨ o = 21 := by omega
            rcases hoo with rfl | rfl | rfl | rfl | rfl | rfl | rfl | rfl | rfl | rfl | rfl | rfl | rfl | rfl | rfl | rfl | rfl | rfl | rfl | rfl | rfl | rfl
            · exact g_step_0 h hN r hokB hn hi
            · exact g_step_1 h hN r hokB hn hi
            · exact g_step_2 h hN r hokB hn hi
            · exact g_step_3 h hN r hokB hn hi
            · exact g_step_4 h hN r hokB hn hi
            · exact g_step_5 h hN r hokB hn hi
            · exact g_step_6 h hN r hokB hn hi
            · exact g_step_7 h hN r hokB hn hi
            · exact g_step_8 h hN r hokB hn hi
            · exact g_step_9 h hN r hokB hn hi
            · exact g_step_10 h hN r hokB hn hi
            · exact g_step_11 h hN r hokB hn hi
            · exact g_step_12 h hN r hokB hn hi
            · exact g_step_13 h hN r hokB hn hi
            · exact g_step_14 h hN r hokB hn hi
            · exact g_step_15 h hN r hokB hn hi
            · exact g_step_16 h hN r hokB hn hi
            · exact g_step_17 h hN r hokB hn hi
            · exact g_step_18 h hN r hokB hn hi (okM_way hp15 hp9 hokB) hd hd5 hlowS
            · exact g_step_19 h hN r hokB hn hi (okM_way hp15 hp9 hokB) hd hd5 hlowS
            · exact g_step_20 h hN r hokB hn hi
            · exact g_step_21 h hN r hokB hn hi
          · refine g_aload_n h d_Mod_step_145 rfl rfl ?_
            refine gf_Mod_cs h f_Mod_19 d_Mod_step_146 ?_
            refine g_iload_n h d_Mod_step_149 rfl rfl ?_
            refine gi_cs h rfl hi d_Mod_step_150 ?_
            refine g_bipush (v := 6) h d_Mod_step_151 (by decide) ?_
            refine g_irem h d_Mod_step_153 (by decide) ?_
            refine g_bipush (v := 6) h d_Mod_step_154 (by decide) ?_
            refine g_iadd h d_Mod_step_156 ?_
            refine g_goto (tgt := 169) h d_Mod_step_157 (by decide) ?_
            first | rw [rem6_pos c_142] | rw [rem6_neg c_142]
            refine g_istore h d_Mod_step_169 rfl (by rw [hN]; decide) ?_
            have hoo : o = 0 ∨ o = 1 ∨ o = 2 ∨ o = 3 ∨ o = 4 ∨ o = 5 ∨ o = 6 ∨ o = 7 ∨ o = 8 ∨ o = 9 ∨ o = 10 ∨ o = 11 ∨ o = 12 ∨ o = 13 ∨ o = 14 ∨ o = 15 ∨ o = 16 ∨ o = 17 ∨ o = 18 ∨ o = 19 ∨ o = 20 ∨ o = 21 := by omega
            rcases hoo with rfl | rfl | rfl | rfl | rfl | rfl | rfl | rfl | rfl | rfl | rfl | rfl | rfl | rfl | rfl | rfl | rfl | rfl | rfl | rfl | rfl | rfl
            · exact g_step_0 h hN r hokB hn hi
            · exact g_step_1 h hN r hokB hn hi
            · exact g_step_2 h hN r hokB hn hi
            · exact g_step_3 h hN r hokB hn hi
            · exact g_step_4 h hN r hokB hn hi
            · exact g_step_5 h hN r hokB hn hi
            · exact g_step_6 h hN r hokB hn hi
            · exact g_step_7 h hN r hokB hn hi
            · exact g_step_8 h hN r hokB hn hi
            · exact g_step_9 h hN r hokB hn hi
            · exact g_step_10 h hN r hokB hn hi
            · exact g_step_11 h hN r hokB hn hi
            · exact g_step_12 h hN r hokB hn hi
            · exact g_step_13 h hN r hokB hn hi
            · exact g_step_14 h hN r hokB hn hi
            · exact g_step_15 h hN r hokB hn hi
            · exact g_step_16 h hN r hokB hn hi
            · exact g_step_17 h hN r hokB hn hi
            · exact g_step_18 h hN r hokB hn hi (okM_way hp15 hp9 hokB) hd hd5 hlowS
            · exact g_step_19 h hN r hokB hn hi (okM_way hp15 hp9 hokB) hd hd5 hlowS
            · exact g_step_20 h hN r hokB hn hi
            · exact g_step_21 h hN r hokB hn hi
        · exact absurd (nI_pos' (by omega)) c_46
end

-- part 63.specM10
section
def mrun : Nat → CS → CS
  | 0, M => if M.1 22 0 = 0 ∧ ¬ M.1 13 0 ≤ 0 then sI M 22 0 2 else M
  | c + 1, M => if M.1 22 0 = 0 ∧ ¬ M.1 13 0 ≤ 0 then mrun c (mstep M) else M
def mend : Nat → Nat → CS → CS
  | 0, _, M => M
  | c + 1, k, M => mend c (k + 1) (sI M 10 (mAct M k) 3)
def mres0 (M : CS) (g v : Int32) : CS := menter (sI (sI (sI M 21 0 0) 22 0 0) 13 0 0) (mgl M g) (mgl M v)
def mresE (A : CS) : CS := sI (mend (mDepth A) 0 (sI A 21 0 (A.1 22 0))) 13 0 0
def mresume (M : CS) (g v w : Int32) : Int64 × CS := if (g < 0 ∨ 5 < g) ∨ (v < 0 ∨ 5 < v) ∨ (w < 0 ∨ 5 < w) then (0, sI M 21 0 1) else
  if (mrun 200 (mres0 M g v)).1 22 0 = 0 then ((mresE (mrun 200 (mres0 M g v))).2.1 4 0 0, sJ (mresE (mrun 200 (mres0 M g v))) 0 0 w.toNatClampNeg ((mresE (mrun 200 (mres0 M g v))).2.1 4 0 0)) else (0, mresE (mrun 200 (mres0 M g v)))
/-- what step asks of a state, beside okM -/
def mpre (X : CS) : Prop := ∃ d f, X.1 13 0 = nI (d + 1) ∧ d < 5 ∧ f < 4 ∧ X.1 8 (mAct X d) = nI f ∧ (∀ i, i < 64 → X.1 0 i = -1 ∨ ∃ o, o ≤ 21 ∧ X.1 0 i = nI o) ∧ (∀ e, d = e + 1 → ∃ f p, f < 4 ∧ p ≤ 15 ∧ X.1 8 (mAct X e) = nI f ∧ X.1 9 (mAct X e) = nI p) ∧ (∀ e, d = e + 1 → mAct X e ≠ mAct X d)
theorem okM_run {I : CS → Prop} (hI : ∀ X, I X → okM X) (hst : ∀ X, I X → X.1 22 0 = 0 → ¬ X.1 13 0 ≤ 0 → I (mstep X)) : ∀ (c : Nat) (X : CS), I X → okM (mrun c X)
  | 0, X, h => by
    unfold mrun
    split
    · exact okM_keep (by decide) (hI X h)
    · exact hI X h
  | c + 1, X, h => by
    unfold mrun
    split
    · rename_i z
      exact okM_run hI hst c _ (hst X h z.1 z.2)
    · exact hI X h
theorem okM_13 {M : CS} {p : Nat} (hp : p ≤ 5) (h : okM M) : okM (sI M 13 0 (nI p)) := by
  obtain ⟨h1, h2, h3, -, h5⟩ := h
  refine ⟨fun m hm => ?_, fun f j => h2 f j, ?_, ⟨p, hp, sI_self⟩, fun k hk => ?_⟩
  · rw [sI_e (g := 6) (by decide), sI_e (g := 7) (by decide), sI_e (g := 9) (by decide), sI_e (g := 11) (by decide)]
    exact h1 m hm
  · rw [sI_e (by decide)]; exact h3
  · rw [sI_e (by decide)]; exact h5 k hk
end

-- part 64.resumeM
section
set_option maxHeartbeats 4000000 in
set_option maxRecDepth 100000 in
theorem c_Mod_resume {l : Launch} {D : va_G} {u : Nat → ClassId} {ad : Nat → Nat} {M : CS} {g v w : Int32} {I : CS → Prop} (hok : okM M) (hI : ∀ X, I X → okM X) (hpre : ∀ X, I X → X.1 22 0 = 0 → ¬ X.1 13 0 ≤ 0 → mpre X) (hst : ∀ X, I X → X.1 22 0 = 0 → ¬ X.1 13 0 ≤ 0 → I (mstep X)) (h0 : I (mres0 M g v)) : Cm l D u ad y_Mod_resume b_Mod_resume 6 (some .long) { frames := 7, cells := 0, slots := 0, locals := 168 } [.ref (ad 0), .int g, .int v, .int w] (M) (some (.long (mresume M g v w).1)) ((mresume M g v w).2) := by
  refine ct_of (by decide) (Nat.le_of_ble_eq_true rfl) ?_
  intro Γ _ _ hN h r
  have hokA : okM (mrun 200 (mres0 M g v)) := okM_run hI hst 200 _ h0
  generalize hA : (mrun 200 (mres0 M g v)) = A at hokA
  obtain ⟨D, hD5, hD⟩ := hokA.2.2.2.1
  have hDD : mDepth A = D := by unfold mDepth; rw [hD]; exact nI_clamp (by omega)
  have tail : ¬ ((g < 0 ∨ 5 < g) ∨ (v < 0 ∨ 5 < v) ∨ (w < 0 ∨ 5 < w)) → ∀ t : Int32, G Γ 0 0 18 ad (mob ad u A) 111 [some (.ref (ad 0)), some (.int g), some (.int v), some (.int w), some (.int t), none] [] := by
    intro hgood t
    obtain ⟨hv, hve⟩ := gl_num (g := w) (fun z => hgood (.inr (.inr z)))
    have hres : mresume M g v w = if A.1 22 0 = 0 then ((mresE A).2.1 4 0 0, sJ (mresE A) 0 0 w.toNatClampNeg ((mresE A).2.1 4 0 0)) else (0, mresE A) := by unfold mresume; rw [if_neg hgood, hA]
    have loopK : ∀ (c k : Nat) (X : CS), k + c = D → X.1 13 0 = nI D → (∀ b, X.1 12 b = A.1 12 b) → X.1 21 0 = A.1 22 0 → mend c k X = mend D 0 (sI A 21 0 (A.1 22 0)) → G Γ 0 0 18 ad (mob ad u X) 122 [some (.ref (ad 0)), some (.int g), some (.int v), some (.int w), some (.int t), some (.int (nI k))] [] := by
      intro c
      induction c with
      | zero =>
        intro k X hk h13 h12 h21 he
        refine g_iload h d_Mod_resume_122 rfl ?_
        refine g_aload_n h d_Mod_resume_124 rfl rfl ?_
        refine gf_Mod_depth h f_Mod_86 d_Mod_resume_125 ?_
        rw [h13]
        refine g_icmp_ge (tgt := 150) h d_Mod_resume_128 (by decide) (fun c_128 => ?_) (fun c_128 => ?_)
        · refine g_aload_n h d_Mod_resume_150 rfl rfl ?_
          refine g_iconst (v := 0) h d_Mod_resume_151 (by decide) ?_
          refine pf_Mod_depth h f_Mod_86 d_Mod_resume_152 ?_
          refine g_aload_n h d_Mod_resume_155 rfl rfl ?_
          refine gf_Mod_thrown h f_Mod_64 d_Mod_resume_156 ?_
          rw [sI_e (by decide), h21]
          refine g_if_eq (tgt := 164) h d_Mod_resume_159 (by decide) (fun c_159 => ?_) (fun c_159 => ?_)
          · refine g_aload_n h d_Mod_resume_164 rfl rfl ?_
            refine gf_Mod_globals h f_Mod_22 d_Mod_resume_165 ?_
            refine g_iload_n h d_Mod_resume_168 rfl rfl ?_
            refine g_aload_n h d_Mod_resume_169 rfl rfl ?_
            refine gf_Mod_outcome h f_Mod_162 d_Mod_resume_170 ?_
            refine pj_globals h hve hv d_Mod_resume_173 ?_
            refine g_aload_n h d_Mod_resume_174 rfl rfl ?_
            refine gf_Mod_outcome h f_Mod_162 d_Mod_resume_175 ?_
            exact g_lret h r d_Mod_resume_178 (⟨by rw [hres, if_pos c_159]; unfold mresE; rw [hDD, ← he]; rfl, by rw [hres, if_pos c_159]; unfold mresE; rw [hDD, ← he]; rfl⟩)
          · refine g_lconst (v := 0) h d_Mod_resume_162 (by decide) ?_
            exact g_lret h r d_Mod_resume_163 (⟨by rw [hres, if_neg c_159], by rw [hres, if_neg c_159]; unfold mresE; rw [hDD, ← he]; rfl⟩)
        · exact absurd (nI_le (by omega) (by omega)) c_128
      | succ c ih =>
        intro k X hk h13 h12 h21 he
        obtain ⟨m, hm, hm2⟩ := hokA.2.2.2.2 k (by omega)
        refine g_iload h d_Mod_resume_122 rfl ?_
        refine g_aload_n h d_Mod_resume_124 rfl rfl ?_
        refine gf_Mod_depth h f_Mod_86 d_Mod_resume_125 ?_
        rw [h13]
        refine g_icmp_ge (tgt := 150) h d_Mod_resume_128 (by decide) (fun c_128 => ?_) (fun c_128 => ?_)
        · exact absurd c_128 (nI_ge (by omega) (by omega))
        · refine g_aload_n h d_Mod_resume_131 rfl rfl ?_
          refine gf_Mod_state h f_Mod_53 d_Mod_resume_132 ?_
          refine g_aload_n h d_Mod_resume_135 rfl rfl ?_
          refine gf_Mod_active h f_Mod_59 d_Mod_resume_136 ?_
          refine g_iload h d_Mod_resume_139 rfl ?_
          refine gi_active h rfl (show k < 6 by omega) d_Mod_resume_141 ?_
          rw [h12, hm2]
          refine g_iconst (v := 3) h d_Mod_resume_142 (by decide) ?_
          refine pi_state h rfl hm d_Mod_resume_143 ?_
          refine g_iinc (v := nI (k + 1)) h d_Mod_resume_144 rfl (by rw [nI_succ]; rfl) rfl (by rw [hN]; decide) ?_
          refine g_goto (tgt := 122) h d_Mod_resume_147 (by decide) ?_
          refine ih (k + 1) _ (by omega) (by rw [sI_e (by decide)]; exact h13) (fun b => by rw [sI_e (by decide)]; exact h12 b) (by rw [sI_e (by decide)]; exact h21) ?_
          rw [← he]
          show _ = mend c (k + 1) (sI X 10 (mAct X k) 3)
          unfold mAct
          rw [h12, hm2, nI_clamp (show m < 2 ^ 31 by omega)]
    refine g_aload_n h d_Mod_resume_111 rfl rfl ?_
    refine g_aload_n h d_Mod_resume_112 rfl rfl ?_
    refine gf_Mod_trouble h f_Mod_141 d_Mod_resume_113 ?_
    refine pf_Mod_thrown h f_Mod_64 d_Mod_resume_116 ?_
    refine g_iconst (v := 0) h d_Mod_resume_119 (by decide) ?_
    refine g_istore h d_Mod_resume_120 rfl (by rw [hN]; decide) ?_
    exact loopK D 0 _ (by omega) (by rw [sI_e (by decide)]; exact hD) (fun b => sI_e (by decide)) sI_self rfl
  have last : ¬ ((g < 0 ∨ 5 < g) ∨ (v < 0 ∨ 5 < v) ∨ (w < 0 ∨ 5 < w)) → ∀ (X : CS) (t : Int32), ¬ X.1 22 0 = 0 → X = A → G Γ 0 0 18 ad (mob ad u X) 71 [some (.ref (ad 0)), some (.int g), some (.int v), some (.int w), some (.int t), none] [] := by
    intro hgood X t hx hXA
    refine g_aload_n h d_Mod_resume_71 rfl rfl ?_
    refine gf_Mod_trouble h f_Mod_141 d_Mod_resume_72 ?_
    refine g_if_ne (tgt := 111) h d_Mod_resume_75 (by decide) (fun c_75 => ?_) (fun c_75 => ?_)
    · rw [hXA]
      exact tail hgood t
    · exact absurd c_75 hx
  have loop : ∀ (c t : Nat) (X : CS), t + c = 200 → I X → mrun c X = A → ¬ ((g < 0 ∨ 5 < g) ∨ (v < 0 ∨ 5 < v) ∨ (w < 0 ∨ 5 < w)) → G Γ 0 0 18 ad (mob ad u X) 71 [some (.ref (ad 0)), some (.int g), some (.int v), some (.int w), some (.int (nI t)), none] [] := by
    intro c
    induction c with
    | zero =>
      intro t X ht hX he hgood
      refine g_aload_n h d_Mod_resume_71 rfl rfl ?_
      refine gf_Mod_trouble h f_Mod_141 d_Mod_resume_72 ?_
      refine g_if_ne (tgt := 111) h d_Mod_resume_75 (by decide) (fun c_75 => ?_) (fun c_75 => ?_)
      · have hXA : X = A := by rw [← he]; unfold mrun; first | rw [if_neg (fun z => c_75 z.1)] | rw [if_neg (fun z => z.2 c_82)]
        rw [hXA]
        exact tail hgood _
      · refine g_aload_n h d_Mod_resume_78 rfl rfl ?_
        refine gf_Mod_depth h f_Mod_86 d_Mod_resume_79 ?_
        refine g_if_le (tgt := 111) h d_Mod_resume_82 (by decide) (fun c_82 => ?_) (fun c_82 => ?_)
        · have hXA : X = A := by rw [← he]; unfold mrun; first | rw [if_neg (fun z => c_75 z.1)] | rw [if_neg (fun z => z.2 c_82)]
          rw [hXA]
          exact tail hgood _
        · refine g_iload h d_Mod_resume_85 rfl ?_
          refine g_sipush (v := 200) h d_Mod_resume_87 (by decide) ?_
          refine g_icmp_ne (tgt := 101) h d_Mod_resume_90 (by decide) (fun c_90 => ?_) (fun c_90 => ?_)
          · exact absurd (show nI t = 200 by rw [show t = 200 by omega]; rfl) c_90
          · refine g_aload_n h d_Mod_resume_93 rfl rfl ?_
            refine g_iconst (v := 2) h d_Mod_resume_94 (by decide) ?_
            refine pf_Mod_trouble h f_Mod_141 d_Mod_resume_95 ?_
            refine g_goto (tgt := 105) h d_Mod_resume_98 (by decide) ?_
            refine g_iinc (v := nI (t + 1)) h d_Mod_resume_105 rfl (by rw [nI_succ]; rfl) rfl (by rw [hN]; decide) ?_
            refine g_goto (tgt := 71) h d_Mod_resume_108 (by decide) ?_
            exact last hgood _ _ (by rw [sI_self]; decide) (by rw [← he]; unfold mrun; rw [if_pos ⟨c_75, c_82⟩])
    | succ c ih =>
      intro t X ht hX he hgood
      refine g_aload_n h d_Mod_resume_71 rfl rfl ?_
      refine gf_Mod_trouble h f_Mod_141 d_Mod_resume_72 ?_
      refine g_if_ne (tgt := 111) h d_Mod_resume_75 (by decide) (fun c_75 => ?_) (fun c_75 => ?_)
      · have hXA : X = A := by rw [← he]; unfold mrun; first | rw [if_neg (fun z => c_75 z.1)] | rw [if_neg (fun z => z.2 c_82)]
        rw [hXA]
        exact tail hgood _
      · refine g_aload_n h d_Mod_resume_78 rfl rfl ?_
        refine gf_Mod_depth h f_Mod_86 d_Mod_resume_79 ?_
        refine g_if_le (tgt := 111) h d_Mod_resume_82 (by decide) (fun c_82 => ?_) (fun c_82 => ?_)
        · have hXA : X = A := by rw [← he]; unfold mrun; first | rw [if_neg (fun z => c_75 z.1)] | rw [if_neg (fun z => z.2 c_82)]
          rw [hXA]
          exact tail hgood _
        · refine g_iload h d_Mod_resume_85 rfl ?_
          refine g_sipush (v := 200) h d_Mod_resume_87 (by decide) ?_
          refine g_icmp_ne (tgt := 101) h d_Mod_resume_90 (by decide) (fun c_90 => ?_) (fun c_90 => ?_)
          · refine g_aload_n h d_Mod_resume_101 rfl rfl ?_
            obtain ⟨d, f, p1, p2, p3, p4, p5, p6, p7⟩ := hpre X hX c_75 c_82
            refine g_dVv h tb_good (c_Mod_step (hI X hX) p1 p2 p3 p4 p5 p6 p7) (q := 0) (by decide) rfl rfl v_Mod_191 nm_Mod_step rfl ⟨rfl, rfl, Nat.le_of_ble_eq_true rfl, Nat.le_of_ble_eq_true rfl, Nat.zero_le _, Nat.zero_le _⟩ rfl (Nat.le_of_ble_eq_true rfl) d_Mod_resume_102 ?_
            refine g_iinc (v := nI (t + 1)) h d_Mod_resume_105 rfl (by rw [nI_succ]; rfl) rfl (by rw [hN]; decide) ?_
            refine g_goto (tgt := 71) h d_Mod_resume_108 (by decide) ?_
            exact ih (t + 1) _ (by omega) (hst X hX c_75 c_82) (by rw [← he]; show _ = if X.1 22 0 = 0 ∧ ¬ X.1 13 0 ≤ 0 then mrun c (mstep X) else X; rw [if_pos ⟨c_75, c_82⟩]) hgood
          · exact absurd c_90 (fun z => absurd ((nI_eq (a := t) (b := 200) (by omega) (by decide)).mp z) (by omega))
  refine g_at (L' := [some (.ref (ad 0)), some (.int g), some (.int v), some (.int w), none, none]) rfl rfl rfl ?_
  refine g_aload_n h d_Mod_resume_0 rfl rfl ?_
  refine g_aload_n h d_Mod_resume_1 rfl rfl ?_
  refine g_iload_n h d_Mod_resume_2 rfl rfl ?_
  refine g_dVi h tb_good (c_Mod_badGlobal) (q := 0) (by decide) rfl rfl v_Mod_78 nm_Mod_badGlobal rfl ⟨rfl, rfl, Nat.le_of_ble_eq_true rfl, Nat.le_of_ble_eq_true rfl, Nat.zero_le _, Nat.zero_le _⟩ rfl (Nat.le_of_ble_eq_true rfl) d_Mod_resume_3 ?_
  by_cases hb : g < 0 ∨ 5 < g
  · rw [if_pos hb]
    refine g_if_ne (tgt := 25) h d_Mod_resume_6 (by decide) (fun c_6 => ?_) (fun c_6 => ?_)
    · skip
      · refine g_iconst (v := 1) h d_Mod_resume_25 (by decide) ?_
        refine g_goto (tgt := 30) h d_Mod_resume_26 (by decide) ?_
        refine pf_Mod_thrown h f_Mod_64 d_Mod_resume_30 ?_
        refine g_aload_n h d_Mod_resume_33 rfl rfl ?_
        refine gf_Mod_thrown h f_Mod_64 d_Mod_resume_34 ?_
        simp only [sI_1, sI_2, sJ_1, sJ_2, sJ_3, sR_1, sR_2, sR_3, Nat.reduceEqDiff, Nat.zero_ne_one, Nat.one_ne_zero, Nat.succ_ne_zero, reduceCtorEq, false_and, if_false, true_and, and_self, if_true, and_true, and_false, reduceIte]
        refine g_if_eq (tgt := 42) h d_Mod_resume_37 (by decide) (fun c_37 => ?_) (fun c_37 => ?_)
        · exact absurd c_37 (by decide)
        · refine g_lconst (v := 0) h d_Mod_resume_40 (by decide) ?_
          exact g_lret h r d_Mod_resume_41 (⟨by unfold mresume; first | (rw [if_pos (Or.inl hb)]; done) | (rw [if_pos (Or.inr (Or.inl hb2))]; done) | (rw [if_pos (Or.inr (Or.inr hb3))]; done), by unfold mresume; first | (rw [if_pos (Or.inl hb)]; done) | (rw [if_pos (Or.inr (Or.inl hb2))]; done) | (rw [if_pos (Or.inr (Or.inr hb3))]; done)⟩)
    · exact absurd c_6 (by decide)
  · rw [if_neg hb]
    obtain ⟨hj, hje⟩ := gl_num hb
    refine g_if_ne (tgt := 25) h d_Mod_resume_6 (by decide) (fun c_6 => ?_) (fun c_6 => ?_)
    · exact absurd rfl c_6
    · refine g_aload_n h d_Mod_resume_9 rfl rfl ?_
      refine g_iload_n h d_Mod_resume_10 rfl rfl ?_
      refine g_dVi h tb_good (c_Mod_badGlobal) (q := 0) (by decide) rfl rfl v_Mod_78 nm_Mod_badGlobal rfl ⟨rfl, rfl, Nat.le_of_ble_eq_true rfl, Nat.le_of_ble_eq_true rfl, Nat.zero_le _, Nat.zero_le _⟩ rfl (Nat.le_of_ble_eq_true rfl) d_Mod_resume_11 ?_
      by_cases hb2 : v < 0 ∨ 5 < v
      · rw [if_pos hb2]
        refine g_if_ne (tgt := 25) h d_Mod_resume_14 (by decide) (fun c_14 => ?_) (fun c_14 => ?_)
        · skip
          · refine g_iconst (v := 1) h d_Mod_resume_25 (by decide) ?_
            refine g_goto (tgt := 30) h d_Mod_resume_26 (by decide) ?_
            refine pf_Mod_thrown h f_Mod_64 d_Mod_resume_30 ?_
            refine g_aload_n h d_Mod_resume_33 rfl rfl ?_
            refine gf_Mod_thrown h f_Mod_64 d_Mod_resume_34 ?_
            simp only [sI_1, sI_2, sJ_1, sJ_2, sJ_3, sR_1, sR_2, sR_3, Nat.reduceEqDiff, Nat.zero_ne_one, Nat.one_ne_zero, Nat.succ_ne_zero, reduceCtorEq, false_and, if_false, true_and, and_self, if_true, and_true, and_false, reduceIte]
            refine g_if_eq (tgt := 42) h d_Mod_resume_37 (by decide) (fun c_37 => ?_) (fun c_37 => ?_)
            · exact absurd c_37 (by decide)
            · refine g_lconst (v := 0) h d_Mod_resume_40 (by decide) ?_
              exact g_lret h r d_Mod_resume_41 (⟨by unfold mresume; first | (rw [if_pos (Or.inl hb)]; done) | (rw [if_pos (Or.inr (Or.inl hb2))]; done) | (rw [if_pos (Or.inr (Or.inr hb3))]; done), by unfold mresume; first | (rw [if_pos (Or.inl hb)]; done) | (rw [if_pos (Or.inr (Or.inl hb2))]; done) | (rw [if_pos (Or.inr (Or.inr hb3))]; done)⟩)
        · exact absurd c_14 (by decide)
      · rw [if_neg hb2]
        obtain ⟨hk, hke⟩ := gl_num hb2
        refine g_if_ne (tgt := 25) h d_Mod_resume_14 (by decide) (fun c_14 => ?_) (fun c_14 => ?_)
        · exact absurd rfl c_14
        · refine g_aload_n h d_Mod_resume_17 rfl rfl ?_
          refine g_iload_n h d_Mod_resume_18 rfl rfl ?_
          refine g_dVi h tb_good (c_Mod_badGlobal) (q := 0) (by decide) rfl rfl v_Mod_78 nm_Mod_badGlobal rfl ⟨rfl, rfl, Nat.le_of_ble_eq_true rfl, Nat.le_of_ble_eq_true rfl, Nat.zero_le _, Nat.zero_le _⟩ rfl (Nat.le_of_ble_eq_true rfl) d_Mod_resume_19 ?_
          by_cases hb3 : w < 0 ∨ 5 < w
          · rw [if_pos hb3]
            refine g_if_eq (tgt := 29) h d_Mod_resume_22 (by decide) (fun c_22 => ?_) (fun c_22 => ?_)
            · exact absurd c_22 (by decide)
            · skip
              · refine g_iconst (v := 1) h d_Mod_resume_25 (by decide) ?_
                refine g_goto (tgt := 30) h d_Mod_resume_26 (by decide) ?_
                refine pf_Mod_thrown h f_Mod_64 d_Mod_resume_30 ?_
                refine g_aload_n h d_Mod_resume_33 rfl rfl ?_
                refine gf_Mod_thrown h f_Mod_64 d_Mod_resume_34 ?_
                simp only [sI_1, sI_2, sJ_1, sJ_2, sJ_3, sR_1, sR_2, sR_3, Nat.reduceEqDiff, Nat.zero_ne_one, Nat.one_ne_zero, Nat.succ_ne_zero, reduceCtorEq, false_and, if_false, true_and, and_self, if_true, and_true, and_false, reduceIte]
                refine g_if_eq (tgt := 42) h d_Mod_resume_37 (by decide) (fun c_37 => ?_) (fun c_37 => ?_)
                · exact absurd c_37 (by decide)
                · refine g_lconst (v := 0) h d_Mod_resume_40 (by decide) ?_
                  exact g_lret h r d_Mod_resume_41 (⟨by unfold mresume; first | (rw [if_pos (Or.inl hb)]; done) | (rw [if_pos (Or.inr (Or.inl hb2))]; done) | (rw [if_pos (Or.inr (Or.inr hb3))]; done), by unfold mresume; first | (rw [if_pos (Or.inl hb)]; done) | (rw [if_pos (Or.inr (Or.inl hb2))]; done) | (rw [if_pos (Or.inr (Or.inr hb3))]; done)⟩)
          · rw [if_neg hb3]
            obtain ⟨hv, hve⟩ := gl_num hb3
            refine g_if_eq (tgt := 29) h d_Mod_resume_22 (by decide) (fun c_22 => ?_) (fun c_22 => ?_)
            · skip
              · refine g_iconst (v := 0) h d_Mod_resume_29 (by decide) ?_
                refine pf_Mod_thrown h f_Mod_64 d_Mod_resume_30 ?_
                refine g_aload_n h d_Mod_resume_33 rfl rfl ?_
                refine gf_Mod_thrown h f_Mod_64 d_Mod_resume_34 ?_
                simp only [sI_1, sI_2, sJ_1, sJ_2, sJ_3, sR_1, sR_2, sR_3, Nat.reduceEqDiff, Nat.zero_ne_one, Nat.one_ne_zero, Nat.succ_ne_zero, reduceCtorEq, false_and, if_false, true_and, and_self, if_true, and_true, and_false, reduceIte]
                refine g_if_eq (tgt := 42) h d_Mod_resume_37 (by decide) (fun c_37 => ?_) (fun c_37 => ?_)
                · refine g_aload_n h d_Mod_resume_42 rfl rfl ?_
                  refine g_iconst (v := 0) h d_Mod_resume_43 (by decide) ?_
                  refine pf_Mod_trouble h f_Mod_141 d_Mod_resume_44 ?_
                  refine g_aload_n h d_Mod_resume_47 rfl rfl ?_
                  refine g_iconst (v := 0) h d_Mod_resume_48 (by decide) ?_
                  refine pf_Mod_depth h f_Mod_86 d_Mod_resume_49 ?_
                  have hok3 : okM (sI (sI (sI M 21 0 0) 22 0 0) 13 0 0) := okM_13 (p := 0) (by decide) (okM_keep (by decide) (okM_keep (by decide) hok))
                  refine g_aload_n h d_Mod_resume_52 rfl rfl ?_
                  refine g_aload_n h d_Mod_resume_53 rfl rfl ?_
                  refine gf_Mod_globals h f_Mod_22 d_Mod_resume_54 ?_
                  refine g_iload_n h d_Mod_resume_57 rfl rfl ?_
                  refine gj_globals h hje hj d_Mod_resume_58 ?_
                  refine g_aload_n h d_Mod_resume_59 rfl rfl ?_
                  refine gf_Mod_globals h f_Mod_22 d_Mod_resume_60 ?_
                  refine g_iload_n h d_Mod_resume_63 rfl rfl ?_
                  refine gj_globals h hke hk d_Mod_resume_64 ?_
                  try simp only [sI_1, sI_2, sJ_1, sJ_2, sJ_3, sR_1, sR_2, sR_3, Nat.reduceEqDiff, Nat.zero_ne_one, Nat.one_ne_zero, Nat.succ_ne_zero, reduceCtorEq, false_and, if_false, true_and, and_self, if_true, and_true, and_false, reduceIte]
                  refine g_dVv h tb_good (c_Mod_enter hok3 (hok.2.1 0 _)) (q := 0) (by decide) rfl rfl v_Mod_173 nm_Mod_enter rfl ⟨rfl, rfl, Nat.le_of_ble_eq_true rfl, Nat.le_of_ble_eq_true rfl, Nat.zero_le _, Nat.zero_le _⟩ rfl (Nat.le_of_ble_eq_true rfl) d_Mod_resume_65 ?_
                  refine g_iconst (v := 0) h d_Mod_resume_68 (by decide) ?_
                  refine g_istore h d_Mod_resume_69 rfl (by rw [hN]; decide) ?_
                  exact loop 200 0 _ (by omega) h0 hA (fun z => z.elim hb (fun z => z.elim hb2 hb3))
                · exact absurd rfl c_37
            · exact absurd rfl c_22
end

-- part 70.shade
section
/-! SHADING, on both sides: the white ones of a set become gray -/
def Shd (S : Nat → Prop) (c d : Nat → Int32) : Prop := ∀ n, n < 16 → (c n = 0 → S n → d n = 1) ∧ (¬ (c n = 0 ∧ S n) → d n = c n)
def Cnt (S : Nat → Prop) (c : Nat → Int32) (k : Nat) : Prop := (k = 0 → ∀ m, m < 16 → S m → c m ≠ 0) ∧ (k ≠ 0 → ∃ m, m < 16 ∧ c m = 0 ∧ S m)
theorem Shd_none (c : Nat → Int32) : Shd (fun _ => False) c c := fun _ _ => ⟨fun _ h => h.elim, fun _ => rfl⟩
theorem Shd_trans {S T : Nat → Prop} {c d e : Nat → Int32} (h : Shd S c d) (g : Shd T d e) : Shd (fun n => S n ∨ T n) c e := by
  intro n hn
  obtain ⟨h1, h2⟩ := h n hn
  obtain ⟨g1, g2⟩ := g n hn
  refine ⟨fun c0 st => ?_, fun no => ?_⟩
  · by_cases s : S n
    · have d1 := h1 c0 s
      rw [g2 (fun z => absurd z.1 (by rw [d1]; decide)), d1]
    · have d0 := h2 (fun z => s z.2)
      exact g1 (d0.trans c0) (st.resolve_left s)
  · have d0 := h2 (fun z => no ⟨z.1, .inl z.2⟩)
    rw [g2 (fun z => no ⟨d0.symm.trans z.1, .inr z.2⟩), d0]
theorem Shd_congr {S T : Nat → Prop} {c d : Nat → Int32} (h : Shd S c d) (e : ∀ n, n < 16 → (S n ↔ T n)) : Shd T c d := fun n hn => ⟨fun c0 t => (h n hn).1 c0 ((e n hn).2 t), fun no => (h n hn).2 (fun z => no ⟨z.1, (e n hn).1 z.2⟩)⟩
theorem Shd_same {S T : Nat → Prop} {c d c' d' : Nat → Int32} (h : Shd S c d) (g : Shd T c' d') (e : ∀ n, n < 16 → c n = c' n) (s : ∀ n, n < 16 → (S n ↔ T n)) : ∀ n, n < 16 → d n = d' n := by
  intro n hn
  by_cases z : c n = 0 ∧ S n
  · rw [(h n hn).1 z.1 z.2, (g n hn).1 ((e n hn).symm.trans z.1) ((s n hn).1 z.2)]
  · rw [(h n hn).2 z, (g n hn).2 (fun y => z ⟨(e n hn).trans y.1, (s n hn).2 y.2⟩), e n hn]
theorem Shd_nw {S : Nat → Prop} {c d : Nat → Int32} {n : Nat} (h : Shd S c d) (hn : n < 16) (s : S n) : d n ≠ 0 := by
  by_cases z : c n = 0
  · rw [(h n hn).1 z s]; decide
  · rw [(h n hn).2 (fun y => z y.1)]; exact z
theorem Shd_up {S : Nat → Prop} {c d : Nat → Int32} {n : Nat} (h : Shd S c d) (hn : n < 16) (z : c n ≠ 0) : d n = c n := (h n hn).2 (fun y => z y.1)
theorem Shd_up0 {S : Nat → Prop} {c d : Nat → Int32} {n : Nat} (h : Shd S c d) (hn : n < 16) (z : c n ≠ 0) : d n ≠ 0 := by rw [Shd_up h hn z]; exact z
theorem Shd_2 {S : Nat → Prop} {c d : Nat → Int32} {n : Nat} (h : Shd S c d) (hn : n < 16) (z : d n = 2) : c n = 2 := by
  by_cases y : c n = 0 ∧ S n
  · rw [(h n hn).1 y.1 y.2] at z; exact absurd z (by decide)
  · rw [← (h n hn).2 y]; exact z
theorem Shd_no {S : Nat → Prop} {c d : Nat → Int32} {n : Nat} (h : Shd S c d) (hn : n < 16) (s : ¬ S n) : d n = c n := (h n hn).2 (fun y => s y.2)
theorem Shd_k0 {S : Nat → Prop} {c d : Nat → Int32} (h : Shd S c d) (k : Cnt S c 0) : ∀ n, n < 16 → d n = c n := fun n hn => (h n hn).2 (fun y => k.1 rfl n hn y.2 y.1)
theorem Cnt_trans {S T : Nat → Prop} {c d : Nat → Int32} {k l : Nat} (h : Shd S c d) (p : Cnt S c k) (q : Cnt T d l) : Cnt (fun n => S n ∨ T n) c (k + l) := by
  refine ⟨fun z m hm st => ?_, fun z => ?_⟩
  · have k0 : k = 0 := by omega
    have l0 : l = 0 := by omega
    subst k0; subst l0
    rcases st with s | t
    · exact p.1 rfl m hm s
    · have := q.1 rfl m hm t
      rw [Shd_k0 h p m hm] at this
      exact this
  · by_cases k0 : k = 0
    · subst k0
      obtain ⟨m, hm, m0, t⟩ := q.2 (by omega)
      exact ⟨m, hm, by rw [← Shd_k0 h p m hm]; exact m0, .inr t⟩
    · obtain ⟨m, hm, m0, s⟩ := p.2 k0
      exact ⟨m, hm, m0, .inl s⟩
def Shc (S : Nat → Prop) (C : CS) (a : Int32) (B : Nat) (r : Int32 × CS) : Prop := Shd S (C.1 1) (r.2.1 1) ∧ ∃ k, k ≤ B ∧ r.1 = a + nI k ∧ Cnt S (C.1 1) k
theorem Shc_trans {S T : Nat → Prop} {C : CS} {a : Int32} {B B2 : Nat} {r r2 : Int32 × CS} (h : Shc S C a B r) (g : Shc T r.2 r.1 B2 r2) : Shc (fun n => S n ∨ T n) C a (B + B2) r2 := by
  obtain ⟨h1, k, hk, hk2, hk3⟩ := h
  obtain ⟨g1, l, hl, hl2, hl3⟩ := g
  exact ⟨Shd_trans h1 g1, k + l, by omega, by rw [hl2, hk2, Int32.add_assoc, nI_add], Cnt_trans h1 hk3 hl3⟩
theorem Shc_congr {S T : Nat → Prop} {C : CS} {a : Int32} {B B2 : Nat} {r : Int32 × CS} (h : Shc S C a B r) (hB : B ≤ B2) (e : ∀ n, n < 16 → (S n ↔ T n)) : Shc T C a B2 r := by
  obtain ⟨h1, k, hk, hk2, hk3⟩ := h
  refine ⟨Shd_congr h1 e, k, by omega, hk2, fun z m hm t => hk3.1 z m hm ((e m hm).2 t), fun z => ?_⟩
  obtain ⟨m, hm, m0, s⟩ := hk3.2 z
  exact ⟨m, hm, m0, (e m hm).1 s⟩
theorem Shc_acc {S : Nat → Prop} {C : CS} {a : Int32} {B : Nat} {r : Int32 × CS} (h : Shc S C 0 B r) : Shc S C a B (a + r.1, r.2) := by
  obtain ⟨h1, k, hk, hk2, hk3⟩ := h
  exact ⟨h1, k, hk, by show a + r.1 = _; rw [hk2, Int32.zero_add], hk3⟩
theorem oV_iff {v : Int64} {m : Nat} (hv : okV v) (hm : m < 16) : (¬ v < 10000000000 ∧ on v = m) ↔ v = oV m := by
  refine ⟨fun z => ?_, fun z => ?_⟩
  · rw [(okV_on hv z.1).2.1, z.2]
  · subst z; exact ⟨oV_ge m hm, on_oV hm⟩
theorem oV_inj {n m : Nat} (hn : n < 16) (hm : m < 16) : oV n = oV m ↔ n = m := ⟨fun z => by rw [← on_oV hn, z, on_oV hm], fun z => by rw [z]⟩
theorem oV_nI {n : Nat} (hn : n < 16) : (10000000000 : Int64) + (nI n).toInt64 = oV n := by rw [nI_l (by omega)]; rfl
theorem Shd_v {C : CS} {v : Int64} {f : Nat} (hv : okV v) : Shd (fun m => v = oV m) (C.1 f) ((if ¬ v < 10000000000 ∧ C.1 f (on v) = 0 then sI C f (on v) 1 else C).1 f) := by
  intro n hn
  have e := oV_iff hv hn
  by_cases z : ¬ v < 10000000000 ∧ C.1 f (on v) = 0
  · rw [if_pos z]
    by_cases q : n = on v
    · have : v = oV n := e.1 ⟨z.1, q.symm⟩
      exact ⟨fun _ _ => by rw [sI_1, if_pos ⟨rfl, q⟩], fun no => (no ⟨by rw [q]; exact z.2, this⟩).elim⟩
    · rw [sI_1, if_neg (fun y => q y.2)]
      exact ⟨fun _ s => (q (e.2 s).2.symm).elim, fun _ => rfl⟩
  · rw [if_neg z]
    exact ⟨fun c0 s => (z ⟨(e.2 s).1, by rw [(e.2 s).2]; exact c0⟩).elim, fun _ => rfl⟩
theorem Shc_v {C : CS} {v : Int64} {a : Int32} (hv : okV v) : Shc (fun m => v = oV m) C a 1 (if ¬ v < 10000000000 ∧ C.1 1 (on v) = 0 then (a + 1, sI C 1 (on v) 1) else (a, C)) := by
  have hs := Shd_v (C := C) (f := 1) hv
  by_cases z : ¬ v < 10000000000 ∧ C.1 1 (on v) = 0
  · rw [if_pos z] at hs ⊢
    exact ⟨hs, 1, Nat.le_refl _, rfl, fun y => absurd y (by decide), fun _ => ⟨on v, (okV_on hv z.1).1, z.2, (okV_on hv z.1).2.1⟩⟩
  · rw [if_neg z] at hs ⊢
    exact ⟨hs, 0, by omega, by rw [nI_0, Int32.add_zero], fun _ m hm s c0 => z ⟨((oV_iff hv hm).2 s).1, by rw [((oV_iff hv hm).2 s).2]; exact c0⟩, fun y => absurd rfl y⟩
theorem Shc_row {row : Nat → Int64} (ho : ∀ j, okV (row j)) : ∀ (c i : Nat) (a : Int32) (C : CS), Shc (fun m => ∃ j, i ≤ j ∧ j < i + c ∧ row j = oV m) C a c (cshadeRow row c i a C)
  | 0, i, a, C => ⟨Shd_congr (Shd_none _) (fun n _ => ⟨False.elim, fun ⟨j, h1, h2, _⟩ => by omega⟩), 0, Nat.le_refl _, by show a = _; rw [nI_0, Int32.add_zero], fun _ m _ ⟨j, h1, h2, _⟩ => by omega, fun y => absurd rfl y⟩
  | c + 1, i, a, C => by
    have one := Shc_v (C := C) (a := a) (ho i)
    have e : ∀ n, n < 16 → ((row i = oV n ∨ ∃ j, i + 1 ≤ j ∧ j < i + 1 + c ∧ row j = oV n) ↔ ∃ j, i ≤ j ∧ j < i + (c + 1) ∧ row j = oV n) := fun n _ => by
      constructor
      · rintro (h | ⟨j, h1, h2, h3⟩)
        · exact ⟨i, Nat.le_refl _, by omega, h⟩
        · exact ⟨j, by omega, by omega, h3⟩
      · rintro ⟨j, h1, h2, h3⟩
        by_cases q : j = i
        · subst q; exact .inl h3
        · exact .inr ⟨j, by omega, by omega, h3⟩
    unfold cshadeRow
    by_cases z : ¬ row i < 10000000000 ∧ C.1 1 (on (row i)) = 0
    · rw [if_pos z] at one ⊢
      exact Shc_congr (Shc_trans one (Shc_row ho c (i + 1) (a + 1) (sI C 1 (on (row i)) 1))) (by omega) e
    · rw [if_neg z] at one ⊢
      exact Shc_congr (Shc_trans one (Shc_row ho c (i + 1) a C)) (by omega) e
theorem Shc_one {C : CS} {n : Nat} {a : Int32} (hn : n < 16) : Shc (fun m => m = n) C a 1 (a + (cshade C n).1, (cshade C n).2) := by
  unfold cshade
  by_cases z : C.1 1 n = 0
  · rw [if_pos z]
    refine ⟨fun m hm => ?_, 1, Nat.le_refl _, rfl, fun y => absurd y (by decide), fun _ => ⟨n, hn, z, rfl⟩⟩
    show _ ∧ (_ → (sI C 1 n 1).1 1 m = _)
    by_cases q : m = n
    · exact ⟨fun _ _ => by show (sI C 1 n 1).1 1 m = 1; rw [sI_1, if_pos ⟨rfl, q⟩], fun no => (no ⟨by rw [q]; exact z, q⟩).elim⟩
    · exact ⟨fun _ s => (q s).elim, fun _ => by rw [sI_1, if_neg (fun y => q y.2)]⟩
  · rw [if_neg z]
    exact ⟨fun m hm => ⟨fun c0 s => by subst s; exact (z c0).elim, fun _ => rfl⟩, 0, by omega, by show a + 0 = _; rw [nI_0], fun _ m hm s => by subst s; exact z, fun y => absurd rfl y⟩
theorem cactive_of {C' C : CS} {n : Nat} (h0 : C'.1 0 n = C.1 0 n) (h6 : C'.1 6 n = C.1 6 n) : cactive C' n = cactive C n := by unfold cactive; rw [h0, h6]
theorem cactive_iff {C : CS} {n : Nat} : cactive C n = true ↔ C.1 0 n = 2 ∧ C.1 6 n = 2 := by simp [cactive]
theorem Shc_roots : ∀ (c n : Nat) (a : Int32) (C : CS), n + c ≤ 16 → (∀ f n i, okV (C.2.1 f n i)) → Shc (fun m => ∃ j, n ≤ j ∧ j < n + c ∧ cactive C j = true ∧ (m = j ∨ ∃ i, i < 4 ∧ C.2.1 3 j i = oV m)) C a (5 * c) (croots c n a C)
  | 0, n, a, C, _, _ => ⟨Shd_congr (Shd_none _) (fun m _ => ⟨False.elim, fun ⟨j, h1, h2, _⟩ => by omega⟩), 0, Nat.le_refl _, by show a = _; rw [nI_0, Int32.add_zero], fun _ m _ ⟨j, h1, h2, _⟩ => by omega, fun y => absurd rfl y⟩
  | c + 1, n, a, C, hc, ho => by
    unfold croots
    by_cases z : cactive C n = true
    · rw [if_pos z]
      have s1 := Shc_one (C := C) (n := n) (a := a) (by omega)
      have s2 : Shc (fun m => ∃ j, 0 ≤ j ∧ j < 0 + 4 ∧ C.2.1 3 n j = oV m) (cshade C n).2 (a + (cshade C n).1) 4 (a + (cshade C n).1 + (cshadeRow (C.2.1 3 n) 4 0 0 (cshade C n).2).1, (cshadeRow (C.2.1 3 n) 4 0 0 (cshade C n).2).2) := Shc_acc (Shc_row (fun j => ho 3 n j) 4 0 0 (cshade C n).2)
      have e2 : (cshadeRow (C.2.1 3 n) 4 0 0 (cshade C n).2).2.2 = C.2 := by rw [cshadeRow_2, cshade_2]
      have e1 : ∀ f m, f ≠ 1 → (cshadeRow (C.2.1 3 n) 4 0 0 (cshade C n).2).2.1 f m = C.1 f m := fun f m hf => by rw [cshadeRow_1 _ _ _ _ _ _ _ hf, cshade_1 _ _ _ _ hf]
      have s3 := Shc_roots c (n + 1) (a + (cshade C n).1 + (cshadeRow (C.2.1 3 n) 4 0 0 (cshade C n).2).1) (cshadeRow (C.2.1 3 n) 4 0 0 (cshade C n).2).2 (by omega) (by rw [e2]; exact ho)
      refine Shc_congr (Shc_trans (Shc_trans s1 s2) s3) (by omega) (fun m hm => ?_)
      rw [e2]
      constructor
      · rintro ((h | ⟨j, -, h2, h3⟩) | ⟨j, h1, h2, h3, h4⟩)
        · exact ⟨n, Nat.le_refl _, by omega, z, .inl h⟩
        · exact ⟨n, Nat.le_refl _, by omega, z, .inr ⟨j, by omega, h3⟩⟩
        · exact ⟨j, by omega, by omega, by rw [← cactive_of (e1 0 j (by decide)) (e1 6 j (by decide))]; exact h3, h4⟩
      · rintro ⟨j, h1, h2, h3, h4⟩
        by_cases q : j = n
        · subst q
          rcases h4 with h | ⟨i, hi, h⟩
          · exact .inl (.inl h)
          · exact .inl (.inr ⟨i, by omega, by omega, h⟩)
        · exact .inr ⟨j, by omega, by omega, by rw [cactive_of (e1 0 j (by decide)) (e1 6 j (by decide))]; exact h3, h4⟩
    · rw [if_neg z]
      refine Shc_congr (Shc_roots c (n + 1) a C (by omega) ho) (by omega) (fun m hm => ?_)
      constructor
      · rintro ⟨j, h1, h2, h3, h4⟩
        exact ⟨j, by omega, by omega, h3, h4⟩
      · rintro ⟨j, h1, h2, h3, h4⟩
        by_cases q : j = n
        · subst q; exact (z h3).elim
        · exact ⟨j, by omega, by omega, h3, h4⟩
/-- what the class's ROOTS are; what an object REFERS to -/
def rootsC (C : CS) (m : Nat) : Prop := (∃ j, j < 6 ∧ C.2.1 0 0 j = oV m) ∨ ∃ n, n < 16 ∧ cactive C n = true ∧ (m = n ∨ ∃ i, i < 4 ∧ C.2.1 3 n i = oV m)
def refsC (C : CS) (n m : Nat) : Prop := (C.1 0 n = 2 ∧ ∃ i, i < 4 ∧ C.2.1 3 n i = oV m) ∨ (¬ C.1 0 n = 2 ∧ ((∃ j, j < cPairs C n ∧ (C.2.1 1 n j = oV m ∨ C.2.1 2 n j = oV m)) ∨ (¬ C.1 3 n < 0 ∧ m = (C.1 3 n).toNatClampNeg)))
theorem Shc_cRoots {C : CS} (ho : ∀ f n i, okV (C.2.1 f n i)) : Shc (rootsC C) C 0 86 (cshadeRoots C) := by
  have s1 := Shc_row (fun j => ho 0 0 j) 6 0 0 C
  have e2 : (cshadeRow (C.2.1 0 0) 6 0 0 C).2.2 = C.2 := by rw [cshadeRow_2]
  have e1 : ∀ f m, f ≠ 1 → (cshadeRow (C.2.1 0 0) 6 0 0 C).2.1 f m = C.1 f m := fun f m hf => by rw [cshadeRow_1 _ _ _ _ _ _ _ hf]
  have s2 := Shc_roots 16 0 (cshadeRow (C.2.1 0 0) 6 0 0 C).1 (cshadeRow (C.2.1 0 0) 6 0 0 C).2 (by omega) (by rw [e2]; exact ho)
  refine Shc_congr (Shc_trans s1 s2) (by omega) (fun m hm => ?_)
  rw [e2]
  unfold rootsC
  constructor
  · rintro (⟨j, h1, h2, h3⟩ | ⟨j, h1, h2, h3, h4⟩)
    · exact .inl ⟨j, by omega, h3⟩
    · exact .inr ⟨j, by omega, by rw [← cactive_of (e1 0 j (by decide)) (e1 6 j (by decide))]; exact h3, h4⟩
  · rintro (⟨j, h1, h2⟩ | ⟨j, h1, h3, h4⟩)
    · exact .inl ⟨j, by omega, by omega, h2⟩
    · exact .inr ⟨j, by omega, by omega, by rw [cactive_of (e1 0 j (by decide)) (e1 6 j (by decide))]; exact h3, h4⟩
theorem Shd_cBlacken {C : CS} {n : Nat} (hok : okC C) (hn : n < 16) : Shd (refsC C n) ((sI C 1 n 2).1 1) ((cblacken C n).1 1) := by
  have ho := hok.2.1
  unfold cblacken
  simp only
  by_cases z : C.1 0 n = 2
  · rw [if_pos z]
    refine Shd_congr (Shc_row (fun j => ho 3 n j) 4 0 0 (sI C 1 n 2)).1 (fun m hm => ?_)
    unfold refsC
    constructor
    · rintro ⟨j, h1, h2, h3⟩
      exact .inl ⟨z, j, by omega, h3⟩
    · rintro (⟨-, j, h1, h3⟩ | ⟨h, -⟩)
      · exact ⟨j, by omega, by omega, h3⟩
      · exact (h z).elim
  · rw [if_neg z]
    have s1 := (Shc_row (fun j => ho 1 n j) (cPairs C n) 0 0 (sI C 1 n 2)).1
    have s2 := Shd_trans s1 (Shc_row (fun j => ho 2 n j) (cPairs C n) 0 0 (cshadeRow (C.2.1 1 n) (cPairs C n) 0 0 (sI C 1 n 2)).2).1
    obtain ⟨-, hm3, -⟩ := hok.1 n hn
    by_cases y : C.1 3 n < 0
    · rw [if_pos y]
      refine Shd_congr s2 (fun m hm => ?_)
      unfold refsC
      constructor
      · rintro (⟨j, h1, h2, h3⟩ | ⟨j, h1, h2, h3⟩)
        · exact .inr ⟨z, .inl ⟨j, by omega, .inl h3⟩⟩
        · exact .inr ⟨z, .inl ⟨j, by omega, .inr h3⟩⟩
      · rintro (⟨h, -⟩ | ⟨-, ⟨j, h1, h3 | h3⟩ | ⟨h, -⟩⟩)
        · exact (z h).elim
        · exact .inl ⟨j, by omega, by omega, h3⟩
        · exact .inr ⟨j, by omega, by omega, h3⟩
        · exact (h y).elim
    · rw [if_neg y]
      have hlt : (C.1 3 n).toNatClampNeg < 16 := by
        rcases hm3 with h | ⟨q, hq, h⟩
        · rw [h] at y; exact absurd (by decide) y
        · rw [h, nI_clamp (by omega)]; exact hq
      have s3 := Shd_trans s2 (Shc_one (a := 0) (C := (cshadeRow (C.2.1 2 n) (cPairs C n) 0 0 (cshadeRow (C.2.1 1 n) (cPairs C n) 0 0 (sI C 1 n 2)).2).2) hlt).1
      refine Shd_congr s3 (fun m hm => ?_)
      unfold refsC
      constructor
      · rintro ((⟨j, h1, h2, h3⟩ | ⟨j, h1, h2, h3⟩) | h)
        · exact .inr ⟨z, .inl ⟨j, by omega, .inl h3⟩⟩
        · exact .inr ⟨z, .inl ⟨j, by omega, .inr h3⟩⟩
        · exact .inr ⟨z, .inr ⟨y, h⟩⟩
      · rintro (⟨h, -⟩ | ⟨-, ⟨j, h1, h3 | h3⟩ | ⟨-, h⟩⟩)
        · exact (z h).elim
        · exact .inl (.inl ⟨j, by omega, by omega, h3⟩)
        · exact .inl (.inr ⟨j, by omega, by omega, h3⟩)
        · exact .inr h
/-! the reference's -/
theorem Shd_m {M : CS} {v : Int64} (hv : okV v) : Shd (fun m => v = oV m) (M.1 5) ((mshade M v).1 5) := Shd_v hv
theorem Shd_ms {row : Nat → Int64} (ho : ∀ j, okV (row j)) : ∀ (c i : Nat) (M : CS), Shd (fun m => ∃ j, i ≤ j ∧ j < i + c ∧ row j = oV m) (M.1 5) ((mshades row c i M).1 5)
  | 0, i, M => Shd_congr (Shd_none _) (fun n _ => ⟨False.elim, fun ⟨j, h1, h2, _⟩ => by omega⟩)
  | c + 1, i, M => by
    refine Shd_congr (Shd_trans (Shd_m (M := M) (ho i)) (Shd_ms ho c (i + 1) (mshade M (row i)))) (fun n _ => ?_)
    constructor
    · rintro (h | ⟨j, h1, h2, h3⟩)
      · exact ⟨i, Nat.le_refl _, by omega, h⟩
      · exact ⟨j, by omega, by omega, h3⟩
    · rintro ⟨j, h1, h2, h3⟩
      by_cases q : j = i
      · subst q; exact .inl h3
      · exact .inr ⟨j, by omega, by omega, h3⟩
theorem Shd_mkv {ks vs : Nat → Int64} (ho : ∀ j, okV (ks j)) (hp : ∀ j, okV (vs j)) : ∀ (c i : Nat) (M : CS), Shd (fun m => ∃ j, i ≤ j ∧ j < i + c ∧ (ks j = oV m ∨ vs j = oV m)) (M.1 5) ((mshadeKV ks vs c i M).1 5)
  | 0, i, M => Shd_congr (Shd_none _) (fun n _ => ⟨False.elim, fun ⟨j, h1, h2, _⟩ => by omega⟩)
  | c + 1, i, M => by
    refine Shd_congr (Shd_trans (Shd_trans (Shd_m (M := M) (ho i)) (Shd_m (M := mshade M (ks i)) (hp i))) (Shd_mkv ho hp c (i + 1) (mshade (mshade M (ks i)) (vs i)))) (fun n _ => ?_)
    constructor
    · rintro (h | ⟨j, h1, h2, h3⟩)
      · exact ⟨i, Nat.le_refl _, by omega, h⟩
      · exact ⟨j, by omega, by omega, h3⟩
    · rintro ⟨j, h1, h2, h3⟩
      by_cases q : j = i
      · subst q; exact .inl h3
      · exact .inr ⟨j, by omega, by omega, h3⟩
def rootsM (M : CS) (m : Nat) : Prop := (∃ j, j < 6 ∧ M.2.1 0 0 j = oV m) ∨ ∃ k, k < mDepth M ∧ (10000000000 + (M.1 12 k).toInt64 = oV m ∨ ∃ i, i < 4 ∧ M.2.1 3 0 (mAct M k * 4 + i) = oV m)
def refsM (M : CS) (n m : Nat) : Prop := (M.1 4 n = 2 ∧ ∃ i, i < 4 ∧ M.2.1 3 0 (n * 4 + i) = oV m) ∨ (¬ M.1 4 n = 2 ∧ ((∃ j, j < mSize M n ∧ (M.2.1 1 0 (n * 6 + j) = oV m ∨ M.2.1 2 0 (n * 6 + j) = oV m)) ∨ (¬ M.1 7 n < 0 ∧ 10000000000 + (M.1 7 n).toInt64 = oV m)))
theorem Shd_mr : ∀ (c k : Nat) (M : CS), k + c ≤ 6 → okM M → Shd (fun m => ∃ j, k ≤ j ∧ j < k + c ∧ (10000000000 + (M.1 12 j).toInt64 = oV m ∨ ∃ i, i < 4 ∧ M.2.1 3 0 (mAct M j * 4 + i) = oV m)) (M.1 5) ((mroots c k M).1 5)
  | 0, k, M, _, _ => Shd_congr (Shd_none _) (fun n _ => ⟨False.elim, fun ⟨j, h1, h2, _⟩ => by omega⟩)
  | c + 1, k, M, hc, hok => by
    obtain ⟨n, hn, hk⟩ := hok.2.2.2.2 k (by omega)
    have s1 := Shd_m (M := M) (v := 10000000000 + (M.1 12 k).toInt64) (by rw [hk]; exact okV_o hn)
    have s2 := Shd_trans s1 (Shd_ms (row := fun r => M.2.1 3 0 (mAct M k * 4 + r)) (fun j => hok.2.1 3 _) 4 0 (mshade M (10000000000 + (M.1 12 k).toInt64)))
    have e5 := eq5_shades (row := fun r => M.2.1 3 0 (mAct M k * 4 + r)) 4 0 (eq5_shade (v := 10000000000 + (M.1 12 k).toInt64) (eq5_refl M))
    have s3 := Shd_trans s2 (Shd_mr c (k + 1) (mshades (fun r => M.2.1 3 0 (mAct M k * 4 + r)) 4 0 (mshade M (10000000000 + (M.1 12 k).toInt64))) (by omega) (okM_eq5 e5 hok))
    refine Shd_congr s3 (fun m hm => ?_)
    have ea : ∀ j, mAct (mshades (fun r => M.2.1 3 0 (mAct M k * 4 + r)) 4 0 (mshade M (10000000000 + (M.1 12 k).toInt64))) j = mAct M j := fun j => congrArg Int32.toNatClampNeg (e5.2 12 (by decide) j)
    simp only [ea, e5.1, e5.2 12 (by decide)]
    constructor
    · rintro ((h | ⟨j, h1, h2, h3⟩) | ⟨j, h1, h2, h3⟩)
      · exact ⟨k, Nat.le_refl _, by omega, .inl h⟩
      · exact ⟨k, Nat.le_refl _, by omega, .inr ⟨j, by omega, h3⟩⟩
      · exact ⟨j, by omega, by omega, h3⟩
    · rintro ⟨j, h1, h2, h3⟩
      by_cases q : j = k
      · subst q
        rcases h3 with h | ⟨i, hi, h⟩
        · exact .inl (.inl h)
        · exact .inl (.inr ⟨i, by omega, by omega, h⟩)
      · exact .inr ⟨j, by omega, by omega, h3⟩
theorem mDepth_eq {M : CS} {d : Nat} (h : M.1 13 0 = nI d) (hd : d ≤ 5) : mDepth M = d := by unfold mDepth; rw [h]; exact nI_clamp (by omega)
theorem Shd_mRoots {M : CS} (hok : okM M) : Shd (rootsM M) (M.1 5) ((mshadeRoots M).1 5) := by
  obtain ⟨d, hd, hd2⟩ := hok.2.2.2.1
  have s1 := Shd_ms (row := M.2.1 0 0) (fun j => hok.2.1 0 j) 6 0 M
  have e5 := eq5_shades (row := M.2.1 0 0) 6 0 (eq5_refl M)
  have ed : mDepth M = d := mDepth_eq hd2 hd
  have s2 := Shd_trans s1 (Shd_mr (mDepth M) 0 (mshades (M.2.1 0 0) 6 0 M) (by omega) (okM_eq5 e5 hok))
  refine Shd_congr s2 (fun m hm => ?_)
  have ea : ∀ j, mAct (mshades (M.2.1 0 0) 6 0 M) j = mAct M j := fun j => congrArg Int32.toNatClampNeg (e5.2 12 (by decide) j)
  simp only [ea, e5.1, e5.2 12 (by decide), rootsM]
  constructor
  · rintro (⟨j, h1, h2, h3⟩ | ⟨j, h1, h2, h3⟩)
    · exact .inl ⟨j, by omega, h3⟩
    · exact .inr ⟨j, by omega, h3⟩
  · rintro (⟨j, h1, h3⟩ | ⟨j, h1, h3⟩)
    · exact .inl ⟨j, by omega, by omega, h3⟩
    · exact .inr ⟨j, by omega, by omega, h3⟩
theorem Shd_mBlacken {M : CS} {n : Nat} (hok : okM M) (hn : n < 16) : Shd (refsM M n) ((sI M 5 n 2).1 5) ((mblacken M n).1 5) := by
  unfold mblacken
  by_cases z : M.1 4 n = 2
  · rw [if_pos z]
    refine Shd_congr (Shd_ms (row := fun r => M.2.1 3 0 (n * 4 + r)) (fun j => hok.2.1 3 _) 4 0 (sI M 5 n 2)) (fun m hm => ?_)
    unfold refsM
    constructor
    · rintro ⟨j, h1, h2, h3⟩
      exact .inl ⟨z, j, by omega, h3⟩
    · rintro (⟨-, j, h1, h3⟩ | ⟨h, -⟩)
      · exact ⟨j, by omega, by omega, h3⟩
      · exact (h z).elim
  · rw [if_neg z]
    obtain ⟨-, hm3, -⟩ := hok.1 n hn
    by_cases y : M.1 7 n < 0
    · rw [if_pos y]
      refine Shd_congr (Shd_mkv (ks := fun p => M.2.1 1 0 (n * 6 + p)) (vs := fun p => M.2.1 2 0 (n * 6 + p)) (fun j => hok.2.1 1 _) (fun j => hok.2.1 2 _) (mSize M n) 0 (sI M 5 n 2)) (fun m hm => ?_)
      unfold refsM
      constructor
      · rintro ⟨j, h1, h2, h3⟩
        exact .inr ⟨z, .inl ⟨j, by omega, h3⟩⟩
      · rintro (⟨h, -⟩ | ⟨-, ⟨j, h1, h3⟩ | ⟨h, -⟩⟩)
        · exact (z h).elim
        · exact ⟨j, by omega, by omega, h3⟩
        · exact (h y).elim
    · rw [if_neg y]
      have hv : okV (10000000000 + (M.1 7 n).toInt64) := by
        rcases hm3 with h | ⟨q, hq, h⟩
        · rw [h] at y; exact absurd (by decide) y
        · rw [h]; exact okV_o hq
      refine Shd_congr (Shd_trans (Shd_m (M := sI M 5 n 2) hv) (Shd_mkv (ks := fun p => M.2.1 1 0 (n * 6 + p)) (vs := fun p => M.2.1 2 0 (n * 6 + p)) (fun j => hok.2.1 1 _) (fun j => hok.2.1 2 _) (mSize M n) 0 (mshade (sI M 5 n 2) (10000000000 + (M.1 7 n).toInt64)))) (fun m hm => ?_)
      unfold refsM
      constructor
      · rintro (h | ⟨j, h1, h2, h3⟩)
        · exact .inr ⟨z, .inr ⟨y, h⟩⟩
        · exact .inr ⟨z, .inl ⟨j, by omega, h3⟩⟩
      · rintro (⟨h, -⟩ | ⟨-, ⟨j, h1, h3⟩ | ⟨-, h⟩⟩)
        · exact (z h).elim
        · exact .inr ⟨j, by omega, by omega, h3⟩
        · exact .inl h
end

-- part 71.rel
section
/-! THE TWO STATES SIDE BY SIDE: the relation, and what the class keeps true -/
def Rk (C M : CS) : Prop := ∀ n, n < 16 →
  (C.1 0 n = M.1 4 n ∧ C.1 1 n = M.1 5 n) ∧
  (C.1 0 n = 1 → C.1 2 n = M.1 6 n ∧ C.1 3 n = M.1 7 n) ∧
  (C.1 0 n = 2 → C.1 4 n = M.1 8 n ∧ C.1 5 n = M.1 9 n ∧ C.1 6 n = M.1 10 n ∧ (C.1 6 n = 0 → C.1 7 n = 0) ∧ (C.1 6 n = 1 → C.1 7 n = M.1 11 n)) ∧
  (C.1 0 n = 2 → ∀ i, i < 4 → C.2.1 3 n i = M.2.1 3 0 (n * 4 + i)) ∧
  (∀ i, i < 6 → C.2.1 1 n i = M.2.1 1 0 (n * 6 + i) ∧ C.2.1 2 n i = M.2.1 2 0 (n * 6 + i))
def Rg (C M : CS) : Prop := (∀ i, i < 6 → C.2.1 0 0 i = M.2.1 0 0 i) ∧ C.1 13 0 = M.1 14 0 ∧ C.1 14 0 = M.1 15 0 ∧ C.1 15 0 = M.1 16 0 ∧ C.1 16 0 = M.1 17 0 ∧ C.1 17 0 = M.1 19 0 ∧ C.1 18 0 = M.1 20 0 ∧ C.1 20 0 = M.1 18 0
def Ri (C M : CS) : Prop := ∀ f i, f < 4 → i < 16 → C.1 9 (f * 17 + i) = M.1 0 (f * 16 + i) ∧ C.1 10 (f * 17 + i) = M.1 1 (f * 16 + i) ∧ C.1 11 (f * 17 + i) = M.1 2 (f * 16 + i) ∧ C.1 12 (f * 17 + i) = M.1 3 (f * 16 + i)
def Rel (C M : CS) : Prop := Rk C M ∧ Rg C M ∧ Ri C M
def cSw (C : CS) : Nat := (C.1 14 0).toNatClampNeg
def cntK (k : Nat → Int32) : Nat := sumN (fun n => if k n = 0 then 0 else 1) 16
def Sm1 (C : CS) : Prop := ∀ n, n < 16 → (C.1 0 n = 0 ∨ C.1 0 n = 1 ∨ C.1 0 n = 2) ∧ (C.1 1 n = 0 ∨ C.1 1 n = 1 ∨ C.1 1 n = 2) ∧ (C.1 0 n = 0 → C.1 1 n = 0) ∧ (C.1 6 n = 0 ∨ C.1 6 n = 1 ∨ C.1 6 n = 2 ∨ C.1 6 n = 3)
def Sm2 (C : CS) : Prop := (C.1 13 0 = 0 ∨ C.1 13 0 = 1 ∨ C.1 13 0 = 2) ∧ (¬ C.1 13 0 = 2 → C.1 14 0 = 0) ∧ (C.1 13 0 = 0 → ∀ n, n < 16 → C.1 1 n = 0) ∧ (C.1 13 0 = 2 → ∀ n, n < cSw C → C.1 1 n = 0)
def Sm3 (C : CS) : Prop := C.1 15 0 - C.1 16 0 = nI (cntK (C.1 0))
def Sm4 (C : CS) : Prop := (∀ k, k < 68 → C.1 9 k = -1 ∨ ∃ o, o ≤ 21 ∧ C.1 9 k = nI o) ∧ (∀ f, f < 4 → C.1 9 (f * 17 + 16) = -1)
def Sm (C : CS) : Prop := Sm1 C ∧ Sm2 C ∧ Sm3 C ∧ Sm4 C
/-- there, and not doomed -/
def live (C : CS) (n : Nat) : Prop := ¬ C.1 0 n = 0 ∧ (C.1 13 0 = 2 → ¬ C.1 1 n = 0 ∨ n < cSw C)
def Safe (C : CS) : Prop := (∀ m, m < 16 → rootsC C m → live C m) ∧ (∀ n m, n < 16 → m < 16 → live C n → refsC C n m → live C m) ∧ (C.1 13 0 = 1 → ∀ n m, n < 16 → m < 16 → C.1 1 n = 2 → refsC C n m → ¬ C.1 1 m = 0) ∧ (∀ n m, n < 16 → m < 16 → live C n → C.1 0 n = 1 → C.1 3 n = nI m → C.1 0 m = 1)
def HH (C M : CS) : Prop := okC C ∧ okM M ∧ Sm C ∧ Safe C ∧ Rel C M
def Stk (C M : CS) (d : Nat) (a : Nat → Nat) : Prop := d ≤ 5 ∧ C.1 19 0 = nI d ∧ M.1 13 0 = nI d ∧ (∀ i, i < d → a i < 16 ∧ C.2.2 i = some (a i) ∧ M.1 12 i = nI (a i) ∧ cactive C (a i) = true) ∧ (∀ i j, i < d → j < d → a i = a j → i = j) ∧ (∀ n, n < 16 → cactive C n = true → ∃ i, i < d ∧ a i = n)
/-- no ACTIVE one is black while it marks -/
def NB (C : CS) : Prop := C.1 13 0 = 1 → ∀ n, n < 16 → cactive C n = true → ¬ C.1 1 n = 2
def lv (C : CS) (v : Int64) : Prop := ∀ m, m < 16 → v = oV m → live C m
def eq1 (C' C : CS) : Prop := C'.2 = C.2 ∧ ∀ f, f ≠ 1 → ∀ b, C'.1 f b = C.1 f b
theorem eq1_fn {C' C : CS} (e : eq1 C' C) : ∀ f, f ≠ 1 → C'.1 f = C.1 f := fun f hf => funext (e.2 f hf)
theorem eq5_fn {C' C : CS} (e : eq5 C' C) : ∀ f, f ≠ 5 → C'.1 f = C.1 f := fun f hf => funext (e.2 f hf)
theorem nm_of {n : Nat} : ∀ m, n < m → n ≠ m := fun _ h => by omega
/-! which fields a word looks at -/
theorem cactive_fn {C' C : CS} (h0 : C'.1 0 = C.1 0) (h6 : C'.1 6 = C.1 6) : cactive C' = cactive C := by funext n; unfold cactive; rw [h0, h6]
theorem rootsC_fn {C' C : CS} (h0 : C'.1 0 = C.1 0) (h6 : C'.1 6 = C.1 6) (hg : C'.2.1 0 0 = C.2.1 0 0) (hr : C'.2.1 3 = C.2.1 3) : rootsC C' = rootsC C := by funext m; unfold rootsC; rw [cactive_fn h0 h6, hg, hr]
theorem refsC_fn {C' C : CS} (h0 : C'.1 0 = C.1 0) (h2 : C'.1 2 = C.1 2) (h3 : C'.1 3 = C.1 3) (k1 : C'.2.1 1 = C.2.1 1) (k2 : C'.2.1 2 = C.2.1 2) (k3 : C'.2.1 3 = C.2.1 3) : refsC C' = refsC C := by funext n m; unfold refsC cPairs; rw [h0, h2, h3, k1, k2, k3]
theorem cSw_fn {C' C : CS} (h : C'.1 14 = C.1 14) : cSw C' = cSw C := by unfold cSw; rw [h]
theorem live_fn {C' C : CS} (h0 : C'.1 0 = C.1 0) (h1 : C'.1 1 = C.1 1) (h13 : C'.1 13 = C.1 13) (h14 : C'.1 14 = C.1 14) : live C' = live C := by funext n; unfold live; rw [cSw_fn h14, h0, h1, h13]
theorem Safe_fn {C' C : CS} (h0 : C'.1 0 = C.1 0) (h1 : C'.1 1 = C.1 1) (h2 : C'.1 2 = C.1 2) (h3 : C'.1 3 = C.1 3) (h6 : C'.1 6 = C.1 6) (h13 : C'.1 13 = C.1 13) (h14 : C'.1 14 = C.1 14) (hg : C'.2.1 0 0 = C.2.1 0 0) (k1 : C'.2.1 1 = C.2.1 1) (k2 : C'.2.1 2 = C.2.1 2) (k3 : C'.2.1 3 = C.2.1 3) (h : Safe C) : Safe C' := by
  unfold Safe
  rw [rootsC_fn h0 h6 hg k3, refsC_fn h0 h2 h3 k1 k2 k3, live_fn h0 h1 h13 h14, h0, h1, h3, h13]
  exact h
theorem Sm_fn {C' C : CS} (h0 : C'.1 0 = C.1 0) (h1 : C'.1 1 = C.1 1) (h6 : C'.1 6 = C.1 6) (h9 : C'.1 9 = C.1 9) (h13 : C'.1 13 = C.1 13) (h14 : C'.1 14 = C.1 14) (h15 : C'.1 15 = C.1 15) (h16 : C'.1 16 = C.1 16) (h : Sm C) : Sm C' := by
  unfold Sm Sm1 Sm2 Sm3 Sm4
  rw [cSw_fn h14, h0, h1, h6, h9, h13, h14, h15, h16]
  exact h
theorem sI_f {C : CS} {f n g : Nat} {v : Int32} (h : g ≠ f) : (sI C f n v).1 g = C.1 g := funext fun b => sI_e h
theorem sJ_f {C : CS} {f n i g : Nat} {v : Int64} (h : g ≠ f) : (sJ C f n i v).2.1 g = C.2.1 g := by funext b c; rw [sJ_2, if_neg (fun z => h z.1)]
theorem sI_2f {C : CS} {f n : Nat} {v : Int32} : (sI C f n v).2.1 = C.2.1 := rfl
theorem sI_2g {C : CS} {f n : Nat} {v : Int32} : (sI C f n v).2.2 = C.2.2 := rfl
/-- a class field that neither the relation nor the invariant looks at -/
theorem HH_C {C M : CS} {f n : Nat} {v : Int32} (hf : f = 8 ∨ f = 19 ∨ f = 21) (ho : okC (sI C f n v)) (h : HH C M) : HH (sI C f n v) M := by
  obtain ⟨h1, h2, h3, h4, h5⟩ := h
  refine ⟨ho, h2, Sm_fn (sI_f (by omega)) (sI_f (by omega)) (sI_f (by omega)) (sI_f (by omega)) (sI_f (by omega)) (sI_f (by omega)) (sI_f (by omega)) (sI_f (by omega)) h3, Safe_fn (sI_f (by omega)) (sI_f (by omega)) (sI_f (by omega)) (sI_f (by omega)) (sI_f (by omega)) (sI_f (by omega)) (sI_f (by omega)) rfl rfl rfl rfl h4, ?_⟩
  unfold Rel Rk Rg Ri
  simp only [sI_2f]
  rw [sI_f (g := 0) (by omega), sI_f (g := 1) (by omega), sI_f (g := 2) (by omega), sI_f (g := 3) (by omega), sI_f (g := 4) (by omega), sI_f (g := 5) (by omega), sI_f (g := 6) (by omega), sI_f (g := 7) (by omega), sI_f (g := 9) (by omega), sI_f (g := 10) (by omega), sI_f (g := 11) (by omega), sI_f (g := 12) (by omega), sI_f (g := 13) (by omega), sI_f (g := 14) (by omega), sI_f (g := 15) (by omega), sI_f (g := 16) (by omega), sI_f (g := 17) (by omega), sI_f (g := 18) (by omega), sI_f (g := 20) (by omega)]
  exact h5
theorem HH_CJ {C M : CS} {f n i : Nat} {v : Int64} (hf : f = 4 ∨ f = 5) (hv : okV v) (h : HH C M) : HH (sJ C f n i v) M := by
  obtain ⟨h1, h2, h3, h4, h5⟩ := h
  refine ⟨okC_J h1 hv, h2, h3, Safe_fn (C := C) rfl rfl rfl rfl rfl rfl rfl (by rw [sJ_f (by omega)]) (sJ_f (by omega)) (sJ_f (by omega)) (sJ_f (by omega)) h4, ?_⟩
  unfold Rel Rk Rg Ri
  rw [sJ_1, sJ_f (g := 0) (by omega), sJ_f (g := 1) (by omega), sJ_f (g := 2) (by omega), sJ_f (g := 3) (by omega)]
  exact h5
/-- a reference field that the relation doesn't look at -/
theorem HH_M {C M : CS} {f n : Nat} {v : Int32} (hf : f = 12 ∨ f = 13 ∨ f = 21 ∨ f = 22) (ho : okM (sI M f n v)) (h : HH C M) : HH C (sI M f n v) := by
  obtain ⟨h1, h2, h3, h4, h5⟩ := h
  refine ⟨h1, ho, h3, h4, ?_⟩
  unfold Rel Rk Rg Ri
  simp only [sI_2f]
  rw [sI_f (g := 0) (by omega), sI_f (g := 1) (by omega), sI_f (g := 2) (by omega), sI_f (g := 3) (by omega), sI_f (g := 4) (by omega), sI_f (g := 5) (by omega), sI_f (g := 6) (by omega), sI_f (g := 7) (by omega), sI_f (g := 8) (by omega), sI_f (g := 9) (by omega), sI_f (g := 10) (by omega), sI_f (g := 11) (by omega), sI_f (g := 14) (by omega), sI_f (g := 15) (by omega), sI_f (g := 16) (by omega), sI_f (g := 17) (by omega), sI_f (g := 18) (by omega), sI_f (g := 19) (by omega), sI_f (g := 20) (by omega)]
  exact h5
theorem okM_J {M : CS} {f i : Nat} {v : Int64} (h : okM M) (hv : okV v) : okM (sJ M f 0 i v) := by
  obtain ⟨a, b, c, d⟩ := h
  refine ⟨a, fun f' i' => ?_, c, d⟩
  rw [sJ_2]
  split
  · exact hv
  · exact b _ _
theorem HH_MJ {C M : CS} {i : Nat} {v : Int64} (hv : okV v) (h : HH C M) : HH C (sJ M 4 0 i v) := by
  obtain ⟨h1, h2, h3, h4, h5⟩ := h
  refine ⟨h1, okM_J h2 hv, h3, h4, ?_⟩
  unfold Rel Rk Rg Ri
  rw [sJ_1, sJ_f (g := 0) (by omega), sJ_f (g := 1) (by omega), sJ_f (g := 2) (by omega), sJ_f (g := 3) (by omega)]
  exact h5
/-- a counter on both sides -/
theorem HH_cnt {C M : CS} {f g : Nat} {v : Int32} (hf : (f = 17 ∧ g = 19) ∨ (f = 18 ∧ g = 20) ∨ (f = 20 ∧ g = 18)) (h : HH C M) : HH (sI C f 0 v) (sI M g 0 v) := by
  obtain ⟨h1, h2, h3, h4, h5⟩ := h
  refine ⟨okC_I h1 (by omega) (by omega) (by omega) (by omega) (by omega) (by omega) (by omega) (by omega), okM_keep (by omega) h2, Sm_fn (sI_f (by omega)) (sI_f (by omega)) (sI_f (by omega)) (sI_f (by omega)) (sI_f (by omega)) (sI_f (by omega)) (sI_f (by omega)) (sI_f (by omega)) h3, Safe_fn (sI_f (by omega)) (sI_f (by omega)) (sI_f (by omega)) (sI_f (by omega)) (sI_f (by omega)) (sI_f (by omega)) (sI_f (by omega)) rfl rfl rfl rfl h4, ?_⟩
  obtain ⟨r1, ⟨g0, g1, g2, g3, g4, g5, g6, g7⟩, r3⟩ := h5
  refine ⟨?_, ?_, ?_⟩
  · unfold Rk
    simp only [sI_2f]
    rw [sI_f (C := C) (g := 0) (by omega), sI_f (C := C) (g := 1) (by omega), sI_f (C := C) (g := 2) (by omega), sI_f (C := C) (g := 3) (by omega), sI_f (C := C) (g := 4) (by omega), sI_f (C := C) (g := 5) (by omega), sI_f (C := C) (g := 6) (by omega), sI_f (C := C) (g := 7) (by omega), sI_f (C := M) (g := 4) (by omega), sI_f (C := M) (g := 5) (by omega), sI_f (C := M) (g := 6) (by omega), sI_f (C := M) (g := 7) (by omega), sI_f (C := M) (g := 8) (by omega), sI_f (C := M) (g := 9) (by omega), sI_f (C := M) (g := 10) (by omega), sI_f (C := M) (g := 11) (by omega)]
    exact r1
  · refine ⟨g0, ?_, ?_, ?_, ?_, ?_, ?_, ?_⟩
    · rw [sI_e (by omega), sI_e (by omega)]; exact g1
    · rw [sI_e (by omega), sI_e (by omega)]; exact g2
    · rw [sI_e (by omega), sI_e (by omega)]; exact g3
    · rw [sI_e (by omega), sI_e (by omega)]; exact g4
    · rcases hf with ⟨rfl, rfl⟩ | ⟨rfl, rfl⟩ | ⟨rfl, rfl⟩
      · rw [sI_self, sI_self]
      · rw [sI_e (by omega), sI_e (by omega)]; exact g5
      · rw [sI_e (by omega), sI_e (by omega)]; exact g5
    · rcases hf with ⟨rfl, rfl⟩ | ⟨rfl, rfl⟩ | ⟨rfl, rfl⟩
      · rw [sI_e (by omega), sI_e (by omega)]; exact g6
      · rw [sI_self, sI_self]
      · rw [sI_e (by omega), sI_e (by omega)]; exact g6
    · rcases hf with ⟨rfl, rfl⟩ | ⟨rfl, rfl⟩ | ⟨rfl, rfl⟩
      · rw [sI_e (by omega), sI_e (by omega)]; exact g7
      · rw [sI_e (by omega), sI_e (by omega)]; exact g7
      · rw [sI_self, sI_self]
  · unfold Ri
    rw [sI_f (C := C) (g := 9) (by omega), sI_f (C := C) (g := 10) (by omega), sI_f (C := C) (g := 11) (by omega), sI_f (C := C) (g := 12) (by omega), sI_f (C := M) (g := 0) (by omega), sI_f (C := M) (g := 1) (by omega), sI_f (C := M) (g := 2) (by omega), sI_f (C := M) (g := 3) (by omega)]
    exact r3
theorem Stk_of {C C' M M' : CS} {d : Nat} {a : Nat → Nat} (h0 : C'.1 0 = C.1 0) (h6 : C'.1 6 = C.1 6) (h19 : C'.1 19 = C.1 19) (hs : C'.2.2 = C.2.2) (m12 : M'.1 12 = M.1 12) (m13 : M'.1 13 = M.1 13) (h : Stk C M d a) : Stk C' M' d a := by
  unfold Stk
  rw [cactive_fn h0 h6, h19, hs, m12, m13]
  exact h
/-! the roots and what is referred to are the same on both sides -/
theorem mAct_eq {M : CS} {k n : Nat} (h : M.1 12 k = nI n) (hn : n < 16) : mAct M k = n := by unfold mAct; rw [h]; exact nI_clamp (by omega)
theorem roots_eq {C M : CS} {d : Nat} {a : Nat → Nat} (r : Rel C M) (s : Stk C M d a) : ∀ m, m < 16 → (rootsC C m ↔ rootsM M m) := by
  intro m hm
  obtain ⟨s1, s2, s3, s4, s5, s6⟩ := s
  unfold rootsC rootsM
  rw [mDepth_eq s3 s1]
  constructor
  · rintro (⟨j, hj, h⟩ | ⟨n, hn, ha, h⟩)
    · exact .inl ⟨j, hj, by rw [← r.2.1.1 j hj]; exact h⟩
    · obtain ⟨i, hi, e⟩ := s6 n hn ha
      subst e
      obtain ⟨-, -, h12, -⟩ := s4 i hi
      refine .inr ⟨i, hi, ?_⟩
      rw [mAct_eq h12 hn, h12, oV_nI hn, oV_inj hn hm]
      rcases h with h | ⟨j, hj, h⟩
      · exact .inl h.symm
      · exact .inr ⟨j, hj, by rw [← (r.1 _ hn).2.2.2.1 (cactive_iff.1 ha).1 j hj]; exact h⟩
  · rintro (⟨j, hj, h⟩ | ⟨i, hi, h⟩)
    · exact .inl ⟨j, hj, by rw [r.2.1.1 j hj]; exact h⟩
    · obtain ⟨hn, -, h12, ha⟩ := s4 i hi
      rw [mAct_eq h12 hn, h12, oV_nI hn, oV_inj hn hm] at h
      refine .inr ⟨a i, hn, ha, ?_⟩
      rcases h with h | ⟨j, hj, h⟩
      · exact .inl h.symm
      · exact .inr ⟨j, hj, by rw [(r.1 _ hn).2.2.2.1 (cactive_iff.1 ha).1 j hj]; exact h⟩
theorem refs_eq {C M : CS} {n : Nat} (hok : okC C) (r : Rel C M) (hn : n < 16) (hk : C.1 0 n = 1 ∨ C.1 0 n = 2) : ∀ m, m < 16 → (refsC C n m ↔ refsM M n m) := by
  intro m hm
  obtain ⟨⟨r1, r2⟩, r3, r4, r5, r6⟩ := r.1 n hn
  obtain ⟨⟨P, hP, hP2⟩, hM, -⟩ := hok.1 n hn
  unfold refsC refsM
  rw [← r1]
  rcases hk with hk | hk
  · have n2 : ¬ C.1 0 n = 2 := by rw [hk]; decide
    obtain ⟨e6, e7⟩ := r3 hk
    have eP : cPairs C n = P := cPairs_eq hP2 hP
    have eQ : mSize M n = P := mSize_eq (by rw [← e6]; exact hP2) hP
    rw [eP, eQ, ← e7]
    constructor
    · rintro (⟨h, -⟩ | ⟨-, h⟩)
      · exact (n2 h).elim
      · refine .inr ⟨n2, ?_⟩
        rcases h with ⟨j, hj, h⟩ | ⟨h1, h2⟩
        · exact .inl ⟨j, hj, by rw [← (r6 j (by omega)).1, ← (r6 j (by omega)).2]; exact h⟩
        · refine .inr ⟨h1, ?_⟩
          rcases hM with h | ⟨q, hq, h⟩
          · rw [h] at h1; exact absurd (by decide) h1
          · rw [h, oV_nI hq, oV_inj hq hm]
            rw [h, nI_clamp (by omega)] at h2
            exact h2.symm
    · rintro (⟨h, -⟩ | ⟨-, h⟩)
      · exact (n2 h).elim
      · refine .inr ⟨n2, ?_⟩
        rcases h with ⟨j, hj, h⟩ | ⟨h1, h2⟩
        · exact .inl ⟨j, hj, by rw [(r6 j (by omega)).1, (r6 j (by omega)).2]; exact h⟩
        · refine .inr ⟨h1, ?_⟩
          rcases hM with h | ⟨q, hq, h⟩
          · rw [h] at h1; exact absurd (by decide) h1
          · rw [h, oV_nI hq, oV_inj hq hm] at h2
            rw [h, nI_clamp (by omega)]
            exact h2.symm
  · constructor
    · rintro (⟨-, j, hj, h⟩ | ⟨h, -⟩)
      · exact .inl ⟨hk, j, hj, by rw [← r5 hk j hj]; exact h⟩
      · exact (h hk).elim
    · rintro (⟨-, j, hj, h⟩ | ⟨h, -⟩)
      · exact .inl ⟨hk, j, hj, by rw [r5 hk j hj]; exact h⟩
      · exact (h hk).elim
/-! only the colours change -/
theorem Rel_col {C C' M M' : CS} (r : Rel C M) (e : eq1 C' C) (g : eq5 M' M) (hc : ∀ n, n < 16 → C'.1 1 n = M'.1 5 n) : Rel C' M' := by
  have f := eq1_fn e
  have k := eq5_fn g
  refine ⟨fun n hn => ?_, ?_, ?_⟩
  · obtain ⟨⟨r1, r2⟩, r3⟩ := r.1 n hn
    rw [f 0 (by decide), f 2 (by decide), f 3 (by decide), f 4 (by decide), f 5 (by decide), f 6 (by decide), f 7 (by decide), e.1, k 4 (by decide), k 6 (by decide), k 7 (by decide), k 8 (by decide), k 9 (by decide), k 10 (by decide), k 11 (by decide), g.1]
    exact ⟨⟨r1, hc n hn⟩, r3⟩
  · unfold Rg
    rw [f 13 (by decide), f 14 (by decide), f 15 (by decide), f 16 (by decide), f 17 (by decide), f 18 (by decide), f 20 (by decide), e.1, k 14 (by decide), k 15 (by decide), k 16 (by decide), k 17 (by decide), k 18 (by decide), k 19 (by decide), k 20 (by decide), g.1]
    exact r.2.1
  · unfold Ri
    rw [f 9 (by decide), f 10 (by decide), f 11 (by decide), f 12 (by decide), k 0 (by decide), k 1 (by decide), k 2 (by decide), k 3 (by decide)]
    exact r.2.2
theorem live_n2 {C : CS} {n : Nat} (h : ¬ C.1 13 0 = 2) : live C n ↔ ¬ C.1 0 n = 0 := ⟨fun z => z.1, fun z => ⟨z, fun y => (h y).elim⟩⟩
theorem Safe_col {C C' : CS} (h : Safe C) (e : eq1 C' C) (hp : ¬ C.1 13 0 = 2) (hc : C.1 13 0 = 1 → ∀ n m, n < 16 → m < 16 → C'.1 1 n = 2 → refsC C n m → ¬ C'.1 1 m = 0) : Safe C' := by
  have f := eq1_fn e
  have hp' : ¬ C'.1 13 0 = 2 := by rw [f 13 (by decide)]; exact hp
  have hl : ∀ n, live C' n ↔ live C n := fun n => by rw [live_n2 hp, live_n2 hp', f 0 (by decide)]
  unfold Safe
  rw [rootsC_fn (f 0 (by decide)) (f 6 (by decide)) (by rw [e.1]) (by rw [e.1]), refsC_fn (f 0 (by decide)) (f 2 (by decide)) (f 3 (by decide)) (by rw [e.1]) (by rw [e.1]) (by rw [e.1]), f 0 (by decide), f 3 (by decide), f 13 (by decide)]
  obtain ⟨h1, h2, h3, h4⟩ := h
  exact ⟨fun m hm z => (hl m).2 (h1 m hm z), fun n m hn hm z y => (hl m).2 (h2 n m hn hm ((hl n).1 z) y), hc, fun n m hn hm z => h4 n m hn hm ((hl n).1 z)⟩
theorem Sm_col {C C' : CS} (h : Sm C) (e : eq1 C' C) (hp : ¬ C.1 13 0 = 2) (hc : ∀ n, n < 16 → (C'.1 1 n = 0 ∨ C'.1 1 n = 1 ∨ C'.1 1 n = 2) ∧ (C.1 0 n = 0 → C'.1 1 n = 0)) (h0 : C.1 13 0 = 0 → ∀ n, n < 16 → C'.1 1 n = 0) : Sm C' := by
  have f := eq1_fn e
  obtain ⟨h1, h2, h3, h4⟩ := h
  unfold Sm Sm1 Sm2 Sm3 Sm4
  rw [f 0 (by decide), f 6 (by decide), f 9 (by decide), f 13 (by decide), f 14 (by decide), f 15 (by decide), f 16 (by decide)]
  exact ⟨fun n hn => ⟨(h1 n hn).1, (hc n hn).1, (hc n hn).2, (h1 n hn).2.2.2⟩, ⟨h2.1, h2.2.1, h0, fun z => (hp z).elim⟩, h3, h4⟩
theorem okC_col {C C' : CS} (h : okC C) (e : eq1 C' C) : okC C' := okC_of h (fun f hf n => e.2 f (by omega) n) e.1 (by rw [e.2 14 (by decide)]; exact h.2.2.1)
theorem Stk_col {C C' M M' : CS} {d : Nat} {a : Nat → Nat} (e : eq1 C' C) (g : eq5 M' M) (h : Stk C M d a) : Stk C' M' d a := Stk_of (eq1_fn e 0 (by decide)) (eq1_fn e 6 (by decide)) (eq1_fn e 19 (by decide)) (by rw [e.1]) (eq5_fn g 12 (by decide)) (eq5_fn g 13 (by decide)) h
theorem eq1_blacken (C : CS) (n : Nat) : eq1 (cblacken C n) C := ⟨cblacken_2 C n, fun f hf b => cblacken_1 C n f b hf⟩
theorem eq1_roots (C : CS) : eq1 (cshadeRoots C).2 C := ⟨cshadeRoots_2 C, fun f hf b => cshadeRoots_1 C f b hf⟩
theorem lst_congr {p q : Nat → Bool} : ∀ (c i : Nat), (∀ j, i ≤ j → j < i + c → p j = q j) → lst p c i = lst q c i
  | 0, _, _ => rfl
  | c + 1, i, h => by
    unfold lst
    rw [h i (Nat.le_refl _) (by omega), lst_congr c (i + 1) (fun j h1 h2 => h j (by omega) (by omega))]
theorem sumN_congr {f g : Nat → Nat} : ∀ n, (∀ i, i < n → f i = g i) → sumN f n = sumN g n
  | 0, _ => rfl
  | n + 1, h => by
    show sumN f n + f n = sumN g n + g n
    rw [sumN_congr n (fun i hi => h i (by omega)), h n (by omega)]
theorem sumN_up1 {f g : Nat → Nat} {k : Nat} (hk : g k = f k + 1) (h : ∀ i, i ≠ k → g i = f i) : ∀ n, k < n → sumN g n = sumN f n + 1
  | 0, z => absurd z (Nat.not_lt_zero _)
  | n + 1, z => by
    show sumN g n + g n = sumN f n + f n + 1
    by_cases e : k = n
    · subst e
      rw [sumN_congr k (fun i hi => h i (by omega)), hk]
      omega
    · rw [sumN_up1 hk h n (by omega), h n (by omega)]
      omega
theorem cntK_up {k k' : Nat → Int32} {n : Nat} (hn : n < 16) (h0 : k n = 0) (h1 : ¬ k' n = 0) (h : ∀ i, i ≠ n → k' i = k i) : cntK k' = cntK k + 1 := by
  unfold cntK
  refine sumN_up1 (k := n) ?_ (fun i hi => by rw [h i hi]) 16 hn
  rw [if_pos h0, if_neg h1]
end

-- part 72.unitR
section
/-! A UNIT on both sides -/
theorem sI_id {C : CS} {f n : Nat} {v : Int32} (h : C.1 f n = v) : sI C f n v = C := by
  unfold sI
  refine Prod.ext ?_ rfl
  funext a b
  show (if a = f ∧ b = n then v else C.1 a b) = C.1 a b
  split
  · rename_i z
    rw [z.1, z.2, h]
  · rfl
theorem lst_none_of {p : Nat → Bool} : ∀ (c i : Nat), (∀ j, i ≤ j → j < i + c → p j = false) → lst p c i = none
  | 0, _, _ => rfl
  | c + 1, i, h => by
    unfold lst
    rw [if_neg (by rw [h i (Nat.le_refl _) (by omega)]; decide)]
    exact lst_none_of c (i + 1) (fun j h1 h2 => h j (by omega) (by omega))
theorem Rel_ph {C M : CS} {v : Int32} (r : Rel C M) : Rel (sI C 13 0 v) (sI M 14 0 v) := by
  obtain ⟨r1, ⟨g0, g1, g2, g3, g4, g5, g6, g7⟩, r3⟩ := r
  exact ⟨r1, ⟨g0, by rw [sI_self, sI_self], g2, g3, g4, g5, g6, g7⟩, r3⟩
theorem HH_ph {C M C' M' : CS} {p : Int32} (h : HH C M) (e : eq1 C' C) (g : eq5 M' M) (hp : ¬ C.1 13 0 = 2) (hp1 : p = 1 ∨ p = 2) (hcM : ∀ n, n < 16 → C'.1 1 n = M'.1 5 n) (hc : ∀ n, n < 16 → (C'.1 1 n = 0 ∨ C'.1 1 n = 1 ∨ C'.1 1 n = 2) ∧ (C.1 0 n = 0 → C'.1 1 n = 0))
    (hs1 : p = 1 → ∀ n m, n < 16 → m < 16 → C'.1 1 n = 2 → refsC C n m → ¬ C'.1 1 m = 0) (hs2 : p = 2 → (∀ m, m < 16 → rootsC C m → ¬ C'.1 1 m = 0) ∧ (∀ n m, n < 16 → m < 16 → ¬ C'.1 1 n = 0 → refsC C n m → ¬ C'.1 1 m = 0)) : HH (sI C' 13 0 p) (sI M' 14 0 p) := by
  obtain ⟨h1, h2, ⟨m1, m2, m3, m4⟩, ⟨f1, f2, f3, f4⟩, h5⟩ := h
  have f := eq1_fn e
  have o14 : C.1 14 0 = 0 := m2.2.1 hp
  have q14 : (sI C' 13 0 p).1 14 0 = 0 := by rw [sI_e (by decide), f 14 (by decide)]; exact o14
  have q13 : (sI C' 13 0 p).1 13 0 = p := sI_self
  have qsw : cSw (sI C' 13 0 p) = 0 := by unfold cSw; rw [q14]; rfl
  have q0 : (sI C' 13 0 p).1 0 = C.1 0 := by rw [sI_f (by decide), f 0 (by decide)]
  have q1 : (sI C' 13 0 p).1 1 = C'.1 1 := by rw [sI_f (by decide)]
  have q3 : (sI C' 13 0 p).1 3 = C.1 3 := by rw [sI_f (by decide), f 3 (by decide)]
  have q6 : (sI C' 13 0 p).1 6 = C.1 6 := by rw [sI_f (by decide), f 6 (by decide)]
  have q9 : (sI C' 13 0 p).1 9 = C.1 9 := by rw [sI_f (by decide), f 9 (by decide)]
  have q15 : (sI C' 13 0 p).1 15 = C.1 15 := by rw [sI_f (by decide), f 15 (by decide)]
  have q16 : (sI C' 13 0 p).1 16 = C.1 16 := by rw [sI_f (by decide), f 16 (by decide)]
  have p0 : ¬ p = 0 := by rcases hp1 with z | z <;> rw [z] <;> decide
  refine ⟨okC_I (okC_col h1 e) (by decide) (by decide) (by decide) (by decide) (by decide) (by decide) (by decide) (by decide), okM_keep (by decide) (okM_eq5 g h2), ⟨?_, ⟨?_, ?_, ?_, ?_⟩, ?_, ?_⟩, ⟨?_, ?_, ?_, ?_⟩, Rel_ph (Rel_col h5 e g hcM)⟩
  · unfold Sm1
    rw [q0, q1, q6]
    exact fun n hn => ⟨(m1 n hn).1, (hc n hn).1, (hc n hn).2, (m1 n hn).2.2.2⟩
  · rw [q13]; exact .inr hp1
  · exact fun _ => q14
  · rw [q13]; exact fun z => (p0 z).elim
  · rw [qsw]; exact fun _ n hn => by omega
  · unfold Sm3; rw [q0, q15, q16]; exact m3
  · unfold Sm4; rw [q9]; exact m4
  · rw [rootsC_fn q0 q6 (by rw [sI_2f, e.1]) (by rw [sI_2f, e.1])]
    intro m hm z
    refine ⟨by rw [q0]; exact (f1 m hm z).1, fun y => .inl ?_⟩
    rw [q1]
    exact (hs2 (q13.symm.trans y)).1 m hm z
  · rw [refsC_fn q0 (by rw [sI_f (by decide), f 2 (by decide)]) q3 (by rw [sI_2f, e.1]) (by rw [sI_2f, e.1]) (by rw [sI_2f, e.1])]
    intro n m hn hm l z
    have ln : live C n := (live_n2 hp).2 (by have := l.1; rw [q0] at this; exact this)
    refine ⟨by rw [q0]; exact (f2 n m hn hm ln z).1, fun y => .inl ?_⟩
    rw [q1]
    refine (hs2 (q13.symm.trans y)).2 n m hn hm ?_ z
    rcases l.2 y with w | w
    · rw [q1] at w; exact w
    · rw [qsw] at w; omega
  · rw [refsC_fn q0 (by rw [sI_f (by decide), f 2 (by decide)]) q3 (by rw [sI_2f, e.1]) (by rw [sI_2f, e.1]) (by rw [sI_2f, e.1]), q13, q1]
    exact hs1
  · intro n m hn hm l
    have ln : live C n := (live_n2 hp).2 (by have := l.1; rw [q0] at this; exact this)
    rw [q0, q3]
    exact f4 n m hn hm ln
theorem Stk_ph {C C' M M' : CS} {d : Nat} {a : Nat → Nat} {v w : Int32} (e : eq1 C' C) (g : eq5 M' M) (h : Stk C M d a) : Stk (sI C' 13 0 v) (sI M' 14 0 w) d a := Stk_of (by rw [sI_f (by decide)]; exact eq1_fn e 0 (by decide)) (by rw [sI_f (by decide)]; exact eq1_fn e 6 (by decide)) (by rw [sI_f (by decide)]; exact eq1_fn e 19 (by decide)) (by rw [sI_2g, e.1]) (by rw [sI_f (by decide)]; exact eq5_fn g 12 (by decide)) (by rw [sI_f (by decide)]; exact eq5_fn g 13 (by decide)) h
def cunit1 (C : CS) : CS := if C.1 13 0 = 2 then csweep C else match cgray C with
    | some n => cblacken C n
    | none => sI (cshadeRoots C).2 13 0 (if C.1 13 0 = 0 ∨ 0 < (cshadeRoots C).1 then 1 else 2)
theorem cunit_1 (C : CS) : cunit C = cunit1 (sI C 17 0 (C.1 17 0 + 1)) := by
  simp only [cunit, cunit1, sI_e (show (13 : Nat) ≠ 17 by decide)]
  rfl
def msweep (M : CS) : Int32 × CS :=
    let i := (M.1 15 0).toNatClampNeg
    let M2 := if ¬ M.1 4 i = 0 ∧ M.1 5 i = 0 then sI (sI M 4 i 0) 17 0 (M.1 17 0 + 1) else M
    let M3 := sI (sI M2 5 i 0) 15 0 (M.1 15 0 + 1)
    (if ¬ M.1 4 i = 0 ∧ M.1 5 i = 0 then 1 else 0, if M.1 15 0 + 1 = 16 then sI (sI M3 15 0 0) 14 0 0 else M3)
def munit1 (M : CS) : Int32 × CS := if M.1 14 0 = 0 then (0, sI (mshadeRoots M) 14 0 1)
  else if M.1 14 0 = 1 then match mgray M with
    | some n => (0, mblacken M n)
    | none => match mgray (mshadeRoots M) with
      | some _ => (0, mshadeRoots M)
      | none => (0, sI (sI (mshadeRoots M) 14 0 2) 15 0 0)
  else msweep M
theorem munit_1 (M : CS) : munit M = munit1 (sI M 19 0 (M.1 19 0 + 1)) := by
  simp only [munit, munit1, msweep, sI_e (show (14 : Nat) ≠ 19 by decide), sI_e (show (15 : Nat) ≠ 19 by decide), sI_e (show (4 : Nat) ≠ 19 by decide), sI_e (show (5 : Nat) ≠ 19 by decide), sI_e (show (17 : Nat) ≠ 19 by decide)]
  rfl
/-- the colours after shading are colours, and free ones stay white -/
theorem col_shd {C : CS} {S : Nat → Prop} {c : Nat → Int32} (m1 : Sm1 C) (h : Shd S (C.1 1) c) (hs : ∀ n, n < 16 → S n → ¬ C.1 0 n = 0) : ∀ n, n < 16 → (c n = 0 ∨ c n = 1 ∨ c n = 2) ∧ (C.1 0 n = 0 → c n = 0) := by
  intro n hn
  obtain ⟨-, k2, k3, -⟩ := m1 n hn
  by_cases z : C.1 1 n = 0 ∧ S n
  · rw [(h n hn).1 z.1 z.2]
    exact ⟨.inr (.inl rfl), fun y => (hs n hn z.2 y).elim⟩
  · rw [(h n hn).2 z]
    exact ⟨k2, k3⟩
theorem start_all {C M : CS} {d : Nat} {a : Nat → Nat} (h : HH C M) (s : Stk C M d a) (hp : C.1 13 0 = 0) : HH (cunit1 C) (munit1 M).2 ∧ Stk (cunit1 C) (munit1 M).2 d a ∧ (cunit1 C).1 16 0 = C.1 16 0 + (munit1 M).1 := by
  have h' := h
  obtain ⟨h1, h2, ⟨m1, m2, m3, m4⟩, ⟨f1, f2, f3, f4⟩, h5⟩ := h
  have c0 := m2.2.2.1 hp
  have hg : cgray C = none := lst_none_of 16 0 (fun j _ hj => by rw [c0 j (by omega)]; decide)
  have sc := (Shc_cRoots h1.2.1).1
  have sm := Shd_mRoots h2
  have eC : cunit1 C = sI (cshadeRoots C).2 13 0 1 := by
    unfold cunit1
    rw [if_neg (by rw [hp]; decide), hg]
    simp only
    rw [if_pos (.inl hp)]
  have eM : munit1 M = (0, sI (mshadeRoots M) 14 0 1) := by
    unfold munit1
    rw [if_pos (by rw [← h5.2.1.2.1]; exact hp)]
  rw [eC, eM]
  have e1 := eq1_roots C
  have e5 := eq5_shadeRoots (eq5_refl M)
  refine ⟨HH_ph h' e1 e5 (by rw [hp]; decide) (.inl rfl) (Shd_same sc sm (fun n hn => (h5.1 n hn).1.2) (roots_eq h5 s)) (col_shd m1 sc (fun n hn z => (f1 n hn z).1)) (fun _ n m hn hm z => ?_) (fun z => absurd z (by decide)), Stk_ph e1 e5 s, ?_⟩
  · have := Shd_2 sc hn z
    rw [c0 n hn] at this
    exact absurd this (by decide)
  · show (sI (cshadeRoots C).2 13 0 1).1 16 0 = C.1 16 0 + 0
    rw [sI_e (by decide), e1.2 16 (by decide), Int32.add_zero]
theorem gray_eq {C M : CS} (m1 : Sm1 C) (r : Rel C M) : mgray M = cgray C := by
  refine lst_congr 16 0 (fun j _ hj => ?_)
  obtain ⟨⟨r1, r2⟩, -⟩ := r.1 j (by omega)
  obtain ⟨-, -, k3, -⟩ := m1 j (by omega)
  rw [← r1, ← r2]
  by_cases z : C.1 0 j = 0
  · rw [z, k3 z]; decide
  · have : (C.1 0 j == 0) = false := by simp [z]
    rw [this]
    rfl
theorem mark_all {C M : CS} {d : Nat} {a : Nat → Nat} (h : HH C M) (s : Stk C M d a) (hp : C.1 13 0 = 1) : HH (cunit1 C) (munit1 M).2 ∧ Stk (cunit1 C) (munit1 M).2 d a ∧ (cunit1 C).1 16 0 = C.1 16 0 + (munit1 M).1 := by
  have h' := h
  obtain ⟨h1, h2, ⟨m1, m2, m3, m4⟩, ⟨f1, f2, f3, f4⟩, h5⟩ := h
  have p2 : ¬ C.1 13 0 = 2 := by rw [hp]; decide
  have p0 : ¬ C.1 13 0 = 0 := by rw [hp]; decide
  have q14 : M.1 14 0 = 1 := by rw [← h5.2.1.2.1]; exact hp
  have q0 : ¬ M.1 14 0 = 0 := by rw [q14]; decide
  have hge := gray_eq m1 h5
  unfold cunit1 munit1
  rw [if_neg p2, if_neg q0, if_pos q14, hge]
  cases hg : cgray C with
  | some n =>
    have hn := cgray_lt hg
    have hc : C.1 1 n = 1 := by
      have := (lst_lt _ _ _ hg).2.2
      exact eq_of_beq this
    have hk : C.1 0 n = 1 ∨ C.1 0 n = 2 := by
      obtain ⟨k1, -, k3, -⟩ := m1 n hn
      rcases k1 with z | z
      · exact absurd (k3 z) (by rw [hc]; decide)
      · exact z
    have sc := Shd_cBlacken h1 hn
    have sm := Shd_mBlacken h2 hn
    have e1 := eq1_blacken C n
    have e5 := eq5_blacken (n := n) (eq5_refl M)
    have ln : live C n := (live_n2 p2).2 (by rcases hk with z | z <;> rw [z] <;> decide)
    simp only
    have k13 : (cblacken C n).1 13 0 = 1 := by rw [e1.2 13 (by decide)]; exact hp
    have k14 : (mblacken M n).1 14 0 = 1 := by rw [e5.2 14 (by decide)]; exact q14
    have hsame : ∀ b, b < 16 → (sI C 1 n 2).1 1 b = (sI M 5 n 2).1 5 b := fun b hb => by
      rw [sI_1, sI_1]
      by_cases z : b = n
      · rw [if_pos ⟨rfl, z⟩, if_pos ⟨rfl, z⟩]
      · rw [if_neg (fun y => z y.2), if_neg (fun y => z y.2)]
        exact (h5.1 b hb).1.2
    have base : ∀ b, b < 16 → ((sI C 1 n 2).1 1 b = 0 ∨ (sI C 1 n 2).1 1 b = 1 ∨ (sI C 1 n 2).1 1 b = 2) ∧ (C.1 0 b = 0 → (sI C 1 n 2).1 1 b = 0) := fun b hb => by
      rw [sI_1]
      by_cases z : b = n
      · rw [if_pos ⟨rfl, z⟩]
        exact ⟨.inr (.inr rfl), fun y => absurd y (by rw [z]; exact ln.1)⟩
      · rw [if_neg (fun y => z y.2)]
        exact ⟨(m1 b hb).2.1, (m1 b hb).2.2.1⟩
    have hcol : ∀ b, b < 16 → ((cblacken C n).1 1 b = 0 ∨ (cblacken C n).1 1 b = 1 ∨ (cblacken C n).1 1 b = 2) ∧ (C.1 0 b = 0 → (cblacken C n).1 1 b = 0) := fun b hb => by
      by_cases z : (sI C 1 n 2).1 1 b = 0 ∧ refsC C n b
      · rw [(sc b hb).1 z.1 z.2]
        exact ⟨.inr (.inl rfl), fun y => absurd y (f2 n b hn hb ln z.2).1⟩
      · rw [(sc b hb).2 z]
        exact base b hb
    have hh := HH_ph (p := 1) h' e1 e5 p2 (.inl rfl) (Shd_same sc sm hsame (refs_eq h1 h5 hn hk)) hcol (fun _ j m hj hm z y => by
      by_cases q : j = n
      · subst q; exact Shd_nw sc hm y
      · have z2 := Shd_2 sc hj z
        rw [sI_1, if_neg (fun w => q w.2)] at z2
        refine Shd_up0 sc hm ?_
        rw [sI_1]
        split
        · decide
        · exact f3 hp j m hj hm z2 y) (fun z => absurd z (by decide))
    rw [sI_id k13, sI_id k14] at hh
    exact ⟨hh, Stk_col e1 e5 s, by show (cblacken C n).1 16 0 = C.1 16 0 + 0; rw [e1.2 16 (by decide), Int32.add_zero]⟩
  | none =>
    simp only
    have hgn : ∀ n, n < 16 → ¬ C.1 1 n = 1 := fun n hn z => by
      have := lst_none 16 0 hg n (by omega) (by omega)
      rw [z] at this
      exact absurd this (by decide)
    obtain ⟨sc, k, hk, hk2, hk3⟩ := Shc_cRoots h1.2.1
    have sm := Shd_mRoots h2
    have e1 := eq1_roots C
    have e5 := eq5_shadeRoots (eq5_refl M)
    have hcM := Shd_same sc sm (fun n hn => (h5.1 n hn).1.2) (roots_eq h5 s)
    have hcol := col_shd m1 sc (fun n hn z => (f1 n hn z).1)
    have hcnt : (0 < (cshadeRoots C).1) ↔ ¬ k = 0 := by
      rw [hk2, Int32.zero_add]
      constructor
      · intro z y
        rw [y] at z
        exact absurd z (by decide)
      · intro z
        exact nI_lt (a := 0) (by omega) (by omega)
    have k13 : (cshadeRoots C).2.1 13 0 = 1 := by rw [e1.2 13 (by decide)]; exact hp
    have k14 : (mshadeRoots M).1 14 0 = 1 := by rw [e5.2 14 (by decide)]; exact q14
    have k15 : (sI (mshadeRoots M) 14 0 2).1 15 0 = 0 := by rw [sI_e (by decide), e5.2 15 (by decide), ← h5.2.1.2.2.1]; exact m2.2.1 p2
    have hg16 : ∀ v, (sI (cshadeRoots C).2 13 0 v).1 16 0 = C.1 16 0 + 0 := fun v => by rw [sI_e (by decide), e1.2 16 (by decide), Int32.add_zero]
    by_cases hk0 : k = 0
    · have c0 := Shd_k0 sc (by rw [hk0] at hk3; exact hk3)
      have hm : mgray (mshadeRoots M) = none := lst_none_of 16 0 (fun j _ hj => by
        rw [← hcM j (by omega), c0 j (by omega)]
        have : (C.1 1 j == 1) = false := by have := hgn j (by omega); simp [this]
        rw [this, Bool.and_false])
      rw [if_neg (fun z => z.elim p0 (fun y => hcnt.1 y hk0)), hm]
      simp only
      rw [sI_id k15]
      refine ⟨HH_ph h' e1 e5 p2 (.inr rfl) hcM hcol (fun z => absurd z (by decide)) (fun _ => ⟨fun m hm z => Shd_nw sc hm z, fun n m hn hm z y => ?_⟩), Stk_ph e1 e5 s, hg16 2⟩
      rw [c0 n hn] at z
      rw [c0 m hm]
      refine f3 hp n m hn hm ?_ y
      rcases (m1 n hn).2.1 with w | w | w
      · exact (z w).elim
      · exact (hgn n hn w).elim
      · exact w
    · obtain ⟨j, hj, j0, js⟩ := hk3.2 hk0
      have hm : ∃ q, mgray (mshadeRoots M) = some q := by
        cases hq : mgray (mshadeRoots M) with
        | some q => exact ⟨q, rfl⟩
        | none =>
          have z := lst_none 16 0 hq j (by omega) (by omega)
          have kj : ¬ (mshadeRoots M).1 4 j = 0 := by rw [e5.2 4 (by decide), ← (h5.1 j hj).1.1]; exact (f1 j hj js).1
          rw [← hcM j hj, (sc j hj).1 j0 js] at z
          have : ((mshadeRoots M).1 4 j == 0) = false := by simp [kj]
          rw [this] at z
          exact absurd z (by decide)
      obtain ⟨q, hm⟩ := hm
      rw [if_pos (.inr (hcnt.2 hk0)), hm]
      simp only
      have hh := HH_ph (p := 1) h' e1 e5 p2 (.inl rfl) hcM hcol (fun _ n m hn hm z y => Shd_up0 sc hm (f3 hp n m hn hm (Shd_2 sc hn z) y)) (fun z => absurd z (by decide))
      rw [sI_id k14] at hh
      refine ⟨hh, ?_, hg16 1⟩
      have := Stk_ph (v := 1) (w := 1) e1 e5 s
      rw [sI_id k14] at this
      exact this
end

-- part 73.sweepR
section
/-! SWEEPING on both sides; a UNIT; a FULL COLLECTION -/
theorem sw_end {i : Nat} (hi : i < 16) : (nI (i + 1) = 16) ↔ i = 15 := by
  constructor
  · intro z
    have := (nI_eq (a := i + 1) (b := 16) (by omega) (by omega)).1 z
    omega
  · intro z; rw [z]; rfl
theorem csweep_f {C : CS} {i : Nat} (hi : i < 16) (hk : C.1 14 0 = nI i) : ((csweep C).1 0 = fun b => if (¬ C.1 0 i = 0 ∧ C.1 1 i = 0) ∧ b = i then 0 else C.1 0 b) ∧ ((csweep C).1 1 = fun b => if b = i then 0 else C.1 1 b) ∧ (csweep C).1 13 0 = (if i = 15 then 0 else C.1 13 0) ∧ (csweep C).1 14 0 = (if i = 15 then 0 else nI (i + 1)) ∧ (csweep C).1 16 0 = (if ¬ C.1 0 i = 0 ∧ C.1 1 i = 0 then C.1 16 0 + 1 else C.1 16 0) := by
  have ec : (nI i).toNatClampNeg = i := nI_clamp (by omega)
  have ee := sw_end hi
  unfold csweep
  simp only [hk, ec, nI_1, ee]
  by_cases c : ¬ C.1 0 i = 0 ∧ C.1 1 i = 0
  · obtain ⟨c1, c2⟩ := c
    by_cases e : i = 15
    · subst e
      refine ⟨funext fun b => ?_, funext fun b => ?_, ?_, ?_, ?_⟩ <;> simp [sI_1, c1, c2]
    · refine ⟨funext fun b => ?_, funext fun b => ?_, ?_, ?_, ?_⟩ <;> simp [sI_1, c1, c2, e]
  · by_cases e : i = 15
    · refine ⟨funext fun b => ?_, funext fun b => ?_, ?_, ?_, ?_⟩ <;> simp only [if_neg c, if_pos e, sI_1, false_and, if_false] <;> simp <;> (intro w1 w2; exact (c ⟨w1, w2⟩).elim)
    · refine ⟨funext fun b => ?_, funext fun b => ?_, ?_, ?_, ?_⟩ <;> simp only [if_neg c, if_neg e, sI_1, false_and, if_false] <;> simp <;> (intro w1 w2; exact (c ⟨w1, w2⟩).elim)
theorem msweep_f {M : CS} {i : Nat} (hi : i < 16) (hk : M.1 15 0 = nI i) : ((msweep M).2.1 4 = fun b => if (¬ M.1 4 i = 0 ∧ M.1 5 i = 0) ∧ b = i then 0 else M.1 4 b) ∧ ((msweep M).2.1 5 = fun b => if b = i then 0 else M.1 5 b) ∧ (msweep M).2.1 14 0 = (if i = 15 then 0 else M.1 14 0) ∧ (msweep M).2.1 15 0 = (if i = 15 then 0 else nI (i + 1)) ∧ (msweep M).2.1 17 0 = (if ¬ M.1 4 i = 0 ∧ M.1 5 i = 0 then M.1 17 0 + 1 else M.1 17 0) ∧ (msweep M).1 = (if ¬ M.1 4 i = 0 ∧ M.1 5 i = 0 then 1 else 0) := by
  have ec : (nI i).toNatClampNeg = i := nI_clamp (by omega)
  have ee := sw_end hi
  unfold msweep
  simp only [hk, ec, nI_1, ee]
  by_cases c : ¬ M.1 4 i = 0 ∧ M.1 5 i = 0
  · obtain ⟨c1, c2⟩ := c
    by_cases e : i = 15
    · subst e
      refine ⟨funext fun b => ?_, funext fun b => ?_, ?_, ?_, ?_, ?_⟩ <;> simp [sI_1, c1, c2]
    · refine ⟨funext fun b => ?_, funext fun b => ?_, ?_, ?_, ?_, ?_⟩ <;> simp [sI_1, c1, c2, e]
  · by_cases e : i = 15
    · refine ⟨funext fun b => ?_, funext fun b => ?_, ?_, ?_, ?_, ?_⟩ <;> simp only [if_neg c, if_pos e, sI_1, false_and, if_false] <;> simp <;> (intro w1 w2; exact (c ⟨w1, w2⟩).elim)
    · refine ⟨funext fun b => ?_, funext fun b => ?_, ?_, ?_, ?_, ?_⟩ <;> simp only [if_neg c, if_neg e, sI_1, false_and, if_false] <;> simp <;> (intro w1 w2; exact (c ⟨w1, w2⟩).elim)
theorem msweep_2 (M : CS) : (msweep M).2.2 = M.2 := by unfold msweep; simp only; split <;> split <;> rfl
theorem msweep_1 (M : CS) (f : Nat) (h0 : f ≠ 4) (h1 : f ≠ 5) (h2 : f ≠ 14) (h3 : f ≠ 15) (h4 : f ≠ 17) : (msweep M).2.1 f = M.1 f := by
  unfold msweep
  simp only
  split <;> split <;> simp only [sI_f h0, sI_f h1, sI_f h2, sI_f h3, sI_f h4]
theorem csweep_g (C : CS) (f : Nat) (h0 : f ≠ 0) (h1 : f ≠ 1) (h2 : f ≠ 13) (h3 : f ≠ 14) (h4 : f ≠ 16) : (csweep C).1 f = C.1 f := funext fun m => csweep_1 C f m h0 h1 h2 h3 h4
theorem refs_of {C' C : CS} {n m : Nat} (h0 : C'.1 0 n = C.1 0 n) (h2 : C'.1 2 n = C.1 2 n) (h3 : C'.1 3 n = C.1 3 n) (k : C'.2.1 = C.2.1) : refsC C' n m ↔ refsC C n m := by unfold refsC cPairs; rw [h0, h2, h3, k]
theorem meta_refs {C : CS} {n m : Nat} (hm : m < 16) (h0 : C.1 0 n = 1) (h : C.1 3 n = nI m) : refsC C n m := .inr ⟨by rw [h0]; decide, .inr ⟨by rw [h]; exact nI_pos (by omega), by rw [h, nI_clamp (by omega)]⟩⟩
theorem okM_sweep {M : CS} {i : Nat} (hi : i < 16) (hk : M.1 15 0 = nI i) (h : okM M) : okM (msweep M).2 := by
  obtain ⟨-, -, -, f15, -, -⟩ := msweep_f hi hk
  obtain ⟨a, b, c, d, e⟩ := h
  unfold okM
  rw [msweep_1 M 6 (by decide) (by decide) (by decide) (by decide) (by decide), msweep_1 M 7 (by decide) (by decide) (by decide) (by decide) (by decide), msweep_1 M 9 (by decide) (by decide) (by decide) (by decide) (by decide), msweep_1 M 11 (by decide) (by decide) (by decide) (by decide) (by decide), msweep_1 M 12 (by decide) (by decide) (by decide) (by decide) (by decide), msweep_1 M 13 (by decide) (by decide) (by decide) (by decide) (by decide), msweep_2, f15]
  refine ⟨a, b, ?_, d, e⟩
  split
  · exact ⟨0, by omega, rfl⟩
  · exact ⟨i + 1, by omega, rfl⟩
theorem sweep_all {C M : CS} {d : Nat} {a : Nat → Nat} (h : HH C M) (s : Stk C M d a) (hp : C.1 13 0 = 2) : HH (cunit1 C) (munit1 M).2 ∧ Stk (cunit1 C) (munit1 M).2 d a ∧ (cunit1 C).1 16 0 = C.1 16 0 + (munit1 M).1 := by
  obtain ⟨h1, h2, ⟨m1, m2, m3, m4⟩, ⟨f1, f2, f3, f4⟩, h5⟩ := h
  obtain ⟨i, hi, hk⟩ := h1.2.2.1
  have hkM : M.1 15 0 = nI i := by rw [← h5.2.1.2.2.1]; exact hk
  obtain ⟨a0, a1, a13, a14, a16⟩ := csweep_f hi hk
  obtain ⟨b4, b5, b14, b15, b17, bw⟩ := msweep_f hi hkM
  have q14 : M.1 14 0 = 2 := by rw [← h5.2.1.2.1]; exact hp
  rw [← (h5.1 i hi).1.1, ← (h5.1 i hi).1.2] at b4 b17 bw
  have esw : cSw C = i := by unfold cSw; rw [hk]; exact nI_clamp (by omega)
  have esw' : cSw (csweep C) = if i = 15 then 0 else i + 1 := by
    unfold cSw
    rw [a14]
    split
    · rfl
    · exact nI_clamp (by omega)
  have eC : cunit1 C = csweep C := by unfold cunit1; rw [if_pos hp]
  have eM : munit1 M = msweep M := by unfold munit1; rw [if_neg (by rw [q14]; decide), if_neg (by rw [q14]; decide)]
  rw [eC, eM]
  have kk : ∀ n, ¬ (csweep C).1 0 n = 0 → (csweep C).1 0 n = C.1 0 n := fun n z => by
    rw [a0] at z ⊢
    simp only at z ⊢
    split
    · rename_i w
      rw [if_pos w] at z
      exact (z rfl).elim
    · rfl
  have hl : ∀ m, m < 16 → (live (csweep C) m ↔ live C m) := fun m hm => by
    unfold live
    rw [esw', esw, a13, a0, a1]
    simp only
    by_cases e : i = 15
    · rw [if_pos e, if_pos e]
      by_cases q : m = i
      · subst q
        by_cases c : ¬ C.1 0 m = 0 ∧ C.1 1 m = 0
        · rw [if_pos ⟨c, rfl⟩]
          exact ⟨fun z => (z.1 rfl).elim, fun z => ((z.2 hp).elim (fun y => y c.2) (fun y => Nat.lt_irrefl _ y)).elim⟩
        · rw [if_neg (fun z => c z.1)]
          exact ⟨fun z => ⟨z.1, fun _ => .inl (fun y => c ⟨z.1, y⟩)⟩, fun z => ⟨z.1, fun y => absurd y (by decide)⟩⟩
      · rw [if_neg (fun z => q z.2)]
        exact ⟨fun z => ⟨z.1, fun _ => .inr (by omega)⟩, fun z => ⟨z.1, fun y => absurd y (by decide)⟩⟩
    · rw [if_neg e, if_neg e]
      by_cases q : m = i
      · subst q
        by_cases c : ¬ C.1 0 m = 0 ∧ C.1 1 m = 0
        · rw [if_pos ⟨c, rfl⟩]
          exact ⟨fun z => (z.1 rfl).elim, fun z => ((z.2 hp).elim (fun y => y c.2) (fun y => Nat.lt_irrefl _ y)).elim⟩
        · rw [if_neg (fun z => c z.1)]
          exact ⟨fun z => ⟨z.1, fun _ => .inl (fun y => c ⟨z.1, y⟩)⟩, fun z => ⟨z.1, fun _ => .inr (by omega)⟩⟩
      · rw [if_neg (fun z => q z.2), if_neg q]
        exact ⟨fun z => ⟨z.1, fun y => (z.2 y).elim .inl (fun w => .inr (by omega))⟩, fun z => ⟨z.1, fun y => (z.2 y).elim .inl (fun w => .inr (by omega))⟩⟩
  have g6 := csweep_g C 6 (by decide) (by decide) (by decide) (by decide) (by decide)
  have g2 := csweep_g C 2 (by decide) (by decide) (by decide) (by decide) (by decide)
  have g3 := csweep_g C 3 (by decide) (by decide) (by decide) (by decide) (by decide)
  have ca : ∀ n, n < 16 → (cactive (csweep C) n = true ↔ cactive C n = true) := fun n hn => by
    rw [cactive_iff, cactive_iff, g6]
    constructor
    · rintro ⟨z, y⟩
      rw [kk n (by rw [z]; decide)] at z
      exact ⟨z, y⟩
    · rintro ⟨z, y⟩
      have : live C n := f1 n hn (.inr ⟨n, hn, cactive_iff.2 ⟨z, y⟩, .inl rfl⟩)
      have l' := (hl n hn).2 this
      rw [kk n l'.1]
      exact ⟨z, y⟩
  refine ⟨⟨?_, okM_sweep hi hkM h2, ⟨?_, ⟨?_, ?_, ?_, ?_⟩, ?_, ?_⟩, ⟨?_, ?_, ?_, ?_⟩, ⟨?_, ?_, ?_⟩⟩, ?_, ?_⟩
  · exact okC_of h1 (fun f hf n => csweep_1 _ f n (by omega) (by omega) (by omega) (by omega) (by omega)) (csweep_2 _) (csweep_14 _ hi hk)
  · intro n hn
    obtain ⟨k1, k2, k3, k4⟩ := m1 n hn
    rw [a0, a1, g6]
    simp only
    refine ⟨?_, ?_, ?_, k4⟩
    · split
      · exact .inl rfl
      · exact k1
    · split
      · exact .inl rfl
      · exact k2
    · intro z
      by_cases q : n = i
      · rw [if_pos q]
      · rw [if_neg q]
        rw [if_neg (fun y => q y.2)] at z
        exact k3 z
  · rw [a13]
    split
    · exact .inl rfl
    · exact m2.1
  · rw [a13, a14]
    intro z
    split
    · rfl
    · rename_i e
      rw [if_neg e] at z
      exact (z hp).elim
  · rw [a13, a1]
    intro z n hn
    by_cases e : i = 15
    · by_cases q : n = i
      · simp only [if_pos q]
      · simp only [if_neg q]
        exact m2.2.2.2 hp n (by omega)
    · rw [if_neg e, hp] at z
      exact absurd z (by decide)
  · rw [a13, a1, esw']
    intro z n hn
    by_cases e : i = 15
    · rw [if_pos e] at z
      exact absurd z (by decide)
    · rw [if_neg e] at hn
      by_cases q : n = i
      · simp only [if_pos q]
      · simp only [if_neg q]
        exact m2.2.2.2 hp n (by omega)
  · unfold Sm3
    rw [csweep_g C 15 (by decide) (by decide) (by decide) (by decide) (by decide), a16, a0]
    by_cases c : ¬ C.1 0 i = 0 ∧ C.1 1 i = 0
    · rw [if_pos c]
      have hcu : cntK (C.1 0) = cntK (fun b => if (¬ C.1 0 i = 0 ∧ C.1 1 i = 0) ∧ b = i then 0 else C.1 0 b) + 1 := cntK_up hi (if_pos ⟨c, rfl⟩) c.1 (fun j hj => (if_neg (fun z => hj z.2)).symm)
      have e3 : C.1 15 0 - C.1 16 0 = nI (cntK (fun b => if (¬ C.1 0 i = 0 ∧ C.1 1 i = 0) ∧ b = i then 0 else C.1 0 b) + 1) := by rw [← hcu]; exact m3
      rw [← nI_1] at e3
      generalize nI (cntK fun b => if (¬ C.1 0 i = 0 ∧ C.1 1 i = 0) ∧ b = i then 0 else C.1 0 b) = X at e3 ⊢
      generalize C.1 15 0 = A at e3 ⊢
      generalize C.1 16 0 = B at e3 ⊢
      grind
    · rw [if_neg c]
      have : (fun b => if (¬ C.1 0 i = 0 ∧ C.1 1 i = 0) ∧ b = i then 0 else C.1 0 b) = C.1 0 := funext fun b => if_neg (fun z => c z.1)
      rw [this]
      exact m3
  · unfold Sm4
    rw [csweep_g C 9 (by decide) (by decide) (by decide) (by decide) (by decide)]
    exact m4
  · intro m hm z
    refine (hl m hm).2 (f1 m hm ?_)
    unfold rootsC at z ⊢
    rw [csweep_2] at z
    rcases z with z | ⟨n, hn, y, z⟩
    · exact .inl z
    · exact .inr ⟨n, hn, (ca n hn).1 y, z⟩
  · intro n m hn hm l z
    rw [refs_of (kk n l.1) (by rw [g2]) (by rw [g3]) (by rw [csweep_2])] at z
    exact (hl m hm).2 (f2 n m hn hm ((hl n hn).1 l) z)
  · rw [a13]
    intro z
    by_cases e : i = 15
    · rw [if_pos e] at z; exact absurd z (by decide)
    · rw [if_neg e, hp] at z; exact absurd z (by decide)
  · intro n m hn hm l z y
    rw [kk n l.1] at z
    rw [g3] at y
    have ln := (hl n hn).1 l
    have lm := (hl m hm).2 (f2 n m hn hm ln (meta_refs hm z y))
    rw [kk m lm.1]
    exact f4 n m hn hm ln z y
  · intro n hn
    obtain ⟨⟨r1, r2⟩, r3, r4, r5, r6⟩ := h5.1 n hn
    rw [g2, g3, g6, csweep_g C 4 (by decide) (by decide) (by decide) (by decide) (by decide), csweep_g C 5 (by decide) (by decide) (by decide) (by decide) (by decide), csweep_g C 7 (by decide) (by decide) (by decide) (by decide) (by decide), csweep_2, msweep_1 M 6 (by decide) (by decide) (by decide) (by decide) (by decide), msweep_1 M 7 (by decide) (by decide) (by decide) (by decide) (by decide), msweep_1 M 8 (by decide) (by decide) (by decide) (by decide) (by decide), msweep_1 M 9 (by decide) (by decide) (by decide) (by decide) (by decide), msweep_1 M 10 (by decide) (by decide) (by decide) (by decide) (by decide), msweep_1 M 11 (by decide) (by decide) (by decide) (by decide) (by decide), msweep_2]
    refine ⟨⟨?_, ?_⟩, fun z => r3 ?_, fun z => r4 ?_, fun z => r5 ?_, r6⟩
    · rw [a0, b4]
      simp only
      split
      · rfl
      · exact r1
    · rw [a1, b5]
      simp only
      split
      · rfl
      · exact r2
    · rw [kk n (by rw [z]; decide)] at z; exact z
    · rw [kk n (by rw [z]; decide)] at z; exact z
    · rw [kk n (by rw [z]; decide)] at z; exact z
  · obtain ⟨g0, p1, p2, p3, p4, p5, p6, p7⟩ := h5.2.1
    unfold Rg
    rw [csweep_2, msweep_2, a13, b14, a14, b15, a16, b17, csweep_g C 15 (by decide) (by decide) (by decide) (by decide) (by decide), csweep_g C 17 (by decide) (by decide) (by decide) (by decide) (by decide), csweep_g C 18 (by decide) (by decide) (by decide) (by decide) (by decide), csweep_g C 20 (by decide) (by decide) (by decide) (by decide) (by decide), msweep_1 M 16 (by decide) (by decide) (by decide) (by decide) (by decide), msweep_1 M 18 (by decide) (by decide) (by decide) (by decide) (by decide), msweep_1 M 19 (by decide) (by decide) (by decide) (by decide) (by decide), msweep_1 M 20 (by decide) (by decide) (by decide) (by decide) (by decide), ← p1, ← p4]
    exact ⟨g0, rfl, rfl, p3, rfl, p5, p6, p7⟩
  · unfold Ri
    rw [csweep_g C 9 (by decide) (by decide) (by decide) (by decide) (by decide), csweep_g C 10 (by decide) (by decide) (by decide) (by decide) (by decide), csweep_g C 11 (by decide) (by decide) (by decide) (by decide) (by decide), csweep_g C 12 (by decide) (by decide) (by decide) (by decide) (by decide), msweep_1 M 0 (by decide) (by decide) (by decide) (by decide) (by decide), msweep_1 M 1 (by decide) (by decide) (by decide) (by decide) (by decide), msweep_1 M 2 (by decide) (by decide) (by decide) (by decide) (by decide), msweep_1 M 3 (by decide) (by decide) (by decide) (by decide) (by decide)]
    exact h5.2.2
  · obtain ⟨s1, s2, s3, s4, s5, s6⟩ := s
    unfold Stk
    rw [csweep_g C 19 (by decide) (by decide) (by decide) (by decide) (by decide), msweep_1 M 12 (by decide) (by decide) (by decide) (by decide) (by decide), msweep_1 M 13 (by decide) (by decide) (by decide) (by decide) (by decide), csweep_2]
    refine ⟨s1, s2, s3, fun j hj => ?_, s5, fun n hn z => s6 n hn ((ca n hn).1 z)⟩
    obtain ⟨t1, t2, t3, t4⟩ := s4 j hj
    exact ⟨t1, t2, t3, (ca _ t1).2 t4⟩
  · rw [a16, bw]
    split
    · rfl
    · rw [Int32.add_zero]
theorem unit1_all {C M : CS} {d : Nat} {a : Nat → Nat} (h : HH C M) (s : Stk C M d a) : HH (cunit1 C) (munit1 M).2 ∧ Stk (cunit1 C) (munit1 M).2 d a ∧ (cunit1 C).1 16 0 = C.1 16 0 + (munit1 M).1 := by
  rcases h.2.2.1.2.1.1 with z | z | z
  · exact start_all h s z
  · exact mark_all h s z
  · exact sweep_all h s z
theorem unit_all {C M : CS} {d : Nat} {a : Nat → Nat} (h : HH C M) (s : Stk C M d a) : HH (cunit C) (munit M).2 ∧ Stk (cunit C) (munit M).2 d a ∧ (cunit C).1 16 0 = C.1 16 0 + (munit M).1 := by
  rw [cunit_1, munit_1]
  have e : C.1 17 0 + 1 = M.1 19 0 + 1 := by rw [h.2.2.2.2.2.1.2.2.2.2.2.1]
  rw [e]
  have h' := HH_cnt (f := 17) (g := 19) (v := M.1 19 0 + 1) (.inl ⟨rfl, rfl⟩) h
  have s' : Stk (sI C 17 0 (M.1 19 0 + 1)) (sI M 19 0 (M.1 19 0 + 1)) d a := Stk_of (sI_f (by decide)) (sI_f (by decide)) (sI_f (by decide)) rfl (sI_f (by decide)) (sI_f (by decide)) s
  obtain ⟨u1, u2, u3⟩ := unit1_all h' s'
  exact ⟨u1, u2, by rw [u3, sI_e (by decide)]⟩
theorem while_all {d : Nat} {a : Nat → Nat} : ∀ (c : Nat) (x : Int32) (C M : CS), HH C M → Stk C M d a → HH (cwhile c C) (mwhile c x M).2 ∧ Stk (cwhile c C) (mwhile c x M).2 d a ∧ (cwhile c C).1 16 0 + x = C.1 16 0 + (mwhile c x M).1
  | 0, x, C, M, h, s => ⟨h, s, rfl⟩
  | c + 1, x, C, M, h, s => by
    have e : C.1 13 0 = M.1 14 0 := h.2.2.2.2.2.1.2.1
    unfold cwhile mwhile
    by_cases z : C.1 13 0 = 0
    · rw [if_pos z, if_pos (by rw [← e]; exact z)]
      exact ⟨h, s, rfl⟩
    · rw [if_neg z, if_neg (by rw [← e]; exact z)]
      obtain ⟨u1, u2, u3⟩ := unit_all h s
      obtain ⟨w1, w2, w3⟩ := while_all c (x + (munit M).1) (cunit C) (munit M).2 u1 u2
      refine ⟨w1, w2, ?_⟩
      rw [u3] at w3
      generalize (cwhile c (cunit C)).1 16 0 = P at w3 ⊢
      generalize (mwhile c (x + (munit M).1) (munit M).2).1 = Q at w3 ⊢
      generalize (munit M).1 = W at w3 ⊢
      generalize C.1 16 0 = G at w3 ⊢
      grind
theorem mwhile_end : ∀ (c : Nat) (x : Int32) (M : CS), okM M → mu M ≤ c → (mwhile c x M).2.1 14 0 = 0
  | 0, x, M, h, z => mu_0 (M := M) h (Nat.le_zero.1 z)
  | c + 1, x, M, h, z => by
    unfold mwhile
    by_cases y : M.1 14 0 = 0
    · rw [if_pos y]; exact y
    · rw [if_neg y]
      exact mwhile_end c _ _ (okM_unit h) (by have := mu_unit h y; omega)
theorem full_all {C M : CS} {d : Nat} {a : Nat → Nat} (h : HH C M) (s : Stk C M d a) : HH (cfull C) (mwhole M).2 ∧ Stk (cfull C) (mwhole M).2 d a ∧ (cfull C).1 16 0 = C.1 16 0 + (mwhole M).1 ∧ (cfull C).1 13 0 = 0 := by
  have e : C.1 18 0 + 1 = M.1 20 0 + 1 := by rw [h.2.2.2.2.2.1.2.2.2.2.2.2.1]
  have h' := HH_cnt (f := 18) (g := 20) (v := M.1 20 0 + 1) (.inr (.inl ⟨rfl, rfl⟩)) h
  have s' : Stk (sI C 18 0 (M.1 20 0 + 1)) (sI M 20 0 (M.1 20 0 + 1)) d a := Stk_of (sI_f (by decide)) (sI_f (by decide)) (sI_f (by decide)) rfl (sI_f (by decide)) (sI_f (by decide)) s
  obtain ⟨w1, w2, w3⟩ := while_all 1000 0 _ _ h' s'
  obtain ⟨u1, u2, u3⟩ := unit_all w1 w2
  obtain ⟨v1, v2, v3⟩ := while_all 1000 ((mwhile 1000 0 (sI M 20 0 (M.1 20 0 + 1))).1 + (munit (mwhile 1000 0 (sI M 20 0 (M.1 20 0 + 1))).2).1) _ _ u1 u2
  unfold cfull mwhole
  rw [e]
  refine ⟨v1, v2, ?_, ?_⟩
  · show (cwhile 1000 (cunit (cwhile 1000 (sI C 18 0 (M.1 20 0 + 1))))).1 16 0 = C.1 16 0 + (mwhile 1000 ((mwhile 1000 0 (sI M 20 0 (M.1 20 0 + 1))).1 + (munit (mwhile 1000 0 (sI M 20 0 (M.1 20 0 + 1))).2).1) (munit (mwhile 1000 0 (sI M 20 0 (M.1 20 0 + 1))).2).2).1
    rw [u3] at v3
    rw [sI_e (by decide)] at w3
    generalize (mwhile 1000 ((mwhile 1000 0 (sI M 20 0 (M.1 20 0 + 1))).1 + (munit (mwhile 1000 0 (sI M 20 0 (M.1 20 0 + 1))).2).1) (munit (mwhile 1000 0 (sI M 20 0 (M.1 20 0 + 1))).2).2).1 = R at v3 ⊢
    generalize (cwhile 1000 (cunit (cwhile 1000 (sI C 18 0 (M.1 20 0 + 1))))).1 16 0 = T at v3 ⊢
    generalize (munit (mwhile 1000 0 (sI M 20 0 (M.1 20 0 + 1))).2).1 = W at v3 ⊢
    generalize (mwhile 1000 0 (sI M 20 0 (M.1 20 0 + 1))).1 = X at v3 w3 ⊢
    generalize (cwhile 1000 (sI C 18 0 (M.1 20 0 + 1))).1 16 0 = Y at v3 w3 ⊢
    generalize C.1 16 0 = G at w3 ⊢
    grind
  · have := mwhile_end 1000 ((mwhile 1000 0 (sI M 20 0 (M.1 20 0 + 1))).1 + (munit (mwhile 1000 0 (sI M 20 0 (M.1 20 0 + 1))).2).1) (munit (mwhile 1000 0 (sI M 20 0 (M.1 20 0 + 1))).2).2 u1.2.1 (by have := mu_50 (munit (mwhile 1000 0 (sI M 20 0 (M.1 20 0 + 1))).2).2; omega)
    rw [← v1.2.2.2.2.2.1.2.1] at this
    exact this
/-! what a UNIT leaves as it was -/
theorem cunit_e {C : CS} {f : Nat} (hf : f ≠ 0 ∧ f ≠ 1 ∧ f ≠ 13 ∧ f ≠ 14 ∧ f ≠ 16 ∧ f ≠ 17) : (cunit C).1 f = C.1 f := by
  obtain ⟨f0, f1, f13, f14, f16, f17⟩ := hf
  rw [cunit_1]
  have e : (sI C 17 0 (C.1 17 0 + 1)).1 f = C.1 f := sI_f f17
  generalize sI C 17 0 (C.1 17 0 + 1) = D at e
  rw [← e]
  unfold cunit1
  split
  · exact csweep_g D f f0 f1 f13 f14 f16
  · split
    · exact eq1_fn (eq1_blacken D _) f f1
    · rw [sI_f f13]; exact eq1_fn (eq1_roots D) f f1
theorem cunit_2 {C : CS} : (cunit C).2 = C.2 := by
  rw [cunit_1]
  show (cunit1 (sI C 17 0 (C.1 17 0 + 1))).2 = (sI C 17 0 (C.1 17 0 + 1)).2
  generalize sI C 17 0 (C.1 17 0 + 1) = D
  unfold cunit1
  split
  · exact csweep_2 D
  · split
    · exact cblacken_2 D _
    · exact cshadeRoots_2 D
theorem cwhile_e {f : Nat} (hf : f ≠ 0 ∧ f ≠ 1 ∧ f ≠ 13 ∧ f ≠ 14 ∧ f ≠ 16 ∧ f ≠ 17) : ∀ (c : Nat) (C : CS), (cwhile c C).1 f = C.1 f ∧ (cwhile c C).2 = C.2
  | 0, _ => ⟨rfl, rfl⟩
  | c + 1, C => by
    unfold cwhile
    split
    · exact ⟨rfl, rfl⟩
    · obtain ⟨h1, h2⟩ := cwhile_e hf c (cunit C)
      exact ⟨h1.trans (cunit_e hf), h2.trans cunit_2⟩
theorem cfull_e {C : CS} {f : Nat} (hf : f ≠ 0 ∧ f ≠ 1 ∧ f ≠ 13 ∧ f ≠ 14 ∧ f ≠ 16 ∧ f ≠ 17) (h18 : f ≠ 18) : (cfull C).1 f = C.1 f := by
  unfold cfull
  rw [(cwhile_e hf _ _).1, cunit_e hf, (cwhile_e hf _ _).1, sI_f h18]
theorem cfull_2 {C : CS} : (cfull C).2 = C.2 := by
  unfold cfull
  rw [(cwhile_e (f := 2) (by decide) _ _).2, cunit_2, (cwhile_e (f := 2) (by decide) _ _).2]
  rfl
theorem mwhile_e {g b : Nat} (hg : g ≠ 4 ∧ g ≠ 5 ∧ g ≠ 14 ∧ g ≠ 15 ∧ g ≠ 17 ∧ g ≠ 19) : ∀ (c : Nat) (x : Int32) (M : CS), (mwhile c x M).2.1 g b = M.1 g b
  | 0, _, _ => rfl
  | c + 1, x, M => by
    unfold mwhile
    split
    · rfl
    · rw [mwhile_e hg c]; exact munit_e hg
theorem mwhole_e {M : CS} {g b : Nat} (hg : g ≠ 4 ∧ g ≠ 5 ∧ g ≠ 14 ∧ g ≠ 15 ∧ g ≠ 17 ∧ g ≠ 19) (h20 : g ≠ 20) : (mwhole M).2.1 g b = M.1 g b := by
  unfold mwhole
  simp only
  rw [mwhile_e hg, munit_e hg, mwhile_e hg, sI_e h20]
end

-- part 74.findR
section
/-! GETTING and the like on both sides -/
theorem HH_kind {C M : CS} {n : Nat} (h : HH C M) (hn : n < 16) : C.1 0 n = M.1 4 n := (h.2.2.2.2.1 n hn).1.1
theorem find_eq {C M : CS} {n : Nat} {key : Int64} (h : HH C M) (hn : n < 16) (hk : C.1 0 n = 1) : tfind C n key = mpair M n key ∧ ∃ P, P ≤ 6 ∧ C.1 2 n = nI P ∧ M.1 6 n = nI P ∧ cPairs C n = P ∧ mSize M n = P := by
  obtain ⟨⟨r1, r2⟩, r3, r4, r5, r6⟩ := h.2.2.2.2.1 n hn
  obtain ⟨⟨P, hP, hP2⟩, -⟩ := h.1.1 n hn
  have e6 : M.1 6 n = nI P := by rw [← (r3 hk).1]; exact hP2
  have eP : cPairs C n = P := cPairs_eq hP2 hP
  have eQ : mSize M n = P := mSize_eq e6 hP
  refine ⟨?_, P, hP, hP2, e6, eP, eQ⟩
  unfold tfind mpair
  rw [eP, eQ]
  exact lst_congr P 0 (fun j _ hj => by rw [(r6 j (by omega)).1])
theorem isA_mOf {C M : CS} {v : Int64} {k : Int32} (h : HH C M) (hv : okV v) : mOf M k v = if isA C k v = true then some (on v) else none := by
  unfold mOf isA
  by_cases z : v < 10000000000
  · simp [z]
  · have := HH_kind h (okV_on hv z).1
    simp [z, this]
theorem lv_refs {C : CS} (h : Safe C) {n : Nat} (hn : n < 16) (l : live C n) (hk : C.1 0 n = 1) {j : Nat} (hj : j < cPairs C n) : lv C (C.2.1 1 n j) ∧ lv C (C.2.1 2 n j) := by
  have n2 : ¬ C.1 0 n = 2 := by rw [hk]; decide
  exact ⟨fun m hm e => h.2.1 n m hn hm l (.inr ⟨n2, .inl ⟨j, hj, .inl e⟩⟩), fun m hm e => h.2.1 n m hn hm l (.inr ⟨n2, .inl ⟨j, hj, .inr e⟩⟩)⟩
theorem lv_on {C : CS} {v : Int64} (hv : okV v) (l : lv C v) {k : Int32} (ha : isA C k v = true) : on v < 16 ∧ live C (on v) ∧ C.1 0 (on v) = k := by
  obtain ⟨h1, h2, h3, h4⟩ := isA_on hv ha
  exact ⟨h1, l _ h1 (okV_on hv h4).2.1, h3⟩
theorem linked_eq {C M : CS} {n : Nat} {link : Int64} (h : HH C M) (hn : n < 16) (hk : C.1 0 n = 1) (l : live C n) : tlinked C (C.1 3 n) link = mnext M n link ∧ ∀ m, tlinked C (C.1 3 n) link = some m → m < 16 ∧ live C m ∧ C.1 0 m = 1 := by
  obtain ⟨⟨r1, r2⟩, r3, r4, r5, r6⟩ := h.2.2.2.2.1 n hn
  obtain ⟨-, hM, -⟩ := h.1.1 n hn
  have e7 := (r3 hk).2
  unfold mnext
  rw [← e7]
  rcases hM with z | ⟨q, hq, z⟩
  · rw [z, tlinked_m1, if_pos (by decide)]
    exact ⟨rfl, fun m y => by cases y⟩
  · have kq := h.2.2.2.1.2.2.2 n q hn hq l hk z
    have lq : live C q := h.2.2.2.1.2.1 n q hn hq l (meta_refs hq hk z)
    rw [z, tlinked_nI hq, if_neg (nI_pos (by omega)), nI_clamp (by omega)]
    obtain ⟨e, P, hP, hP2, -, eP, -⟩ := find_eq (key := link) h hq kq
    rw [← e]
    cases hf : tfind C q link with
    | none => exact ⟨rfl, fun m y => by cases y⟩
    | some j =>
      have hj := tfind_lt hP2 hP hf
      have ev := ((h.2.2.2.2.1 q hq).2.2.2.2 j (by omega)).2
      simp only
      rw [← ev, isA_mOf h (h.1.2.1 _ _ _)]
      refine ⟨rfl, fun m y => ?_⟩
      split at y
      · rename_i ha
        cases y
        exact lv_on (h.1.2.1 _ _ _) (lv_refs h.2.2.2.1 hq lq kq (by omega)).2 ha
      · cases y
theorem last_eq {C M : CS} {key link : Int64} (h : HH C M) : ∀ (c n : Nat), n < 16 → C.1 0 n = 1 → live C n → ∀ q, tlast C key link c n = some q → q < 16 ∧ C.1 0 q = 1 ∧ live C q
  | 0, _, _, _, _, q, z => by cases z
  | c + 1, n, hn, hk, l, q, z => by
    unfold tlast at z
    split at z
    · cases z; exact ⟨hn, hk, l⟩
    · rename_i m hm
      split at hm
      · cases hm
      · obtain ⟨a1, a2, a3⟩ := (linked_eq h hn hk l).2 m hm
        exact last_eq h c m a1 a3 a2 q z
theorem set_eq {C M : CS} {key : Int64} (h : HH C M) : ∀ (c n : Nat), n < 16 → C.1 0 n = 1 → live C n → msetAt M key c n = tlast C key 1 c n
  | 0, _, _, _, _ => rfl
  | c + 1, n, hn, hk, l => by
    unfold tlast msetAt
    rw [← (find_eq (key := key) h hn hk).1]
    by_cases z : (tfind C n key).isSome = true
    · rw [if_pos z, if_pos z]
    · rw [if_neg z, if_neg z]
      obtain ⟨a, b⟩ := linked_eq (link := 1) h hn hk l
      rw [← a]
      cases hl : tlinked C (C.1 3 n) 1 with
      | none => rfl
      | some m =>
        obtain ⟨b1, b2, b3⟩ := b m hl
        exact set_eq h c m b1 b3 b2
def fval (C : CS) (q : Nat) (key : Int64) : Int64 := match tfind C q key with
  | none => -1000000000000
  | some j => C.2.1 2 q j
theorem get_eq {C M : CS} {key : Int64} (h : HH C M) (hkey : ¬ key = -1000000000000) : ∀ (c n : Nat), n < 16 → C.1 0 n = 1 → live C n → mgetting M key c n = match tlast C key 0 c n with
    | none => (-1000000000000, sI M 22 0 2)
    | some q => (fval C q key, M)
  | 0, _, _, _, _ => rfl
  | c + 1, n, hn, hk, l => by
    unfold tlast mgetting
    rw [if_neg hkey]
    obtain ⟨e, P, hP, hP2, -, eP, -⟩ := find_eq (key := key) h hn hk
    rw [← e]
    cases hf : tfind C n key with
    | some j =>
      have hj := tfind_lt hP2 hP hf
      have ev := ((h.2.2.2.2.1 n hn).2.2.2.2 j (by omega)).2
      simp only [Option.isSome_some, if_true, fval, hf]
      rw [ev]
    | none =>
      obtain ⟨a, b⟩ := linked_eq (link := 0) h hn hk l
      rw [← a]
      simp only [Option.isSome_none, Bool.false_eq_true, if_false]
      cases hl : tlinked C (C.1 3 n) 0 with
      | none => simp only [fval, hf]
      | some m =>
        obtain ⟨b1, b2, b3⟩ := b m hl
        exact get_eq h hkey c m b1 b3 b2
theorem sJ_over {C : CS} {f n i : Nat} {v w : Int64} : sJ (sJ C f n i v) f n i w = sJ C f n i w := by
  unfold sJ
  refine Prod.ext rfl (Prod.ext ?_ rfl)
  funext a b c
  show (if a = f ∧ b = n ∧ c = i then w else if a = f ∧ b = n ∧ c = i then v else C.2.1 a b c) = if a = f ∧ b = n ∧ c = i then w else C.2.1 a b c
  split <;> rfl
theorem lv_nil {C : CS} : lv C (-1000000000000) := fun m hm e => absurd e (by
  have : ∀ m, m < 16 → ¬ (-1000000000000 : Int64) = oV m := by decide
  exact this m hm)
theorem fval_ok {C : CS} {q : Nat} {key : Int64} (hok : okC C) (hs : Safe C) (hq : q < 16) (hk : C.1 0 q = 1) (l : live C q) : okV (fval C q key) ∧ lv C (fval C q key) := by
  unfold fval
  obtain ⟨⟨P, hP, hP2⟩, -⟩ := hok.1 q hq
  cases hf : tfind C q key with
  | none => exact ⟨okV_nil, lv_nil⟩
  | some j =>
    have hj := tfind_lt hP2 hP hf
    exact ⟨hok.2.1 _ _ _, (lv_refs hs hq l hk (by rw [cPairs_eq hP2 hP]; exact hj)).2⟩
theorem getting_all {C M : CS} {t k : Int64} (h : HH C M) (ht : okV t) (lt : lv C t) (ha : isA C 1 t = true) : (∃ v, okV v ∧ lv C v ∧ cgetting C t k = (0, sJ C 4 0 0 v) ∧ mgetting M k 5 (on t) = (v, M)) ∨ (cgetting C t k = (2, sJ C 4 0 0 (-1000000000000)) ∧ mgetting M k 5 (on t) = (-1000000000000, sI M 22 0 2)) := by
  obtain ⟨a1, a2, a3⟩ := lv_on ht lt ha
  unfold cgetting
  rw [if_pos ha]
  simp only
  by_cases z : k = -1000000000000
  · rw [if_pos z]
    refine .inl ⟨_, okV_nil, lv_nil, rfl, ?_⟩
    unfold mgetting
    rw [if_pos z]
  · rw [if_neg z]
    have h' : HH (sJ C 4 0 0 (-1000000000000)) M := HH_CJ (.inl rfl) okV_nil h
    have hl : live (sJ C 4 0 0 (-1000000000000)) = live C := live_fn rfl rfl rfl rfl
    have g := get_eq (key := k) h' z 5 (on t) a1 a3 (by rw [hl]; exact a2)
    cases hq : tlast (sJ C 4 0 0 (-1000000000000)) k 0 5 (on t) with
    | none =>
      rw [hq] at g
      exact .inr ⟨rfl, g⟩
    | some q =>
      rw [hq] at g
      simp only at g ⊢
      obtain ⟨b1, b2, b3⟩ := last_eq h' 5 (on t) a1 a3 (by rw [hl]; exact a2) q hq
      obtain ⟨f1, f2⟩ := fval_ok (key := k) h'.1 h'.2.2.2.1 b1 b2 b3
      refine .inl ⟨fval (sJ C 4 0 0 (-1000000000000)) q k, f1, fun m hm e => ?_, ?_, g⟩
      · have := f2 m hm e
        rw [hl] at this
        exact this
      · unfold fval
        cases tfind (sJ C 4 0 0 (-1000000000000)) q k with
        | none => rfl
        | some j => simp only; rw [sJ_over]
theorem follow_all {C M : CS} {t k : Int64} (h : HH C M) (ht : okV t) (lt : lv C t) (ha : isA C 1 t = true) : (∃ v, okV v ∧ lv C v ∧ ckeyAfter C t k = (0, sJ C 4 0 0 v) ∧ mfollow M (on t) k = (v, M)) ∨ (ckeyAfter C t k = (1, C) ∧ mfollow M (on t) k = (-1000000000000, sI M 22 0 3)) := by
  obtain ⟨a1, a2, a3⟩ := lv_on ht lt ha
  obtain ⟨e, P, hP, hP2, -, eP, eQ⟩ := find_eq (key := k) h a1 a3
  have r6 := (h.2.2.2.2.1 (on t) a1).2.2.2.2
  unfold ckeyAfter mfollow
  rw [if_pos ha, eP, eQ, ← e]
  by_cases z : k = -1000000000000
  · rw [if_pos z, if_pos z]
    by_cases y : 0 < P
    · rw [if_pos y, if_pos y]
      exact .inl ⟨_, h.1.2.1 _ _ _, (lv_refs h.2.2.2.1 a1 a2 a3 (by omega)).1, rfl, by rw [(r6 0 (by omega)).1]; rfl⟩
    · rw [if_neg y, if_neg y]
      exact .inl ⟨_, okV_nil, lv_nil, rfl, rfl⟩
  · rw [if_neg z, if_neg z]
    cases hf : tfind C (on t) k with
    | none => exact .inr ⟨rfl, rfl⟩
    | some j =>
      simp only
      by_cases y : j + 1 < P
      · rw [if_pos y, if_pos y]
        exact .inl ⟨_, h.1.2.1 _ _ _, (lv_refs h.2.2.2.1 a1 a2 a3 (by omega)).1, rfl, by rw [(r6 (j + 1) (by omega)).1]; rfl⟩
      · rw [if_neg y, if_neg y]
        exact .inl ⟨_, okV_nil, lv_nil, rfl, rfl⟩
theorem okV_i (x : Int32) : okV x.toInt64 ∧ ∀ C, lv C x.toInt64 := by
  have h1 : x.toInt64 < 10000000000 := by
    rw [Int64.lt_iff_toInt_lt, Int32.toInt_toInt64]
    have := (fm_rng x).2
    have e : (10000000000 : Int64).toInt = 10000000000 := by decide
    rw [e]; omega
  exact ⟨.inl h1, fun C m hm e => absurd h1 (by rw [e]; exact oV_ge m hm)⟩
theorem many_all {C M : CS} {t : Int64} (h : HH C M) (ht : okV t) (lt : lv C t) (ha : isA C 1 t = true) : chowMany C t = (0, sJ C 4 0 0 (M.1 6 (on t)).toInt64) := by
  obtain ⟨a1, a2, a3⟩ := lv_on ht lt ha
  unfold chowMany
  rw [if_pos ha, ((h.2.2.2.2.1 (on t) a1).2.1 a3).1]
end

-- part 75.setR
section
/-! SETTING, META on both sides -/
theorem touch_1 {C M : CS} (r : Rel C M) {n : Nat} (hn : n < 16) : Rel (ctouch C n) (mtouch M n) := by
  have e1 : eq1 (ctouch C n) C := ⟨ctouch_2, fun f hf b => ctouch_o hf⟩
  have e5 : eq5 (mtouch M n) M := ⟨mtouch_2, fun f hf b => mtouch_1 hf⟩
  refine Rel_col r e1 e5 (fun b hb => ?_)
  have hc := (r.1 b hb).1.2
  have hcn := (r.1 n hn).1.2
  have hp := r.2.1.2.1
  unfold ctouch mtouch
  rw [← hp, ← hcn]
  split
  · rw [sI_1, sI_1]
    by_cases z : b = n
    · rw [if_pos ⟨rfl, z⟩, if_pos ⟨rfl, z⟩]
    · rw [if_neg (fun y => z y.2), if_neg (fun y => z y.2)]; exact hc
  · exact hc
theorem ctouch_col {C : CS} {n b : Nat} : (ctouch C n).1 1 b = C.1 1 b ∨ (C.1 13 0 = 1 ∧ C.1 1 b = 2 ∧ (ctouch C n).1 1 b = 1) := by
  unfold ctouch
  split
  · rename_i z
    rw [sI_1]
    by_cases y : b = n
    · subst y; rw [if_pos ⟨rfl, rfl⟩]; exact .inr ⟨z.1, z.2, rfl⟩
    · rw [if_neg (fun w => y w.2)]; exact .inl rfl
  · exact .inl rfl
theorem ctouch_n {C : CS} {n : Nat} (hp : C.1 13 0 = 1) : ¬ (ctouch C n).1 1 n = 2 := by
  unfold ctouch
  split
  · rw [sI_self]; decide
  · rename_i z
    exact fun y => z ⟨hp, y⟩
theorem live_touch {C : CS} {n m : Nat} : live (ctouch C n) m ↔ live C m := by
  unfold live cSw
  rw [ctouch_o (f := 0) (by decide), ctouch_o (f := 13) (by decide), ctouch_o (f := 14) (by decide)]
  rcases ctouch_col (C := C) (n := n) (b := m) with z | ⟨z, y, w⟩
  · rw [z]
  · rw [z]
    exact ⟨fun q => ⟨q.1, fun p => absurd p (by decide)⟩, fun q => ⟨q.1, fun p => absurd p (by decide)⟩⟩
theorem Sm_touch {C : CS} {n : Nat} (h : Sm C) : Sm (ctouch C n) := by
  unfold ctouch
  split
  · rename_i z
    have p2 : ¬ C.1 13 0 = 2 := by rw [z.1]; decide
    refine Sm_col h ⟨rfl, fun f hf b => sI_e hf⟩ p2 (fun b hb => ?_) (fun y => absurd (z.1.symm.trans y) (by decide))
    obtain ⟨-, k2, k3, -⟩ := h.1 b hb
    rw [sI_1]
    by_cases y : b = n
    · rw [if_pos ⟨rfl, y⟩]
      refine ⟨.inr (.inl rfl), fun w => ?_⟩
      have := k3 w
      rw [y, z.2] at this
      exact absurd this (by decide)
    · rw [if_neg (fun w => y w.2)]
      exact ⟨k2, k3⟩
  · exact h
theorem HH_tab {C C1 M M1 : CS} {n : Nat} (h : HH C M) (hn : n < 16) (i1 : ∀ f, f ≠ 2 → f ≠ 3 → C1.1 f = C.1 f) (i2 : ∀ f b, b ≠ n → C1.1 f b = C.1 f b) (j1 : ∀ f, f ≠ 1 → f ≠ 2 → C1.2.1 f = C.2.1 f) (j2 : ∀ f b, b ≠ n → C1.2.1 f b = C.2.1 f b) (o1 : okC C1) (o2 : okM M1) (r : Rel C1 M1)
    (hl : live C n → ∀ m, m < 16 → refsC C1 n m → live C m) (hm : live C n → C.1 0 n = 1 → ∀ m, m < 16 → C1.1 3 n = nI m → C.1 0 m = 1) : HH (ctouch C1 n) (mtouch M1 n) := by
  obtain ⟨h1, h2, hm', ⟨f1, f2, f3, f4⟩, h5⟩ := h
  have hsm : Sm C1 := Sm_fn (i1 0 (by decide) (by decide)) (i1 1 (by decide) (by decide)) (i1 6 (by decide) (by decide)) (i1 9 (by decide) (by decide)) (i1 13 (by decide) (by decide)) (i1 14 (by decide) (by decide)) (i1 15 (by decide) (by decide)) (i1 16 (by decide) (by decide)) hm'
  have e1 : eq1 (ctouch C1 n) C1 := ⟨ctouch_2, fun f hf b => ctouch_o hf⟩
  have e5 : eq5 (mtouch M1 n) M1 := ⟨mtouch_2, fun f hf b => mtouch_1 hf⟩
  have f := eq1_fn e1
  have hlive : ∀ m, live (ctouch C1 n) m ↔ live C m := fun m => by rw [live_touch, live_fn (i1 0 (by decide) (by decide)) (i1 1 (by decide) (by decide)) (i1 13 (by decide) (by decide)) (i1 14 (by decide) (by decide))]
  have hroots : rootsC (ctouch C1 n) = rootsC C := rootsC_fn (by rw [f 0 (by decide), i1 0 (by decide) (by decide)]) (by rw [f 6 (by decide), i1 6 (by decide) (by decide)]) (by rw [e1.1, j1 0 (by decide) (by decide)]) (by rw [e1.1, j1 3 (by decide) (by decide)])
  have hrefs : refsC (ctouch C1 n) = refsC C1 := refsC_fn (f 0 (by decide)) (f 2 (by decide)) (f 3 (by decide)) (by rw [e1.1]) (by rw [e1.1]) (by rw [e1.1])
  have hro : ∀ j m, j ≠ n → (refsC C1 j m ↔ refsC C j m) := fun j m hj => by
    unfold refsC cPairs
    rw [i2 0 j hj, i2 2 j hj, i2 3 j hj, j2 1 j hj, j2 2 j hj, j2 3 j hj]
  have k0 : (ctouch C1 n).1 0 = C.1 0 := by rw [f 0 (by decide), i1 0 (by decide) (by decide)]
  refine ⟨okC_col o1 e1, okM_eq5 e5 o2, Sm_touch hsm, ⟨?_, ?_, ?_, ?_⟩, touch_1 r hn⟩
  · rw [hroots]
    exact fun m hm z => (hlive m).2 (f1 m hm z)
  · rw [hrefs]
    intro j m hj hmm l z
    have l' := (hlive j).1 l
    refine (hlive m).2 ?_
    by_cases q : j = n
    · subst q; exact hl l' m hmm z
    · exact f2 j m hj hmm l' ((hro j m q).1 z)
  · rw [hrefs, f 13 (by decide), i1 13 (by decide) (by decide)]
    intro hp j m hj hm z y
    have hp1 : C1.1 13 0 = 1 := by rw [i1 13 (by decide) (by decide)]; exact hp
    have q : j ≠ n := fun q => by subst q; exact ctouch_n hp1 z
    have z2 : C.1 1 j = 2 := by
      rcases ctouch_col (C := C1) (n := n) (b := j) with w | ⟨-, w, -⟩
      · rw [w, i1 1 (by decide) (by decide)] at z; exact z
      · rw [i1 1 (by decide) (by decide)] at w; exact w
    have := f3 hp j m hj hm z2 ((hro j m q).1 y)
    rcases ctouch_col (C := C1) (n := n) (b := m) with w | ⟨-, -, w⟩
    · rw [w, i1 1 (by decide) (by decide)]; exact this
    · rw [w]; decide
  · intro j m hj hm' l z y
    rw [k0] at z ⊢
    rw [f 3 (by decide)] at y
    have l' := (hlive j).1 l
    by_cases q : j = n
    · subst q; exact hm l' z m hm' y
    · rw [i2 3 j q] at y
      exact f4 j m hj hm' l' z y
/-- what setting and the like leave as it was -/
def tkeep (C' C M' M : CS) : Prop := (∀ f, f ≠ 1 → f ≠ 2 → f ≠ 3 → C'.1 f = C.1 f) ∧ C'.2.2 = C.2.2 ∧ (∀ f, f ≠ 5 → f ≠ 6 → f ≠ 7 → f ≠ 22 → M'.1 f = M.1 f) ∧ (C.1 13 0 = 1 → ∀ b, C'.1 1 b = 2 → C.1 1 b = 2)
theorem tkeep_refl (C M : CS) : tkeep C C M M := ⟨fun _ _ _ _ => rfl, rfl, fun _ _ _ _ _ => rfl, fun _ _ z => z⟩
theorem tkeep_22 {C M : CS} {v : Int32} : tkeep C C (sI M 22 0 v) M := ⟨fun _ _ _ _ => rfl, rfl, fun _ _ _ _ h => sI_f h, fun _ _ z => z⟩
theorem tkeep_touch {C C1 M M1 : CS} {n : Nat} (i1 : ∀ f, f ≠ 2 → f ≠ 3 → C1.1 f = C.1 f) (j3 : C1.2.2 = C.2.2) (k1 : ∀ f, f ≠ 6 → f ≠ 7 → M1.1 f = M.1 f) : tkeep (ctouch C1 n) C (mtouch M1 n) M := by
  refine ⟨fun f h1 h2 h3 => ?_, by rw [ctouch_2]; exact j3, fun f h5 h6 h7 h8 => ?_, fun hp b z => ?_⟩
  · rw [← i1 f h2 h3]; exact funext fun b => ctouch_o h1
  · rw [← k1 f h6 h7]; exact funext fun b => mtouch_1 h5
  · rcases ctouch_col (C := C1) (n := n) (b := b) with w | ⟨-, w, -⟩
    · rw [w, i1 1 (by decide) (by decide)] at z; exact z
    · rw [i1 1 (by decide) (by decide)] at w; exact w
theorem Stk_keep {C C' M M' : CS} {d : Nat} {a : Nat → Nat} (k : tkeep C' C M' M) (s : Stk C M d a) : Stk C' M' d a := Stk_of (k.1 0 (by decide) (by decide) (by decide)) (k.1 6 (by decide) (by decide) (by decide)) (k.1 19 (by decide) (by decide) (by decide)) k.2.1 (k.2.2.1 12 (by decide) (by decide) (by decide) (by decide)) (k.2.2.1 13 (by decide) (by decide) (by decide) (by decide)) s
theorem NB_keep {C C' M M' : CS} (k : tkeep C' C M' M) (s : NB C) : NB C' := by
  unfold NB
  rw [k.1 13 (by decide) (by decide) (by decide), cactive_fn (k.1 0 (by decide) (by decide) (by decide)) (k.1 6 (by decide) (by decide) (by decide))]
  exact fun hp n hn z y => s hp n hn z (k.2.2.2 hp n y)
theorem mshift_e {n : Nat} : ∀ (c k : Nat) (M : CS), (mshift n c k M).1 = M.1 ∧ (mshift n c k M).2.2 = M.2.2 ∧ ∀ f b x, (mshift n c k M).2.1 f b x = if (f = 1 ∨ f = 2) ∧ b = 0 ∧ n * 6 + k ≤ x ∧ x < n * 6 + k + c then M.2.1 f b (x + 1) else M.2.1 f b x
  | 0, k, M => ⟨rfl, rfl, fun f b x => by rw [if_neg (by omega)]; rfl⟩
  | c + 1, k, M => by
    obtain ⟨h1, h2, h3⟩ := mshift_e (n := n) c (k + 1) (sJ (sJ M 1 0 (n * 6 + k) (M.2.1 1 0 (n * 6 + k + 1))) 2 0 (n * 6 + k) (M.2.1 2 0 (n * 6 + k + 1)))
    refine ⟨h1, h2, fun f b x => ?_⟩
    show (mshift n c (k + 1) (sJ (sJ M 1 0 (n * 6 + k) (M.2.1 1 0 (n * 6 + k + 1))) 2 0 (n * 6 + k) (M.2.1 2 0 (n * 6 + k + 1)))).2.1 f b x = _
    rw [h3 f b x]
    simp only [sJ_2]
    grind
theorem okC_2 {C : CS} {n p : Nat} (h : okC C) (hp : p ≤ 6) : okC (sI C 2 n (nI p)) := by
  obtain ⟨a, b, c, d⟩ := h
  refine ⟨fun m hm => ?_, b, ?_, ?_⟩
  · obtain ⟨a1, a2⟩ := a m hm
    refine ⟨?_, a2⟩
    rw [sI_1]
    split
    · exact ⟨p, hp, rfl⟩
    · exact a1
  · rw [sI_o (by decide)]; exact c
  · rw [sI_o (by decide)]; exact d
theorem okC_3 {C : CS} {n : Nat} {v : Int32} (h : okC C) (hv : v = -1 ∨ ∃ m, m < 16 ∧ v = nI m) : okC (sI C 3 n v) := by
  obtain ⟨a, b, c, d⟩ := h
  refine ⟨fun m hm => ?_, b, ?_, ?_⟩
  · obtain ⟨a1, a2, a3⟩ := a m hm
    refine ⟨a1, ?_, a3⟩
    rw [sI_1]
    split
    · exact hv
    · exact a2
  · rw [sI_o (by decide)]; exact c
  · rw [sI_o (by decide)]; exact d
theorem okC_R {C : CS} {f n : Nat} {g : Nat → Int64} (h : okC C) (hv : ∀ i, okV (g i)) : okC (sR C f n g) := by
  obtain ⟨a, b, c, d⟩ := h
  refine ⟨a, fun f' n' i' => ?_, c, d⟩
  rw [sR_2]
  split
  · exact hv _
  · exact b _ _ _
theorem okM_6 {M : CS} {n p : Nat} (hp : p ≤ 6) (h : okM M) : okM (sI M 6 n (nI p)) := by
  obtain ⟨h1, h2, h3, h4, h5⟩ := h
  refine ⟨fun m hm => ?_, fun f j => h2 f j, ?_, ?_, fun k hk => ?_⟩
  · obtain ⟨a1, a2⟩ := h1 m hm
    refine ⟨?_, a2⟩
    rw [sI_1]
    split
    · exact ⟨p, hp, rfl⟩
    · exact a1
  · rw [sI_e (by decide)]; exact h3
  · rw [sI_e (by decide)]; exact h4
  · rw [sI_e (by decide)]; exact h5 k hk
theorem okM_7 {M : CS} {n : Nat} {v : Int32} (hv : v = -1 ∨ ∃ m, m < 16 ∧ v = nI m) (h : okM M) : okM (sI M 7 n v) := by
  obtain ⟨h1, h2, h3, h4, h5⟩ := h
  refine ⟨fun m hm => ?_, fun f j => h2 f j, ?_, ?_, fun k hk => ?_⟩
  · obtain ⟨a1, a2, a3⟩ := h1 m hm
    refine ⟨a1, ?_, a3⟩
    rw [sI_1]
    split
    · exact hv
    · exact a2
  · rw [sI_e (by decide)]; exact h3
  · rw [sI_e (by decide)]; exact h4
  · rw [sI_e (by decide)]; exact h5 k hk
end
