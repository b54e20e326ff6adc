set_option maxHeartbeats 4000000 in
set_option maxRecDepth 100000 in
theorem c_Mod_enter {l : Launch} {D : va_G} {u : Nat → ClassId} {ad : Nat → Nat} {M : CS} {v x : Int64} (hok : okM M) (hv : okV v) : Cm l D u ad y_Mod_enter b_Mod_enter 7 none { frames := 2, cells := 0, slots := 0, locals := 45 } [.ref (ad 0), .long v, .long x] (M) (none) (menter M v x) := by
  refine ct_of (by decide) (Nat.le_of_ble_eq_true rfl) ?_
  intro Γ _ _ hN h r
  obtain ⟨d, hd5, hd⟩ := hok.2.2.2.1
  have hdd : mDepth M = d := by unfold mDepth; rw [hd]; exact nI_clamp (by omega)
  refine g_at (L' := [some (.ref (ad 0)), some (.long v), none, some (.long x), none, none, none]) rfl rfl rfl ?_
  refine g_aload_n h d_Mod_enter_0 rfl rfl ?_
  refine g_lload_n h d_Mod_enter_1 rfl rfl ?_
  refine g_dVi h tb_good (c_Mod_coroutineOf hv) (q := 0) (by decide) rfl rfl v_Mod_159 nm_Mod_coroutineOf rfl ⟨rfl, rfl, Nat.le_of_ble_eq_true rfl, Nat.le_of_ble_eq_true rfl, Nat.zero_le _, Nat.zero_le _⟩ rfl (Nat.le_of_ble_eq_true rfl) d_Mod_enter_2 ?_
  rcases hf : mOf M 2 v with _ | n <;> simp only [enc]
  · refine g_istore h d_Mod_enter_5 rfl (by rw [hN]; decide) ?_
    refine g_iload h d_Mod_enter_7 rfl ?_
    refine g_if_lt (tgt := 23) h d_Mod_enter_9 (by decide) (fun c_9 => ?_) (fun c_9 => ?_)
    · refine g_aload_n h d_Mod_enter_23 rfl rfl ?_
      refine g_iconst (v := 3) h d_Mod_enter_24 (by decide) ?_
      refine pf_Mod_trouble h f_Mod_141 d_Mod_enter_25 ?_
      exact g_vret h r d_Mod_enter_28 (⟨rfl, by first | (simp [menter, hf]; done) | (simp [menter, hf, Int32.not_le.mp c_20]; done) | (simp [menter, hf, Int32.not_lt.mpr c_20, c_34]; done) | (simp [menter, hf, Int32.not_lt.mpr c_20, c_34, c_54, hdd, ha2, nI_clamp (show a < 2 ^ 31 by omega)]; done)⟩)
    · exact absurd (by decide) c_9
  · have hn := mOf_lt hv hf
    obtain ⟨a, ha, ha2⟩ := (hok.1 n hn).2.2.2
    refine g_istore h d_Mod_enter_5 rfl (by rw [hN]; decide) ?_
    refine g_iload h d_Mod_enter_7 rfl ?_
    refine g_if_lt (tgt := 23) h d_Mod_enter_9 (by decide) (fun c_9 => ?_) (fun c_9 => ?_)
    · exact absurd c_9 (nI_pos (by omega))
    · refine g_aload_n h d_Mod_enter_12 rfl rfl ?_
      refine gf_Mod_state h f_Mod_53 d_Mod_enter_13 ?_
      refine g_iload h d_Mod_enter_16 rfl ?_
      refine gi_state h rfl hn d_Mod_enter_18 ?_
      refine g_iconst (v := 1) h d_Mod_enter_19 (by decide) ?_
      refine g_icmp_le (tgt := 29) h d_Mod_enter_20 (by decide) (fun c_20 => ?_) (fun c_20 => ?_)
      · refine g_aload_n h d_Mod_enter_29 rfl rfl ?_
        refine gf_Mod_depth h f_Mod_86 d_Mod_enter_30 ?_
        refine g_iconst (v := 5) h d_Mod_enter_33 (by decide) ?_
        refine g_icmp_ne (tgt := 43) h d_Mod_enter_34 (by decide) (fun c_34 => ?_) (fun c_34 => ?_)
        · refine g_iconst (v := 0) h d_Mod_enter_43 (by decide) ?_
          refine g_istore h d_Mod_enter_44 rfl (by rw [hN]; decide) ?_
          refine g_aload_n h d_Mod_enter_46 rfl rfl ?_
          refine gf_Mod_state h f_Mod_53 d_Mod_enter_47 ?_
          refine g_iload h d_Mod_enter_50 rfl ?_
          refine gi_state h rfl hn d_Mod_enter_52 ?_
          refine g_iconst (v := 1) h d_Mod_enter_53 (by decide) ?_
          refine g_icmp_ne (tgt := 66) h d_Mod_enter_54 (by decide) (fun c_54 => ?_) (fun c_54 => ?_)
          · refine g_aload_n h d_Mod_enter_66 rfl rfl ?_
            refine gf_Mod_registers h f_Mod_44 d_Mod_enter_67 ?_
            refine g_iload h d_Mod_enter_70 rfl ?_
            refine g_iconst (v := 4) h d_Mod_enter_72 (by decide) ?_
            refine g_imul h d_Mod_enter_73 ?_
            refine g_iload h d_Mod_enter_74 rfl ?_
            refine g_iadd h d_Mod_enter_76 ?_
            refine g_lload_n h d_Mod_enter_77 rfl rfl ?_
            refine pj_registers h (nI_at4 n 0) (by omega) d_Mod_enter_78 ?_
            refine g_aload_n h d_Mod_enter_79 rfl rfl ?_
            refine g_iload h d_Mod_enter_80 rfl ?_
            refine g_dVv h tb_good (c_Mod_touch hn) (q := 0) (by decide) rfl rfl v_Mod_144 nm_Mod_touch rfl ⟨rfl, rfl, Nat.le_of_ble_eq_true rfl, Nat.le_of_ble_eq_true rfl, Nat.zero_le _, Nat.zero_le _⟩ rfl (Nat.le_of_ble_eq_true rfl) d_Mod_enter_82 ?_
            refine g_aload_n h d_Mod_enter_85 rfl rfl ?_
            refine gf_Mod_state h f_Mod_53 d_Mod_enter_86 ?_
            refine g_iload h d_Mod_enter_89 rfl ?_
            refine g_iconst (v := 2) h d_Mod_enter_91 (by decide) ?_
            refine pi_state h rfl hn d_Mod_enter_92 ?_
            refine g_aload_n h d_Mod_enter_93 rfl rfl ?_
            refine gf_Mod_active h f_Mod_59 d_Mod_enter_94 ?_
            refine g_aload_n h d_Mod_enter_97 rfl rfl ?_
            refine gf_Mod_depth h f_Mod_86 d_Mod_enter_98 ?_
            simp only [sI_1, sI_2, sJ_1, sJ_2, sJ_3, sR_1, sR_2, sR_3, Nat.reduceEqDiff, Nat.zero_ne_one, Nat.one_ne_zero, Nat.succ_ne_zero, reduceCtorEq, false_and, if_false, true_and, and_self, if_true, and_true, and_false, reduceIte, mtouch_13, hd]
            refine g_iload h d_Mod_enter_101 rfl ?_
            refine pi_active h rfl (show d < 6 by omega) d_Mod_enter_103 ?_
            refine g_aload_n h d_Mod_enter_104 rfl rfl ?_
            refine g_dup h d_Mod_enter_105 rfl ?_
            refine gf_Mod_depth h f_Mod_86 d_Mod_enter_106 ?_
            simp only [sI_1, sI_2, sJ_1, sJ_2, sJ_3, sR_1, sR_2, sR_3, Nat.reduceEqDiff, Nat.zero_ne_one, Nat.one_ne_zero, Nat.succ_ne_zero, reduceCtorEq, false_and, if_false, true_and, and_self, if_true, and_true, and_false, reduceIte, mtouch_13]
            refine g_iconst (v := 1) h d_Mod_enter_109 (by decide) ?_
            refine g_iadd h d_Mod_enter_110 ?_
            refine pf_Mod_depth h f_Mod_86 d_Mod_enter_111 ?_
            exact g_vret h r d_Mod_enter_114 (⟨rfl, by first | (simp [menter, hf]; done) | (simp [menter, hf, Int32.not_le.mp c_20]; done) | (simp [menter, hf, Int32.not_lt.mpr c_20, c_34]; done) | (simp [menter, hf, Int32.not_lt.mpr c_20, c_34, c_54, hdd, ha2, nI_clamp (show a < 2 ^ 31 by omega)]; done)⟩)
          · skip
            · refine g_aload_n h d_Mod_enter_57 rfl rfl ?_
              refine gf_Mod_waits h f_Mod_56 d_Mod_enter_58 ?_
              refine g_iload h d_Mod_enter_61 rfl ?_
              refine gi_waits h rfl hn d_Mod_enter_63 ?_
              rw [ha2]
              refine g_istore h d_Mod_enter_64 rfl (by rw [hN]; decide) ?_
              refine g_aload_n h d_Mod_enter_66 rfl rfl ?_
              refine gf_Mod_registers h f_Mod_44 d_Mod_enter_67 ?_
              refine g_iload h d_Mod_enter_70 rfl ?_
              refine g_iconst (v := 4) h d_Mod_enter_72 (by decide) ?_
              refine g_imul h d_Mod_enter_73 ?_
              refine g_iload h d_Mod_enter_74 rfl ?_
              refine g_iadd h d_Mod_enter_76 ?_
              refine g_lload_n h d_Mod_enter_77 rfl rfl ?_
              refine pj_registers h (nI_at4 n a) (by omega) d_Mod_enter_78 ?_
              refine g_aload_n h d_Mod_enter_79 rfl rfl ?_
              refine g_iload h d_Mod_enter_80 rfl ?_
              refine g_dVv h tb_good (c_Mod_touch hn) (q := 0) (by decide) rfl rfl v_Mod_144 nm_Mod_touch rfl ⟨rfl, rfl, Nat.le_of_ble_eq_true rfl, Nat.le_of_ble_eq_true rfl, Nat.zero_le _, Nat.zero_le _⟩ rfl (Nat.le_of_ble_eq_true rfl) d_Mod_enter_82 ?_
              refine g_aload_n h d_Mod_enter_85 rfl rfl ?_
              refine gf_Mod_state h f_Mod_53 d_Mod_enter_86 ?_
              refine g_iload h d_Mod_enter_89 rfl ?_
              refine g_iconst (v := 2) h d_Mod_enter_91 (by decide) ?_
              refine pi_state h rfl hn d_Mod_enter_92 ?_
              refine g_aload_n h d_Mod_enter_93 rfl rfl ?_
              refine gf_Mod_active h f_Mod_59 d_Mod_enter_94 ?_
              refine g_aload_n h d_Mod_enter_97 rfl rfl ?_
              refine gf_Mod_depth h f_Mod_86 d_Mod_enter_98 ?_
              simp only [sI_1, sI_2, sJ_1, sJ_2, sJ_3, sR_1, sR_2, sR_3, Nat.reduceEqDiff, Nat.zero_ne_one, Nat.one_ne_zero, Nat.succ_ne_zero, reduceCtorEq, false_and, if_false, true_and, and_self, if_true, and_true, and_false, reduceIte, mtouch_13, hd]
              refine g_iload h d_Mod_enter_101 rfl ?_
              refine pi_active h rfl (show d < 6 by omega) d_Mod_enter_103 ?_
              refine g_aload_n h d_Mod_enter_104 rfl rfl ?_
              refine g_dup h d_Mod_enter_105 rfl ?_
              refine gf_Mod_depth h f_Mod_86 d_Mod_enter_106 ?_
              simp only [sI_1, sI_2, sJ_1, sJ_2, sJ_3, sR_1, sR_2, sR_3, Nat.reduceEqDiff, Nat.zero_ne_one, Nat.one_ne_zero, Nat.succ_ne_zero, reduceCtorEq, false_and, if_false, true_and, and_self, if_true, and_true, and_false, reduceIte, mtouch_13]
              refine g_iconst (v := 1) h d_Mod_enter_109 (by decide) ?_
              refine g_iadd h d_Mod_enter_110 ?_
              refine pf_Mod_depth h f_Mod_86 d_Mod_enter_111 ?_
              exact g_vret h r d_Mod_enter_114 (⟨rfl, by first | (simp [menter, hf]; done) | (simp [menter, hf, Int32.not_le.mp c_20]; done) | (simp [menter, hf, Int32.not_lt.mpr c_20, c_34]; done) | (simp [menter, hf, Int32.not_lt.mpr c_20, c_34, c_54, hdd, ha2, nI_clamp (show a < 2 ^ 31 by omega)]; done)⟩)
        · refine g_aload_n h d_Mod_enter_37 rfl rfl ?_
          refine g_iconst (v := 2) h d_Mod_enter_38 (by decide) ?_
          refine pf_Mod_trouble h f_Mod_141 d_Mod_enter_39 ?_
          exact g_vret h r d_Mod_enter_42 (⟨rfl, by first | (simp [menter, hf]; done) | (simp [menter, hf, Int32.not_le.mp c_20]; done) | (simp [menter, hf, Int32.not_lt.mpr c_20, c_34]; done) | (simp [menter, hf, Int32.not_lt.mpr c_20, c_34, c_54, hdd, ha2, nI_clamp (show a < 2 ^ 31 by omega)]; done)⟩)
      · refine g_aload_n h d_Mod_enter_23 rfl rfl ?_
        refine g_iconst (v := 3) h d_Mod_enter_24 (by decide) ?_
        refine pf_Mod_trouble h f_Mod_141 d_Mod_enter_25 ?_
        exact g_vret h r d_Mod_enter_28 (⟨rfl, by first | (simp [menter, hf]; done) | (simp [menter, hf, Int32.not_le.mp c_20]; done) | (simp [menter, hf, Int32.not_lt.mpr c_20, c_34]; done) | (simp [menter, hf, Int32.not_lt.mpr c_20, c_34, c_54, hdd, ha2, nI_clamp (show a < 2 ^ 31 by omega)]; done)⟩)
