set_option maxHeartbeats 4000000 in
set_option maxRecDepth 100000 in
theorem c_Mod_create {l : Launch} {D : va_G} {u : Nat → ClassId} {ad : Nat → Nat} {M : CS} {k f : Int32} (hok : okM M) : Cm l D u ad y_Mod_create b_Mod_create 5 (some .int) { frames := 5, cells := 0, slots := 0, locals := 110 } [.ref (ad 0), .int k, .int f] (M) (some (.int (enc (mcreate M k f).1))) ((mcreate M k f).2) := by
  refine ct_of (by decide) (Nat.le_of_ble_eq_true rfl) ?_
  intro Γ _ _ hN h r
  have loop : ∀ n, n < 16 → (mcreate M k f).1 = some n → ∀ M9 : CS, sI (mfill n 4 0 M9) 16 0 ((mfill n 4 0 M9).1 16 0 + 1) = (mcreate M k f).2 → G Γ 0 0 18 ad (mob ad u M9) 106 [some (.ref (ad 0)), some (.int k), some (.int f), some (.int (nI n)), some (.int (nI 0))] [] := by
    intro n hn hres M9 he9
    have loopI : ∀ (c i : Nat) (M2 : CS), i + c = 4 → sI (mfill n c i M2) 16 0 ((mfill n c i M2).1 16 0 + 1) = (mcreate M k f).2 → G Γ 0 0 18 ad (mob ad u M2) 106 [some (.ref (ad 0)), some (.int k), some (.int f), some (.int (nI n)), some (.int (nI i))] [] := by
      intro c
      induction c with
      | zero =>
        intro i M2 hi he
        refine g_iload h d_Mod_create_106 rfl ?_
        refine g_iconst (v := 4) h d_Mod_create_108 (by decide) ?_
        refine g_icmp_ge (tgt := 132) h d_Mod_create_109 (by decide) (fun c_109 => ?_) (fun c_109 => ?_)
        · refine g_aload_n h d_Mod_create_132 rfl rfl ?_
          refine g_dup h d_Mod_create_133 rfl ?_
          refine gf_Mod_made h f_Mod_124 d_Mod_create_134 ?_
          refine g_iconst (v := 1) h d_Mod_create_137 (by decide) ?_
          refine g_iadd h d_Mod_create_138 ?_
          refine pf_Mod_made h f_Mod_124 d_Mod_create_139 ?_
          refine g_iload_n h d_Mod_create_142 rfl rfl ?_
          exact g_iret h r d_Mod_create_143 (⟨by rw [hres]; rfl, by rw [← he]; rfl⟩)
        · exact absurd (nI_le (a := 4) (b := i) (by omega) (by omega)) c_109
      | succ c ih =>
        intro i M2 hi he
        refine g_iload h d_Mod_create_106 rfl ?_
        refine g_iconst (v := 4) h d_Mod_create_108 (by decide) ?_
        refine g_icmp_ge (tgt := 132) h d_Mod_create_109 (by decide) (fun c_109 => ?_) (fun c_109 => ?_)
        · exact absurd c_109 (nI_ge (b := 4) (by omega) (by decide))
        · refine g_aload_n h d_Mod_create_112 rfl rfl ?_
          refine gf_Mod_registers h f_Mod_44 d_Mod_create_113 ?_
          refine g_iload_n h d_Mod_create_116 rfl rfl ?_
          refine g_iconst (v := 4) h d_Mod_create_117 (by decide) ?_
          refine g_imul h d_Mod_create_118 ?_
          refine g_iload h d_Mod_create_119 rfl ?_
          refine g_iadd h d_Mod_create_121 ?_
          refine g_ldc2 (v := -1000000000000) h d_Mod_create_122 k_Mod_62 ?_
          refine pj_registers h (nI_at4 n i) (by omega) d_Mod_create_125 ?_
          refine g_iinc (v := nI (i + 1)) h d_Mod_create_126 rfl (by rw [nI_succ]; rfl) rfl (by rw [hN]; decide) ?_
          refine g_goto (tgt := 106) h d_Mod_create_129 (by decide) ?_
          exact ih (i + 1) _ (by omega) he
    exact loopI 4 0 M9 (by omega) he9
  refine g_at (L' := [some (.ref (ad 0)), some (.int k), some (.int f), none, none]) rfl rfl rfl ?_
  refine g_aload_n h d_Mod_create_0 rfl rfl ?_
  refine g_dVi h tb_good (c_Mod_free) (q := 0) (by decide) rfl rfl v_Mod_118 nm_Mod_free rfl ⟨rfl, rfl, Nat.le_of_ble_eq_true rfl, Nat.le_of_ble_eq_true rfl, Nat.zero_le _, Nat.zero_le _⟩ rfl (Nat.le_of_ble_eq_true rfl) d_Mod_create_1 ?_
  rcases hf : mfree M with _ | q <;> simp only [enc]
  · refine g_istore_n h d_Mod_create_4 rfl rfl (by rw [hN]; decide) ?_
    refine g_iload_n h d_Mod_create_5 rfl rfl ?_
    refine g_if_ge (tgt := 20) h d_Mod_create_6 (by decide) (fun c_6 => ?_) (fun c_6 => ?_)
    · exact absurd c_6 (by decide)
    · refine g_aload_n h d_Mod_create_9 rfl rfl ?_
      refine g_dVi h tb_good (c_Mod_whole hok) (q := 0) (by decide) rfl rfl v_Mod_121 nm_Mod_whole rfl ⟨rfl, rfl, Nat.le_of_ble_eq_true rfl, Nat.le_of_ble_eq_true rfl, Nat.zero_le _, Nat.zero_le _⟩ rfl (Nat.le_of_ble_eq_true rfl) d_Mod_create_10 ?_
      refine g_istore h d_Mod_create_13 rfl (by rw [hN]; decide) ?_
      refine g_aload_n h d_Mod_create_15 rfl rfl ?_
      refine g_dVi h tb_good (c_Mod_free) (q := 0) (by decide) rfl rfl v_Mod_118 nm_Mod_free rfl ⟨rfl, rfl, Nat.le_of_ble_eq_true rfl, Nat.le_of_ble_eq_true rfl, Nat.zero_le _, Nat.zero_le _⟩ rfl (Nat.le_of_ble_eq_true rfl) d_Mod_create_16 ?_
      rcases hf2 : mfree (mwhole M).2 with _ | q <;> simp only [enc]
      · refine g_istore_n h d_Mod_create_19 rfl rfl (by rw [hN]; decide) ?_
        refine g_iload_n h d_Mod_create_20 rfl rfl ?_
        refine g_if_ge (tgt := 26) h d_Mod_create_21 (by decide) (fun c_21 => ?_) (fun c_21 => ?_)
        · exact absurd c_21 (by decide)
        · refine g_iconst (v := -1) h d_Mod_create_24 (by decide) ?_
          exact g_iret h r d_Mod_create_25 (⟨by simp [mcreate, hf, hf2, enc], by simp [mcreate, hf, hf2]⟩)
      · have hq := mfree_lt hf2
        refine g_istore_n h d_Mod_create_19 rfl rfl (by rw [hN]; decide) ?_
        refine g_iload_n h d_Mod_create_20 rfl rfl ?_
        refine g_if_ge (tgt := 26) h d_Mod_create_21 (by decide) (fun c_21 => ?_) (fun c_21 => ?_)
        · refine g_aload_n h d_Mod_create_26 rfl rfl ?_
          refine gf_Mod_kind h f_Mod_26 d_Mod_create_27 ?_
          refine g_iload_n h d_Mod_create_30 rfl rfl ?_
          refine g_iload_n h d_Mod_create_31 rfl rfl ?_
          refine pi_kind h rfl hq d_Mod_create_32 ?_
          refine g_aload_n h d_Mod_create_33 rfl rfl ?_
          refine gf_Mod_colour h f_Mod_29 d_Mod_create_34 ?_
          refine g_iload_n h d_Mod_create_37 rfl rfl ?_
          refine g_aload_n h d_Mod_create_38 rfl rfl ?_
          refine gf_Mod_phase h f_Mod_92 d_Mod_create_39 ?_
          refine g_iconst (v := 1) h d_Mod_create_42 (by decide) ?_
          simp only [sI_1, sI_2, sJ_1, sJ_2, sJ_3, sR_1, sR_2, sR_3, Nat.reduceEqDiff, Nat.zero_ne_one, Nat.one_ne_zero, Nat.succ_ne_zero, reduceCtorEq, false_and, if_false, true_and, and_self, if_true, and_true, and_false, reduceIte]
          refine g_icmp_eq (tgt := 62) h d_Mod_create_43 (by decide) (fun c_43 => ?_) (fun c_43 => ?_)
          · refine g_iconst (v := 2) h d_Mod_create_62 (by decide) ?_
            refine g_goto (tgt := 67) h d_Mod_create_63 (by decide) ?_
            refine pi_colour h rfl hq d_Mod_create_67 ?_
            refine g_aload_n h d_Mod_create_68 rfl rfl ?_
            refine gf_Mod_size h f_Mod_32 d_Mod_create_69 ?_
            refine g_iload_n h d_Mod_create_72 rfl rfl ?_
            refine g_iconst (v := 0) h d_Mod_create_73 (by decide) ?_
            refine pi_size h rfl hq d_Mod_create_74 ?_
            refine g_aload_n h d_Mod_create_75 rfl rfl ?_
            refine gf_Mod_metaOf h f_Mod_35 d_Mod_create_76 ?_
            refine g_iload_n h d_Mod_create_79 rfl rfl ?_
            refine g_iconst (v := -1) h d_Mod_create_80 (by decide) ?_
            refine pi_metaOf h rfl hq d_Mod_create_81 ?_
            refine g_aload_n h d_Mod_create_82 rfl rfl ?_
            refine gf_Mod_function h f_Mod_47 d_Mod_create_83 ?_
            refine g_iload_n h d_Mod_create_86 rfl rfl ?_
            refine g_iload_n h d_Mod_create_87 rfl rfl ?_
            refine pi_function h rfl hq d_Mod_create_88 ?_
            refine g_aload_n h d_Mod_create_89 rfl rfl ?_
            refine gf_Mod_place h f_Mod_50 d_Mod_create_90 ?_
            refine g_iload_n h d_Mod_create_93 rfl rfl ?_
            refine g_iconst (v := 0) h d_Mod_create_94 (by decide) ?_
            refine pi_place h rfl hq d_Mod_create_95 ?_
            refine g_aload_n h d_Mod_create_96 rfl rfl ?_
            refine gf_Mod_state h f_Mod_53 d_Mod_create_97 ?_
            refine g_iload_n h d_Mod_create_100 rfl rfl ?_
            refine g_iconst (v := 0) h d_Mod_create_101 (by decide) ?_
            refine pi_state h rfl hq d_Mod_create_102 ?_
            refine g_iconst (v := 0) h d_Mod_create_103 (by decide) ?_
            refine g_istore h d_Mod_create_104 rfl (by rw [hN]; decide) ?_
            exact loop q hq (by simp [mcreate, hf, hf2]) _ (by first | (simp [mcreate, mborn, hf, hf2, c_43]; done) | (simp [mcreate, mborn, hf, hf2, c_43, c_51]; done) | (simp [mcreate, mborn, hf, hf2, c_43, c_51, c_59]; done))
          · refine g_aload_n h d_Mod_create_46 rfl rfl ?_
            refine gf_Mod_phase h f_Mod_92 d_Mod_create_47 ?_
            refine g_iconst (v := 2) h d_Mod_create_50 (by decide) ?_
            simp only [sI_1, sI_2, sJ_1, sJ_2, sJ_3, sR_1, sR_2, sR_3, Nat.reduceEqDiff, Nat.zero_ne_one, Nat.one_ne_zero, Nat.succ_ne_zero, reduceCtorEq, false_and, if_false, true_and, and_self, if_true, and_true, and_false, reduceIte]
            refine g_icmp_ne (tgt := 66) h d_Mod_create_51 (by decide) (fun c_51 => ?_) (fun c_51 => ?_)
            · refine g_iconst (v := 0) h d_Mod_create_66 (by decide) ?_
              refine pi_colour h rfl hq d_Mod_create_67 ?_
              refine g_aload_n h d_Mod_create_68 rfl rfl ?_
              refine gf_Mod_size h f_Mod_32 d_Mod_create_69 ?_
              refine g_iload_n h d_Mod_create_72 rfl rfl ?_
              refine g_iconst (v := 0) h d_Mod_create_73 (by decide) ?_
              refine pi_size h rfl hq d_Mod_create_74 ?_
              refine g_aload_n h d_Mod_create_75 rfl rfl ?_
              refine gf_Mod_metaOf h f_Mod_35 d_Mod_create_76 ?_
              refine g_iload_n h d_Mod_create_79 rfl rfl ?_
              refine g_iconst (v := -1) h d_Mod_create_80 (by decide) ?_
              refine pi_metaOf h rfl hq d_Mod_create_81 ?_
              refine g_aload_n h d_Mod_create_82 rfl rfl ?_
              refine gf_Mod_function h f_Mod_47 d_Mod_create_83 ?_
              refine g_iload_n h d_Mod_create_86 rfl rfl ?_
              refine g_iload_n h d_Mod_create_87 rfl rfl ?_
              refine pi_function h rfl hq d_Mod_create_88 ?_
              refine g_aload_n h d_Mod_create_89 rfl rfl ?_
              refine gf_Mod_place h f_Mod_50 d_Mod_create_90 ?_
              refine g_iload_n h d_Mod_create_93 rfl rfl ?_
              refine g_iconst (v := 0) h d_Mod_create_94 (by decide) ?_
              refine pi_place h rfl hq d_Mod_create_95 ?_
              refine g_aload_n h d_Mod_create_96 rfl rfl ?_
              refine gf_Mod_state h f_Mod_53 d_Mod_create_97 ?_
              refine g_iload_n h d_Mod_create_100 rfl rfl ?_
              refine g_iconst (v := 0) h d_Mod_create_101 (by decide) ?_
              refine pi_state h rfl hq d_Mod_create_102 ?_
              refine g_iconst (v := 0) h d_Mod_create_103 (by decide) ?_
              refine g_istore h d_Mod_create_104 rfl (by rw [hN]; decide) ?_
              exact loop q hq (by simp [mcreate, hf, hf2]) _ (by first | (simp [mcreate, mborn, hf, hf2, c_43]; done) | (simp [mcreate, mborn, hf, hf2, c_43, c_51]; done) | (simp [mcreate, mborn, hf, hf2, c_43, c_51, c_59]; done))
            · refine g_iload_n h d_Mod_create_54 rfl rfl ?_
              refine g_aload_n h d_Mod_create_55 rfl rfl ?_
              refine gf_Mod_sweep h f_Mod_106 d_Mod_create_56 ?_
              simp only [sI_1, sI_2, sJ_1, sJ_2, sJ_3, sR_1, sR_2, sR_3, Nat.reduceEqDiff, Nat.zero_ne_one, Nat.one_ne_zero, Nat.succ_ne_zero, reduceCtorEq, false_and, if_false, true_and, and_self, if_true, and_true, and_false, reduceIte]
              refine g_icmp_lt (tgt := 66) h d_Mod_create_59 (by decide) (fun c_59 => ?_) (fun c_59 => ?_)
              · refine g_iconst (v := 0) h d_Mod_create_66 (by decide) ?_
                refine pi_colour h rfl hq d_Mod_create_67 ?_
                refine g_aload_n h d_Mod_create_68 rfl rfl ?_
                refine gf_Mod_size h f_Mod_32 d_Mod_create_69 ?_
                refine g_iload_n h d_Mod_create_72 rfl rfl ?_
                refine g_iconst (v := 0) h d_Mod_create_73 (by decide) ?_
                refine pi_size h rfl hq d_Mod_create_74 ?_
                refine g_aload_n h d_Mod_create_75 rfl rfl ?_
                refine gf_Mod_metaOf h f_Mod_35 d_Mod_create_76 ?_
                refine g_iload_n h d_Mod_create_79 rfl rfl ?_
                refine g_iconst (v := -1) h d_Mod_create_80 (by decide) ?_
                refine pi_metaOf h rfl hq d_Mod_create_81 ?_
                refine g_aload_n h d_Mod_create_82 rfl rfl ?_
                refine gf_Mod_function h f_Mod_47 d_Mod_create_83 ?_
                refine g_iload_n h d_Mod_create_86 rfl rfl ?_
                refine g_iload_n h d_Mod_create_87 rfl rfl ?_
                refine pi_function h rfl hq d_Mod_create_88 ?_
                refine g_aload_n h d_Mod_create_89 rfl rfl ?_
                refine gf_Mod_place h f_Mod_50 d_Mod_create_90 ?_
                refine g_iload_n h d_Mod_create_93 rfl rfl ?_
                refine g_iconst (v := 0) h d_Mod_create_94 (by decide) ?_
                refine pi_place h rfl hq d_Mod_create_95 ?_
                refine g_aload_n h d_Mod_create_96 rfl rfl ?_
                refine gf_Mod_state h f_Mod_53 d_Mod_create_97 ?_
                refine g_iload_n h d_Mod_create_100 rfl rfl ?_
                refine g_iconst (v := 0) h d_Mod_create_101 (by decide) ?_
                refine pi_state h rfl hq d_Mod_create_102 ?_
                refine g_iconst (v := 0) h d_Mod_create_103 (by decide) ?_
                refine g_istore h d_Mod_create_104 rfl (by rw [hN]; decide) ?_
                exact loop q hq (by simp [mcreate, hf, hf2]) _ (by first | (simp [mcreate, mborn, hf, hf2, c_43]; done) | (simp [mcreate, mborn, hf, hf2, c_43, c_51]; done) | (simp [mcreate, mborn, hf, hf2, c_43, c_51, c_59]; done))
              · refine g_iconst (v := 2) h d_Mod_create_62 (by decide) ?_
                refine g_goto (tgt := 67) h d_Mod_create_63 (by decide) ?_
                refine pi_colour h rfl hq d_Mod_create_67 ?_
                refine g_aload_n h d_Mod_create_68 rfl rfl ?_
                refine gf_Mod_size h f_Mod_32 d_Mod_create_69 ?_
                refine g_iload_n h d_Mod_create_72 rfl rfl ?_
                refine g_iconst (v := 0) h d_Mod_create_73 (by decide) ?_
                refine pi_size h rfl hq d_Mod_create_74 ?_
                refine g_aload_n h d_Mod_create_75 rfl rfl ?_
                refine gf_Mod_metaOf h f_Mod_35 d_Mod_create_76 ?_
                refine g_iload_n h d_Mod_create_79 rfl rfl ?_
                refine g_iconst (v := -1) h d_Mod_create_80 (by decide) ?_
                refine pi_metaOf h rfl hq d_Mod_create_81 ?_
                refine g_aload_n h d_Mod_create_82 rfl rfl ?_
                refine gf_Mod_function h f_Mod_47 d_Mod_create_83 ?_
                refine g_iload_n h d_Mod_create_86 rfl rfl ?_
                refine g_iload_n h d_Mod_create_87 rfl rfl ?_
                refine pi_function h rfl hq d_Mod_create_88 ?_
                refine g_aload_n h d_Mod_create_89 rfl rfl ?_
                refine gf_Mod_place h f_Mod_50 d_Mod_create_90 ?_
                refine g_iload_n h d_Mod_create_93 rfl rfl ?_
                refine g_iconst (v := 0) h d_Mod_create_94 (by decide) ?_
                refine pi_place h rfl hq d_Mod_create_95 ?_
                refine g_aload_n h d_Mod_create_96 rfl rfl ?_
                refine gf_Mod_state h f_Mod_53 d_Mod_create_97 ?_
                refine g_iload_n h d_Mod_create_100 rfl rfl ?_
                refine g_iconst (v := 0) h d_Mod_create_101 (by decide) ?_
                refine pi_state h rfl hq d_Mod_create_102 ?_
                refine g_iconst (v := 0) h d_Mod_create_103 (by decide) ?_
                refine g_istore h d_Mod_create_104 rfl (by rw [hN]; decide) ?_
                exact loop q hq (by simp [mcreate, hf, hf2]) _ (by first | (simp [mcreate, mborn, hf, hf2, c_43]; done) | (simp [mcreate, mborn, hf, hf2, c_43, c_51]; done) | (simp [mcreate, mborn, hf, hf2, c_43, c_51, c_59]; done))
        · exact absurd (nI_pos' (by omega)) c_21
  · have hq := mfree_lt hf
    refine g_istore_n h d_Mod_create_4 rfl rfl (by rw [hN]; decide) ?_
    refine g_iload_n h d_Mod_create_5 rfl rfl ?_
    refine g_if_ge (tgt := 20) h d_Mod_create_6 (by decide) (fun c_6 => ?_) (fun c_6 => ?_)
    · refine g_iload_n h d_Mod_create_20 rfl rfl ?_
      refine g_if_ge (tgt := 26) h d_Mod_create_21 (by decide) (fun c_21 => ?_) (fun c_21 => ?_)
      · refine g_aload_n h d_Mod_create_26 rfl rfl ?_
        refine gf_Mod_kind h f_Mod_26 d_Mod_create_27 ?_
        refine g_iload_n h d_Mod_create_30 rfl rfl ?_
        refine g_iload_n h d_Mod_create_31 rfl rfl ?_
        refine pi_kind h rfl hq d_Mod_create_32 ?_
        refine g_aload_n h d_Mod_create_33 rfl rfl ?_
        refine gf_Mod_colour h f_Mod_29 d_Mod_create_34 ?_
        refine g_iload_n h d_Mod_create_37 rfl rfl ?_
        refine g_aload_n h d_Mod_create_38 rfl rfl ?_
        refine gf_Mod_phase h f_Mod_92 d_Mod_create_39 ?_
        refine g_iconst (v := 1) h d_Mod_create_42 (by decide) ?_
        simp only [sI_1, sI_2, sJ_1, sJ_2, sJ_3, sR_1, sR_2, sR_3, Nat.reduceEqDiff, Nat.zero_ne_one, Nat.one_ne_zero, Nat.succ_ne_zero, reduceCtorEq, false_and, if_false, true_and, and_self, if_true, and_true, and_false, reduceIte]
        refine g_icmp_eq (tgt := 62) h d_Mod_create_43 (by decide) (fun c_43 => ?_) (fun c_43 => ?_)
        · refine g_iconst (v := 2) h d_Mod_create_62 (by decide) ?_
          refine g_goto (tgt := 67) h d_Mod_create_63 (by decide) ?_
          refine pi_colour h rfl hq d_Mod_create_67 ?_
          refine g_aload_n h d_Mod_create_68 rfl rfl ?_
          refine gf_Mod_size h f_Mod_32 d_Mod_create_69 ?_
          refine g_iload_n h d_Mod_create_72 rfl rfl ?_
          refine g_iconst (v := 0) h d_Mod_create_73 (by decide) ?_
          refine pi_size h rfl hq d_Mod_create_74 ?_
          refine g_aload_n h d_Mod_create_75 rfl rfl ?_
          refine gf_Mod_metaOf h f_Mod_35 d_Mod_create_76 ?_
          refine g_iload_n h d_Mod_create_79 rfl rfl ?_
          refine g_iconst (v := -1) h d_Mod_create_80 (by decide) ?_
          refine pi_metaOf h rfl hq d_Mod_create_81 ?_
          refine g_aload_n h d_Mod_create_82 rfl rfl ?_
          refine gf_Mod_function h f_Mod_47 d_Mod_create_83 ?_
          refine g_iload_n h d_Mod_create_86 rfl rfl ?_
          refine g_iload_n h d_Mod_create_87 rfl rfl ?_
          refine pi_function h rfl hq d_Mod_create_88 ?_
          refine g_aload_n h d_Mod_create_89 rfl rfl ?_
          refine gf_Mod_place h f_Mod_50 d_Mod_create_90 ?_
          refine g_iload_n h d_Mod_create_93 rfl rfl ?_
          refine g_iconst (v := 0) h d_Mod_create_94 (by decide) ?_
          refine pi_place h rfl hq d_Mod_create_95 ?_
          refine g_aload_n h d_Mod_create_96 rfl rfl ?_
          refine gf_Mod_state h f_Mod_53 d_Mod_create_97 ?_
          refine g_iload_n h d_Mod_create_100 rfl rfl ?_
          refine g_iconst (v := 0) h d_Mod_create_101 (by decide) ?_
          refine pi_state h rfl hq d_Mod_create_102 ?_
          refine g_iconst (v := 0) h d_Mod_create_103 (by decide) ?_
          refine g_istore h d_Mod_create_104 rfl (by rw [hN]; decide) ?_
          exact loop q hq (by simp [mcreate, hf]) _ (by first | (simp [mcreate, mborn, hf, c_43]; done) | (simp [mcreate, mborn, hf, c_43, c_51]; done) | (simp [mcreate, mborn, hf, c_43, c_51, c_59]; done))
        · refine g_aload_n h d_Mod_create_46 rfl rfl ?_
          refine gf_Mod_phase h f_Mod_92 d_Mod_create_47 ?_
          refine g_iconst (v := 2) h d_Mod_create_50 (by decide) ?_
          simp only [sI_1, sI_2, sJ_1, sJ_2, sJ_3, sR_1, sR_2, sR_3, Nat.reduceEqDiff, Nat.zero_ne_one, Nat.one_ne_zero, Nat.succ_ne_zero, reduceCtorEq, false_and, if_false, true_and, and_self, if_true, and_true, and_false, reduceIte]
          refine g_icmp_ne (tgt := 66) h d_Mod_create_51 (by decide) (fun c_51 => ?_) (fun c_51 => ?_)
          · refine g_iconst (v := 0) h d_Mod_create_66 (by decide) ?_
            refine pi_colour h rfl hq d_Mod_create_67 ?_
            refine g_aload_n h d_Mod_create_68 rfl rfl ?_
            refine gf_Mod_size h f_Mod_32 d_Mod_create_69 ?_
            refine g_iload_n h d_Mod_create_72 rfl rfl ?_
            refine g_iconst (v := 0) h d_Mod_create_73 (by decide) ?_
            refine pi_size h rfl hq d_Mod_create_74 ?_
            refine g_aload_n h d_Mod_create_75 rfl rfl ?_
            refine gf_Mod_metaOf h f_Mod_35 d_Mod_create_76 ?_
            refine g_iload_n h d_Mod_create_79 rfl rfl ?_
            refine g_iconst (v := -1) h d_Mod_create_80 (by decide) ?_
            refine pi_metaOf h rfl hq d_Mod_create_81 ?_
            refine g_aload_n h d_Mod_create_82 rfl rfl ?_
            refine gf_Mod_function h f_Mod_47 d_Mod_create_83 ?_
            refine g_iload_n h d_Mod_create_86 rfl rfl ?_
            refine g_iload_n h d_Mod_create_87 rfl rfl ?_
            refine pi_function h rfl hq d_Mod_create_88 ?_
            refine g_aload_n h d_Mod_create_89 rfl rfl ?_
            refine gf_Mod_place h f_Mod_50 d_Mod_create_90 ?_
            refine g_iload_n h d_Mod_create_93 rfl rfl ?_
            refine g_iconst (v := 0) h d_Mod_create_94 (by decide) ?_
            refine pi_place h rfl hq d_Mod_create_95 ?_
            refine g_aload_n h d_Mod_create_96 rfl rfl ?_
            refine gf_Mod_state h f_Mod_53 d_Mod_create_97 ?_
            refine g_iload_n h d_Mod_create_100 rfl rfl ?_
            refine g_iconst (v := 0) h d_Mod_create_101 (by decide) ?_
            refine pi_state h rfl hq d_Mod_create_102 ?_
            refine g_iconst (v := 0) h d_Mod_create_103 (by decide) ?_
            refine g_istore h d_Mod_create_104 rfl (by rw [hN]; decide) ?_
            exact loop q hq (by simp [mcreate, hf]) _ (by first | (simp [mcreate, mborn, hf, c_43]; done) | (simp [mcreate, mborn, hf, c_43, c_51]; done) | (simp [mcreate, mborn, hf, c_43, c_51, c_59]; done))
          · refine g_iload_n h d_Mod_create_54 rfl rfl ?_
            refine g_aload_n h d_Mod_create_55 rfl rfl ?_
            refine gf_Mod_sweep h f_Mod_106 d_Mod_create_56 ?_
            simp only [sI_1, sI_2, sJ_1, sJ_2, sJ_3, sR_1, sR_2, sR_3, Nat.reduceEqDiff, Nat.zero_ne_one, Nat.one_ne_zero, Nat.succ_ne_zero, reduceCtorEq, false_and, if_false, true_and, and_self, if_true, and_true, and_false, reduceIte]
            refine g_icmp_lt (tgt := 66) h d_Mod_create_59 (by decide) (fun c_59 => ?_) (fun c_59 => ?_)
            · refine g_iconst (v := 0) h d_Mod_create_66 (by decide) ?_
              refine pi_colour h rfl hq d_Mod_create_67 ?_
              refine g_aload_n h d_Mod_create_68 rfl rfl ?_
              refine gf_Mod_size h f_Mod_32 d_Mod_create_69 ?_
              refine g_iload_n h d_Mod_create_72 rfl rfl ?_
              refine g_iconst (v := 0) h d_Mod_create_73 (by decide) ?_
              refine pi_size h rfl hq d_Mod_create_74 ?_
              refine g_aload_n h d_Mod_create_75 rfl rfl ?_
              refine gf_Mod_metaOf h f_Mod_35 d_Mod_create_76 ?_
              refine g_iload_n h d_Mod_create_79 rfl rfl ?_
              refine g_iconst (v := -1) h d_Mod_create_80 (by decide) ?_
              refine pi_metaOf h rfl hq d_Mod_create_81 ?_
              refine g_aload_n h d_Mod_create_82 rfl rfl ?_
              refine gf_Mod_function h f_Mod_47 d_Mod_create_83 ?_
              refine g_iload_n h d_Mod_create_86 rfl rfl ?_
              refine g_iload_n h d_Mod_create_87 rfl rfl ?_
              refine pi_function h rfl hq d_Mod_create_88 ?_
              refine g_aload_n h d_Mod_create_89 rfl rfl ?_
              refine gf_Mod_place h f_Mod_50 d_Mod_create_90 ?_
              refine g_iload_n h d_Mod_create_93 rfl rfl ?_
              refine g_iconst (v := 0) h d_Mod_create_94 (by decide) ?_
              refine pi_place h rfl hq d_Mod_create_95 ?_
              refine g_aload_n h d_Mod_create_96 rfl rfl ?_
              refine gf_Mod_state h f_Mod_53 d_Mod_create_97 ?_
              refine g_iload_n h d_Mod_create_100 rfl rfl ?_
              refine g_iconst (v := 0) h d_Mod_create_101 (by decide) ?_
              refine pi_state h rfl hq d_Mod_create_102 ?_
              refine g_iconst (v := 0) h d_Mod_create_103 (by decide) ?_
              refine g_istore h d_Mod_create_104 rfl (by rw [hN]; decide) ?_
              exact loop q hq (by simp [mcreate, hf]) _ (by first | (simp [mcreate, mborn, hf, c_43]; done) | (simp [mcreate, mborn, hf, c_43, c_51]; done) | (simp [mcreate, mborn, hf, c_43, c_51, c_59]; done))
            · refine g_iconst (v := 2) h d_Mod_create_62 (by decide) ?_
              refine g_goto (tgt := 67) h d_Mod_create_63 (by decide) ?_
              refine pi_colour h rfl hq d_Mod_create_67 ?_
              refine g_aload_n h d_Mod_create_68 rfl rfl ?_
              refine gf_Mod_size h f_Mod_32 d_Mod_create_69 ?_
              refine g_iload_n h d_Mod_create_72 rfl rfl ?_
              refine g_iconst (v := 0) h d_Mod_create_73 (by decide) ?_
              refine pi_size h rfl hq d_Mod_create_74 ?_
              refine g_aload_n h d_Mod_create_75 rfl rfl ?_
              refine gf_Mod_metaOf h f_Mod_35 d_Mod_create_76 ?_
              refine g_iload_n h d_Mod_create_79 rfl rfl ?_
              refine g_iconst (v := -1) h d_Mod_create_80 (by decide) ?_
              refine pi_metaOf h rfl hq d_Mod_create_81 ?_
              refine g_aload_n h d_Mod_create_82 rfl rfl ?_
              refine gf_Mod_function h f_Mod_47 d_Mod_create_83 ?_
              refine g_iload_n h d_Mod_create_86 rfl rfl ?_
              refine g_iload_n h d_Mod_create_87 rfl rfl ?_
              refine pi_function h rfl hq d_Mod_create_88 ?_
              refine g_aload_n h d_Mod_create_89 rfl rfl ?_
              refine gf_Mod_place h f_Mod_50 d_Mod_create_90 ?_
              refine g_iload_n h d_Mod_create_93 rfl rfl ?_
              refine g_iconst (v := 0) h d_Mod_create_94 (by decide) ?_
              refine pi_place h rfl hq d_Mod_create_95 ?_
              refine g_aload_n h d_Mod_create_96 rfl rfl ?_
              refine gf_Mod_state h f_Mod_53 d_Mod_create_97 ?_
              refine g_iload_n h d_Mod_create_100 rfl rfl ?_
              refine g_iconst (v := 0) h d_Mod_create_101 (by decide) ?_
              refine pi_state h rfl hq d_Mod_create_102 ?_
              refine g_iconst (v := 0) h d_Mod_create_103 (by decide) ?_
              refine g_istore h d_Mod_create_104 rfl (by rw [hN]; decide) ?_
              exact loop q hq (by simp [mcreate, hf]) _ (by first | (simp [mcreate, mborn, hf, c_43]; done) | (simp [mcreate, mborn, hf, c_43, c_51]; done) | (simp [mcreate, mborn, hf, c_43, c_51, c_59]; done))
      · exact absurd (nI_pos' (by omega)) c_21
    · exact absurd (nI_pos' (by omega)) c_6
