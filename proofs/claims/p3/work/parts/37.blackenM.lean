set_option maxHeartbeats 4000000 in
set_option maxRecDepth 100000 in
theorem c_Mod_blacken {l : Launch} {D : va_G} {u : Nat → ClassId} {ad : Nat → Nat} {M : CS} {n : Nat} (hok : okM M) (hn : n < 16) : Cm l D u ad y_Mod_blacken b_Mod_blacken 3 none { frames := 2, cells := 0, slots := 0, locals := 45 } [.ref (ad 0), .int (nI n)] (M) (none) (mblacken M n) := by
  refine ct_of (by decide) (Nat.le_of_ble_eq_true rfl) ?_
  intro Γ _ _ hN h r
  obtain ⟨⟨P, hP, hp⟩, hmm, -⟩ := hok.1 n hn
  have hc := mSize_eq hp hP
  have loopA : ∀ (c i : Nat) (M2 : CS), i + c = 4 → eq5 M2 M → mob ad u (mshades (fun r => M.2.1 3 0 (n * 4 + r)) c i M2) = mob ad u (mblacken M n) → G Γ 0 0 18 ad (mob ad u M2) 19 [some (.ref (ad 0)), some (.int (nI n)), some (.int (nI i))] [] := by
    intro c
    induction c with
    | zero =>
      intro i M2 hi hE he
      refine g_iload_n h d_Mod_blacken_19 rfl rfl ?_
      refine g_iconst (v := 4) h d_Mod_blacken_20 (by decide) ?_
      refine g_icmp_ge (tgt := 44) h d_Mod_blacken_21 (by decide) (fun c_21 => ?_) (fun c_21 => ?_)
      · exact g_vret h r d_Mod_blacken_44 (⟨rfl, he⟩)
      · exact absurd (nI_le (a := 4) (b := i) (by omega) (by omega)) c_21
    | succ c ih =>
      intro i M2 hi hE he
      refine g_iload_n h d_Mod_blacken_19 rfl rfl ?_
      refine g_iconst (v := 4) h d_Mod_blacken_20 (by decide) ?_
      refine g_icmp_ge (tgt := 44) h d_Mod_blacken_21 (by decide) (fun c_21 => ?_) (fun c_21 => ?_)
      · exact absurd c_21 (nI_ge (b := 4) (by omega) (by decide))
      · refine g_aload_n h d_Mod_blacken_24 rfl rfl ?_
        refine g_aload_n h d_Mod_blacken_25 rfl rfl ?_
        refine gf_Mod_registers h f_Mod_44 d_Mod_blacken_26 ?_
        refine g_iload_n h d_Mod_blacken_29 rfl rfl ?_
        refine g_iconst (v := 4) h d_Mod_blacken_30 (by decide) ?_
        refine g_imul h d_Mod_blacken_31 ?_
        refine g_iload_n h d_Mod_blacken_32 rfl rfl ?_
        refine g_iadd h d_Mod_blacken_33 ?_
        refine gj_registers h (nI_at4 n i) (by omega) d_Mod_blacken_34 ?_
        rw [hE.1]
        refine g_dVv h tb_good (c_Mod_shade (hok.2.1 3 _)) (q := 0) (by decide) rfl rfl v_Mod_82 nm_Mod_shade rfl ⟨rfl, rfl, Nat.le_of_ble_eq_true rfl, Nat.le_of_ble_eq_true rfl, Nat.zero_le _, Nat.zero_le _⟩ rfl (Nat.le_of_ble_eq_true rfl) d_Mod_blacken_35 ?_
        refine g_iinc (v := nI (i + 1)) h d_Mod_blacken_38 rfl (by rw [nI_succ]; rfl) rfl (by rw [hN]; decide) ?_
        refine g_goto (tgt := 19) h d_Mod_blacken_41 (by decide) ?_
        exact ih (i + 1) _ (by omega) (eq5_shade hE) he
  have loopB : ∀ (c i : Nat) (M2 : CS), i + c = P → eq5 M2 M → mob ad u (mshadeKV (fun p => M.2.1 1 0 (n * 6 + p)) (fun p => M.2.1 2 0 (n * 6 + p)) c i M2) = mob ad u (mblacken M n) → G Γ 0 0 18 ad (mob ad u M2) 71 [some (.ref (ad 0)), some (.int (nI n)), some (.int (nI i))] [] := by
    intro c
    induction c with
    | zero =>
      intro i M2 hi hE he
      refine g_iload_n h d_Mod_blacken_71 rfl rfl ?_
      refine g_aload_n h d_Mod_blacken_72 rfl rfl ?_
      refine gf_Mod_size h f_Mod_32 d_Mod_blacken_73 ?_
      refine g_iload_n h d_Mod_blacken_76 rfl rfl ?_
      refine gi_size h rfl hn d_Mod_blacken_77 ?_
      rw [hE.2 6 (by decide) n, hp]
      refine g_icmp_ge (tgt := 117) h d_Mod_blacken_78 (by decide) (fun c_78 => ?_) (fun c_78 => ?_)
      · exact g_vret h r d_Mod_blacken_117 (⟨rfl, he⟩)
      · exact absurd (nI_le (by omega) (by omega)) c_78
    | succ c ih =>
      intro i M2 hi hE he
      refine g_iload_n h d_Mod_blacken_71 rfl rfl ?_
      refine g_aload_n h d_Mod_blacken_72 rfl rfl ?_
      refine gf_Mod_size h f_Mod_32 d_Mod_blacken_73 ?_
      refine g_iload_n h d_Mod_blacken_76 rfl rfl ?_
      refine gi_size h rfl hn d_Mod_blacken_77 ?_
      rw [hE.2 6 (by decide) n, hp]
      refine g_icmp_ge (tgt := 117) h d_Mod_blacken_78 (by decide) (fun c_78 => ?_) (fun c_78 => ?_)
      · exact absurd c_78 (nI_ge (by omega) (by omega))
      · refine g_aload_n h d_Mod_blacken_81 rfl rfl ?_
        refine g_aload_n h d_Mod_blacken_82 rfl rfl ?_
        refine gf_Mod_keys h f_Mod_38 d_Mod_blacken_83 ?_
        refine g_iload_n h d_Mod_blacken_86 rfl rfl ?_
        refine g_bipush (v := 6) h d_Mod_blacken_87 (by decide) ?_
        refine g_imul h d_Mod_blacken_89 ?_
        refine g_iload_n h d_Mod_blacken_90 rfl rfl ?_
        refine g_iadd h d_Mod_blacken_91 ?_
        refine gj_keys h (nI_at6 n i) (by omega) d_Mod_blacken_92 ?_
        rw [hE.1]
        refine g_dVv h tb_good (c_Mod_shade (hok.2.1 1 _)) (q := 0) (by decide) rfl rfl v_Mod_82 nm_Mod_shade rfl ⟨rfl, rfl, Nat.le_of_ble_eq_true rfl, Nat.le_of_ble_eq_true rfl, Nat.zero_le _, Nat.zero_le _⟩ rfl (Nat.le_of_ble_eq_true rfl) d_Mod_blacken_93 ?_
        refine g_aload_n h d_Mod_blacken_96 rfl rfl ?_
        refine g_aload_n h d_Mod_blacken_97 rfl rfl ?_
        refine gf_Mod_values h f_Mod_41 d_Mod_blacken_98 ?_
        refine g_iload_n h d_Mod_blacken_101 rfl rfl ?_
        refine g_bipush (v := 6) h d_Mod_blacken_102 (by decide) ?_
        refine g_imul h d_Mod_blacken_104 ?_
        refine g_iload_n h d_Mod_blacken_105 rfl rfl ?_
        refine g_iadd h d_Mod_blacken_106 ?_
        refine gj_values h (nI_at6 n i) (by omega) d_Mod_blacken_107 ?_
        rw [(eq5_shade hE).1]
        refine g_dVv h tb_good (c_Mod_shade (hok.2.1 2 _)) (q := 0) (by decide) rfl rfl v_Mod_82 nm_Mod_shade rfl ⟨rfl, rfl, Nat.le_of_ble_eq_true rfl, Nat.le_of_ble_eq_true rfl, Nat.zero_le _, Nat.zero_le _⟩ rfl (Nat.le_of_ble_eq_true rfl) d_Mod_blacken_108 ?_
        refine g_iinc (v := nI (i + 1)) h d_Mod_blacken_111 rfl (by rw [nI_succ]; rfl) rfl (by rw [hN]; decide) ?_
        refine g_goto (tgt := 71) h d_Mod_blacken_114 (by decide) ?_
        exact ih (i + 1) _ (by omega) (eq5_shade (eq5_shade hE)) he
  refine g_at (L' := [some (.ref (ad 0)), some (.int (nI n)), none]) rfl rfl rfl ?_
  refine g_aload_n h d_Mod_blacken_0 rfl rfl ?_
  refine gf_Mod_colour h f_Mod_29 d_Mod_blacken_1 ?_
  refine g_iload_n h d_Mod_blacken_4 rfl rfl ?_
  refine g_iconst (v := 2) h d_Mod_blacken_5 (by decide) ?_
  refine pi_colour h rfl hn d_Mod_blacken_6 ?_
  refine g_aload_n h d_Mod_blacken_7 rfl rfl ?_
  refine gf_Mod_kind h f_Mod_26 d_Mod_blacken_8 ?_
  refine g_iload_n h d_Mod_blacken_11 rfl rfl ?_
  refine gi_kind h rfl hn d_Mod_blacken_12 ?_
  rw [show (sI M 5 n 2).1 4 n = M.1 4 n from rfl]
  refine g_iconst (v := 2) h d_Mod_blacken_13 (by decide) ?_
  refine g_icmp_ne (tgt := 45) h d_Mod_blacken_14 (by decide) (fun c_14 => ?_) (fun c_14 => ?_)
  · refine g_aload_n h d_Mod_blacken_45 rfl rfl ?_
    refine gf_Mod_metaOf h f_Mod_35 d_Mod_blacken_46 ?_
    refine g_iload_n h d_Mod_blacken_49 rfl rfl ?_
    refine gi_metaOf h rfl hn d_Mod_blacken_50 ?_
    rw [show (sI M 5 n 2).1 7 n = M.1 7 n from rfl]
    refine g_if_lt (tgt := 69) h d_Mod_blacken_51 (by decide) (fun c_51 => ?_) (fun c_51 => ?_)
    · refine g_iconst (v := 0) h d_Mod_blacken_69 (by decide) ?_
      refine g_istore_n h d_Mod_blacken_70 rfl rfl (by rw [hN]; decide) ?_
      exact loopB P 0 _ (by omega) (eq5_sI (eq5_refl M)) (by simp [mblacken, c_14, c_51, hc])
    · rcases hmm with hm | ⟨m, hm, hm2⟩
      · exact absurd (by rw [hm]; decide) c_51
      · refine g_aload_n h d_Mod_blacken_54 rfl rfl ?_
        refine g_ldc2 (v := 10000000000) h d_Mod_blacken_55 k_Mod_72 ?_
        refine g_aload_n h d_Mod_blacken_58 rfl rfl ?_
        refine gf_Mod_metaOf h f_Mod_35 d_Mod_blacken_59 ?_
        refine g_iload_n h d_Mod_blacken_62 rfl rfl ?_
        refine gi_metaOf h rfl hn d_Mod_blacken_63 ?_
        rw [show (sI M 5 n 2).1 7 n = M.1 7 n from rfl]
        refine g_i2l h d_Mod_blacken_64 ?_
        refine g_ladd h d_Mod_blacken_65 ?_
        refine g_dVv h tb_good (c_Mod_shade (by rw [hm2]; exact okV_o hm)) (q := 0) (by decide) rfl rfl v_Mod_82 nm_Mod_shade rfl ⟨rfl, rfl, Nat.le_of_ble_eq_true rfl, Nat.le_of_ble_eq_true rfl, Nat.zero_le _, Nat.zero_le _⟩ rfl (Nat.le_of_ble_eq_true rfl) d_Mod_blacken_66 ?_
        refine g_iconst (v := 0) h d_Mod_blacken_69 (by decide) ?_
        refine g_istore_n h d_Mod_blacken_70 rfl rfl (by rw [hN]; decide) ?_
        exact loopB P 0 _ (by omega) (eq5_shade (eq5_sI (eq5_refl M))) (by simp [mblacken, c_14, c_51, hc])
  · refine g_iconst (v := 0) h d_Mod_blacken_17 (by decide) ?_
    refine g_istore_n h d_Mod_blacken_18 rfl rfl (by rw [hN]; decide) ?_
    exact loopA 4 0 _ (by omega) (eq5_sI (eq5_refl M)) (by simp [mblacken, c_14])
