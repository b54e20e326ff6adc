set_option maxHeartbeats 4000000 in
set_option maxRecDepth 100000 in
theorem c_Mod_shadeRoots {l : Launch} {D : va_G} {u : Nat → ClassId} {ad : Nat → Nat} {M : CS} (hok : okM M) : Cm l D u ad y_Mod_shadeRoots b_Mod_shadeRoots 3 none { frames := 2, cells := 0, slots := 0, locals := 45 } [.ref (ad 0)] (M) (none) (mshadeRoots M) := by
  refine ct_of (by decide) (Nat.le_of_ble_eq_true rfl) ?_
  intro Γ _ _ hN h r
  obtain ⟨d, hd5, hd⟩ := hok.2.2.2.1
  have hdd : mDepth M = d := by unfold mDepth; rw [hd]; exact nI_clamp (by omega)
  have loopB : ∀ (c k : Nat) (M2 : CS), k + c = d → eq5 M2 M → mroots c k M2 = mshadeRoots M → G Γ 0 0 18 ad (mob ad u M2) 26 [some (.ref (ad 0)), some (.int (nI k)), none] [] := by
    intro c
    induction c with
    | zero =>
      intro k M2 hk hE he
      refine g_iload_n h d_Mod_shadeRoots_26 rfl rfl ?_
      refine g_aload_n h d_Mod_shadeRoots_27 rfl rfl ?_
      refine gf_Mod_depth h f_Mod_86 d_Mod_shadeRoots_28 ?_
      rw [hE.2 13 (by decide) 0, hd]
      refine g_icmp_ge (tgt := 87) h d_Mod_shadeRoots_31 (by decide) (fun c_31 => ?_) (fun c_31 => ?_)
      · exact g_vret h r d_Mod_shadeRoots_87 (⟨rfl, by rw [← he]; rfl⟩)
      · exact absurd (nI_le (by omega) (by omega)) c_31
    | succ c ih =>
      intro k M2 hk hE he
      refine g_iload_n h d_Mod_shadeRoots_26 rfl rfl ?_
      refine g_aload_n h d_Mod_shadeRoots_27 rfl rfl ?_
      refine gf_Mod_depth h f_Mod_86 d_Mod_shadeRoots_28 ?_
      rw [hE.2 13 (by decide) 0, hd]
      refine g_icmp_ge (tgt := 87) h d_Mod_shadeRoots_31 (by decide) (fun c_31 => ?_) (fun c_31 => ?_)
      · exact absurd c_31 (nI_ge (by omega) (by omega))
      · refine g_aload_n h d_Mod_shadeRoots_34 rfl rfl ?_
        refine g_ldc2 (v := 10000000000) h d_Mod_shadeRoots_35 k_Mod_72 ?_
        refine g_aload_n h d_Mod_shadeRoots_38 rfl rfl ?_
        refine gf_Mod_active h f_Mod_59 d_Mod_shadeRoots_39 ?_
        refine g_iload_n h d_Mod_shadeRoots_42 rfl rfl ?_
        refine gi_active h rfl (show k < 6 by omega) d_Mod_shadeRoots_43 ?_
        obtain ⟨n, hn, hA⟩ := hok.2.2.2.2 k (by omega)
        have hA2 : M2.1 12 k = nI n := (hE.2 12 (by decide) k).trans hA
        rw [hA2]
        refine g_i2l h d_Mod_shadeRoots_44 ?_
        refine g_ladd h d_Mod_shadeRoots_45 ?_
        refine g_dVv h tb_good (c_Mod_shade (okV_o hn)) (q := 0) (by decide) rfl rfl v_Mod_82 nm_Mod_shade rfl ⟨rfl, rfl, Nat.le_of_ble_eq_true rfl, Nat.le_of_ble_eq_true rfl, Nat.zero_le _, Nat.zero_le _⟩ rfl (Nat.le_of_ble_eq_true rfl) d_Mod_shadeRoots_46 ?_
        refine g_iconst (v := 0) h d_Mod_shadeRoots_49 (by decide) ?_
        refine g_istore_n h d_Mod_shadeRoots_50 rfl rfl (by rw [hN]; decide) ?_
        have loopC : ∀ (c3 r : Nat) (M3 : CS), r + c3 = 4 → eq5 M3 M → mshades (fun r => M.2.1 3 0 (n * 4 + r)) c3 r M3 = mshades (fun r => M.2.1 3 0 (n * 4 + r)) 4 0 (mshade M2 (10000000000 + (nI n).toInt64)) → G Γ 0 0 18 ad (mob ad u M3) 51 [some (.ref (ad 0)), some (.int (nI k)), some (.int (nI r))] [] := by
          intro c3
          induction c3 with
          | zero =>
            intro r M3 hr hE3 he3
            refine g_iload_n h d_Mod_shadeRoots_51 rfl rfl ?_
            refine g_iconst (v := 4) h d_Mod_shadeRoots_52 (by decide) ?_
            refine g_icmp_ge (tgt := 81) h d_Mod_shadeRoots_53 (by decide) (fun c_53 => ?_) (fun c_53 => ?_)
            · refine g_iinc (v := nI (k + 1)) h d_Mod_shadeRoots_81 rfl (by rw [nI_succ]; rfl) rfl (by rw [hN]; decide) ?_
              refine g_goto (tgt := 26) h d_Mod_shadeRoots_84 (by decide) ?_
              refine g_lessL (L' := [some (.ref (ad 0)), some (.int (nI (k + 1))), none]) (by simp [leL]) ?_
              refine ih (k + 1) M3 (by omega) hE3 ?_
              rw [show M3 = _ from he3, ← he]
              show _ = mroots c (k + 1) (mshades (fun r => M2.2.1 3 0 (mAct M2 k * 4 + r)) 4 0 (mshade M2 (10000000000 + (M2.1 12 k).toInt64)))
              unfold mAct
              rw [hA2, nI_clamp (show n < 2 ^ 31 by omega), hE.1]
            · exact absurd (nI_le (a := 4) (b := r) (by omega) (by omega)) c_53
          | succ c3 ih3 =>
            intro r M3 hr hE3 he3
            refine g_iload_n h d_Mod_shadeRoots_51 rfl rfl ?_
            refine g_iconst (v := 4) h d_Mod_shadeRoots_52 (by decide) ?_
            refine g_icmp_ge (tgt := 81) h d_Mod_shadeRoots_53 (by decide) (fun c_53 => ?_) (fun c_53 => ?_)
            · exact absurd c_53 (nI_ge (b := 4) (by omega) (by decide))
            · refine g_aload_n h d_Mod_shadeRoots_56 rfl rfl ?_
              refine g_aload_n h d_Mod_shadeRoots_57 rfl rfl ?_
              refine gf_Mod_registers h f_Mod_44 d_Mod_shadeRoots_58 ?_
              refine g_aload_n h d_Mod_shadeRoots_61 rfl rfl ?_
              refine gf_Mod_active h f_Mod_59 d_Mod_shadeRoots_62 ?_
              refine g_iload_n h d_Mod_shadeRoots_65 rfl rfl ?_
              refine gi_active h rfl (show k < 6 by omega) d_Mod_shadeRoots_66 ?_
              rw [hE3.2 12 (by decide) k, hA]
              refine g_iconst (v := 4) h d_Mod_shadeRoots_67 (by decide) ?_
              refine g_imul h d_Mod_shadeRoots_68 ?_
              refine g_iload_n h d_Mod_shadeRoots_69 rfl rfl ?_
              refine g_iadd h d_Mod_shadeRoots_70 ?_
              refine gj_registers h (nI_at4 n r) (by omega) d_Mod_shadeRoots_71 ?_
              rw [hE3.1]
              refine g_dVv h tb_good (c_Mod_shade (hok.2.1 3 _)) (q := 0) (by decide) rfl rfl v_Mod_82 nm_Mod_shade rfl ⟨rfl, rfl, Nat.le_of_ble_eq_true rfl, Nat.le_of_ble_eq_true rfl, Nat.zero_le _, Nat.zero_le _⟩ rfl (Nat.le_of_ble_eq_true rfl) d_Mod_shadeRoots_72 ?_
              refine g_iinc (v := nI (r + 1)) h d_Mod_shadeRoots_75 rfl (by rw [nI_succ]; rfl) rfl (by rw [hN]; decide) ?_
              refine g_goto (tgt := 51) h d_Mod_shadeRoots_78 (by decide) ?_
              exact ih3 (r + 1) _ (by omega) (eq5_shade hE3) he3
        exact loopC 4 0 _ (by omega) (eq5_shade hE) rfl
  have loopA : ∀ (c i : Nat) (M2 : CS), i + c = 6 → eq5 M2 M → mshades (M.2.1 0 0) c i M2 = mshades (M.2.1 0 0) 6 0 M → G Γ 0 0 18 ad (mob ad u M2) 2 [some (.ref (ad 0)), some (.int (nI i)), none] [] := by
    intro c
    induction c with
    | zero =>
      intro i M2 hi hE he
      refine g_iload_n h d_Mod_shadeRoots_2 rfl rfl ?_
      refine g_bipush (v := 6) h d_Mod_shadeRoots_3 (by decide) ?_
      refine g_icmp_ge (tgt := 24) h d_Mod_shadeRoots_5 (by decide) (fun c_5 => ?_) (fun c_5 => ?_)
      · refine g_iconst (v := 0) h d_Mod_shadeRoots_24 (by decide) ?_
        refine g_istore_n h d_Mod_shadeRoots_25 rfl rfl (by rw [hN]; decide) ?_
        exact loopB d 0 M2 (by omega) hE (by unfold mshadeRoots; rw [hdd, ← he]; rfl)
      · exact absurd (nI_le (a := 6) (b := i) (by omega) (by omega)) c_5
    | succ c ih =>
      intro i M2 hi hE he
      refine g_iload_n h d_Mod_shadeRoots_2 rfl rfl ?_
      refine g_bipush (v := 6) h d_Mod_shadeRoots_3 (by decide) ?_
      refine g_icmp_ge (tgt := 24) h d_Mod_shadeRoots_5 (by decide) (fun c_5 => ?_) (fun c_5 => ?_)
      · exact absurd c_5 (nI_ge (b := 6) (by omega) (by decide))
      · refine g_aload_n h d_Mod_shadeRoots_8 rfl rfl ?_
        refine g_aload_n h d_Mod_shadeRoots_9 rfl rfl ?_
        refine gf_Mod_globals h f_Mod_22 d_Mod_shadeRoots_10 ?_
        refine g_iload_n h d_Mod_shadeRoots_13 rfl rfl ?_
        refine gj_globals h rfl (by omega) d_Mod_shadeRoots_14 ?_
        rw [hE.1]
        refine g_dVv h tb_good (c_Mod_shade (hok.2.1 0 _)) (q := 0) (by decide) rfl rfl v_Mod_82 nm_Mod_shade rfl ⟨rfl, rfl, Nat.le_of_ble_eq_true rfl, Nat.le_of_ble_eq_true rfl, Nat.zero_le _, Nat.zero_le _⟩ rfl (Nat.le_of_ble_eq_true rfl) d_Mod_shadeRoots_15 ?_
        refine g_iinc (v := nI (i + 1)) h d_Mod_shadeRoots_18 rfl (by rw [nI_succ]; rfl) rfl (by rw [hN]; decide) ?_
        refine g_goto (tgt := 2) h d_Mod_shadeRoots_21 (by decide) ?_
        exact ih (i + 1) _ (by omega) (eq5_shade hE) he
  refine g_at (L' := [some (.ref (ad 0)), none, none]) rfl rfl rfl ?_
  refine g_iconst (v := 0) h d_Mod_shadeRoots_0 (by decide) ?_
  refine g_istore_n h d_Mod_shadeRoots_1 rfl rfl (by rw [hN]; decide) ?_
  exact loopA 6 0 M (by omega) (eq5_refl M) rfl
