set_option maxHeartbeats 4000000 in
set_option maxRecDepth 100000 in
theorem c_Mod_join {l : Launch} {D : va_G} {u : Nat → ClassId} {ad : Nat → Nat} {M : CS} {t m : Int64} (ht : okV t) (hm : okV m) : Cm l D u ad y_Mod_join b_Mod_join 6 none { frames := 2, cells := 0, slots := 0, locals := 45 } [.ref (ad 0), .long t, .long m] (M) (none) (mjoin M t m) := by
  refine ct_of (by decide) (Nat.le_of_ble_eq_true rfl) ?_
  intro Γ _ _ hN h r
  refine g_at (L' := [some (.ref (ad 0)), some (.long t), none, some (.long m), none, none]) rfl rfl rfl ?_
  refine g_aload_n h d_Mod_join_0 rfl rfl ?_
  refine g_lload_n h d_Mod_join_1 rfl rfl ?_
  refine g_dVi h tb_good (c_Mod_tableOf ht) (q := 0) (by decide) rfl rfl v_Mod_135 nm_Mod_tableOf rfl ⟨rfl, rfl, Nat.le_of_ble_eq_true rfl, Nat.le_of_ble_eq_true rfl, Nat.zero_le _, Nat.zero_le _⟩ rfl (Nat.le_of_ble_eq_true rfl) d_Mod_join_2 ?_
  rcases hf : mOf M 1 t with _ | n <;> simp only [enc]
  · refine g_istore h d_Mod_join_5 rfl (by rw [hN]; decide) ?_
    refine g_iload h d_Mod_join_7 rfl ?_
    refine g_if_lt (tgt := 28) h d_Mod_join_9 (by decide) (fun c_9 => ?_) (fun c_9 => ?_)
    · refine g_aload_n h d_Mod_join_28 rfl rfl ?_
      refine g_iconst (v := 3) h d_Mod_join_29 (by decide) ?_
      refine pf_Mod_trouble h f_Mod_141 d_Mod_join_30 ?_
      exact g_vret h r d_Mod_join_33 (⟨rfl, by first | (simp [mjoin, hf]; done) | (simp [mjoin, hf, c_17]; done) | (simp [mjoin, hf, c_17, hf2]; done)⟩)
    · exact absurd (by decide) c_9
  · have hn := mOf_lt ht hf
    refine g_istore h d_Mod_join_5 rfl (by rw [hN]; decide) ?_
    refine g_iload h d_Mod_join_7 rfl ?_
    refine g_if_lt (tgt := 28) h d_Mod_join_9 (by decide) (fun c_9 => ?_) (fun c_9 => ?_)
    · exact absurd c_9 (nI_pos (by omega))
    · refine g_lload_n h d_Mod_join_12 rfl rfl ?_
      refine g_ldc2 (v := -1000000000000) h d_Mod_join_13 k_Mod_62 ?_
      refine g_lc_eq (tgt := 34) h d_Mod_join_16 d_Mod_join_17 (by decide) (fun c_17 => ?_) (fun c_17 => ?_)
      · refine g_aload_n h d_Mod_join_34 rfl rfl ?_
        refine gf_Mod_metaOf h f_Mod_35 d_Mod_join_35 ?_
        refine g_iload h d_Mod_join_38 rfl ?_
        refine g_lload_n h d_Mod_join_40 rfl rfl ?_
        refine g_ldc2 (v := -1000000000000) h d_Mod_join_41 k_Mod_62 ?_
        refine g_lc_ne (tgt := 52) h d_Mod_join_44 d_Mod_join_45 (by decide) (fun c_45 => ?_) (fun c_45 => ?_)
        · exact absurd c_17 c_45
        · refine g_iconst (v := -1) h d_Mod_join_48 (by decide) ?_
          refine g_goto (tgt := 57) h d_Mod_join_49 (by decide) ?_
          refine pi_metaOf h rfl hn d_Mod_join_57 ?_
          refine g_aload_n h d_Mod_join_58 rfl rfl ?_
          refine g_iload h d_Mod_join_59 rfl ?_
          refine g_dVv h tb_good (c_Mod_touch hn) (q := 0) (by decide) rfl rfl v_Mod_144 nm_Mod_touch rfl ⟨rfl, rfl, Nat.le_of_ble_eq_true rfl, Nat.le_of_ble_eq_true rfl, Nat.zero_le _, Nat.zero_le _⟩ rfl (Nat.le_of_ble_eq_true rfl) d_Mod_join_61 ?_
          exact g_vret h r d_Mod_join_64 (⟨rfl, by first | (simp [mjoin, hf]; done) | (simp [mjoin, hf, c_17]; done) | (simp [mjoin, hf, c_17, hf2]; done)⟩)
      · skip
        · refine g_aload_n h d_Mod_join_20 rfl rfl ?_
          refine g_lload_n h d_Mod_join_21 rfl rfl ?_
          refine g_dVi h tb_good (c_Mod_tableOf hm) (q := 0) (by decide) rfl rfl v_Mod_135 nm_Mod_tableOf rfl ⟨rfl, rfl, Nat.le_of_ble_eq_true rfl, Nat.le_of_ble_eq_true rfl, Nat.zero_le _, Nat.zero_le _⟩ rfl (Nat.le_of_ble_eq_true rfl) d_Mod_join_22 ?_
          rcases hf2 : mOf M 1 m with _ | j <;> simp only [enc]
          · refine g_if_ge (tgt := 34) h d_Mod_join_25 (by decide) (fun c_25 => ?_) (fun c_25 => ?_)
            · exact absurd c_25 (by decide)
            · refine g_aload_n h d_Mod_join_28 rfl rfl ?_
              refine g_iconst (v := 3) h d_Mod_join_29 (by decide) ?_
              refine pf_Mod_trouble h f_Mod_141 d_Mod_join_30 ?_
              exact g_vret h r d_Mod_join_33 (⟨rfl, by first | (simp [mjoin, hf]; done) | (simp [mjoin, hf, c_17]; done) | (simp [mjoin, hf, c_17, hf2]; done)⟩)
          · have hj := mOf_lt hm hf2
            refine g_if_ge (tgt := 34) h d_Mod_join_25 (by decide) (fun c_25 => ?_) (fun c_25 => ?_)
            · refine g_aload_n h d_Mod_join_34 rfl rfl ?_
              refine gf_Mod_metaOf h f_Mod_35 d_Mod_join_35 ?_
              refine g_iload h d_Mod_join_38 rfl ?_
              refine g_lload_n h d_Mod_join_40 rfl rfl ?_
              refine g_ldc2 (v := -1000000000000) h d_Mod_join_41 k_Mod_62 ?_
              refine g_lc_ne (tgt := 52) h d_Mod_join_44 d_Mod_join_45 (by decide) (fun c_45 => ?_) (fun c_45 => ?_)
              · refine g_aload_n h d_Mod_join_52 rfl rfl ?_
                refine g_lload_n h d_Mod_join_53 rfl rfl ?_
                refine g_dVi h tb_good (c_Mod_tableOf hm) (q := 0) (by decide) rfl rfl v_Mod_135 nm_Mod_tableOf rfl ⟨rfl, rfl, Nat.le_of_ble_eq_true rfl, Nat.le_of_ble_eq_true rfl, Nat.zero_le _, Nat.zero_le _⟩ rfl (Nat.le_of_ble_eq_true rfl) d_Mod_join_54 ?_
                rw [hf2]
                simp only [enc]
                refine pi_metaOf h rfl hn d_Mod_join_57 ?_
                refine g_aload_n h d_Mod_join_58 rfl rfl ?_
                refine g_iload h d_Mod_join_59 rfl ?_
                refine g_dVv h tb_good (c_Mod_touch hn) (q := 0) (by decide) rfl rfl v_Mod_144 nm_Mod_touch rfl ⟨rfl, rfl, Nat.le_of_ble_eq_true rfl, Nat.le_of_ble_eq_true rfl, Nat.zero_le _, Nat.zero_le _⟩ rfl (Nat.le_of_ble_eq_true rfl) d_Mod_join_61 ?_
                exact g_vret h r d_Mod_join_64 (⟨rfl, by first | (simp [mjoin, hf]; done) | (simp [mjoin, hf, c_17]; done) | (simp [mjoin, hf, c_17, hf2]; done)⟩)
              · exact absurd c_45 c_17
            · exact absurd (nI_pos' (by omega)) c_25
