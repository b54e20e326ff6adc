set_option maxHeartbeats 4000000 in
set_option maxRecDepth 100000 in
theorem c_Mod_calculate {l : Launch} {D : va_G} {u : Nat → ClassId} {ad : Nat → Nat} {M : CS} {x op : Int32} {a : Nat} {b c : Int64} (ha : a < 64) : Cm l D u ad y_Mod_calculate b_Mod_calculate 8 none { frames := 1, cells := 0, slots := 0, locals := 22 } [.ref (ad 0), .int x, .int op, .int (nI a), .long b, .long c] (M) (none) (mcalc M op a b c) := by
  refine ct_of (by decide) (Nat.le_of_ble_eq_true rfl) ?_
  intro Γ _ _ hN h r
  refine g_at (L' := [some (.ref (ad 0)), some (.int x), some (.int op), some (.int (nI a)), some (.long b), none, some (.long c), none]) rfl rfl rfl ?_
  refine g_aload_n h d_Mod_calculate_0 rfl rfl ?_
  refine g_lload h d_Mod_calculate_1 rfl ?_
  refine g_dVi h tb_good (c_Mod_isNumber) (q := 0) (by decide) rfl rfl v_Mod_166 nm_Mod_isNumber rfl ⟨rfl, rfl, Nat.le_of_ble_eq_true rfl, Nat.le_of_ble_eq_true rfl, Nat.zero_le _, Nat.zero_le _⟩ rfl (Nat.le_of_ble_eq_true rfl) d_Mod_calculate_3 ?_
  by_cases hb : -2147483648 ≤ b ∧ b ≤ 2147483647
  · rw [if_pos hb]
    refine g_if_eq (tgt := 18) h d_Mod_calculate_6 (by decide) (fun c_6 => ?_) (fun c_6 => ?_)
    · exact absurd c_6 (by decide)
    · refine g_aload_n h d_Mod_calculate_9 rfl rfl ?_
      refine g_lload h d_Mod_calculate_10 rfl ?_
      refine g_dVi h tb_good (c_Mod_isNumber) (q := 0) (by decide) rfl rfl v_Mod_166 nm_Mod_isNumber rfl ⟨rfl, rfl, Nat.le_of_ble_eq_true rfl, Nat.le_of_ble_eq_true rfl, Nat.zero_le _, Nat.zero_le _⟩ rfl (Nat.le_of_ble_eq_true rfl) d_Mod_calculate_12 ?_
      by_cases hc : -2147483648 ≤ c ∧ c ≤ 2147483647
      · rw [if_pos hc]
        refine g_if_ne (tgt := 24) h d_Mod_calculate_15 (by decide) (fun c_15 => ?_) (fun c_15 => ?_)
        · refine g_aload_n h d_Mod_calculate_24 rfl rfl ?_
          refine gf_Mod_registers h f_Mod_44 d_Mod_calculate_25 ?_
          refine g_iload_n h d_Mod_calculate_28 rfl rfl ?_
          refine g_iload_n h d_Mod_calculate_29 rfl rfl ?_
          refine g_bipush (v := 8) h d_Mod_calculate_30 (by decide) ?_
          refine g_icmp_ne (tgt := 43) h d_Mod_calculate_32 (by decide) (fun c_32 => ?_) (fun c_32 => ?_)
          · refine g_iload_n h d_Mod_calculate_43 rfl rfl ?_
            refine g_bipush (v := 9) h d_Mod_calculate_44 (by decide) ?_
            refine g_icmp_ne (tgt := 57) h d_Mod_calculate_46 (by decide) (fun c_46 => ?_) (fun c_46 => ?_)
            · refine g_lload h d_Mod_calculate_57 rfl ?_
              refine g_lload h d_Mod_calculate_59 rfl ?_
              refine g_lmul h d_Mod_calculate_61 ?_
              refine g_l2i h d_Mod_calculate_62 ?_
              refine g_i2l h d_Mod_calculate_63 ?_
              refine pj_registers h rfl ha d_Mod_calculate_64 ?_
              exact g_vret h r d_Mod_calculate_65 (⟨rfl, by unfold mcalc; first | (rw [if_neg (fun z => hb z.1)]; done) | (rw [if_neg (fun z => hc z.2)]; done) | (rw [if_pos ⟨hb, hc⟩, if_pos c_32]; done) | (rw [if_pos ⟨hb, hc⟩, if_neg c_32, if_pos c_46]; done) | (rw [if_pos ⟨hb, hc⟩, if_neg c_32, if_neg c_46]; done)⟩)
            · refine g_lload h d_Mod_calculate_49 rfl ?_
              refine g_lload h d_Mod_calculate_51 rfl ?_
              refine g_lsub h d_Mod_calculate_53 ?_
              refine g_goto (tgt := 62) h d_Mod_calculate_54 (by decide) ?_
              refine g_l2i h d_Mod_calculate_62 ?_
              refine g_i2l h d_Mod_calculate_63 ?_
              refine pj_registers h rfl ha d_Mod_calculate_64 ?_
              exact g_vret h r d_Mod_calculate_65 (⟨rfl, by unfold mcalc; first | (rw [if_neg (fun z => hb z.1)]; done) | (rw [if_neg (fun z => hc z.2)]; done) | (rw [if_pos ⟨hb, hc⟩, if_pos c_32]; done) | (rw [if_pos ⟨hb, hc⟩, if_neg c_32, if_pos c_46]; done) | (rw [if_pos ⟨hb, hc⟩, if_neg c_32, if_neg c_46]; done)⟩)
          · refine g_lload h d_Mod_calculate_35 rfl ?_
            refine g_lload h d_Mod_calculate_37 rfl ?_
            refine g_ladd h d_Mod_calculate_39 ?_
            refine g_goto (tgt := 62) h d_Mod_calculate_40 (by decide) ?_
            refine g_l2i h d_Mod_calculate_62 ?_
            refine g_i2l h d_Mod_calculate_63 ?_
            refine pj_registers h rfl ha d_Mod_calculate_64 ?_
            exact g_vret h r d_Mod_calculate_65 (⟨rfl, by unfold mcalc; first | (rw [if_neg (fun z => hb z.1)]; done) | (rw [if_neg (fun z => hc z.2)]; done) | (rw [if_pos ⟨hb, hc⟩, if_pos c_32]; done) | (rw [if_pos ⟨hb, hc⟩, if_neg c_32, if_pos c_46]; done) | (rw [if_pos ⟨hb, hc⟩, if_neg c_32, if_neg c_46]; done)⟩)
        · exact absurd c_15 (by decide)
      · rw [if_neg hc]
        refine g_if_ne (tgt := 24) h d_Mod_calculate_15 (by decide) (fun c_15 => ?_) (fun c_15 => ?_)
        · exact absurd rfl c_15
        · refine g_aload_n h d_Mod_calculate_18 rfl rfl ?_
          refine g_iconst (v := 3) h d_Mod_calculate_19 (by decide) ?_
          refine pf_Mod_trouble h f_Mod_141 d_Mod_calculate_20 ?_
          exact g_vret h r d_Mod_calculate_23 (⟨rfl, by unfold mcalc; first | (rw [if_neg (fun z => hb z.1)]; done) | (rw [if_neg (fun z => hc z.2)]; done) | (rw [if_pos ⟨hb, hc⟩, if_pos c_32]; done) | (rw [if_pos ⟨hb, hc⟩, if_neg c_32, if_pos c_46]; done) | (rw [if_pos ⟨hb, hc⟩, if_neg c_32, if_neg c_46]; done)⟩)
  · rw [if_neg hb]
    refine g_if_eq (tgt := 18) h d_Mod_calculate_6 (by decide) (fun c_6 => ?_) (fun c_6 => ?_)
    · refine g_aload_n h d_Mod_calculate_18 rfl rfl ?_
      refine g_iconst (v := 3) h d_Mod_calculate_19 (by decide) ?_
      refine pf_Mod_trouble h f_Mod_141 d_Mod_calculate_20 ?_
      exact g_vret h r d_Mod_calculate_23 (⟨rfl, by unfold mcalc; first | (rw [if_neg (fun z => hb z.1)]; done) | (rw [if_neg (fun z => hc z.2)]; done) | (rw [if_pos ⟨hb, hc⟩, if_pos c_32]; done) | (rw [if_pos ⟨hb, hc⟩, if_neg c_32, if_pos c_46]; done) | (rw [if_pos ⟨hb, hc⟩, if_neg c_32, if_neg c_46]; done)⟩)
    · exact absurd rfl c_6
set_option maxHeartbeats 4000000 in
set_option maxRecDepth 100000 in
theorem c_Mod_following {l : Launch} {D : va_G} {u : Nat → ClassId} {ad : Nat → Nat} {M : CS} {n : Nat} {key : Int64} (hok : okM M) (hn : n < 16) : Cm l D u ad y_Mod_following b_Mod_following 5 (some .long) { frames := 1, cells := 0, slots := 0, locals := 24 } [.ref (ad 0), .int (nI n), .long key] (M) (some (.long (mfollow M n key).1)) ((mfollow M n key).2) := by
  refine ct_of (by decide) (Nat.le_of_ble_eq_true rfl) ?_
  intro Γ _ _ hN h r
  obtain ⟨⟨P, hP, hp⟩, -⟩ := hok.1 n hn
  have hc := mSize_eq hp hP
  refine g_at (L' := [some (.ref (ad 0)), some (.int (nI n)), some (.long key), none, none]) rfl rfl rfl ?_
  refine g_lload_n h d_Mod_following_0 rfl rfl ?_
  refine g_ldc2 (v := -1000000000000) h d_Mod_following_1 k_Mod_62 ?_
  refine g_lc_ne (tgt := 33) h d_Mod_following_4 d_Mod_following_5 (by decide) (fun c_5 => ?_) (fun c_5 => ?_)
  · refine g_aload_n h d_Mod_following_33 rfl rfl ?_
    refine g_iload_n h d_Mod_following_34 rfl rfl ?_
    refine g_lload_n h d_Mod_following_35 rfl rfl ?_
    refine g_dVi h tb_good (c_Mod_pairOf hn hp hP) (q := 0) (by decide) rfl rfl v_Mod_131 nm_Mod_pairOf rfl ⟨rfl, rfl, Nat.le_of_ble_eq_true rfl, Nat.le_of_ble_eq_true rfl, Nat.zero_le _, Nat.zero_le _⟩ rfl (Nat.le_of_ble_eq_true rfl) d_Mod_following_36 ?_
    rcases hf : mpair M n key with _ | q <;> simp only [enc]
    · refine g_istore h d_Mod_following_39 rfl (by rw [hN]; decide) ?_
      refine g_iload h d_Mod_following_41 rfl ?_
      refine g_if_ge (tgt := 51) h d_Mod_following_43 (by decide) (fun c_43 => ?_) (fun c_43 => ?_)
      · exact absurd c_43 (by decide)
      · refine g_aload_n h d_Mod_following_46 rfl rfl ?_
        refine g_iconst (v := 3) h d_Mod_following_47 (by decide) ?_
        refine pf_Mod_trouble h f_Mod_141 d_Mod_following_48 ?_
        refine g_iload h d_Mod_following_51 rfl ?_
        refine g_if_lt (tgt := 69) h d_Mod_following_53 (by decide) (fun c_53 => ?_) (fun c_53 => ?_)
        · refine g_ldc2 (v := -1000000000000) h d_Mod_following_69 k_Mod_62 ?_
          refine g_goto (tgt := 89) h d_Mod_following_72 (by decide) ?_
          exact g_lret h r d_Mod_following_89 (⟨by first | (simp [mfollow, c_5, hc, h0]; done) | (simp [mfollow, c_5, hf]; done) | (simp [mfollow, c_5, hf, hc, hl]; done), by first | (simp [mfollow, c_5, hc, h0]; done) | (simp [mfollow, c_5, hf]; done) | (simp [mfollow, c_5, hf, hc, hl]; done)⟩)
        · exact absurd (by decide) c_53
    · have hq := mpair_lt hp hP hf
      refine g_istore h d_Mod_following_39 rfl (by rw [hN]; decide) ?_
      refine g_iload h d_Mod_following_41 rfl ?_
      refine g_if_ge (tgt := 51) h d_Mod_following_43 (by decide) (fun c_43 => ?_) (fun c_43 => ?_)
      · refine g_iload h d_Mod_following_51 rfl ?_
        refine g_if_lt (tgt := 69) h d_Mod_following_53 (by decide) (fun c_53 => ?_) (fun c_53 => ?_)
        · exact absurd c_53 (nI_pos (by omega))
        · refine g_iload h d_Mod_following_56 rfl ?_
          refine g_iconst (v := 1) h d_Mod_following_58 (by decide) ?_
          refine g_iadd h d_Mod_following_59 ?_
          refine g_aload_n h d_Mod_following_60 rfl rfl ?_
          refine gf_Mod_size h f_Mod_32 d_Mod_following_61 ?_
          refine g_iload_n h d_Mod_following_64 rfl rfl ?_
          refine gi_size h rfl hn d_Mod_following_65 ?_
          rw [hp, nI_1]
          by_cases hl : q + 1 < P
          · refine g_icmp_lt (tgt := 75) h d_Mod_following_66 (by decide) (fun c_66 => ?_) (fun c_66 => ?_)
            · refine g_aload_n h d_Mod_following_75 rfl rfl ?_
              refine gf_Mod_keys h f_Mod_38 d_Mod_following_76 ?_
              refine g_iload_n h d_Mod_following_79 rfl rfl ?_
              refine g_bipush (v := 6) h d_Mod_following_80 (by decide) ?_
              refine g_imul h d_Mod_following_82 ?_
              refine g_iload h d_Mod_following_83 rfl ?_
              refine g_iadd h d_Mod_following_85 ?_
              refine g_iconst (v := 1) h d_Mod_following_86 (by decide) ?_
              refine g_iadd h d_Mod_following_87 ?_
              refine gj_keys h (j := n * 6 + q + 1) (by rw [nI_at6, nI_1]) (by omega) d_Mod_following_88 ?_
              exact g_lret h r d_Mod_following_89 (⟨by first | (simp [mfollow, c_5, hc, h0]; done) | (simp [mfollow, c_5, hf]; done) | (simp [mfollow, c_5, hf, hc, hl]; done), by first | (simp [mfollow, c_5, hc, h0]; done) | (simp [mfollow, c_5, hf]; done) | (simp [mfollow, c_5, hf, hc, hl]; done)⟩)
            · exact absurd (nI_lt hl (by omega)) c_66
          · refine g_icmp_lt (tgt := 75) h d_Mod_following_66 (by decide) (fun c_66 => ?_) (fun c_66 => ?_)
            · exact absurd c_66 (nI_nlt (by omega) (by omega))
            · refine g_ldc2 (v := -1000000000000) h d_Mod_following_69 k_Mod_62 ?_
              refine g_goto (tgt := 89) h d_Mod_following_72 (by decide) ?_
              exact g_lret h r d_Mod_following_89 (⟨by first | (simp [mfollow, c_5, hc, h0]; done) | (simp [mfollow, c_5, hf]; done) | (simp [mfollow, c_5, hf, hc, hl]; done), by first | (simp [mfollow, c_5, hc, h0]; done) | (simp [mfollow, c_5, hf]; done) | (simp [mfollow, c_5, hf, hc, hl]; done)⟩)
      · exact absurd (nI_pos' (by omega)) c_43
  · refine g_aload_n h d_Mod_following_8 rfl rfl ?_
    refine gf_Mod_size h f_Mod_32 d_Mod_following_9 ?_
    refine g_iload_n h d_Mod_following_12 rfl rfl ?_
    refine gi_size h rfl hn d_Mod_following_13 ?_
    rw [hp]
    rcases Nat.eq_zero_or_pos P with h0 | h0
    · refine g_if_le (tgt := 29) h d_Mod_following_14 (by decide) (fun c_14 => ?_) (fun c_14 => ?_)
      · refine g_ldc2 (v := -1000000000000) h d_Mod_following_29 k_Mod_62 ?_
        exact g_lret h r d_Mod_following_32 (⟨by first | (simp [mfollow, c_5, hc, h0]; done) | (simp [mfollow, c_5, hf]; done) | (simp [mfollow, c_5, hf, hc, hl]; done), by first | (simp [mfollow, c_5, hc, h0]; done) | (simp [mfollow, c_5, hf]; done) | (simp [mfollow, c_5, hf, hc, hl]; done)⟩)
      · exact absurd (by rw [h0]; decide) c_14
    · refine g_if_le (tgt := 29) h d_Mod_following_14 (by decide) (fun c_14 => ?_) (fun c_14 => ?_)
      · exact absurd c_14 (nI_nle h0 (by omega))
      · refine g_aload_n h d_Mod_following_17 rfl rfl ?_
        refine gf_Mod_keys h f_Mod_38 d_Mod_following_18 ?_
        refine g_iload_n h d_Mod_following_21 rfl rfl ?_
        refine g_bipush (v := 6) h d_Mod_following_22 (by decide) ?_
        refine g_imul h d_Mod_following_24 ?_
        refine gj_keys h (nI_x6 n) (by omega) d_Mod_following_25 ?_
        refine g_goto (tgt := 32) h d_Mod_following_26 (by decide) ?_
        exact g_lret h r d_Mod_following_32 (⟨by first | (simp [mfollow, c_5, hc, h0]; done) | (simp [mfollow, c_5, hf]; done) | (simp [mfollow, c_5, hf, hc, hl]; done), by first | (simp [mfollow, c_5, hc, h0]; done) | (simp [mfollow, c_5, hf]; done) | (simp [mfollow, c_5, hf, hc, hl]; done)⟩)
set_option maxHeartbeats 4000000 in
set_option maxRecDepth 100000 in
theorem c_Mod_jumps {l : Launch} {D : va_G} {u : Nat → ClassId} {ad : Nat → Nat} {M : CS} {op : Int32} {a b : Int64} : Cm l D u ad y_Mod_jumps b_Mod_jumps 6 (some .boolean) { frames := 1, cells := 0, slots := 0, locals := 22 } [.ref (ad 0), .int op, .long a, .long b] (M) (some (.int (if (op = 11 ∧ a < b) ∨ op = 12 ∨ (op = 13 ∧ a = -1000000000000) ∨ (op = 14 ∧ a = b) then 1 else 0))) (mjumpsM M op a b) := by
  refine ct_of (by decide) (Nat.le_of_ble_eq_true rfl) ?_
  intro Γ _ _ hN h r
  refine g_at (L' := [some (.ref (ad 0)), some (.int op), some (.long a), none, some (.long b), none]) rfl rfl rfl ?_
  refine g_iload_n h d_Mod_jumps_0 rfl rfl ?_
  refine g_bipush (v := 11) h d_Mod_jumps_1 (by decide) ?_
  refine g_icmp_ne (tgt := 41) h d_Mod_jumps_3 (by decide) (fun c_3 => ?_) (fun c_3 => ?_)
  · refine g_iload_n h d_Mod_jumps_41 rfl rfl ?_
    refine g_bipush (v := 12) h d_Mod_jumps_42 (by decide) ?_
    refine g_icmp_eq (tgt := 74) h d_Mod_jumps_44 (by decide) (fun c_44 => ?_) (fun c_44 => ?_)
    · refine g_iconst (v := 1) h d_Mod_jumps_74 (by decide) ?_
      refine g_goto (tgt := 79) h d_Mod_jumps_75 (by decide) ?_
      exact g_zret h r rfl d_Mod_jumps_79 (⟨by first | exact absurd (c_50.symm.trans c_64) (by decide) | (simp [c_3]; done) | (simp [c_3, c_44]; done) | (simp [c_3, c_50, c_58]; done) | (simp [c_3, c_44, c_50, c_64]; done) | (simp [c_3, c_44, c_50, c_64, c_71]; done) | (simp [c_3, c_44, c_50, c_58, c_64]; done) | (simp [c_3, c_44, c_50, c_58, c_64, c_71]; done), by simp [mjumpsM, c_3]⟩)
    · refine g_iload_n h d_Mod_jumps_47 rfl rfl ?_
      refine g_bipush (v := 13) h d_Mod_jumps_48 (by decide) ?_
      refine g_icmp_ne (tgt := 61) h d_Mod_jumps_50 (by decide) (fun c_50 => ?_) (fun c_50 => ?_)
      · refine g_iload_n h d_Mod_jumps_61 rfl rfl ?_
        refine g_bipush (v := 14) h d_Mod_jumps_62 (by decide) ?_
        refine g_icmp_ne (tgt := 78) h d_Mod_jumps_64 (by decide) (fun c_64 => ?_) (fun c_64 => ?_)
        · refine g_iconst (v := 0) h d_Mod_jumps_78 (by decide) ?_
          exact g_zret h r rfl d_Mod_jumps_79 (⟨by first | exact absurd (c_50.symm.trans c_64) (by decide) | (simp [c_3]; done) | (simp [c_3, c_44]; done) | (simp [c_3, c_50, c_58]; done) | (simp [c_3, c_44, c_50, c_64]; done) | (simp [c_3, c_44, c_50, c_64, c_71]; done) | (simp [c_3, c_44, c_50, c_58, c_64]; done) | (simp [c_3, c_44, c_50, c_58, c_64, c_71]; done), by simp [mjumpsM, c_3]⟩)
        · refine g_lload_n h d_Mod_jumps_67 rfl rfl ?_
          refine g_lload h d_Mod_jumps_68 rfl ?_
          refine g_lc_ne (tgt := 78) h d_Mod_jumps_70 d_Mod_jumps_71 (by decide) (fun c_71 => ?_) (fun c_71 => ?_)
          · refine g_iconst (v := 0) h d_Mod_jumps_78 (by decide) ?_
            exact g_zret h r rfl d_Mod_jumps_79 (⟨by first | exact absurd (c_50.symm.trans c_64) (by decide) | (simp [c_3]; done) | (simp [c_3, c_44]; done) | (simp [c_3, c_50, c_58]; done) | (simp [c_3, c_44, c_50, c_64]; done) | (simp [c_3, c_44, c_50, c_64, c_71]; done) | (simp [c_3, c_44, c_50, c_58, c_64]; done) | (simp [c_3, c_44, c_50, c_58, c_64, c_71]; done), by simp [mjumpsM, c_3]⟩)
          · refine g_iconst (v := 1) h d_Mod_jumps_74 (by decide) ?_
            refine g_goto (tgt := 79) h d_Mod_jumps_75 (by decide) ?_
            exact g_zret h r rfl d_Mod_jumps_79 (⟨by first | exact absurd (c_50.symm.trans c_64) (by decide) | (simp [c_3]; done) | (simp [c_3, c_44]; done) | (simp [c_3, c_50, c_58]; done) | (simp [c_3, c_44, c_50, c_64]; done) | (simp [c_3, c_44, c_50, c_64, c_71]; done) | (simp [c_3, c_44, c_50, c_58, c_64]; done) | (simp [c_3, c_44, c_50, c_58, c_64, c_71]; done), by simp [mjumpsM, c_3]⟩)
      · refine g_lload_n h d_Mod_jumps_53 rfl rfl ?_
        refine g_ldc2 (v := -1000000000000) h d_Mod_jumps_54 k_Mod_62 ?_
        refine g_lc_eq (tgt := 74) h d_Mod_jumps_57 d_Mod_jumps_58 (by decide) (fun c_58 => ?_) (fun c_58 => ?_)
        · refine g_iconst (v := 1) h d_Mod_jumps_74 (by decide) ?_
          refine g_goto (tgt := 79) h d_Mod_jumps_75 (by decide) ?_
          exact g_zret h r rfl d_Mod_jumps_79 (⟨by first | exact absurd (c_50.symm.trans c_64) (by decide) | (simp [c_3]; done) | (simp [c_3, c_44]; done) | (simp [c_3, c_50, c_58]; done) | (simp [c_3, c_44, c_50, c_64]; done) | (simp [c_3, c_44, c_50, c_64, c_71]; done) | (simp [c_3, c_44, c_50, c_58, c_64]; done) | (simp [c_3, c_44, c_50, c_58, c_64, c_71]; done), by simp [mjumpsM, c_3]⟩)
        · refine g_iload_n h d_Mod_jumps_61 rfl rfl ?_
          refine g_bipush (v := 14) h d_Mod_jumps_62 (by decide) ?_
          refine g_icmp_ne (tgt := 78) h d_Mod_jumps_64 (by decide) (fun c_64 => ?_) (fun c_64 => ?_)
          · refine g_iconst (v := 0) h d_Mod_jumps_78 (by decide) ?_
            exact g_zret h r rfl d_Mod_jumps_79 (⟨by first | exact absurd (c_50.symm.trans c_64) (by decide) | (simp [c_3]; done) | (simp [c_3, c_44]; done) | (simp [c_3, c_50, c_58]; done) | (simp [c_3, c_44, c_50, c_64]; done) | (simp [c_3, c_44, c_50, c_64, c_71]; done) | (simp [c_3, c_44, c_50, c_58, c_64]; done) | (simp [c_3, c_44, c_50, c_58, c_64, c_71]; done), by simp [mjumpsM, c_3]⟩)
          · refine g_lload_n h d_Mod_jumps_67 rfl rfl ?_
            refine g_lload h d_Mod_jumps_68 rfl ?_
            refine g_lc_ne (tgt := 78) h d_Mod_jumps_70 d_Mod_jumps_71 (by decide) (fun c_71 => ?_) (fun c_71 => ?_)
            · refine g_iconst (v := 0) h d_Mod_jumps_78 (by decide) ?_
              exact g_zret h r rfl d_Mod_jumps_79 (⟨by first | exact absurd (c_50.symm.trans c_64) (by decide) | (simp [c_3]; done) | (simp [c_3, c_44]; done) | (simp [c_3, c_50, c_58]; done) | (simp [c_3, c_44, c_50, c_64]; done) | (simp [c_3, c_44, c_50, c_64, c_71]; done) | (simp [c_3, c_44, c_50, c_58, c_64]; done) | (simp [c_3, c_44, c_50, c_58, c_64, c_71]; done), by simp [mjumpsM, c_3]⟩)
            · refine g_iconst (v := 1) h d_Mod_jumps_74 (by decide) ?_
              refine g_goto (tgt := 79) h d_Mod_jumps_75 (by decide) ?_
              exact g_zret h r rfl d_Mod_jumps_79 (⟨by first | exact absurd (c_50.symm.trans c_64) (by decide) | (simp [c_3]; done) | (simp [c_3, c_44]; done) | (simp [c_3, c_50, c_58]; done) | (simp [c_3, c_44, c_50, c_64]; done) | (simp [c_3, c_44, c_50, c_64, c_71]; done) | (simp [c_3, c_44, c_50, c_58, c_64]; done) | (simp [c_3, c_44, c_50, c_58, c_64, c_71]; done), by simp [mjumpsM, c_3]⟩)
  · refine g_aload_n h d_Mod_jumps_6 rfl rfl ?_
    refine g_lload_n h d_Mod_jumps_7 rfl rfl ?_
    refine g_dVi h tb_good (c_Mod_isNumber) (q := 0) (by decide) rfl rfl v_Mod_166 nm_Mod_isNumber rfl ⟨rfl, rfl, Nat.le_of_ble_eq_true rfl, Nat.le_of_ble_eq_true rfl, Nat.zero_le _, Nat.zero_le _⟩ rfl (Nat.le_of_ble_eq_true rfl) d_Mod_jumps_8 ?_
    by_cases hb : -2147483648 ≤ a ∧ a ≤ 2147483647
    · rw [if_pos hb]
      refine g_if_eq (tgt := 23) h d_Mod_jumps_11 (by decide) (fun c_11 => ?_) (fun c_11 => ?_)
      · exact absurd c_11 (by decide)
      · refine g_aload_n h d_Mod_jumps_14 rfl rfl ?_
        refine g_lload h d_Mod_jumps_15 rfl ?_
        refine g_dVi h tb_good (c_Mod_isNumber) (q := 0) (by decide) rfl rfl v_Mod_166 nm_Mod_isNumber rfl ⟨rfl, rfl, Nat.le_of_ble_eq_true rfl, Nat.le_of_ble_eq_true rfl, Nat.zero_le _, Nat.zero_le _⟩ rfl (Nat.le_of_ble_eq_true rfl) d_Mod_jumps_17 ?_
        by_cases hc : -2147483648 ≤ b ∧ b ≤ 2147483647
        · rw [if_pos hc]
          refine g_if_ne (tgt := 28) h d_Mod_jumps_20 (by decide) (fun c_20 => ?_) (fun c_20 => ?_)
          · refine g_lload_n h d_Mod_jumps_28 rfl rfl ?_
            refine g_lload h d_Mod_jumps_29 rfl ?_
            refine g_lc_ge (tgt := 39) h d_Mod_jumps_31 d_Mod_jumps_32 (by decide) (fun c_32 => ?_) (fun c_32 => ?_)
            · refine g_iconst (v := 0) h d_Mod_jumps_39 (by decide) ?_
              exact g_zret h r rfl d_Mod_jumps_40 (⟨by first | (rw [if_pos (Or.inl ⟨c_3, Int64.not_le.mp c_32⟩)]; done) | (rw [if_neg (fun z => by rcases z with z | z | z | z <;> first | exact absurd z.2 (Int64.not_lt.mpr c_32) | (rw [c_3] at z; exact absurd z (by decide)) | (rw [c_3] at z; exact absurd z.1 (by decide)))]; done), by unfold mjumpsM; first | (rw [if_pos ⟨c_3, fun z => hb z.1⟩]; done) | (rw [if_pos ⟨c_3, fun z => hc z.2⟩]; done) | (rw [if_neg (fun z => z.2 ⟨hb, hc⟩)]; done)⟩)
            · refine g_iconst (v := 1) h d_Mod_jumps_35 (by decide) ?_
              refine g_goto (tgt := 40) h d_Mod_jumps_36 (by decide) ?_
              exact g_zret h r rfl d_Mod_jumps_40 (⟨by first | (rw [if_pos (Or.inl ⟨c_3, Int64.not_le.mp c_32⟩)]; done) | (rw [if_neg (fun z => by rcases z with z | z | z | z <;> first | exact absurd z.2 (Int64.not_lt.mpr c_32) | (rw [c_3] at z; exact absurd z (by decide)) | (rw [c_3] at z; exact absurd z.1 (by decide)))]; done), by unfold mjumpsM; first | (rw [if_pos ⟨c_3, fun z => hb z.1⟩]; done) | (rw [if_pos ⟨c_3, fun z => hc z.2⟩]; done) | (rw [if_neg (fun z => z.2 ⟨hb, hc⟩)]; done)⟩)
          · exact absurd c_20 (by decide)
        · rw [if_neg hc]
          refine g_if_ne (tgt := 28) h d_Mod_jumps_20 (by decide) (fun c_20 => ?_) (fun c_20 => ?_)
          · exact absurd rfl c_20
          · refine g_aload_n h d_Mod_jumps_23 rfl rfl ?_
            refine g_iconst (v := 3) h d_Mod_jumps_24 (by decide) ?_
            refine pf_Mod_trouble h f_Mod_141 d_Mod_jumps_25 ?_
            refine g_lload_n h d_Mod_jumps_28 rfl rfl ?_
            refine g_lload h d_Mod_jumps_29 rfl ?_
            refine g_lc_ge (tgt := 39) h d_Mod_jumps_31 d_Mod_jumps_32 (by decide) (fun c_32 => ?_) (fun c_32 => ?_)
            · refine g_iconst (v := 0) h d_Mod_jumps_39 (by decide) ?_
              exact g_zret h r rfl d_Mod_jumps_40 (⟨by first | (rw [if_pos (Or.inl ⟨c_3, Int64.not_le.mp c_32⟩)]; done) | (rw [if_neg (fun z => by rcases z with z | z | z | z <;> first | exact absurd z.2 (Int64.not_lt.mpr c_32) | (rw [c_3] at z; exact absurd z (by decide)) | (rw [c_3] at z; exact absurd z.1 (by decide)))]; done), by unfold mjumpsM; first | (rw [if_pos ⟨c_3, fun z => hb z.1⟩]; done) | (rw [if_pos ⟨c_3, fun z => hc z.2⟩]; done) | (rw [if_neg (fun z => z.2 ⟨hb, hc⟩)]; done)⟩)
            · refine g_iconst (v := 1) h d_Mod_jumps_35 (by decide) ?_
              refine g_goto (tgt := 40) h d_Mod_jumps_36 (by decide) ?_
              exact g_zret h r rfl d_Mod_jumps_40 (⟨by first | (rw [if_pos (Or.inl ⟨c_3, Int64.not_le.mp c_32⟩)]; done) | (rw [if_neg (fun z => by rcases z with z | z | z | z <;> first | exact absurd z.2 (Int64.not_lt.mpr c_32) | (rw [c_3] at z; exact absurd z (by decide)) | (rw [c_3] at z; exact absurd z.1 (by decide)))]; done), by unfold mjumpsM; first | (rw [if_pos ⟨c_3, fun z => hb z.1⟩]; done) | (rw [if_pos ⟨c_3, fun z => hc z.2⟩]; done) | (rw [if_neg (fun z => z.2 ⟨hb, hc⟩)]; done)⟩)
    · rw [if_neg hb]
      refine g_if_eq (tgt := 23) h d_Mod_jumps_11 (by decide) (fun c_11 => ?_) (fun c_11 => ?_)
      · refine g_aload_n h d_Mod_jumps_23 rfl rfl ?_
        refine g_iconst (v := 3) h d_Mod_jumps_24 (by decide) ?_
        refine pf_Mod_trouble h f_Mod_141 d_Mod_jumps_25 ?_
        refine g_lload_n h d_Mod_jumps_28 rfl rfl ?_
        refine g_lload h d_Mod_jumps_29 rfl ?_
        refine g_lc_ge (tgt := 39) h d_Mod_jumps_31 d_Mod_jumps_32 (by decide) (fun c_32 => ?_) (fun c_32 => ?_)
        · refine g_iconst (v := 0) h d_Mod_jumps_39 (by decide) ?_
          exact g_zret h r rfl d_Mod_jumps_40 (⟨by first | (rw [if_pos (Or.inl ⟨c_3, Int64.not_le.mp c_32⟩)]; done) | (rw [if_neg (fun z => by rcases z with z | z | z | z <;> first | exact absurd z.2 (Int64.not_lt.mpr c_32) | (rw [c_3] at z; exact absurd z (by decide)) | (rw [c_3] at z; exact absurd z.1 (by decide)))]; done), by unfold mjumpsM; first | (rw [if_pos ⟨c_3, fun z => hb z.1⟩]; done) | (rw [if_pos ⟨c_3, fun z => hc z.2⟩]; done) | (rw [if_neg (fun z => z.2 ⟨hb, hc⟩)]; done)⟩)
        · refine g_iconst (v := 1) h d_Mod_jumps_35 (by decide) ?_
          refine g_goto (tgt := 40) h d_Mod_jumps_36 (by decide) ?_
          exact g_zret h r rfl d_Mod_jumps_40 (⟨by first | (rw [if_pos (Or.inl ⟨c_3, Int64.not_le.mp c_32⟩)]; done) | (rw [if_neg (fun z => by rcases z with z | z | z | z <;> first | exact absurd z.2 (Int64.not_lt.mpr c_32) | (rw [c_3] at z; exact absurd z (by decide)) | (rw [c_3] at z; exact absurd z.1 (by decide)))]; done), by unfold mjumpsM; first | (rw [if_pos ⟨c_3, fun z => hb z.1⟩]; done) | (rw [if_pos ⟨c_3, fun z => hc z.2⟩]; done) | (rw [if_neg (fun z => z.2 ⟨hb, hc⟩)]; done)⟩)
      · exact absurd rfl c_11
