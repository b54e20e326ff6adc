set_option maxHeartbeats 4000000 in
set_option maxRecDepth 100000 in
theorem c_Mod_getting {l : Launch} {D : va_G} {u : Nat → ClassId} {ad : Nat → Nat} {M : CS} {n0 : Nat} {key : Int64} (hok : okM M) (hn0 : n0 < 16) : Cm l D u ad y_Mod_getting b_Mod_getting 7 (some .long) { frames := 3, cells := 0, slots := 0, locals := 70 } [.ref (ad 0), .int (nI n0), .long key] (M) (some (.long (mgetting M key 5 n0).1)) ((mgetting M key 5 n0).2) := by
  refine ct_of (by decide) (Nat.le_of_ble_eq_true rfl) ?_
  intro Γ _ _ hN h r
  have loop : ∀ (c k n : Nat), k + c = 5 → n < 16 → mgetting M key c n = mgetting M key 5 n0 → G Γ 0 0 18 ad (mob ad u M) 6 [some (.ref (ad 0)), none, some (.long key), none, some (.int (nI n)), some (.int (nI k)), none] [] := by
    intro c
    induction c with
    | zero =>
      intro k n hk hn he
      refine g_iload h d_Mod_getting_6 rfl ?_
      refine g_iconst (v := 5) h d_Mod_getting_8 (by decide) ?_
      refine g_icmp_ge (tgt := 76) h d_Mod_getting_9 (by decide) (fun c_9 => ?_) (fun c_9 => ?_)
      · refine g_aload_n h d_Mod_getting_76 rfl rfl ?_
        refine g_iconst (v := 2) h d_Mod_getting_77 (by decide) ?_
        refine pf_Mod_trouble h f_Mod_141 d_Mod_getting_78 ?_
        refine g_ldc2 (v := -1000000000000) h d_Mod_getting_81 k_Mod_62 ?_
        exact g_lret h r d_Mod_getting_84 (⟨by rw [← he]; rfl, by rw [← he]; rfl⟩)
      · exact absurd (nI_le (a := 5) (b := k) (by omega) (by omega)) c_9
    | succ c ih =>
      intro k n hk hn he
      refine g_iload h d_Mod_getting_6 rfl ?_
      refine g_iconst (v := 5) h d_Mod_getting_8 (by decide) ?_
      refine g_icmp_ge (tgt := 76) h d_Mod_getting_9 (by decide) (fun c_9 => ?_) (fun c_9 => ?_)
      · exact absurd c_9 (nI_ge (b := 5) (by omega) (by decide))
      · refine g_lload_n h d_Mod_getting_12 rfl rfl ?_
        refine g_ldc2 (v := -1000000000000) h d_Mod_getting_13 k_Mod_62 ?_
        refine g_lc_ne (tgt := 24) h d_Mod_getting_16 d_Mod_getting_17 (by decide) (fun c_17 => ?_) (fun c_17 => ?_)
        · refine g_aload_n h d_Mod_getting_24 rfl rfl ?_
          refine g_iload h d_Mod_getting_25 rfl ?_
          refine g_lload_n h d_Mod_getting_27 rfl rfl ?_
          obtain ⟨⟨P, hP, hp⟩, -⟩ := hok.1 n hn
          refine g_dVi h tb_good (c_Mod_pairOf hn hp hP) (q := 0) (by decide) rfl rfl v_Mod_131 nm_Mod_pairOf rfl ⟨rfl, rfl, Nat.le_of_ble_eq_true rfl, Nat.le_of_ble_eq_true rfl, Nat.zero_le _, Nat.zero_le _⟩ rfl (Nat.le_of_ble_eq_true rfl) d_Mod_getting_28 ?_
          rcases hf : mpair M n key with _ | q <;> simp only [enc]
          · refine g_istore h d_Mod_getting_31 rfl (by rw [hN]; decide) ?_
            refine g_iload h d_Mod_getting_33 rfl ?_
            refine g_if_lt (tgt := 52) h d_Mod_getting_35 (by decide) (fun c_35 => ?_) (fun c_35 => ?_)
            · refine g_aload_n h d_Mod_getting_52 rfl rfl ?_
              refine g_iload h d_Mod_getting_53 rfl ?_
              refine g_lconst (v := 0) h d_Mod_getting_55 (by decide) ?_
              refine g_dVi h tb_good (c_Mod_next hok hn) (q := 0) (by decide) rfl rfl v_Mod_138 nm_Mod_next rfl ⟨rfl, rfl, Nat.le_of_ble_eq_true rfl, Nat.le_of_ble_eq_true rfl, Nat.zero_le _, Nat.zero_le _⟩ rfl (Nat.le_of_ble_eq_true rfl) d_Mod_getting_56 ?_
              rcases hx : mnext M n 0 with _ | m <;> simp only [enc]
              · refine g_istore h d_Mod_getting_59 rfl (by rw [hN]; decide) ?_
                refine g_iload h d_Mod_getting_61 rfl ?_
                refine g_if_ge (tgt := 70) h d_Mod_getting_63 (by decide) (fun c_63 => ?_) (fun c_63 => ?_)
                · exact absurd c_63 (by decide)
                · refine g_ldc2 (v := -1000000000000) h d_Mod_getting_66 k_Mod_62 ?_
                  exact g_lret h r d_Mod_getting_69 (⟨by rw [← he]; first | (simp [mgetting, c_17]; done) | (simp [mgetting, c_17, hf]; done) | (simp [mgetting, c_17, hf, hx]; done), by rw [← he]; first | (simp [mgetting, c_17]; done) | (simp [mgetting, c_17, hf]; done) | (simp [mgetting, c_17, hf, hx]; done)⟩)
              · have hm := mnext_lt hok hx
                refine g_istore h d_Mod_getting_59 rfl (by rw [hN]; decide) ?_
                refine g_iload h d_Mod_getting_61 rfl ?_
                refine g_if_ge (tgt := 70) h d_Mod_getting_63 (by decide) (fun c_63 => ?_) (fun c_63 => ?_)
                · refine g_iinc (v := nI (k + 1)) h d_Mod_getting_70 rfl (by rw [nI_succ]; rfl) rfl (by rw [hN]; decide) ?_
                  refine g_goto (tgt := 6) h d_Mod_getting_73 (by decide) ?_
                  refine g_lessL (L' := [some (.ref (ad 0)), none, some (.long key), none, some (.int (nI m)), some (.int (nI (k + 1))), none]) (by simp [leL]) ?_
                  exact ih (k + 1) m (by omega) hm (by rw [← he]; simp [mgetting, c_17, hf, hx])
                · exact absurd (nI_pos' (by omega)) c_63
            · exact absurd (by decide) c_35
          · have hq := mpair_lt hp hP hf
            refine g_istore h d_Mod_getting_31 rfl (by rw [hN]; decide) ?_
            refine g_iload h d_Mod_getting_33 rfl ?_
            refine g_if_lt (tgt := 52) h d_Mod_getting_35 (by decide) (fun c_35 => ?_) (fun c_35 => ?_)
            · exact absurd c_35 (nI_pos (by omega))
            · refine g_aload_n h d_Mod_getting_38 rfl rfl ?_
              refine gf_Mod_values h f_Mod_41 d_Mod_getting_39 ?_
              refine g_iload h d_Mod_getting_42 rfl ?_
              refine g_bipush (v := 6) h d_Mod_getting_44 (by decide) ?_
              refine g_imul h d_Mod_getting_46 ?_
              refine g_iload h d_Mod_getting_47 rfl ?_
              refine g_iadd h d_Mod_getting_49 ?_
              refine gj_values h (nI_at6 n q) (by omega) d_Mod_getting_50 ?_
              exact g_lret h r d_Mod_getting_51 (⟨by rw [← he]; first | (simp [mgetting, c_17]; done) | (simp [mgetting, c_17, hf]; done) | (simp [mgetting, c_17, hf, hx]; done), by rw [← he]; first | (simp [mgetting, c_17]; done) | (simp [mgetting, c_17, hf]; done) | (simp [mgetting, c_17, hf, hx]; done)⟩)
        · refine g_ldc2 (v := -1000000000000) h d_Mod_getting_20 k_Mod_62 ?_
          exact g_lret h r d_Mod_getting_23 (⟨by rw [← he]; first | (simp [mgetting, c_17]; done) | (simp [mgetting, c_17, hf]; done) | (simp [mgetting, c_17, hf, hx]; done), by rw [← he]; first | (simp [mgetting, c_17]; done) | (simp [mgetting, c_17, hf]; done) | (simp [mgetting, c_17, hf, hx]; done)⟩)
  refine g_at (L' := [some (.ref (ad 0)), some (.int (nI n0)), some (.long key), none, none, none, none]) rfl rfl rfl ?_
  refine g_iload_n h d_Mod_getting_0 rfl rfl ?_
  refine g_istore h d_Mod_getting_1 rfl (by rw [hN]; decide) ?_
  refine g_iconst (v := 0) h d_Mod_getting_3 (by decide) ?_
  refine g_istore h d_Mod_getting_4 rfl (by rw [hN]; decide) ?_
  refine g_lessL (L' := [some (.ref (ad 0)), none, some (.long key), none, some (.int (nI n0)), some (.int (nI 0)), none]) (by simp [leL]; first | done | rfl) ?_
  exact loop 5 0 n0 (by omega) hn0 rfl
