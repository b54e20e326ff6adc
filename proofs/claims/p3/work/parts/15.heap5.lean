set_option maxHeartbeats 4000000 in
set_option maxRecDepth 100000 in
theorem c_Heap_getting {l : Launch} {D : va_G} {t : Nat → ClassId} {ad : Nat → Nat} {C : CS} {tb k : Int64} (hok : okC C) (htb : okV tb) : Cd l D t ad y_Heap_getting b_Heap_getting 8 (some .int) { frames := 4, cells := 0, slots := 0, locals := 98 } [.ref (ad (ix 1 0)), .long tb, .long k] (C) (some (.int (cgetting C tb k).1)) ((cgetting C tb k).2) := by
  refine ct_of (by decide) (Nat.le_of_ble_eq_true rfl) ?_
  intro Γ _ _ hN h r
  have hok1 : okC (sJ C 4 0 0 (-1000000000000)) := okC_J hok okV_nil
  refine g_at (L' := [some (.ref (ad (ix 1 0))), some (.long tb), none, some (.long k), none, none, none, none]) rfl rfl rfl ?_
  refine g_aload_n h d_Heap_getting_0 rfl rfl ?_
  refine g_iconst (v := 1) h d_Heap_getting_1 (by decide) ?_
  refine g_lload_n h d_Heap_getting_2 rfl rfl ?_
  refine g_dVi h tb_good (c_Heap_isA htb) (ix_lt 1 (by decide) _ (by decide)) (wc_at (by decide) (by decide)) rfl v_Heap_94 nm_Heap_isA rfl ⟨rfl, rfl, Nat.le_of_ble_eq_true rfl, Nat.le_of_ble_eq_true rfl, Nat.zero_le _, Nat.zero_le _⟩ rfl (Nat.le_of_ble_eq_true rfl) d_Heap_getting_3 ?_
  by_cases ha : isA C 1 tb = true
  · rw [if_pos ha]
    obtain ⟨ho, hon, -⟩ := isA_on htb ha
    refine g_if_ne (tgt := 11) h d_Heap_getting_6 (by decide) (fun c_6 => ?_) (fun c_6 => ?_)
    · refine g_aload_n h d_Heap_getting_11 rfl rfl ?_
      refine g_ldc2 (v := -1000000000000) h d_Heap_getting_12 k_Heap_40 ?_
      refine pf_Heap_found h f_Heap_42 d_Heap_getting_15 ?_
      refine g_lload_n h d_Heap_getting_18 rfl rfl ?_
      refine g_ldc2 (v := -1000000000000) h d_Heap_getting_19 k_Heap_40 ?_
      refine g_lc_ne (tgt := 28) h d_Heap_getting_22 d_Heap_getting_23 (by decide) (fun c_23 => ?_) (fun c_23 => ?_)
      · refine g_aload_n h d_Heap_getting_28 rfl rfl ?_
        refine g_lload_n h d_Heap_getting_29 rfl rfl ?_
        refine g_dNi h tb_good (c_TCM_numberOf) (host := "TriColourMachine") nl_Heap_55 cd_TCM_numberOf in_TCM st_TCM_numberOf nm_TCM_numberOf rfl ⟨rfl, rfl, Nat.le_of_ble_eq_true rfl, Nat.le_of_ble_eq_true rfl, Nat.zero_le _, Nat.zero_le _⟩ rfl (Nat.le_of_ble_eq_true rfl) d_Heap_getting_30 ?_
        rw [hon]
        refine g_lload_n h d_Heap_getting_33 rfl rfl ?_
        refine g_lconst (v := 0) h d_Heap_getting_34 (by decide) ?_
        refine g_dVi h tb_good (c_Heap_lastTable (C := (sJ C 4 0 0 (-1000000000000))) (n0 := on tb) hok1 ho rfl) (ix_lt 1 (by decide) _ (by decide)) (wc_at (by decide) (by decide)) rfl v_Heap_98 nm_Heap_lastTable rfl ⟨rfl, rfl, Nat.le_of_ble_eq_true rfl, Nat.le_of_ble_eq_true rfl, Nat.zero_le _, Nat.zero_le _⟩ rfl (Nat.le_of_ble_eq_true rfl) d_Heap_getting_35 ?_
        refine g_istore h d_Heap_getting_38 rfl (by rw [hN]; decide) ?_
        rcases hl : tlast (sJ C 4 0 0 (-1000000000000)) k 0 5 (on tb) with _ | q <;> simp only [enc]
        · refine g_iload h d_Heap_getting_40 rfl ?_
          refine g_if_ge (tgt := 47) h d_Heap_getting_42 (by decide) (fun c_42 => ?_) (fun c_42 => ?_)
          · exact absurd c_42 (by decide)
          · refine g_iconst (v := 2) h d_Heap_getting_45 (by decide) ?_
            exact g_iret h r d_Heap_getting_46 (⟨by first | (simp [cgetting, ha]; done) | (simp [cgetting, ha, c_23]; done) | (simp [cgetting, ha, c_23, hl]; done) | (simp [cgetting, ha, c_23, hl, hf]; done), by first | (simp [cgetting, ha]; done) | (simp [cgetting, ha, c_23]; done) | (simp [cgetting, ha, c_23, hl]; done) | (simp [cgetting, ha, c_23, hl, hf]; done)⟩)
        · have hq := tlast_lt hok1 5 _ _ ho hl
          obtain ⟨⟨P, hP, hp⟩, -⟩ := hok1.1 q hq
          refine g_iload h d_Heap_getting_40 rfl ?_
          refine g_if_ge (tgt := 47) h d_Heap_getting_42 (by decide) (fun c_42 => ?_) (fun c_42 => ?_)
          · refine g_aload_n h d_Heap_getting_47 rfl rfl ?_
            refine gf_Heap_cells h f_Heap_17 d_Heap_getting_48 ?_
            refine g_iload h d_Heap_getting_51 rfl ?_
            refine ga_cells h rfl hq d_Heap_getting_53 ?_
            refine gf_Cell_table h f_Heap_76 (by first | assumption | omega | (show _ < 16; omega)) d_Heap_getting_54 ?_
            refine g_astore h d_Heap_getting_57 rfl (by rw [hN]; decide) ?_
            refine g_aload h d_Heap_getting_59 rfl ?_
            refine g_lload_n h d_Heap_getting_61 rfl rfl ?_
            refine g_dVi h tb_good (c_Tab_find (C := (sJ C 4 0 0 (-1000000000000))) hq hp hP) (ix_lt 5 (by decide) _ (by first | assumption | omega | (show _ < 16; omega))) (wc_at (by decide) (by first | assumption | omega | (show _ < 16; omega))) rfl v_Heap_102 nm_Tab_find rfl ⟨rfl, rfl, Nat.le_of_ble_eq_true rfl, Nat.le_of_ble_eq_true rfl, Nat.zero_le _, Nat.zero_le _⟩ rfl (Nat.le_of_ble_eq_true rfl) d_Heap_getting_62 ?_
            refine g_istore h d_Heap_getting_65 rfl (by rw [hN]; decide) ?_
            rcases hf : tfind (sJ C 4 0 0 (-1000000000000)) q k with _ | w <;> simp only [enc]
            · refine g_iload h d_Heap_getting_67 rfl ?_
              refine g_if_lt (tgt := 84) h d_Heap_getting_69 (by decide) (fun c_69 => ?_) (fun c_69 => ?_)
              · refine g_iconst (v := 0) h d_Heap_getting_84 (by decide) ?_
                exact g_iret h r d_Heap_getting_85 (⟨by first | (simp [cgetting, ha]; done) | (simp [cgetting, ha, c_23]; done) | (simp [cgetting, ha, c_23, hl]; done) | (simp [cgetting, ha, c_23, hl, hf]; done), by first | (simp [cgetting, ha]; done) | (simp [cgetting, ha, c_23]; done) | (simp [cgetting, ha, c_23, hl]; done) | (simp [cgetting, ha, c_23, hl, hf]; done)⟩)
              · exact absurd (by decide) c_69
            · have hw := tfind_lt hp hP hf
              refine g_iload h d_Heap_getting_67 rfl ?_
              refine g_if_lt (tgt := 84) h d_Heap_getting_69 (by decide) (fun c_69 => ?_) (fun c_69 => ?_)
              · exact absurd c_69 (nI_pos (by omega))
              · refine g_aload_n h d_Heap_getting_72 rfl rfl ?_
                refine g_aload h d_Heap_getting_73 rfl ?_
                refine gf_Tab_values h f_Heap_105 (by first | assumption | omega | (show _ < 16; omega)) d_Heap_getting_75 ?_
                refine g_iload h d_Heap_getting_78 rfl ?_
                refine ga_vals h hq rfl (by omega) d_Heap_getting_80 ?_
                refine pf_Heap_found h f_Heap_42 d_Heap_getting_81 ?_
                refine g_iconst (v := 0) h d_Heap_getting_84 (by decide) ?_
                exact g_iret h r d_Heap_getting_85 (⟨by first | (simp [cgetting, ha]; done) | (simp [cgetting, ha, c_23]; done) | (simp [cgetting, ha, c_23, hl]; done) | (simp [cgetting, ha, c_23, hl, hf]; done), by first | (simp [cgetting, ha]; done) | (simp [cgetting, ha, c_23]; done) | (simp [cgetting, ha, c_23, hl]; done) | (simp [cgetting, ha, c_23, hl, hf]; done)⟩)
          · exact absurd (nI_pos' (by omega)) c_42
      · refine g_iconst (v := 0) h d_Heap_getting_26 (by decide) ?_
        exact g_iret h r d_Heap_getting_27 (⟨by first | (simp [cgetting, ha]; done) | (simp [cgetting, ha, c_23]; done) | (simp [cgetting, ha, c_23, hl]; done) | (simp [cgetting, ha, c_23, hl, hf]; done), by first | (simp [cgetting, ha]; done) | (simp [cgetting, ha, c_23]; done) | (simp [cgetting, ha, c_23, hl]; done) | (simp [cgetting, ha, c_23, hl, hf]; done)⟩)
    · exact absurd c_6 (by decide)
  · rw [if_neg ha]
    refine g_if_ne (tgt := 11) h d_Heap_getting_6 (by decide) (fun c_6 => ?_) (fun c_6 => ?_)
    · exact absurd rfl c_6
    · refine g_iconst (v := 1) h d_Heap_getting_9 (by decide) ?_
      exact g_iret h r d_Heap_getting_10 (⟨by first | (simp [cgetting, ha]; done) | (simp [cgetting, ha, c_23]; done) | (simp [cgetting, ha, c_23, hl]; done) | (simp [cgetting, ha, c_23, hl, hf]; done), by first | (simp [cgetting, ha]; done) | (simp [cgetting, ha, c_23]; done) | (simp [cgetting, ha, c_23, hl]; done) | (simp [cgetting, ha, c_23, hl, hf]; done)⟩)
set_option maxHeartbeats 4000000 in
set_option maxRecDepth 100000 in
theorem c_Heap_howMany {l : Launch} {D : va_G} {t : Nat → ClassId} {ad : Nat → Nat} {C : CS} {tb : Int64} (hok : okC C) (htb : okV tb) : Cd l D t ad y_Heap_howMany b_Heap_howMany 3 (some .int) { frames := 2, cells := 0, slots := 0, locals := 44 } [.ref (ad (ix 1 0)), .long tb] (C) (some (.int (chowMany C tb).1)) ((chowMany C tb).2) := by
  refine ct_of (by decide) (Nat.le_of_ble_eq_true rfl) ?_
  intro Γ _ _ hN h r
  refine g_at (L' := [some (.ref (ad (ix 1 0))), some (.long tb), none]) rfl rfl rfl ?_
  refine g_aload_n h d_Heap_howMany_0 rfl rfl ?_
  refine g_iconst (v := 1) h d_Heap_howMany_1 (by decide) ?_
  refine g_lload_n h d_Heap_howMany_2 rfl rfl ?_
  refine g_dVi h tb_good (c_Heap_isA htb) (ix_lt 1 (by decide) _ (by decide)) (wc_at (by decide) (by decide)) rfl v_Heap_94 nm_Heap_isA rfl ⟨rfl, rfl, Nat.le_of_ble_eq_true rfl, Nat.le_of_ble_eq_true rfl, Nat.zero_le _, Nat.zero_le _⟩ rfl (Nat.le_of_ble_eq_true rfl) d_Heap_howMany_3 ?_
  by_cases ha : isA C 1 tb = true
  · rw [if_pos ha]
    obtain ⟨ho, hon, -⟩ := isA_on htb ha
    refine g_if_ne (tgt := 11) h d_Heap_howMany_6 (by decide) (fun c_6 => ?_) (fun c_6 => ?_)
    · refine g_aload_n h d_Heap_howMany_11 rfl rfl ?_
      refine g_aload_n h d_Heap_howMany_12 rfl rfl ?_
      refine gf_Heap_cells h f_Heap_17 d_Heap_howMany_13 ?_
      refine g_lload_n h d_Heap_howMany_16 rfl rfl ?_
      refine g_dNi h tb_good (c_TCM_numberOf) (host := "TriColourMachine") nl_Heap_55 cd_TCM_numberOf in_TCM st_TCM_numberOf nm_TCM_numberOf rfl ⟨rfl, rfl, Nat.le_of_ble_eq_true rfl, Nat.le_of_ble_eq_true rfl, Nat.zero_le _, Nat.zero_le _⟩ rfl (Nat.le_of_ble_eq_true rfl) d_Heap_howMany_17 ?_
      skip
      refine ga_cells h hon ho d_Heap_howMany_20 ?_
      refine gf_Cell_table h f_Heap_76 (by first | assumption | omega | (show _ < 16; omega)) d_Heap_howMany_21 ?_
      refine gf_Tab_pairs h f_Heap_108 (by first | assumption | omega | (show _ < 16; omega)) d_Heap_howMany_24 ?_
      refine g_i2l h d_Heap_howMany_27 ?_
      refine pf_Heap_found h f_Heap_42 d_Heap_howMany_28 ?_
      refine g_iconst (v := 0) h d_Heap_howMany_31 (by decide) ?_
      exact g_iret h r d_Heap_howMany_32 (⟨by simp [chowMany, ha], by simp [chowMany, ha]⟩)
    · exact absurd c_6 (by decide)
  · rw [if_neg ha]
    refine g_if_ne (tgt := 11) h d_Heap_howMany_6 (by decide) (fun c_6 => ?_) (fun c_6 => ?_)
    · exact absurd rfl c_6
    · refine g_iconst (v := 1) h d_Heap_howMany_9 (by decide) ?_
      exact g_iret h r d_Heap_howMany_10 (⟨by simp [chowMany, ha], by simp [chowMany, ha]⟩)
set_option maxHeartbeats 4000000 in
set_option maxRecDepth 100000 in
theorem c_Heap_settingMeta {l : Launch} {D : va_G} {t : Nat → ClassId} {ad : Nat → Nat} {C : CS} {tb m : Int64} (hok : okC C) (htb : okV tb) (hm : okV m) : Cd l D t ad y_Heap_settingMeta b_Heap_settingMeta 6 (some .int) { frames := 2, cells := 0, slots := 0, locals := 44 } [.ref (ad (ix 1 0)), .long tb, .long m] (C) (some (.int (csetMeta C tb m).1)) ((csetMeta C tb m).2) := by
  refine ct_of (by decide) (Nat.le_of_ble_eq_true rfl) ?_
  intro Γ _ _ hN h r
  refine g_at (L' := [some (.ref (ad (ix 1 0))), some (.long tb), none, some (.long m), none, none]) rfl rfl rfl ?_
  refine g_aload_n h d_Heap_settingMeta_0 rfl rfl ?_
  refine g_iconst (v := 1) h d_Heap_settingMeta_1 (by decide) ?_
  refine g_lload_n h d_Heap_settingMeta_2 rfl rfl ?_
  refine g_dVi h tb_good (c_Heap_isA htb) (ix_lt 1 (by decide) _ (by decide)) (wc_at (by decide) (by decide)) rfl v_Heap_94 nm_Heap_isA rfl ⟨rfl, rfl, Nat.le_of_ble_eq_true rfl, Nat.le_of_ble_eq_true rfl, Nat.zero_le _, Nat.zero_le _⟩ rfl (Nat.le_of_ble_eq_true rfl) d_Heap_settingMeta_3 ?_
  by_cases ha : isA C 1 tb = true
  · rw [if_pos ha]
    refine g_if_eq (tgt := 26) h d_Heap_settingMeta_6 (by decide) (fun c_6 => ?_) (fun c_6 => ?_)
    · exact absurd c_6 (by decide)
    · refine g_lload_n h d_Heap_settingMeta_9 rfl rfl ?_
      refine g_ldc2 (v := -1000000000000) h d_Heap_settingMeta_10 k_Heap_40 ?_
      refine g_lc_eq (tgt := 28) h d_Heap_settingMeta_13 d_Heap_settingMeta_14 (by decide) (fun c_14 => ?_) (fun c_14 => ?_)
      · refine g_lload_n h d_Heap_settingMeta_28 rfl rfl ?_
        refine g_dNi h tb_good (c_TCM_numberOf) (host := "TriColourMachine") nl_Heap_55 cd_TCM_numberOf in_TCM st_TCM_numberOf nm_TCM_numberOf rfl ⟨rfl, rfl, Nat.le_of_ble_eq_true rfl, Nat.le_of_ble_eq_true rfl, Nat.zero_le _, Nat.zero_le _⟩ rfl (Nat.le_of_ble_eq_true rfl) d_Heap_settingMeta_29 ?_
        obtain ⟨ho, hon, -⟩ := isA_on htb ha
        rw [hon]
        refine g_istore h d_Heap_settingMeta_32 rfl (by rw [hN]; decide) ?_
        refine g_aload_n h d_Heap_settingMeta_34 rfl rfl ?_
        refine gf_Heap_cells h f_Heap_17 d_Heap_settingMeta_35 ?_
        refine g_iload h d_Heap_settingMeta_38 rfl ?_
        refine ga_cells h rfl ho d_Heap_settingMeta_40 ?_
        refine gf_Cell_table h f_Heap_76 (by first | assumption | omega | (show _ < 16; omega)) d_Heap_settingMeta_41 ?_
        refine g_lload_n h d_Heap_settingMeta_44 rfl rfl ?_
        refine g_ldc2 (v := -1000000000000) h d_Heap_settingMeta_45 k_Heap_40 ?_
        refine g_lc_ne (tgt := 56) h d_Heap_settingMeta_48 d_Heap_settingMeta_49 (by decide) (fun c_49 => ?_) (fun c_49 => ?_)
        · exact absurd c_14 c_49
        · refine g_iconst (v := -1) h d_Heap_settingMeta_52 (by decide) ?_
          refine g_goto (tgt := 60) h d_Heap_settingMeta_53 (by decide) ?_
          refine pf_Tab_meta h f_Heap_121 (by first | assumption | omega | (show _ < 16; omega)) d_Heap_settingMeta_60 ?_
          refine g_aload_n h d_Heap_settingMeta_63 rfl rfl ?_
          refine g_iload h d_Heap_settingMeta_64 rfl ?_
          refine g_dVv h tb_good (c_Heap_touch ho) (ix_lt 1 (by decide) _ (by decide)) (wc_at (by decide) (by decide)) rfl v_Heap_118 nm_Heap_touch rfl ⟨rfl, rfl, Nat.le_of_ble_eq_true rfl, Nat.le_of_ble_eq_true rfl, Nat.zero_le _, Nat.zero_le _⟩ rfl (Nat.le_of_ble_eq_true rfl) d_Heap_settingMeta_66 ?_
          refine g_iconst (v := 0) h d_Heap_settingMeta_69 (by decide) ?_
          exact g_iret h r d_Heap_settingMeta_70 (⟨by first | (simp [csetMeta, ha]; done) | (simp [csetMeta, ha, c_14]; done) | (simp [csetMeta, ha, c_14, hb]; done), by first | (simp [csetMeta, ha]; done) | (simp [csetMeta, ha, c_14]; done) | (simp [csetMeta, ha, c_14, hb]; done) | (simp [csetMeta, ha, c_14, hb, (isA_on hm hb).2.1]; done)⟩)
      · skip
        · refine g_aload_n h d_Heap_settingMeta_17 rfl rfl ?_
          refine g_iconst (v := 1) h d_Heap_settingMeta_18 (by decide) ?_
          refine g_lload_n h d_Heap_settingMeta_19 rfl rfl ?_
          refine g_dVi h tb_good (c_Heap_isA hm) (ix_lt 1 (by decide) _ (by decide)) (wc_at (by decide) (by decide)) rfl v_Heap_94 nm_Heap_isA rfl ⟨rfl, rfl, Nat.le_of_ble_eq_true rfl, Nat.le_of_ble_eq_true rfl, Nat.zero_le _, Nat.zero_le _⟩ rfl (Nat.le_of_ble_eq_true rfl) d_Heap_settingMeta_20 ?_
          by_cases hb : isA C 1 m = true
          · rw [if_pos hb]
            refine g_if_ne (tgt := 28) h d_Heap_settingMeta_23 (by decide) (fun c_23 => ?_) (fun c_23 => ?_)
            · refine g_lload_n h d_Heap_settingMeta_28 rfl rfl ?_
              refine g_dNi h tb_good (c_TCM_numberOf) (host := "TriColourMachine") nl_Heap_55 cd_TCM_numberOf in_TCM st_TCM_numberOf nm_TCM_numberOf rfl ⟨rfl, rfl, Nat.le_of_ble_eq_true rfl, Nat.le_of_ble_eq_true rfl, Nat.zero_le _, Nat.zero_le _⟩ rfl (Nat.le_of_ble_eq_true rfl) d_Heap_settingMeta_29 ?_
              obtain ⟨ho, hon, -⟩ := isA_on htb ha
              rw [hon]
              refine g_istore h d_Heap_settingMeta_32 rfl (by rw [hN]; decide) ?_
              refine g_aload_n h d_Heap_settingMeta_34 rfl rfl ?_
              refine gf_Heap_cells h f_Heap_17 d_Heap_settingMeta_35 ?_
              refine g_iload h d_Heap_settingMeta_38 rfl ?_
              refine ga_cells h rfl ho d_Heap_settingMeta_40 ?_
              refine gf_Cell_table h f_Heap_76 (by first | assumption | omega | (show _ < 16; omega)) d_Heap_settingMeta_41 ?_
              refine g_lload_n h d_Heap_settingMeta_44 rfl rfl ?_
              refine g_ldc2 (v := -1000000000000) h d_Heap_settingMeta_45 k_Heap_40 ?_
              refine g_lc_ne (tgt := 56) h d_Heap_settingMeta_48 d_Heap_settingMeta_49 (by decide) (fun c_49 => ?_) (fun c_49 => ?_)
              · refine g_lload_n h d_Heap_settingMeta_56 rfl rfl ?_
                refine g_dNi h tb_good (c_TCM_numberOf) (host := "TriColourMachine") nl_Heap_55 cd_TCM_numberOf in_TCM st_TCM_numberOf nm_TCM_numberOf rfl ⟨rfl, rfl, Nat.le_of_ble_eq_true rfl, Nat.le_of_ble_eq_true rfl, Nat.zero_le _, Nat.zero_le _⟩ rfl (Nat.le_of_ble_eq_true rfl) d_Heap_settingMeta_57 ?_
                refine pf_Tab_meta h f_Heap_121 (by first | assumption | omega | (show _ < 16; omega)) d_Heap_settingMeta_60 ?_
                refine g_aload_n h d_Heap_settingMeta_63 rfl rfl ?_
                refine g_iload h d_Heap_settingMeta_64 rfl ?_
                refine g_dVv h tb_good (c_Heap_touch ho) (ix_lt 1 (by decide) _ (by decide)) (wc_at (by decide) (by decide)) rfl v_Heap_118 nm_Heap_touch rfl ⟨rfl, rfl, Nat.le_of_ble_eq_true rfl, Nat.le_of_ble_eq_true rfl, Nat.zero_le _, Nat.zero_le _⟩ rfl (Nat.le_of_ble_eq_true rfl) d_Heap_settingMeta_66 ?_
                refine g_iconst (v := 0) h d_Heap_settingMeta_69 (by decide) ?_
                exact g_iret h r d_Heap_settingMeta_70 (⟨by first | (simp [csetMeta, ha]; done) | (simp [csetMeta, ha, c_14]; done) | (simp [csetMeta, ha, c_14, hb]; done), by first | (simp [csetMeta, ha]; done) | (simp [csetMeta, ha, c_14]; done) | (simp [csetMeta, ha, c_14, hb]; done) | (simp [csetMeta, ha, c_14, hb, (isA_on hm hb).2.1]; done)⟩)
              · exact absurd c_49 c_14
            · exact absurd c_23 (by decide)
          · rw [if_neg hb]
            refine g_if_ne (tgt := 28) h d_Heap_settingMeta_23 (by decide) (fun c_23 => ?_) (fun c_23 => ?_)
            · exact absurd rfl c_23
            · refine g_iconst (v := 1) h d_Heap_settingMeta_26 (by decide) ?_
              exact g_iret h r d_Heap_settingMeta_27 (⟨by first | (simp [csetMeta, ha]; done) | (simp [csetMeta, ha, c_14]; done) | (simp [csetMeta, ha, c_14, hb]; done), by first | (simp [csetMeta, ha]; done) | (simp [csetMeta, ha, c_14]; done) | (simp [csetMeta, ha, c_14, hb]; done) | (simp [csetMeta, ha, c_14, hb, (isA_on hm hb).2.1]; done)⟩)
  · rw [if_neg ha]
    refine g_if_eq (tgt := 26) h d_Heap_settingMeta_6 (by decide) (fun c_6 => ?_) (fun c_6 => ?_)
    · refine g_iconst (v := 1) h d_Heap_settingMeta_26 (by decide) ?_
      exact g_iret h r d_Heap_settingMeta_27 (⟨by first | (simp [csetMeta, ha]; done) | (simp [csetMeta, ha, c_14]; done) | (simp [csetMeta, ha, c_14, hb]; done), by first | (simp [csetMeta, ha]; done) | (simp [csetMeta, ha, c_14]; done) | (simp [csetMeta, ha, c_14, hb]; done) | (simp [csetMeta, ha, c_14, hb, (isA_on hm hb).2.1]; done)⟩)
    · exact absurd rfl c_6
theorem ac_l : Cond.methodLink "TriColourMachine$Table" 25 arraycopyName ∈ TB := tb_mem 531 (by decide +kernel) rfl
theorem ac_n : Cond.native arraycopyName ∈ TB := tb_mem 533 (by decide +kernel) rfl
theorem ac_s : Cond.static arraycopyName ∈ TB := tb_mem 532 (by decide +kernel) rfl
theorem ac_i : Cond.initialized "java/lang/System" ∈ TB := tb_mem 58 (by decide +kernel) rfl
set_option maxHeartbeats 4000000 in
set_option maxRecDepth 100000 in
theorem c_Tab_takeAway {l : Launch} {D : va_G} {t : Nat → ClassId} {ad : Nat → Nat} {C : CS} {n P j : Nat} (hn : n < 16) (hp : C.1 2 n = nI P) (hP : P ≤ 6) (hj : j < P) : Cd l D t ad y_Tab_takeAway b_Tab_takeAway 3 none { frames := 1, cells := 0, slots := 0, locals := 60 } [.ref (ad (ix 5 n)), .int (nI j)] (C) (none) (ttake C n j) := by
  refine ct_of (by decide) (Nat.le_of_ble_eq_true rfl) ?_
  intro Γ _ _ hN h r
  have hc := cPairs_eq hp hP
  have hb : nI P - nI j - 1 = nI (P - j - 1) := by rw [pk_sub (by omega), show P - j = (P - j - 1) + 1 by omega, nI_pred]; rfl
  refine g_at (L' := [some (.ref (ad (ix 5 n))), some (.int (nI j)), none]) rfl rfl rfl ?_
  refine g_aload_n h d_Tab_takeAway_0 rfl rfl ?_
  refine gf_Tab_pairs h f_Tab_18 (by first | assumption | omega | (show _ < 16; omega)) d_Tab_takeAway_1 ?_
  refine g_iload_n h d_Tab_takeAway_4 rfl rfl ?_
  refine g_isub h d_Tab_takeAway_5 ?_
  refine g_iconst (v := 1) h d_Tab_takeAway_6 (by decide) ?_
  refine g_isub h d_Tab_takeAway_7 ?_
  rw [hp, hb]
  refine g_istore_n h d_Tab_takeAway_8 rfl rfl (by rw [hN]; decide) ?_
  refine g_aload_n h d_Tab_takeAway_9 rfl rfl ?_
  refine gf_Tab_keys h f_Tab_9 (by first | assumption | omega | (show _ < 16; omega)) d_Tab_takeAway_10 ?_
  refine g_iload_n h d_Tab_takeAway_13 rfl rfl ?_
  refine g_iconst (v := 1) h d_Tab_takeAway_14 (by decide) ?_
  refine g_iadd h d_Tab_takeAway_15 ?_
  refine g_aload_n h d_Tab_takeAway_16 rfl rfl ?_
  refine gf_Tab_keys h f_Tab_9 (by first | assumption | omega | (show _ < 16; omega)) d_Tab_takeAway_17 ?_
  refine g_iload_n h d_Tab_takeAway_20 rfl rfl ?_
  refine g_iload_n h d_Tab_takeAway_21 rfl rfl ?_
  refine pc_row h (cd := 6) (f := 1) rfl (by decide) ac_l ac_n ac_s ac_i (sp := j + 1) (dp := j) (m := P - j - 1) hn (fun _ => rfl) (by omega) (by omega) (nI_1 j) rfl rfl (Nat.le_of_ble_eq_true rfl) (Nat.le_of_ble_eq_true rfl) d_Tab_takeAway_22 ?_
  refine g_aload_n h d_Tab_takeAway_25 rfl rfl ?_
  refine gf_Tab_values h f_Tab_15 (by first | assumption | omega | (show _ < 16; omega)) d_Tab_takeAway_26 ?_
  refine g_iload_n h d_Tab_takeAway_29 rfl rfl ?_
  refine g_iconst (v := 1) h d_Tab_takeAway_30 (by decide) ?_
  refine g_iadd h d_Tab_takeAway_31 ?_
  refine g_aload_n h d_Tab_takeAway_32 rfl rfl ?_
  refine gf_Tab_values h f_Tab_15 (by first | assumption | omega | (show _ < 16; omega)) d_Tab_takeAway_33 ?_
  refine g_iload_n h d_Tab_takeAway_36 rfl rfl ?_
  refine g_iload_n h d_Tab_takeAway_37 rfl rfl ?_
  refine pc_row h (cd := 7) (f := 2) rfl (by decide) ac_l ac_n ac_s ac_i (sp := j + 1) (dp := j) (m := P - j - 1) hn (fun _ => rfl) (by omega) (by omega) (nI_1 j) rfl rfl (Nat.le_of_ble_eq_true rfl) (Nat.le_of_ble_eq_true rfl) d_Tab_takeAway_38 ?_
  refine g_aload_n h d_Tab_takeAway_41 rfl rfl ?_
  refine g_dup h d_Tab_takeAway_42 rfl ?_
  refine gf_Tab_pairs h f_Tab_18 (by first | assumption | omega | (show _ < 16; omega)) d_Tab_takeAway_43 ?_
  simp only [sI_1, sI_2, sJ_1, sJ_2, sJ_3, sR_1, sR_2, sR_3, Nat.reduceEqDiff, Nat.zero_ne_one, Nat.one_ne_zero, Nat.succ_ne_zero, reduceCtorEq, false_and, if_false, true_and, and_self, if_true, and_true, and_false, reduceIte]
  refine g_iconst (v := 1) h d_Tab_takeAway_46 (by decide) ?_
  refine g_isub h d_Tab_takeAway_47 ?_
  refine pf_Tab_pairs h f_Tab_18 (by first | assumption | omega | (show _ < 16; omega)) d_Tab_takeAway_48 ?_
  exact g_vret h r d_Tab_takeAway_51 (⟨rfl, by unfold ttake; rw [hc]; rfl⟩)
set_option maxHeartbeats 4000000 in
set_option maxRecDepth 100000 in
theorem c_Heap_setting {l : Launch} {D : va_G} {t : Nat → ClassId} {ad : Nat → Nat} {C : CS} {tb k v : Int64} (hok : okC C) (htb : okV tb) : Cd l D t ad y_Heap_setting b_Heap_setting 10 (some .int) { frames := 4, cells := 0, slots := 0, locals := 98 } [.ref (ad (ix 1 0)), .long tb, .long k, .long v] (C) (some (.int (csetting C tb k v).1)) ((csetting C tb k v).2) := by
  refine ct_of (by decide) (Nat.le_of_ble_eq_true rfl) ?_
  intro Γ _ _ hN h r
  refine g_at (L' := [some (.ref (ad (ix 1 0))), some (.long tb), none, some (.long k), none, some (.long v), none, none, none, none]) rfl rfl rfl ?_
  refine g_aload_n h d_Heap_setting_0 rfl rfl ?_
  refine g_iconst (v := 1) h d_Heap_setting_1 (by decide) ?_
  refine g_lload_n h d_Heap_setting_2 rfl rfl ?_
  refine g_dVi h tb_good (c_Heap_isA htb) (ix_lt 1 (by decide) _ (by decide)) (wc_at (by decide) (by decide)) rfl v_Heap_94 nm_Heap_isA rfl ⟨rfl, rfl, Nat.le_of_ble_eq_true rfl, Nat.le_of_ble_eq_true rfl, Nat.zero_le _, Nat.zero_le _⟩ rfl (Nat.le_of_ble_eq_true rfl) d_Heap_setting_3 ?_
  by_cases ha : isA C 1 tb = true
  · rw [if_pos ha]
    obtain ⟨ho, hon, -⟩ := isA_on htb ha
    refine g_if_eq (tgt := 17) h d_Heap_setting_6 (by decide) (fun c_6 => ?_) (fun c_6 => ?_)
    · exact absurd c_6 (by decide)
    · refine g_lload_n h d_Heap_setting_9 rfl rfl ?_
      refine g_ldc2 (v := -1000000000000) h d_Heap_setting_10 k_Heap_40 ?_
      refine g_lc_ne (tgt := 19) h d_Heap_setting_13 d_Heap_setting_14 (by decide) (fun c_14 => ?_) (fun c_14 => ?_)
      · refine g_aload_n h d_Heap_setting_19 rfl rfl ?_
        refine g_lload_n h d_Heap_setting_20 rfl rfl ?_
        refine g_dNi h tb_good (c_TCM_numberOf) (host := "TriColourMachine") nl_Heap_55 cd_TCM_numberOf in_TCM st_TCM_numberOf nm_TCM_numberOf rfl ⟨rfl, rfl, Nat.le_of_ble_eq_true rfl, Nat.le_of_ble_eq_true rfl, Nat.zero_le _, Nat.zero_le _⟩ rfl (Nat.le_of_ble_eq_true rfl) d_Heap_setting_21 ?_
        rw [hon]
        refine g_lload_n h d_Heap_setting_24 rfl rfl ?_
        refine g_lconst (v := 1) h d_Heap_setting_25 (by decide) ?_
        refine g_dVi h tb_good (c_Heap_lastTable (n0 := on tb) hok ho rfl) (ix_lt 1 (by decide) _ (by decide)) (wc_at (by decide) (by decide)) rfl v_Heap_98 nm_Heap_lastTable rfl ⟨rfl, rfl, Nat.le_of_ble_eq_true rfl, Nat.le_of_ble_eq_true rfl, Nat.zero_le _, Nat.zero_le _⟩ rfl (Nat.le_of_ble_eq_true rfl) d_Heap_setting_26 ?_
        refine g_istore h d_Heap_setting_29 rfl (by rw [hN]; decide) ?_
        rcases hl : tlast C k 1 5 (on tb) with _ | q <;> simp only [enc]
        · refine g_iload h d_Heap_setting_31 rfl ?_
          refine g_if_ge (tgt := 38) h d_Heap_setting_33 (by decide) (fun c_33 => ?_) (fun c_33 => ?_)
          · exact absurd c_33 (by decide)
          · refine g_iconst (v := 2) h d_Heap_setting_36 (by decide) ?_
            exact g_iret h r d_Heap_setting_37 (⟨by first | (simp [csetting, ha]; done) | (simp [csetting, ha, c_14]; done) | (simp [csetting, ha, c_14, hl]; done) | (simp [csetting, ha, c_14, hl, hf, c_69]; done) | (simp [csetting, ha, c_14, hl, hf, c_69, hp, c_86]; done) | (simp [csetting, ha, c_14, hl, hf, c_113]; done), by first | (simp [csetting, ha]; done) | (simp [csetting, ha, c_14]; done) | (simp [csetting, ha, c_14, hl]; done) | (simp [csetting, ha, c_14, hl, hf, c_69]; done) | (simp [csetting, ha, c_14, hl, hf, c_69, hp, c_86]; done) | (simp [csetting, ha, c_14, hl, hf, c_113]; done)⟩)
        · have hq := tlast_lt hok 5 _ _ ho hl
          obtain ⟨⟨P, hP, hp⟩, -⟩ := hok.1 q hq
          refine g_iload h d_Heap_setting_31 rfl ?_
          refine g_if_ge (tgt := 38) h d_Heap_setting_33 (by decide) (fun c_33 => ?_) (fun c_33 => ?_)
          · refine g_aload_n h d_Heap_setting_38 rfl rfl ?_
            refine gf_Heap_cells h f_Heap_17 d_Heap_setting_39 ?_
            refine g_iload h d_Heap_setting_42 rfl ?_
            refine ga_cells h rfl hq d_Heap_setting_44 ?_
            refine gf_Cell_table h f_Heap_76 (by first | assumption | omega | (show _ < 16; omega)) d_Heap_setting_45 ?_
            refine g_astore h d_Heap_setting_48 rfl (by rw [hN]; decide) ?_
            refine g_aload h d_Heap_setting_50 rfl ?_
            refine g_lload_n h d_Heap_setting_52 rfl rfl ?_
            refine g_dVi h tb_good (c_Tab_find hq hp hP) (ix_lt 5 (by decide) _ (by first | assumption | omega | (show _ < 16; omega))) (wc_at (by decide) (by first | assumption | omega | (show _ < 16; omega))) rfl v_Heap_102 nm_Tab_find rfl ⟨rfl, rfl, Nat.le_of_ble_eq_true rfl, Nat.le_of_ble_eq_true rfl, Nat.zero_le _, Nat.zero_le _⟩ rfl (Nat.le_of_ble_eq_true rfl) d_Heap_setting_53 ?_
            refine g_istore h d_Heap_setting_56 rfl (by rw [hN]; decide) ?_
            rcases hf : tfind C q k with _ | w <;> simp only [enc]
            · refine g_iload h d_Heap_setting_58 rfl ?_
              refine g_if_ge (tgt := 74) h d_Heap_setting_60 (by decide) (fun c_60 => ?_) (fun c_60 => ?_)
              · exact absurd c_60 (by decide)
              · refine g_lload h d_Heap_setting_63 rfl ?_
                refine g_ldc2 (v := -1000000000000) h d_Heap_setting_65 k_Heap_40 ?_
                refine g_lc_ne (tgt := 74) h d_Heap_setting_68 d_Heap_setting_69 (by decide) (fun c_69 => ?_) (fun c_69 => ?_)
                · refine g_iload h d_Heap_setting_74 rfl ?_
                  refine g_if_ge (tgt := 91) h d_Heap_setting_76 (by decide) (fun c_76 => ?_) (fun c_76 => ?_)
                  · exact absurd c_76 (by decide)
                  · refine g_aload h d_Heap_setting_79 rfl ?_
                    refine gf_Tab_pairs h f_Heap_108 (by first | assumption | omega | (show _ < 16; omega)) d_Heap_setting_81 ?_
                    refine g_bipush (v := 6) h d_Heap_setting_84 (by decide) ?_
                    rw [hp]
                    refine g_icmp_ne (tgt := 91) h d_Heap_setting_86 (by decide) (fun c_86 => ?_) (fun c_86 => ?_)
                    · refine g_iload h d_Heap_setting_91 rfl ?_
                      refine g_if_ge (tgt := 107) h d_Heap_setting_93 (by decide) (fun c_93 => ?_) (fun c_93 => ?_)
                      · exact absurd c_93 (by decide)
                      · have hP6 := lt6 hP c_86
                        refine g_aload h d_Heap_setting_96 rfl ?_
                        refine g_lload_n h d_Heap_setting_98 rfl rfl ?_
                        refine g_lload h d_Heap_setting_99 rfl ?_
                        refine g_dVv h tb_good (c_Tab_append hq hp hP6) (ix_lt 5 (by decide) _ (by first | assumption | omega | (show _ < 16; omega))) (wc_at (by decide) (by first | assumption | omega | (show _ < 16; omega))) rfl v_Heap_111 nm_Tab_append rfl ⟨rfl, rfl, Nat.le_of_ble_eq_true rfl, Nat.le_of_ble_eq_true rfl, Nat.zero_le _, Nat.zero_le _⟩ rfl (Nat.le_of_ble_eq_true rfl) d_Heap_setting_101 ?_
                        refine g_goto (tgt := 136) h d_Heap_setting_104 (by decide) ?_
                        refine g_aload_n h d_Heap_setting_136 rfl rfl ?_
                        refine g_iload h d_Heap_setting_137 rfl ?_
                        refine g_dVv h tb_good (c_Heap_touch hq) (ix_lt 1 (by decide) _ (by decide)) (wc_at (by decide) (by decide)) rfl v_Heap_118 nm_Heap_touch rfl ⟨rfl, rfl, Nat.le_of_ble_eq_true rfl, Nat.le_of_ble_eq_true rfl, Nat.zero_le _, Nat.zero_le _⟩ rfl (Nat.le_of_ble_eq_true rfl) d_Heap_setting_139 ?_
                        refine g_iconst (v := 0) h d_Heap_setting_142 (by decide) ?_
                        exact g_iret h r d_Heap_setting_143 (⟨by first | (simp [csetting, ha]; done) | (simp [csetting, ha, c_14]; done) | (simp [csetting, ha, c_14, hl]; done) | (simp [csetting, ha, c_14, hl, hf, c_69]; done) | (simp [csetting, ha, c_14, hl, hf, c_69, hp, c_86]; done) | (simp [csetting, ha, c_14, hl, hf, c_113]; done), by first | (simp [csetting, ha]; done) | (simp [csetting, ha, c_14]; done) | (simp [csetting, ha, c_14, hl]; done) | (simp [csetting, ha, c_14, hl, hf, c_69]; done) | (simp [csetting, ha, c_14, hl, hf, c_69, hp, c_86]; done) | (simp [csetting, ha, c_14, hl, hf, c_113]; done)⟩)
                    · refine g_iconst (v := 3) h d_Heap_setting_89 (by decide) ?_
                      exact g_iret h r d_Heap_setting_90 (⟨by first | (simp [csetting, ha]; done) | (simp [csetting, ha, c_14]; done) | (simp [csetting, ha, c_14, hl]; done) | (simp [csetting, ha, c_14, hl, hf, c_69]; done) | (simp [csetting, ha, c_14, hl, hf, c_69, hp, c_86]; done) | (simp [csetting, ha, c_14, hl, hf, c_113]; done), by first | (simp [csetting, ha]; done) | (simp [csetting, ha, c_14]; done) | (simp [csetting, ha, c_14, hl]; done) | (simp [csetting, ha, c_14, hl, hf, c_69]; done) | (simp [csetting, ha, c_14, hl, hf, c_69, hp, c_86]; done) | (simp [csetting, ha, c_14, hl, hf, c_113]; done)⟩)
                · refine g_iconst (v := 0) h d_Heap_setting_72 (by decide) ?_
                  exact g_iret h r d_Heap_setting_73 (⟨by first | (simp [csetting, ha]; done) | (simp [csetting, ha, c_14]; done) | (simp [csetting, ha, c_14, hl]; done) | (simp [csetting, ha, c_14, hl, hf, c_69]; done) | (simp [csetting, ha, c_14, hl, hf, c_69, hp, c_86]; done) | (simp [csetting, ha, c_14, hl, hf, c_113]; done), by first | (simp [csetting, ha]; done) | (simp [csetting, ha, c_14]; done) | (simp [csetting, ha, c_14, hl]; done) | (simp [csetting, ha, c_14, hl, hf, c_69]; done) | (simp [csetting, ha, c_14, hl, hf, c_69, hp, c_86]; done) | (simp [csetting, ha, c_14, hl, hf, c_113]; done)⟩)
            · have hw := tfind_lt hp hP hf
              refine g_iload h d_Heap_setting_58 rfl ?_
              refine g_if_ge (tgt := 74) h d_Heap_setting_60 (by decide) (fun c_60 => ?_) (fun c_60 => ?_)
              · refine g_iload h d_Heap_setting_74 rfl ?_
                refine g_if_ge (tgt := 91) h d_Heap_setting_76 (by decide) (fun c_76 => ?_) (fun c_76 => ?_)
                · refine g_iload h d_Heap_setting_91 rfl ?_
                  refine g_if_ge (tgt := 107) h d_Heap_setting_93 (by decide) (fun c_93 => ?_) (fun c_93 => ?_)
                  · refine g_lload h d_Heap_setting_107 rfl ?_
                    refine g_ldc2 (v := -1000000000000) h d_Heap_setting_109 k_Heap_40 ?_
                    refine g_lc_ne (tgt := 126) h d_Heap_setting_112 d_Heap_setting_113 (by decide) (fun c_113 => ?_) (fun c_113 => ?_)
                    · refine g_aload h d_Heap_setting_126 rfl ?_
                      refine gf_Tab_values h f_Heap_105 (by first | assumption | omega | (show _ < 16; omega)) d_Heap_setting_128 ?_
                      refine g_iload h d_Heap_setting_131 rfl ?_
                      refine g_lload h d_Heap_setting_133 rfl ?_
                      refine pa_vals h hq rfl (by omega) d_Heap_setting_135 ?_
                      refine g_aload_n h d_Heap_setting_136 rfl rfl ?_
                      refine g_iload h d_Heap_setting_137 rfl ?_
                      refine g_dVv h tb_good (c_Heap_touch hq) (ix_lt 1 (by decide) _ (by decide)) (wc_at (by decide) (by decide)) rfl v_Heap_118 nm_Heap_touch rfl ⟨rfl, rfl, Nat.le_of_ble_eq_true rfl, Nat.le_of_ble_eq_true rfl, Nat.zero_le _, Nat.zero_le _⟩ rfl (Nat.le_of_ble_eq_true rfl) d_Heap_setting_139 ?_
                      refine g_iconst (v := 0) h d_Heap_setting_142 (by decide) ?_
                      exact g_iret h r d_Heap_setting_143 (⟨by first | (simp [csetting, ha]; done) | (simp [csetting, ha, c_14]; done) | (simp [csetting, ha, c_14, hl]; done) | (simp [csetting, ha, c_14, hl, hf, c_69]; done) | (simp [csetting, ha, c_14, hl, hf, c_69, hp, c_86]; done) | (simp [csetting, ha, c_14, hl, hf, c_113]; done), by first | (simp [csetting, ha]; done) | (simp [csetting, ha, c_14]; done) | (simp [csetting, ha, c_14, hl]; done) | (simp [csetting, ha, c_14, hl, hf, c_69]; done) | (simp [csetting, ha, c_14, hl, hf, c_69, hp, c_86]; done) | (simp [csetting, ha, c_14, hl, hf, c_113]; done)⟩)
                    · refine g_aload h d_Heap_setting_116 rfl ?_
                      refine g_iload h d_Heap_setting_118 rfl ?_
                      refine g_dVv h tb_good (c_Tab_takeAway hq hp hP hw) (ix_lt 5 (by decide) _ (by first | assumption | omega | (show _ < 16; omega))) (wc_at (by decide) (by first | assumption | omega | (show _ < 16; omega))) rfl v_Heap_115 nm_Tab_takeAway rfl ⟨rfl, rfl, Nat.le_of_ble_eq_true rfl, Nat.le_of_ble_eq_true rfl, Nat.zero_le _, Nat.zero_le _⟩ rfl (Nat.le_of_ble_eq_true rfl) d_Heap_setting_120 ?_
                      refine g_goto (tgt := 136) h d_Heap_setting_123 (by decide) ?_
                      refine g_aload_n h d_Heap_setting_136 rfl rfl ?_
                      refine g_iload h d_Heap_setting_137 rfl ?_
                      refine g_dVv h tb_good (c_Heap_touch hq) (ix_lt 1 (by decide) _ (by decide)) (wc_at (by decide) (by decide)) rfl v_Heap_118 nm_Heap_touch rfl ⟨rfl, rfl, Nat.le_of_ble_eq_true rfl, Nat.le_of_ble_eq_true rfl, Nat.zero_le _, Nat.zero_le _⟩ rfl (Nat.le_of_ble_eq_true rfl) d_Heap_setting_139 ?_
                      refine g_iconst (v := 0) h d_Heap_setting_142 (by decide) ?_
                      exact g_iret h r d_Heap_setting_143 (⟨by first | (simp [csetting, ha]; done) | (simp [csetting, ha, c_14]; done) | (simp [csetting, ha, c_14, hl]; done) | (simp [csetting, ha, c_14, hl, hf, c_69]; done) | (simp [csetting, ha, c_14, hl, hf, c_69, hp, c_86]; done) | (simp [csetting, ha, c_14, hl, hf, c_113]; done), by first | (simp [csetting, ha]; done) | (simp [csetting, ha, c_14]; done) | (simp [csetting, ha, c_14, hl]; done) | (simp [csetting, ha, c_14, hl, hf, c_69]; done) | (simp [csetting, ha, c_14, hl, hf, c_69, hp, c_86]; done) | (simp [csetting, ha, c_14, hl, hf, c_113]; done)⟩)
                  · exact absurd (nI_pos' (by omega)) c_93
                · exact absurd (nI_pos' (by omega)) c_76
              · exact absurd (nI_pos' (by omega)) c_60
          · exact absurd (nI_pos' (by omega)) c_33
      · refine g_iconst (v := 1) h d_Heap_setting_17 (by decide) ?_
        exact g_iret h r d_Heap_setting_18 (⟨by first | (simp [csetting, ha]; done) | (simp [csetting, ha, c_14]; done) | (simp [csetting, ha, c_14, hl]; done) | (simp [csetting, ha, c_14, hl, hf, c_69]; done) | (simp [csetting, ha, c_14, hl, hf, c_69, hp, c_86]; done) | (simp [csetting, ha, c_14, hl, hf, c_113]; done), by first | (simp [csetting, ha]; done) | (simp [csetting, ha, c_14]; done) | (simp [csetting, ha, c_14, hl]; done) | (simp [csetting, ha, c_14, hl, hf, c_69]; done) | (simp [csetting, ha, c_14, hl, hf, c_69, hp, c_86]; done) | (simp [csetting, ha, c_14, hl, hf, c_113]; done)⟩)
  · rw [if_neg ha]
    refine g_if_eq (tgt := 17) h d_Heap_setting_6 (by decide) (fun c_6 => ?_) (fun c_6 => ?_)
    · refine g_iconst (v := 1) h d_Heap_setting_17 (by decide) ?_
      exact g_iret h r d_Heap_setting_18 (⟨by first | (simp [csetting, ha]; done) | (simp [csetting, ha, c_14]; done) | (simp [csetting, ha, c_14, hl]; done) | (simp [csetting, ha, c_14, hl, hf, c_69]; done) | (simp [csetting, ha, c_14, hl, hf, c_69, hp, c_86]; done) | (simp [csetting, ha, c_14, hl, hf, c_113]; done), by first | (simp [csetting, ha]; done) | (simp [csetting, ha, c_14]; done) | (simp [csetting, ha, c_14, hl]; done) | (simp [csetting, ha, c_14, hl, hf, c_69]; done) | (simp [csetting, ha, c_14, hl, hf, c_69, hp, c_86]; done) | (simp [csetting, ha, c_14, hl, hf, c_113]; done)⟩)
    · exact absurd rfl c_6
