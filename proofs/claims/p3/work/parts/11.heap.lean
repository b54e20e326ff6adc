set_option maxHeartbeats 4000000 in
set_option maxRecDepth 100000 in
theorem c_Heap_linked {l : Launch} {D : va_G} {t : Nat → ClassId} {ad : Nat → Nat} {C : CS} {m : Int32} {link : Int64} (hok : okC C) (hm : m = -1 ∨ ∃ j, j < 16 ∧ m = nI j) : Cd l D t ad y_Heap_linked b_Heap_linked 6 (some .int) { frames := 2, cells := 0, slots := 0, locals := 44 } [.ref (ad (ix 1 0)), .int m, .long link] (C) (some (.int (enc (tlinked C m link)))) (C) := by
  refine ct_of (by decide) (Nat.le_of_ble_eq_true rfl) ?_
  intro Γ _ _ hN h r
  rcases hm with rfl | ⟨j, hj, rfl⟩
  · refine g_at (L' := [some (.ref (ad (ix 1 0))), some (.int (-1)), some (.long link), none, none, none]) rfl rfl rfl ?_
    refine g_iload_n h d_Heap_linked_0 rfl rfl ?_
    refine g_if_ge (tgt := 6) h d_Heap_linked_1 (by decide) (fun c_1 => ?_) (fun c_1 => ?_)
    · exact absurd c_1 (by decide)
    · refine g_iconst (v := -1) h d_Heap_linked_4 (by decide) ?_
      exact g_iret h r d_Heap_linked_5 (⟨by rw [tlinked_m1]; rfl, rfl⟩)
  · obtain ⟨⟨P, hP, hp⟩, -⟩ := hok.1 j hj
    refine g_at (L' := [some (.ref (ad (ix 1 0))), some (.int (nI j)), some (.long link), none, none, none]) rfl rfl rfl ?_
    refine g_iload_n h d_Heap_linked_0 rfl rfl ?_
    refine g_if_ge (tgt := 6) h d_Heap_linked_1 (by decide) (fun c_1 => ?_) (fun c_1 => ?_)
    · refine g_aload_n h d_Heap_linked_6 rfl rfl ?_
      refine gf_Heap_cells h f_Heap_17 d_Heap_linked_7 ?_
      refine g_iload_n h d_Heap_linked_10 rfl rfl ?_
      refine ga_cells h rfl hj d_Heap_linked_11 ?_
      refine gf_Cell_table h f_Heap_76 (by first | assumption | omega | (show _ < 16; omega)) d_Heap_linked_12 ?_
      refine g_astore h d_Heap_linked_15 rfl (by rw [hN]; decide) ?_
      refine g_aload h d_Heap_linked_17 rfl ?_
      refine g_lload_n h d_Heap_linked_19 rfl rfl ?_
      refine g_dVi h tb_good (c_Tab_find hj hp hP) (ix_lt 5 (by decide) _ (by first | assumption | omega | (show _ < 16; omega))) (wc_at (by decide) (by first | assumption | omega | (show _ < 16; omega))) rfl v_Heap_102 nm_Tab_find rfl ⟨rfl, rfl, Nat.le_of_ble_eq_true rfl, Nat.le_of_ble_eq_true rfl, Nat.zero_le _, Nat.zero_le _⟩ rfl (Nat.le_of_ble_eq_true rfl) d_Heap_linked_20 ?_
      refine g_istore h d_Heap_linked_23 rfl (by rw [hN]; decide) ?_
      rcases hf : tfind C j link with _ | q <;> simp only [enc]
      · refine g_iload h d_Heap_linked_25 rfl ?_
        refine g_if_lt (tgt := 46) h d_Heap_linked_27 (by decide) (fun c_27 => ?_) (fun c_27 => ?_)
        · refine g_iconst (v := -1) h d_Heap_linked_46 (by decide) ?_
          exact g_iret h r d_Heap_linked_47 (⟨by rw [tlinked_nI hj]; first | (simp [hf, enc]; done) | (simp [hf, ha, enc]; done), rfl⟩)
        · exact absurd (by decide) c_27
      · have hq := tfind_lt hp hP hf
        refine g_iload h d_Heap_linked_25 rfl ?_
        refine g_if_lt (tgt := 46) h d_Heap_linked_27 (by decide) (fun c_27 => ?_) (fun c_27 => ?_)
        · exact absurd c_27 (nI_pos (by omega))
        · refine g_aload_n h d_Heap_linked_30 rfl rfl ?_
          refine g_iconst (v := 1) h d_Heap_linked_31 (by decide) ?_
          refine g_aload h d_Heap_linked_32 rfl ?_
          refine gf_Tab_values h f_Heap_105 (by first | assumption | omega | (show _ < 16; omega)) d_Heap_linked_34 ?_
          refine g_iload h d_Heap_linked_37 rfl ?_
          refine ga_vals h hj rfl (by omega) d_Heap_linked_39 ?_
          refine g_dVi h tb_good (c_Heap_isA (hok.2.1 2 j q)) (ix_lt 1 (by decide) _ (by decide)) (wc_at (by decide) (by decide)) rfl v_Heap_94 nm_Heap_isA rfl ⟨rfl, rfl, Nat.le_of_ble_eq_true rfl, Nat.le_of_ble_eq_true rfl, Nat.zero_le _, Nat.zero_le _⟩ rfl (Nat.le_of_ble_eq_true rfl) d_Heap_linked_40 ?_
          by_cases ha : isA C 1 (C.2.1 2 j q) = true
          · rw [if_pos ha]
            refine g_if_ne (tgt := 48) h d_Heap_linked_43 (by decide) (fun c_43 => ?_) (fun c_43 => ?_)
            · refine g_aload h d_Heap_linked_48 rfl ?_
              refine gf_Tab_values h f_Heap_105 (by first | assumption | omega | (show _ < 16; omega)) d_Heap_linked_50 ?_
              refine g_iload h d_Heap_linked_53 rfl ?_
              refine ga_vals h hj rfl (by omega) d_Heap_linked_55 ?_
              refine g_dNi h tb_good (c_TCM_numberOf) (host := "TriColourMachine") nl_Heap_55 cd_TCM_numberOf in_TCM st_TCM_numberOf nm_TCM_numberOf rfl ⟨rfl, rfl, Nat.le_of_ble_eq_true rfl, Nat.le_of_ble_eq_true rfl, Nat.zero_le _, Nat.zero_le _⟩ rfl (Nat.le_of_ble_eq_true rfl) d_Heap_linked_56 ?_
              exact g_iret h r d_Heap_linked_59 (⟨by rw [tlinked_nI hj, (isA_on (hok.2.1 2 j q) ha).2.1]; simp [hf, ha, enc], rfl⟩)
            · exact absurd c_43 (by decide)
          · rw [if_neg ha]
            refine g_if_ne (tgt := 48) h d_Heap_linked_43 (by decide) (fun c_43 => ?_) (fun c_43 => ?_)
            · exact absurd rfl c_43
            · refine g_iconst (v := -1) h d_Heap_linked_46 (by decide) ?_
              exact g_iret h r d_Heap_linked_47 (⟨by rw [tlinked_nI hj]; first | (simp [hf, enc]; done) | (simp [hf, ha, enc]; done), rfl⟩)
    · exact absurd (nI_pos' (by omega)) c_1
set_option maxHeartbeats 4000000 in
set_option maxRecDepth 100000 in
theorem c_Heap_lastTable {l : Launch} {D : va_G} {t : Nat → ClassId} {ad : Nat → Nat} {C : CS} {n0 : Nat} {first : Int32} {key link : Int64} (hok : okC C) (hn0 : n0 < 16) (hf0 : first = nI n0) : Cd l D t ad y_Heap_lastTable b_Heap_lastTable 10 (some .int) { frames := 3, cells := 0, slots := 0, locals := 69 } [.ref (ad (ix 1 0)), .int first, .long key, .long link] (C) (some (.int (enc (tlast C key link 5 n0)))) (C) := by
  refine ct_of (by decide) (Nat.le_of_ble_eq_true rfl) ?_
  intro Γ _ _ hN h r
  have loop : ∀ (c s n : Nat), s + c = 5 → n < 16 → tlast C key link c n = tlast C key link 5 n0 → G Γ 0 0 171 ad (wc ad t C) 6 [some (.ref (ad (ix 1 0))), some (.int first), some (.long key), none, some (.long link), none, some (.int (nI n)), some (.int (nI s)), none, none] [] := by
    intro c
    induction c with
    | zero =>
      intro s n hs hn he
      refine g_iload h d_Heap_lastTable_6 rfl ?_
      refine g_iconst (v := 5) h d_Heap_lastTable_8 (by decide) ?_
      refine g_icmp_ge (tgt := 68) h d_Heap_lastTable_9 (by decide) (fun c_9 => ?_) (fun c_9 => ?_)
      · refine g_iconst (v := -1) h d_Heap_lastTable_68 (by decide) ?_
        exact g_iret h r d_Heap_lastTable_69 (⟨by rw [← he]; rfl, rfl⟩)
      · exact absurd (nI_le (a := 5) (b := s) (by omega) (by omega)) c_9
    | succ c ih =>
      intro s n hs hn he
      obtain ⟨⟨P, hP, hp⟩, -⟩ := hok.1 n hn
      refine g_iload h d_Heap_lastTable_6 rfl ?_
      refine g_iconst (v := 5) h d_Heap_lastTable_8 (by decide) ?_
      refine g_icmp_ge (tgt := 68) h d_Heap_lastTable_9 (by decide) (fun c_9 => ?_) (fun c_9 => ?_)
      · exact absurd c_9 (nI_ge (b := 5) (by omega) (by decide))
      · refine g_aload_n h d_Heap_lastTable_12 rfl rfl ?_
        refine gf_Heap_cells h f_Heap_17 d_Heap_lastTable_13 ?_
        refine g_iload h d_Heap_lastTable_16 rfl ?_
        refine ga_cells h rfl hn d_Heap_lastTable_18 ?_
        refine gf_Cell_table h f_Heap_76 (by first | assumption | omega | (show _ < 16; omega)) d_Heap_lastTable_19 ?_
        refine g_astore h d_Heap_lastTable_22 rfl (by rw [hN]; decide) ?_
        refine g_aload h d_Heap_lastTable_24 rfl ?_
        refine g_lload_n h d_Heap_lastTable_26 rfl rfl ?_
        refine g_dVi h tb_good (c_Tab_find hn hp hP) (ix_lt 5 (by decide) _ (by first | assumption | omega | (show _ < 16; omega))) (wc_at (by decide) (by first | assumption | omega | (show _ < 16; omega))) rfl v_Heap_102 nm_Tab_find rfl ⟨rfl, rfl, Nat.le_of_ble_eq_true rfl, Nat.le_of_ble_eq_true rfl, Nat.zero_le _, Nat.zero_le _⟩ rfl (Nat.le_of_ble_eq_true rfl) d_Heap_lastTable_27 ?_
        rcases hf : tfind C n key with _ | q <;> simp only [enc]
        · refine g_if_lt (tgt := 37) h d_Heap_lastTable_30 (by decide) (fun c_30 => ?_) (fun c_30 => ?_)
          · refine g_aload_n h d_Heap_lastTable_37 rfl rfl ?_
            refine g_aload h d_Heap_lastTable_38 rfl ?_
            refine gf_Tab_meta h f_Heap_121 (by first | assumption | omega | (show _ < 16; omega)) d_Heap_lastTable_40 ?_
            refine g_lload h d_Heap_lastTable_43 rfl ?_
            refine g_dVi h tb_good (c_Heap_linked hok (hok.1 n hn).2.1) (ix_lt 1 (by decide) _ (by decide)) (wc_at (by decide) (by decide)) rfl v_Heap_124 nm_Heap_linked rfl ⟨rfl, rfl, Nat.le_of_ble_eq_true rfl, Nat.le_of_ble_eq_true rfl, Nat.zero_le _, Nat.zero_le _⟩ rfl (Nat.le_of_ble_eq_true rfl) d_Heap_lastTable_45 ?_
            refine g_istore h d_Heap_lastTable_48 rfl (by rw [hN]; decide) ?_
            rcases hk : tlinked C (C.1 3 n) link with _ | q <;> simp only [enc]
            · refine g_iload h d_Heap_lastTable_50 rfl ?_
              refine g_if_ge (tgt := 58) h d_Heap_lastTable_52 (by decide) (fun c_52 => ?_) (fun c_52 => ?_)
              · exact absurd c_52 (by decide)
              · refine g_iload h d_Heap_lastTable_55 rfl ?_
                exact g_iret h r d_Heap_lastTable_57 (⟨by rw [← he]; simp [tlast, hf, hk, enc], rfl⟩)
            · have hq := tlinked_lt hok hk
              refine g_iload h d_Heap_lastTable_50 rfl ?_
              refine g_if_ge (tgt := 58) h d_Heap_lastTable_52 (by decide) (fun c_52 => ?_) (fun c_52 => ?_)
              · refine g_iload h d_Heap_lastTable_58 rfl ?_
                refine g_istore h d_Heap_lastTable_60 rfl (by rw [hN]; decide) ?_
                refine g_iinc (v := nI (s + 1)) h d_Heap_lastTable_62 rfl (by rw [nI_succ]; rfl) rfl (by rw [hN]; decide) ?_
                refine g_goto (tgt := 6) h d_Heap_lastTable_65 (by decide) ?_
                refine g_lessL (L' := [some (.ref (ad (ix 1 0))), some (.int first), some (.long key), none, some (.long link), none, some (.int (nI q)), some (.int (nI (s + 1))), none, none]) (by simp [leL]) ?_
                exact ih (s + 1) q (by omega) (tlinked_lt hok hk) (by rw [← he]; simp [tlast, hf, hk])
              · exact absurd (nI_pos' (by omega)) c_52
          · exact absurd (by decide) c_30
        · have hq0 := tfind_lt hp hP hf
          refine g_if_lt (tgt := 37) h d_Heap_lastTable_30 (by decide) (fun c_30 => ?_) (fun c_30 => ?_)
          · exact absurd c_30 (nI_pos (by omega))
          · refine g_iconst (v := -1) h d_Heap_lastTable_33 (by decide) ?_
            refine g_goto (tgt := 48) h d_Heap_lastTable_34 (by decide) ?_
            refine g_istore h d_Heap_lastTable_48 rfl (by rw [hN]; decide) ?_
            refine g_iload h d_Heap_lastTable_50 rfl ?_
            refine g_if_ge (tgt := 58) h d_Heap_lastTable_52 (by decide) (fun c_52 => ?_) (fun c_52 => ?_)
            · exact absurd c_52 (by decide)
            · refine g_iload h d_Heap_lastTable_55 rfl ?_
              exact g_iret h r d_Heap_lastTable_57 (⟨by rw [← he]; simp [tlast, hf, enc], rfl⟩)
  refine g_at (L' := [some (.ref (ad (ix 1 0))), some (.int first), some (.long key), none, some (.long link), none, none, none, none, none]) rfl rfl rfl ?_
  refine g_iload_n h d_Heap_lastTable_0 rfl rfl ?_
  refine g_istore h d_Heap_lastTable_1 rfl (by rw [hN]; decide) ?_
  refine g_iconst (v := 0) h d_Heap_lastTable_3 (by decide) ?_
  refine g_istore h d_Heap_lastTable_4 rfl (by rw [hN]; decide) ?_
  subst hf0
  exact loop 5 0 n0 (by omega) hn0 rfl
set_option maxHeartbeats 4000000 in
set_option maxRecDepth 100000 in
theorem c_Heap_shade {l : Launch} {D : va_G} {t : Nat → ClassId} {ad : Nat → Nat} {C : CS} {n : Nat} (hn : n < 16) : Cd l D t ad y_Heap_shade b_Heap_shade 1 (some .int) { frames := 0, cells := 0, slots := 0, locals := 0 } [.ref (ad (ix 4 n))] (C) (some (.int (cshade C n).1)) ((cshade C n).2) := by
  refine ct_of (by decide) (Nat.le_of_ble_eq_true rfl) ?_
  intro Γ _ _ hN h r
  refine g_at (L' := [some (.ref (ad (ix 4 n)))]) rfl rfl rfl ?_
  refine g_aload_n h d_Heap_shade_0 rfl rfl ?_
  refine gf_Cell_colour h f_Heap_73 (by first | assumption | omega | (show _ < 16; omega)) d_Heap_shade_1 ?_
  refine g_if_eq (tgt := 9) h d_Heap_shade_4 (by decide) (fun c_4 => ?_) (fun c_4 => ?_)
  · refine g_aload_n h d_Heap_shade_9 rfl rfl ?_
    refine g_iconst (v := 1) h d_Heap_shade_10 (by decide) ?_
    refine pf_Cell_colour h f_Heap_73 (by first | assumption | omega | (show _ < 16; omega)) d_Heap_shade_11 ?_
    refine g_iconst (v := 1) h d_Heap_shade_14 (by decide) ?_
    exact g_iret h r d_Heap_shade_15 (⟨by simp [cshade, c_4], by simp [cshade, c_4]⟩)
  · refine g_iconst (v := 0) h d_Heap_shade_7 (by decide) ?_
    exact g_iret h r d_Heap_shade_8 (⟨by simp [cshade, c_4], by simp [cshade, c_4]⟩)
set_option maxHeartbeats 4000000 in
set_option maxRecDepth 100000 in
theorem c_Heap_shadeRow {l : Launch} {D : va_G} {t : Nat → ClassId} {ad : Nat → Nat} {C : CS} {q len sz : Nat} {row : Nat → Int64} (hq : q < 171) (hr : ∀ C2 : CS, C2.2 = C.2 → wc ad t C2 q = .inl (t 0, sz, .inr (.inl row))) (hs : len ≤ sz) (hz : sz ≤ 6) (hv : ∀ i, okV (row i)) : Cd l D t ad y_Heap_shadeRow b_Heap_shadeRow 6 (some .int) { frames := 0, cells := 0, slots := 0, locals := 0 } [.ref (ad (ix 1 0)), .ref (ad q), .int (nI len)] (C) (some (.int (cshadeRow row len 0 0 C).1)) ((cshadeRow row len 0 0 C).2) := by
  refine ct_of (by decide) (Nat.le_of_ble_eq_true rfl) ?_
  intro Γ _ _ hN h r
  have loop : ∀ (c i : Nat) (a : Int32) (C2 : CS), i + c = len → C2.2 = C.2 → cshadeRow row c i a C2 = cshadeRow row len 0 0 C → G Γ 0 0 171 ad (wc ad t C2) 5 [some (.ref (ad (ix 1 0))), some (.ref (ad q)), some (.int (nI len)), some (.int a), some (.int (nI i)), none] [] := by
    intro c
    induction c with
    | zero =>
      intro i a C2 hi hC he
      refine g_iload h d_Heap_shadeRow_5 rfl ?_
      refine g_iload_n h d_Heap_shadeRow_7 rfl rfl ?_
      refine g_icmp_ge (tgt := 75) h d_Heap_shadeRow_8 (by decide) (fun c_8 => ?_) (fun c_8 => ?_)
      · refine g_iload_n h d_Heap_shadeRow_75 rfl rfl ?_
        exact g_iret h r d_Heap_shadeRow_76 (⟨by rw [← he]; rfl, by rw [← he]; rfl⟩)
      · exact absurd (nI_le (a := len) (b := i) (by omega) (by omega)) c_8
    | succ c ih =>
      intro i a C2 hi hC he
      refine g_iload h d_Heap_shadeRow_5 rfl ?_
      refine g_iload_n h d_Heap_shadeRow_7 rfl rfl ?_
      refine g_icmp_ge (tgt := 75) h d_Heap_shadeRow_8 (by decide) (fun c_8 => ?_) (fun c_8 => ?_)
      · exact absurd c_8 (nI_ge (by omega) (by omega))
      · refine g_aload_n h d_Heap_shadeRow_11 rfl rfl ?_
        refine g_iload h d_Heap_shadeRow_12 rfl ?_
        refine g_laload h q 0 hq (hr _ hC) rfl (vp_in_nI (by omega) (by omega)) d_Heap_shadeRow_14 ?_
        rw [nI_clamp (show i < 2 ^ 31 by omega)]
        refine g_ldc2 (v := 10000000000) h d_Heap_shadeRow_15 k_Heap_53 ?_
        refine g_lc_lt (tgt := 34) h d_Heap_shadeRow_18 d_Heap_shadeRow_19 (by decide) (fun c_19 => ?_) (fun c_19 => ?_)
        · skip
          · refine g_iconst (v := -1) h d_Heap_shadeRow_34 (by decide) ?_
            refine g_istore h d_Heap_shadeRow_35 rfl (by rw [hN]; decide) ?_
            refine g_iload h d_Heap_shadeRow_37 rfl ?_
            refine g_if_lt (tgt := 69) h d_Heap_shadeRow_39 (by decide) (fun c_39 => ?_) (fun c_39 => ?_)
            · refine g_iinc (v := nI (i + 1)) h d_Heap_shadeRow_69 rfl (by rw [nI_succ]; rfl) rfl (by rw [hN]; decide) ?_
              refine g_goto (tgt := 5) h d_Heap_shadeRow_72 (by decide) ?_
              refine g_lessL (L' := [some (.ref (ad (ix 1 0))), some (.ref (ad q)), some (.int (nI len)), some (.int a), some (.int (nI (i + 1))), none]) (by simp [leL]) ?_
              exact ih (i + 1) _ _ (by omega) hC (by rw [← he]; simp [cshadeRow, c_19])
            · exact absurd (by decide) c_39
        · skip
          · refine g_aload_n h d_Heap_shadeRow_22 rfl rfl ?_
            refine g_iload h d_Heap_shadeRow_23 rfl ?_
            refine g_laload h q 0 hq (hr _ hC) rfl (vp_in_nI (by omega) (by omega)) d_Heap_shadeRow_25 ?_
            rw [nI_clamp (show i < 2 ^ 31 by omega)]
            refine g_ldc2 (v := 10000000000) h d_Heap_shadeRow_26 k_Heap_53 ?_
            refine g_lsub h d_Heap_shadeRow_29 ?_
            refine g_l2i h d_Heap_shadeRow_30 ?_
            obtain ⟨ho, -, hq2⟩ := okV_on (hv i) c_19
            rw [hq2]
            refine g_goto (tgt := 35) h d_Heap_shadeRow_31 (by decide) ?_
            refine g_istore h d_Heap_shadeRow_35 rfl (by rw [hN]; decide) ?_
            refine g_iload h d_Heap_shadeRow_37 rfl ?_
            refine g_if_lt (tgt := 69) h d_Heap_shadeRow_39 (by decide) (fun c_39 => ?_) (fun c_39 => ?_)
            · exact absurd c_39 (nI_pos (by omega))
            · refine g_aload_n h d_Heap_shadeRow_42 rfl rfl ?_
              refine gf_Heap_cells h f_Heap_17 d_Heap_shadeRow_43 ?_
              refine g_iload h d_Heap_shadeRow_46 rfl ?_
              refine ga_cells h rfl ho d_Heap_shadeRow_48 ?_
              refine gf_Cell_colour h f_Heap_73 ho d_Heap_shadeRow_49 ?_
              refine g_if_ne (tgt := 69) h d_Heap_shadeRow_52 (by decide) (fun c_52 => ?_) (fun c_52 => ?_)
              · refine g_iinc (v := nI (i + 1)) h d_Heap_shadeRow_69 rfl (by rw [nI_succ]; rfl) rfl (by rw [hN]; decide) ?_
                refine g_goto (tgt := 5) h d_Heap_shadeRow_72 (by decide) ?_
                refine g_lessL (L' := [some (.ref (ad (ix 1 0))), some (.ref (ad q)), some (.int (nI len)), some (.int a), some (.int (nI (i + 1))), none]) (by simp [leL]) ?_
                exact ih (i + 1) _ _ (by omega) hC (by rw [← he]; simp [cshadeRow, c_19, c_52])
              · skip
                · refine g_aload_n h d_Heap_shadeRow_55 rfl rfl ?_
                  refine gf_Heap_cells h f_Heap_17 d_Heap_shadeRow_56 ?_
                  refine g_iload h d_Heap_shadeRow_59 rfl ?_
                  refine ga_cells h rfl ho d_Heap_shadeRow_61 ?_
                  refine g_iconst (v := 1) h d_Heap_shadeRow_62 (by decide) ?_
                  refine pf_Cell_colour h f_Heap_73 ho d_Heap_shadeRow_63 ?_
                  refine g_iinc (v := a + 1) h d_Heap_shadeRow_66 rfl rfl rfl (by rw [hN]; decide) ?_
                  refine g_iinc (v := nI (i + 1)) h d_Heap_shadeRow_69 rfl (by rw [nI_succ]; rfl) rfl (by rw [hN]; decide) ?_
                  refine g_goto (tgt := 5) h d_Heap_shadeRow_72 (by decide) ?_
                  refine g_lessL (L' := [some (.ref (ad (ix 1 0))), some (.ref (ad q)), some (.int (nI len)), some (.int (a + 1)), some (.int (nI (i + 1))), none]) (by simp [leL]) ?_
                  exact ih (i + 1) _ _ (by omega) hC (by rw [← he]; simp [cshadeRow, c_19, c_52])
  refine g_at (L' := [some (.ref (ad (ix 1 0))), some (.ref (ad q)), some (.int (nI len)), none, none, none]) rfl rfl rfl ?_
  refine g_iconst (v := 0) h d_Heap_shadeRow_0 (by decide) ?_
  refine g_istore_n h d_Heap_shadeRow_1 rfl rfl (by rw [hN]; decide) ?_
  refine g_iconst (v := 0) h d_Heap_shadeRow_2 (by decide) ?_
  refine g_istore h d_Heap_shadeRow_3 rfl (by rw [hN]; decide) ?_
  exact loop len 0 0 C (by omega) rfl rfl
