set_option maxHeartbeats 4000000 in
set_option maxRecDepth 100000 in
theorem c_Heap_linked {l : Launch} {D : va_G} {t : Nat → ClassId} {ad : Nat → Nat} {C : CS} {m : Int32} {link : Int64} (hok : okC C) (hm : m = -1 ∨ ∃ j, j < 16 ∧ m = nI j) : Cd l D t ad y_Heap_linked b_Heap_linked 6 (some .int) { frames := 2, cells := 0, slots := 0, locals := 44 } [.ref (ad (ix 1 0)), .int m, .long link] (C) (some (.int (enc (tlinked C m link)))) (C) := by
  refine ct_of (by decide) (Nat.le_of_ble_eq_true rfl) ?_
  intro Γ _ _ hN h r
  rcases hm with rfl | ⟨j, hj, rfl⟩
  · refine g_at (L' := [some (.ref (ad (ix 1 0))), some (.int (-1)), some (.long link), none, none, none]) rfl rfl rfl ?_
    refine g_iload_n h d_Heap_linked_0 rfl rfl ?_
    refine g_if_ge (tgt := 6) h d_Heap_linked_1 (by decide) (fun c_1 => ?_) (fun c_1 => ?_)
    · exact absurd c_1 (by decide)
    · refine g_iconst (v := -1) h d_Heap_linked_4 (by decide) ?_
      exact g_iret h r d_Heap_linked_5 (⟨by rw [tlinked_m1]; rfl, rfl⟩)
  · obtain ⟨⟨P, hP, hp⟩, -⟩ := hok.1 j hj
    refine g_at (L' := [some (.ref (ad (ix 1 0))), some (.int (nI j)), some (.long link), none, none, none]) rfl rfl rfl ?_
    refine g_iload_n h d_Heap_linked_0 rfl rfl ?_
    refine g_if_ge (tgt := 6) h d_Heap_linked_1 (by decide) (fun c_1 => ?_) (fun c_1 => ?_)
    · refine g_aload_n h d_Heap_linked_6 rfl rfl ?_
      refine gf_Heap_cells h f_Heap_17 d_Heap_linked_7 ?_
      refine g_iload_n h d_Heap_linked_10 rfl rfl ?_
      refine ga_cells h rfl hj d_Heap_linked_11 ?_
      refine gf_Cell_table h f_Heap_76 (by first | assumption | omega) d_Heap_linked_12 ?_
      refine g_astore h d_Heap_linked_15 rfl (by rw [hN]; decide) ?_
      refine g_aload h d_Heap_linked_17 rfl ?_
      refine g_lload_n h d_Heap_linked_19 rfl rfl ?_
      refine g_dVi h tb_good (c_Tab_find hj hp hP) (ix_lt 5 (by decide) _ (by first | assumption | omega)) (wc_at (by decide) (by first | assumption | omega)) rfl v_Heap_102 nm_Tab_find rfl ⟨rfl, rfl, Nat.le_of_ble_eq_true rfl, Nat.le_of_ble_eq_true rfl, Nat.zero_le _, Nat.zero_le _⟩ rfl (Nat.le_of_ble_eq_true rfl) d_Heap_linked_20 ?_
      refine g_istore h d_Heap_linked_23 rfl (by rw [hN]; decide) ?_
      rcases hf : tfind C j link with _ | q <;> simp only [enc]
      · refine g_iload h d_Heap_linked_25 rfl ?_
        refine g_if_lt (tgt := 46) h d_Heap_linked_27 (by decide) (fun c_27 => ?_) (fun c_27 => ?_)
        · refine g_iconst (v := -1) h d_Heap_linked_46 (by decide) ?_
          exact g_iret h r d_Heap_linked_47 (⟨by rw [tlinked_nI hj]; first | (simp [hf, enc]; done) | (simp [hf, ha, enc]; done), rfl⟩)
        · exact absurd (by decide) c_27
      · have hq := tfind_lt hp hP hf
        refine g_iload h d_Heap_linked_25 rfl ?_
        refine g_if_lt (tgt := 46) h d_Heap_linked_27 (by decide) (fun c_27 => ?_) (fun c_27 => ?_)
        · exact absurd c_27 (nI_pos (by omega))
        · refine g_aload_n h d_Heap_linked_30 rfl rfl ?_
          refine g_iconst (v := 1) h d_Heap_linked_31 (by decide) ?_
          refine g_aload h d_Heap_linked_32 rfl ?_
          refine gf_Tab_values h f_Heap_105 (by first | assumption | omega) d_Heap_linked_34 ?_
          refine g_iload h d_Heap_linked_37 rfl ?_
          refine ga_vals h hj rfl (by omega) d_Heap_linked_39 ?_
          refine g_dVi h tb_good (c_Heap_isA (hok.2.1 2 j q)) (ix_lt 1 (by decide) _ (by decide)) (wc_at (by decide) (by decide)) rfl v_Heap_94 nm_Heap_isA rfl ⟨rfl, rfl, Nat.le_of_ble_eq_true rfl, Nat.le_of_ble_eq_true rfl, Nat.zero_le _, Nat.zero_le _⟩ rfl (Nat.le_of_ble_eq_true rfl) d_Heap_linked_40 ?_
          by_cases ha : isA C 1 (C.2.1 2 j q) = true
          · rw [if_pos ha]
            refine g_if_ne (tgt := 48) h d_Heap_linked_43 (by decide) (fun c_43 => ?_) (fun c_43 => ?_)
            · refine g_aload h d_Heap_linked_48 rfl ?_
              refine gf_Tab_values h f_Heap_105 (by first | assumption | omega) d_Heap_linked_50 ?_
              refine g_iload h d_Heap_linked_53 rfl ?_
              refine ga_vals h hj rfl (by omega) d_Heap_linked_55 ?_
              refine g_dNi h tb_good (c_TCM_numberOf) (host := "TriColourMachine") nl_Heap_55 cd_TCM_numberOf in_TCM st_TCM_numberOf nm_TCM_numberOf rfl ⟨rfl, rfl, Nat.le_of_ble_eq_true rfl, Nat.le_of_ble_eq_true rfl, Nat.zero_le _, Nat.zero_le _⟩ rfl (Nat.le_of_ble_eq_true rfl) d_Heap_linked_56 ?_
              exact g_iret h r d_Heap_linked_59 (⟨by rw [tlinked_nI hj, (isA_on (hok.2.1 2 j q) ha).2.1]; simp [hf, ha, enc], rfl⟩)
            · exact absurd c_43 (by decide)
          · rw [if_neg ha]
            refine g_if_ne (tgt := 48) h d_Heap_linked_43 (by decide) (fun c_43 => ?_) (fun c_43 => ?_)
            · exact absurd rfl c_43
            · refine g_iconst (v := -1) h d_Heap_linked_46 (by decide) ?_
              exact g_iret h r d_Heap_linked_47 (⟨by rw [tlinked_nI hj]; first | (simp [hf, enc]; done) | (simp [hf, ha, enc]; done), rfl⟩)
    · exact absurd (nI_pos' (by omega)) c_1
set_option maxHeartbeats 4000000 in
set_option maxRecDepth 100000 in
theorem c_Heap_lastTable {l : Launch} {D : va_G} {t : Nat → ClassId} {ad : Nat → Nat} {C : CS} {n0 : Nat} {first : Int32} {key link : Int64} (hok : okC C) (hn0 : n0 < 16) (hf0 : first = nI n0) : Cd l D t ad y_Heap_lastTable b_Heap_lastTable 10 (some .int) { frames := 3, cells := 0, slots := 0, locals := 69 } [.ref (ad (ix 1 0)), .int first, .long key, .long link] (C) (some (.int (enc (tlast C key link 5 n0)))) (C) := by
  refine ct_of (by decide) (Nat.le_of_ble_eq_true rfl) ?_
  intro Γ _ _ hN h r
  have loop : ∀ (c s n : Nat), s + c = 5 → n < 16 → tlast C key link c n = tlast C key link 5 n0 → G Γ 0 0 171 ad (wc ad t C) 6 [some (.ref (ad (ix 1 0))), some (.int first), some (.long key), none, some (.long link), none, some (.int (nI n)), some (.int (nI s)), none, none] [] := by
    intro c
    induction c with
    | zero =>
      intro s n hs hn he
      refine g_iload h d_Heap_lastTable_6 rfl ?_
      refine g_iconst (v := 5) h d_Heap_lastTable_8 (by decide) ?_
      refine g_icmp_ge (tgt := 68) h d_Heap_lastTable_9 (by decide) (fun c_9 => ?_) (fun c_9 => ?_)
      · refine g_iconst (v := -1) h d_Heap_lastTable_68 (by decide) ?_
        exact g_iret h r d_Heap_lastTable_69 (⟨by rw [← he]; rfl, rfl⟩)
      · exact absurd (nI_le (a := 5) (b := s) (by omega) (by omega)) c_9
    | succ c ih =>
      intro s n hs hn he
      obtain ⟨⟨P, hP, hp⟩, -⟩ := hok.1 n hn
      refine g_iload h d_Heap_lastTable_6 rfl ?_
      refine g_iconst (v := 5) h d_Heap_lastTable_8 (by decide) ?_
      refine g_icmp_ge (tgt := 68) h d_Heap_lastTable_9 (by decide) (fun c_9 => ?_) (fun c_9 => ?_)
      · exact absurd c_9 (nI_ge (b := 5) (by omega) (by decide))
      · refine g_aload_n h d_Heap_lastTable_12 rfl rfl ?_
        refine gf_Heap_cells h f_Heap_17 d_Heap_lastTable_13 ?_
        refine g_iload h d_Heap_lastTable_16 rfl ?_
        refine ga_cells h rfl hn d_Heap_lastTable_18 ?_
        refine gf_Cell_table h f_Heap_76 (by first | assumption | omega) d_Heap_lastTable_19 ?_
        refine g_astore h d_Heap_lastTable_22 rfl (by rw [hN]; decide) ?_
        refine g_aload h d_Heap_lastTable_24 rfl ?_
        refine g_lload_n h d_Heap_lastTable_26 rfl rfl ?_
        refine g_dVi h tb_good (c_Tab_find hn hp hP) (ix_lt 5 (by decide) _ (by first | assumption | omega)) (wc_at (by decide) (by first | assumption | omega)) rfl v_Heap_102 nm_Tab_find rfl ⟨rfl, rfl, Nat.le_of_ble_eq_true rfl, Nat.le_of_ble_eq_true rfl, Nat.zero_le _, Nat.zero_le _⟩ rfl (Nat.le_of_ble_eq_true rfl) d_Heap_lastTable_27 ?_
        rcases hf : tfind C n key with _ | q <;> simp only [enc]
        · refine g_if_lt (tgt := 37) h d_Heap_lastTable_30 (by decide) (fun c_30 => ?_) (fun c_30 => ?_)
          · refine g_aload_n h d_Heap_lastTable_37 rfl rfl ?_
            refine g_aload h d_Heap_lastTable_38 rfl ?_
            refine gf_Tab_meta h f_Heap_121 (by first | assumption | omega) d_Heap_lastTable_40 ?_
            refine g_lload h d_Heap_lastTable_43 rfl ?_
            refine g_dVi h tb_good (c_Heap_linked hok (hok.1 n hn).2.1) (ix_lt 1 (by decide) _ (by decide)) (wc_at (by decide) (by decide)) rfl v_Heap_124 nm_Heap_linked rfl ⟨rfl, rfl, Nat.le_of_ble_eq_true rfl, Nat.le_of_ble_eq_true rfl, Nat.zero_le _, Nat.zero_le _⟩ rfl (Nat.le_of_ble_eq_true rfl) d_Heap_lastTable_45 ?_
            refine g_istore h d_Heap_lastTable_48 rfl (by rw [hN]; decide) ?_
            rcases hk : tlinked C (C.1 3 n) link with _ | q <;> simp only [enc]
            · refine g_iload h d_Heap_lastTable_50 rfl ?_
              refine g_if_ge (tgt := 58) h d_Heap_lastTable_52 (by decide) (fun c_52 => ?_) (fun c_52 => ?_)
              · exact absurd c_52 (by decide)
              · refine g_iload h d_Heap_lastTable_55 rfl ?_
                exact g_iret h r d_Heap_lastTable_57 (⟨by rw [← he]; simp [tlast, hf, hk, enc], rfl⟩)
            · have hq := tlinked_lt hok hk
              refine g_iload h d_Heap_lastTable_50 rfl ?_
              refine g_if_ge (tgt := 58) h d_Heap_lastTable_52 (by decide) (fun c_52 => ?_) (fun c_52 => ?_)
              · refine g_iload h d_Heap_lastTable_58 rfl ?_
                refine g_istore h d_Heap_lastTable_60 rfl (by rw [hN]; decide) ?_
                refine g_iinc (v := nI (s + 1)) h d_Heap_lastTable_62 rfl (by rw [nI_succ]; rfl) rfl (by rw [hN]; decide) ?_
                refine g_goto (tgt := 6) h d_Heap_lastTable_65 (by decide) ?_
                refine g_lessL (L' := [some (.ref (ad (ix 1 0))), some (.int first), some (.long key), none, some (.long link), none, some (.int (nI q)), some (.int (nI (s + 1))), none, none]) (by simp [leL]) ?_
                exact ih (s + 1) q (by omega) (tlinked_lt hok hk) (by rw [← he]; simp [tlast, hf, hk])
              · exact absurd (nI_pos' (by omega)) c_52
          · exact absurd (by decide) c_30
        · have hq0 := tfind_lt hp hP hf
          refine g_if_lt (tgt := 37) h d_Heap_lastTable_30 (by decide) (fun c_30 => ?_) (fun c_30 => ?_)
          · exact absurd c_30 (nI_pos (by omega))
          · refine g_iconst (v := -1) h d_Heap_lastTable_33 (by decide) ?_
            refine g_goto (tgt := 48) h d_Heap_lastTable_34 (by decide) ?_
            refine g_istore h d_Heap_lastTable_48 rfl (by rw [hN]; decide) ?_
            refine g_iload h d_Heap_lastTable_50 rfl ?_
            refine g_if_ge (tgt := 58) h d_Heap_lastTable_52 (by decide) (fun c_52 => ?_) (fun c_52 => ?_)
            · exact absurd c_52 (by decide)
            · refine g_iload h d_Heap_lastTable_55 rfl ?_
              exact g_iret h r d_Heap_lastTable_57 (⟨by rw [← he]; simp [tlast, hf, enc], rfl⟩)
  refine g_at (L' := [some (.ref (ad (ix 1 0))), some (.int first), some (.long key), none, some (.long link), none, none, none, none, none]) rfl rfl rfl ?_
  refine g_iload_n h d_Heap_lastTable_0 rfl rfl ?_
  refine g_istore h d_Heap_lastTable_1 rfl (by rw [hN]; decide) ?_
  refine g_iconst (v := 0) h d_Heap_lastTable_3 (by decide) ?_
  refine g_istore h d_Heap_lastTable_4 rfl (by rw [hN]; decide) ?_
  subst hf0
  exact loop 5 0 n0 (by omega) hn0 rfl
