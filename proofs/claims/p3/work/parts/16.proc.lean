set_option maxHeartbeats 4000000 in
set_option maxRecDepth 100000 in
theorem c_Heap_keyAfter {l : Launch} {D : va_G} {t : Nat → ClassId} {ad : Nat → Nat} {C : CS} {tb k : Int64} (hok : okC C) (htb : okV tb) : Cd l D t ad y_Heap_keyAfter b_Heap_keyAfter 7 (some .int) { frames := 2, cells := 0, slots := 0, locals := 44 } [.ref (ad (ix 1 0)), .long tb, .long k] (C) (some (.int (ckeyAfter C tb k).1)) ((ckeyAfter C tb k).2) := by
  refine ct_of (by decide) (Nat.le_of_ble_eq_true rfl) ?_
  intro Γ _ _ hN h r
  refine g_at (L' := [some (.ref (ad (ix 1 0))), some (.long tb), none, some (.long k), none, none, none]) rfl rfl rfl ?_
  refine g_aload_n h d_Heap_keyAfter_0 rfl rfl ?_
  refine g_iconst (v := 1) h d_Heap_keyAfter_1 (by decide) ?_
  refine g_lload_n h d_Heap_keyAfter_2 rfl rfl ?_
  refine g_dVi h tb_good (c_Heap_isA htb) (ix_lt 1 (by decide) _ (by decide)) (wc_at (by decide) (by decide)) rfl v_Heap_94 nm_Heap_isA rfl ⟨rfl, rfl, Nat.le_of_ble_eq_true rfl, Nat.le_of_ble_eq_true rfl, Nat.zero_le _, Nat.zero_le _⟩ rfl (Nat.le_of_ble_eq_true rfl) d_Heap_keyAfter_3 ?_
  by_cases ha : isA C 1 tb = true
  · rw [if_pos ha]
    obtain ⟨ho, hon, -⟩ := isA_on htb ha
    obtain ⟨⟨P, hP, hp⟩, -⟩ := hok.1 _ ho
    have hc := cPairs_eq hp hP
    refine g_if_ne (tgt := 11) h d_Heap_keyAfter_6 (by decide) (fun c_6 => ?_) (fun c_6 => ?_)
    · refine g_aload_n h d_Heap_keyAfter_11 rfl rfl ?_
      refine gf_Heap_cells h f_Heap_17 d_Heap_keyAfter_12 ?_
      refine g_lload_n h d_Heap_keyAfter_15 rfl rfl ?_
      refine g_dNi h tb_good (c_TCM_numberOf) (host := "TriColourMachine") nl_Heap_55 cd_TCM_numberOf in_TCM st_TCM_numberOf nm_TCM_numberOf rfl ⟨rfl, rfl, Nat.le_of_ble_eq_true rfl, Nat.le_of_ble_eq_true rfl, Nat.zero_le _, Nat.zero_le _⟩ rfl (Nat.le_of_ble_eq_true rfl) d_Heap_keyAfter_16 ?_
      refine ga_cells h hon ho d_Heap_keyAfter_19 ?_
      refine gf_Cell_table h f_Heap_76 (by first | assumption | omega | (show _ < 16; omega)) d_Heap_keyAfter_20 ?_
      refine g_astore h d_Heap_keyAfter_23 rfl (by rw [hN]; decide) ?_
      refine g_lload_n h d_Heap_keyAfter_25 rfl rfl ?_
      refine g_ldc2 (v := -1000000000000) h d_Heap_keyAfter_26 k_Heap_40 ?_
      refine g_lc_ne (tgt := 37) h d_Heap_keyAfter_29 d_Heap_keyAfter_30 (by decide) (fun c_30 => ?_) (fun c_30 => ?_)
      · skip
        · refine g_aload h d_Heap_keyAfter_37 rfl ?_
          refine g_lload_n h d_Heap_keyAfter_39 rfl rfl ?_
          refine g_dVi h tb_good (c_Tab_find ho hp hP) (ix_lt 5 (by decide) _ (by first | assumption | omega | (show _ < 16; omega))) (wc_at (by decide) (by first | assumption | omega | (show _ < 16; omega))) rfl v_Heap_102 nm_Tab_find rfl ⟨rfl, rfl, Nat.le_of_ble_eq_true rfl, Nat.le_of_ble_eq_true rfl, Nat.zero_le _, Nat.zero_le _⟩ rfl (Nat.le_of_ble_eq_true rfl) d_Heap_keyAfter_40 ?_
          refine g_istore h d_Heap_keyAfter_43 rfl (by rw [hN]; decide) ?_
          rcases hf : tfind C (on tb) k with _ | w <;> simp only [enc]
          · refine g_iload h d_Heap_keyAfter_45 rfl ?_
            refine g_if_ge (tgt := 60) h d_Heap_keyAfter_47 (by decide) (fun c_47 => ?_) (fun c_47 => ?_)
            · exact absurd c_47 (by decide)
            · refine g_lload_n h d_Heap_keyAfter_50 rfl rfl ?_
              refine g_ldc2 (v := -1000000000000) h d_Heap_keyAfter_51 k_Heap_40 ?_
              refine g_lc_eq (tgt := 60) h d_Heap_keyAfter_54 d_Heap_keyAfter_55 (by decide) (fun c_55 => ?_) (fun c_55 => ?_)
              · exact absurd c_55 c_30
              · refine g_iconst (v := 1) h d_Heap_keyAfter_58 (by decide) ?_
                exact g_iret h r d_Heap_keyAfter_59 (⟨by simp [ckeyAfter, ha, c_30, hf], by simp [ckeyAfter, ha, c_30, hf]⟩)
          · have hw := tfind_lt hp hP hf
            refine g_iload h d_Heap_keyAfter_45 rfl ?_
            refine g_if_ge (tgt := 60) h d_Heap_keyAfter_47 (by decide) (fun c_47 => ?_) (fun c_47 => ?_)
            · refine g_aload_n h d_Heap_keyAfter_60 rfl rfl ?_
              refine g_iload h d_Heap_keyAfter_61 rfl ?_
              refine g_iconst (v := 1) h d_Heap_keyAfter_63 (by decide) ?_
              refine g_iadd h d_Heap_keyAfter_64 ?_
              refine g_aload h d_Heap_keyAfter_65 rfl ?_
              refine gf_Tab_pairs h f_Heap_108 (by first | assumption | omega | (show _ < 16; omega)) d_Heap_keyAfter_67 ?_
              rw [hp, nI_1]
              refine g_icmp_ge (tgt := 86) h d_Heap_keyAfter_70 (by decide) (fun c_70 => ?_) (fun c_70 => ?_)
              · have hlt : ¬ w + 1 < P := fun z => nI_ge z (by omega) c_70
                refine g_ldc2 (v := -1000000000000) h d_Heap_keyAfter_86 k_Heap_40 ?_
                refine pf_Heap_found h f_Heap_42 d_Heap_keyAfter_89 ?_
                refine g_iconst (v := 0) h d_Heap_keyAfter_92 (by decide) ?_
                exact g_iret h r d_Heap_keyAfter_93 (⟨by simp [ckeyAfter, ha, c_30, hf], by simp [ckeyAfter, ha, c_30, hf, hc, hlt]⟩)
              · have hlt : w + 1 < P := by
                  rcases Nat.lt_or_ge (w + 1) P with z | z
                  · exact z
                  · exact absurd (nI_le z (by omega)) c_70
                refine g_aload h d_Heap_keyAfter_73 rfl ?_
                refine gf_Tab_keys h f_Heap_128 (by first | assumption | omega | (show _ < 16; omega)) d_Heap_keyAfter_75 ?_
                refine g_iload h d_Heap_keyAfter_78 rfl ?_
                refine g_iconst (v := 1) h d_Heap_keyAfter_80 (by decide) ?_
                refine g_iadd h d_Heap_keyAfter_81 ?_
                refine ga_keys h ho (nI_1 w) (by omega) d_Heap_keyAfter_82 ?_
                refine g_goto (tgt := 89) h d_Heap_keyAfter_83 (by decide) ?_
                refine pf_Heap_found h f_Heap_42 d_Heap_keyAfter_89 ?_
                refine g_iconst (v := 0) h d_Heap_keyAfter_92 (by decide) ?_
                exact g_iret h r d_Heap_keyAfter_93 (⟨by simp [ckeyAfter, ha, c_30, hf], by simp [ckeyAfter, ha, c_30, hf, hc, hlt]⟩)
            · exact absurd (nI_pos' (by omega)) c_47
      · skip
        · refine g_iconst (v := -1) h d_Heap_keyAfter_33 (by decide) ?_
          refine g_goto (tgt := 43) h d_Heap_keyAfter_34 (by decide) ?_
          refine g_istore h d_Heap_keyAfter_43 rfl (by rw [hN]; decide) ?_
          refine g_iload h d_Heap_keyAfter_45 rfl ?_
          refine g_if_ge (tgt := 60) h d_Heap_keyAfter_47 (by decide) (fun c_47 => ?_) (fun c_47 => ?_)
          · exact absurd c_47 (by decide)
          · refine g_lload_n h d_Heap_keyAfter_50 rfl rfl ?_
            refine g_ldc2 (v := -1000000000000) h d_Heap_keyAfter_51 k_Heap_40 ?_
            refine g_lc_eq (tgt := 60) h d_Heap_keyAfter_54 d_Heap_keyAfter_55 (by decide) (fun c_55 => ?_) (fun c_55 => ?_)
            · refine g_aload_n h d_Heap_keyAfter_60 rfl rfl ?_
              refine g_iload h d_Heap_keyAfter_61 rfl ?_
              refine g_iconst (v := 1) h d_Heap_keyAfter_63 (by decide) ?_
              refine g_iadd h d_Heap_keyAfter_64 ?_
              refine g_aload h d_Heap_keyAfter_65 rfl ?_
              refine gf_Tab_pairs h f_Heap_108 (by first | assumption | omega | (show _ < 16; omega)) d_Heap_keyAfter_67 ?_
              rw [hp, show (-1 : Int32) + 1 = nI 0 from by decide]
              refine g_icmp_ge (tgt := 86) h d_Heap_keyAfter_70 (by decide) (fun c_70 => ?_) (fun c_70 => ?_)
              · have hlt : ¬ 0 < P := fun z => nI_ge z (by omega) c_70
                refine g_ldc2 (v := -1000000000000) h d_Heap_keyAfter_86 k_Heap_40 ?_
                refine pf_Heap_found h f_Heap_42 d_Heap_keyAfter_89 ?_
                refine g_iconst (v := 0) h d_Heap_keyAfter_92 (by decide) ?_
                exact g_iret h r d_Heap_keyAfter_93 (⟨by simp [ckeyAfter, ha, c_30], by simp [ckeyAfter, ha, c_30, hc, hlt]⟩)
              · have hlt : 0 < P := by
                  rcases Nat.lt_or_ge 0 P with z | z
                  · exact z
                  · exact absurd (nI_le z (by omega)) c_70
                refine g_aload h d_Heap_keyAfter_73 rfl ?_
                refine gf_Tab_keys h f_Heap_128 (by first | assumption | omega | (show _ < 16; omega)) d_Heap_keyAfter_75 ?_
                refine g_iload h d_Heap_keyAfter_78 rfl ?_
                refine g_iconst (v := 1) h d_Heap_keyAfter_80 (by decide) ?_
                refine g_iadd h d_Heap_keyAfter_81 ?_
                refine ga_keys h ho (show (-1 : Int32) + 1 = nI 0 by decide) (by omega) d_Heap_keyAfter_82 ?_
                refine g_goto (tgt := 89) h d_Heap_keyAfter_83 (by decide) ?_
                refine pf_Heap_found h f_Heap_42 d_Heap_keyAfter_89 ?_
                refine g_iconst (v := 0) h d_Heap_keyAfter_92 (by decide) ?_
                exact g_iret h r d_Heap_keyAfter_93 (⟨by simp [ckeyAfter, ha, c_30], by simp [ckeyAfter, ha, c_30, hc, hlt]⟩)
            · exact absurd c_30 c_55
    · exact absurd c_6 (by decide)
  · rw [if_neg ha]
    refine g_if_ne (tgt := 11) h d_Heap_keyAfter_6 (by decide) (fun c_6 => ?_) (fun c_6 => ?_)
    · exact absurd rfl c_6
    · refine g_iconst (v := 1) h d_Heap_keyAfter_9 (by decide) ?_
      exact g_iret h r d_Heap_keyAfter_10 (⟨by simp [ckeyAfter, ha], by simp [ckeyAfter, ha]⟩)
set_option maxHeartbeats 4000000 in
set_option maxRecDepth 100000 in
theorem c_Pro_instructionAt {l : Launch} {D : va_G} {t : Nat → ClassId} {ad : Nat → Nat} {C : CS} {f p : Nat} (hf : f < 4) (hp : p ≤ 16) : Cd l D t ad y_Pro_instructionAt b_Pro_instructionAt 3 (some (.object "TriColourMachine$Instruction")) { frames := 0, cells := 0, slots := 0, locals := 0 } [.ref (ad (ix 10 0)), .int (nI f), .int (nI p)] (C) (some (.ref (ad (ix 13 (f * 17 + p))))) (C) := by
  refine ct_of (by decide) (Nat.le_of_ble_eq_true rfl) ?_
  intro Γ _ _ hN h r
  refine g_at (L' := [some (.ref (ad (ix 10 0))), some (.int (nI f)), some (.int (nI p))]) rfl rfl rfl ?_
  refine g_aload_n h d_Pro_instructionAt_0 rfl rfl ?_
  refine gf_Pro_instructions h f_Pro_13 d_Pro_instructionAt_1 ?_
  refine g_iload_n h d_Pro_instructionAt_4 rfl rfl ?_
  refine g_bipush (v := 17) h d_Pro_instructionAt_5 (by decide) ?_
  refine g_imul h d_Pro_instructionAt_7 ?_
  refine g_iload_n h d_Pro_instructionAt_8 rfl rfl ?_
  refine g_iadd h d_Pro_instructionAt_9 ?_
  refine ga_ins h (show nI f * 17 + nI p = nI (f * 17 + p) from by rw [show (17 : Int32) = nI 17 from rfl, pk_mul, nI_add]) (by omega) d_Pro_instructionAt_10 ?_
  exact g_aret h r d_Pro_instructionAt_11 (⟨rfl, rfl⟩)
set_option maxHeartbeats 4000000 in
set_option maxRecDepth 100000 in
theorem c_Pro_keepFound {l : Launch} {D : va_G} {t : Nat → ClassId} {ad : Nat → Nat} {C : CS} {n a : Nat} {tr : Int32} (hn : n < 16) (ha : a < 4) : Cd l D t ad y_Pro_keepFound b_Pro_keepFound 4 (some .int) { frames := 0, cells := 0, slots := 0, locals := 0 } [.ref (ad (ix 10 0)), .ref (ad (ix 9 n)), .int (nI a), .int tr] (C) (some (.int tr)) (ckeep C n a tr) := by
  refine ct_of (by decide) (Nat.le_of_ble_eq_true rfl) ?_
  intro Γ _ _ hN h r
  refine g_at (L' := [some (.ref (ad (ix 10 0))), some (.ref (ad (ix 9 n))), some (.int (nI a)), some (.int tr)]) rfl rfl rfl ?_
  refine g_iload_n h d_Pro_keepFound_0 rfl rfl ?_
  refine g_if_ne (tgt := 14) h d_Pro_keepFound_1 (by decide) (fun c_1 => ?_) (fun c_1 => ?_)
  · refine g_iload_n h d_Pro_keepFound_14 rfl rfl ?_
    exact g_iret h r d_Pro_keepFound_15 (⟨rfl, by simp [ckeep, c_1]⟩)
  · refine g_aload_n h d_Pro_keepFound_4 rfl rfl ?_
    refine g_iload_n h d_Pro_keepFound_5 rfl rfl ?_
    refine g_aload_n h d_Pro_keepFound_6 rfl rfl ?_
    refine gf_Pro_heap h f_Pro_39 d_Pro_keepFound_7 ?_
    refine gf_Heap_found h f_Pro_162 d_Pro_keepFound_10 ?_
    refine pa_regs h hn rfl ha d_Pro_keepFound_13 ?_
    refine g_iload_n h d_Pro_keepFound_14 rfl rfl ?_
    exact g_iret h r d_Pro_keepFound_15 (⟨rfl, by simp [ckeep, c_1]⟩)
set_option maxHeartbeats 4000000 in
set_option maxRecDepth 100000 in
theorem c_Pro_leave {l : Launch} {D : va_G} {t : Nat → ClassId} {ad : Nat → Nat} {C : CS} {d : Nat} {x : Int64} (hok : okC C) (hd5 : d < 5) (hd : C.1 19 0 = nI (d + 1)) (hact : ∀ i, i < d + 1 → ∃ n, n < 16 ∧ C.2.2 i = some n) : Cd l D t ad y_Pro_leave b_Pro_leave 4 none { frames := 0, cells := 0, slots := 0, locals := 0 } [.ref (ad (ix 10 0)), .long x] (C) (none) (cleave C x) := by
  refine ct_of (by decide) (Nat.le_of_ble_eq_true rfl) ?_
  intro Γ _ _ hN h r
  refine g_at (L' := [some (.ref (ad (ix 10 0))), some (.long x), none, none]) rfl rfl rfl ?_
  refine g_aload_n h d_Pro_leave_0 rfl rfl ?_
  refine g_dup h d_Pro_leave_1 rfl ?_
  refine gf_Pro_depth h f_Pro_23 d_Pro_leave_2 ?_
  refine g_iconst (v := 1) h d_Pro_leave_5 (by decide) ?_
  rw [hd]
  refine g_isub h d_Pro_leave_6 ?_
  rw [show nI (d + 1) - 1 = nI d from nI_pred d]
  refine pf_Pro_depth h f_Pro_23 d_Pro_leave_7 ?_
  refine g_aload_n h d_Pro_leave_10 rfl rfl ?_
  refine gf_Pro_depth h f_Pro_23 d_Pro_leave_11 ?_
  simp only [sI_1, sI_2, sJ_1, sJ_2, sJ_3, sR_1, sR_2, sR_3, Nat.reduceEqDiff, Nat.zero_ne_one, Nat.one_ne_zero, Nat.succ_ne_zero, reduceCtorEq, false_and, if_false, true_and, and_self, if_true, and_true, and_false, reduceIte]
  refine g_if_ne (tgt := 23) h d_Pro_leave_14 (by decide) (fun c_14 => ?_) (fun c_14 => ?_)
  · skip
    · have hd0 : 0 < d := by
        rcases Nat.eq_zero_or_pos d with z | z
        · subst z; exact absurd rfl c_14
        · exact z
      obtain ⟨m, hm16, hm⟩ := hact (d - 1) (by omega)
      obtain ⟨-, -, -, -, -, ⟨w, hw, hw2⟩⟩ := hok.1 m hm16
      refine g_aload_n h d_Pro_leave_23 rfl rfl ?_
      refine gf_Pro_active h f_Pro_19 d_Pro_leave_24 ?_
      refine g_aload_n h d_Pro_leave_27 rfl rfl ?_
      refine gf_Pro_depth h f_Pro_23 d_Pro_leave_28 ?_
      simp only [sI_1, sI_2, sJ_1, sJ_2, sJ_3, sR_1, sR_2, sR_3, Nat.reduceEqDiff, Nat.zero_ne_one, Nat.one_ne_zero, Nat.succ_ne_zero, reduceCtorEq, false_and, if_false, true_and, and_self, if_true, and_true, and_false, reduceIte]
      refine g_iconst (v := 1) h d_Pro_leave_31 (by decide) ?_
      refine g_isub h d_Pro_leave_32 ?_
      refine ga_act h (show nI d - 1 = nI (d - 1) from by rw [show nI d = nI (d - 1 + 1) from by rw [show d - 1 + 1 = d by omega]]; exact nI_pred _) (by omega) hm d_Pro_leave_33 ?_
      refine g_astore_n h d_Pro_leave_34 rfl rfl (by rw [hN]; decide) ?_
      refine g_aload_n h d_Pro_leave_35 rfl rfl ?_
      refine gf_Cor_registers h f_Pro_88 (by first | assumption | omega | (show _ < 16; omega)) d_Pro_leave_36 ?_
      refine g_aload_n h d_Pro_leave_39 rfl rfl ?_
      refine gf_Cor_awaits h f_Pro_99 (by first | assumption | omega | (show _ < 16; omega)) d_Pro_leave_40 ?_
      simp only [sI_1, sI_2, sJ_1, sJ_2, sJ_3, sR_1, sR_2, sR_3, Nat.reduceEqDiff, Nat.zero_ne_one, Nat.one_ne_zero, Nat.succ_ne_zero, reduceCtorEq, false_and, if_false, true_and, and_self, if_true, and_true, and_false, reduceIte]
      refine g_lload_n h d_Pro_leave_43 rfl rfl ?_
      refine pa_regs h hm16 hw2 hw d_Pro_leave_44 ?_
      refine g_aload_n h d_Pro_leave_45 rfl rfl ?_
      refine g_dup h d_Pro_leave_46 rfl ?_
      refine gf_Cor_place h f_Pro_51 (by first | assumption | omega | (show _ < 16; omega)) d_Pro_leave_47 ?_
      simp only [sI_1, sI_2, sJ_1, sJ_2, sJ_3, sR_1, sR_2, sR_3, Nat.reduceEqDiff, Nat.zero_ne_one, Nat.one_ne_zero, Nat.succ_ne_zero, reduceCtorEq, false_and, if_false, true_and, and_self, if_true, and_true, and_false, reduceIte]
      refine g_iconst (v := 1) h d_Pro_leave_50 (by decide) ?_
      refine g_iadd h d_Pro_leave_51 ?_
      refine pf_Cor_place h f_Pro_51 (by first | assumption | omega | (show _ < 16; omega)) d_Pro_leave_52 ?_
      exact g_vret h r d_Pro_leave_55 (⟨rfl, by simp [cleave, hd, nI_pred, c_14, cact, cDepth, nI_clamp (show d + 1 < 2 ^ 31 by omega), hm, hw2, nI_clamp (show w < 2 ^ 31 by omega), sJ_1, sI_1]⟩)
  · refine g_aload_n h d_Pro_leave_17 rfl rfl ?_
    refine g_lload_n h d_Pro_leave_18 rfl rfl ?_
    refine pf_Pro_outcome h f_Pro_35 d_Pro_leave_19 ?_
    exact g_vret h r d_Pro_leave_22 (⟨rfl, by simp [cleave, hd, nI_pred, c_14]⟩)
set_option maxHeartbeats 4000000 in
set_option maxRecDepth 100000 in
theorem c_Pro_enter {l : Launch} {D : va_G} {t : Nat → ClassId} {ad : Nat → Nat} {C : CS} {v x : Int64} (hok : okC C) (hv : okV v) : Cd l D t ad y_Pro_enter b_Pro_enter 7 (some .int) { frames := 2, cells := 0, slots := 0, locals := 44 } [.ref (ad (ix 10 0)), .long v, .long x] (C) (some (.int (center C v x).1)) ((center C v x).2) := by
  refine ct_of (by decide) (Nat.le_of_ble_eq_true rfl) ?_
  intro Γ _ _ hN h r
  obtain ⟨d, hd5, hd, hact⟩ := hok.2.2.2
  refine g_at (L' := [some (.ref (ad (ix 10 0))), some (.long v), none, some (.long x), none, none, none]) rfl rfl rfl ?_
  refine g_aload_n h d_Pro_enter_0 rfl rfl ?_
  refine gf_Pro_heap h f_Pro_39 d_Pro_enter_1 ?_
  refine g_iconst (v := 2) h d_Pro_enter_4 (by decide) ?_
  refine g_lload_n h d_Pro_enter_5 rfl rfl ?_
  refine g_dVi h tb_good (c_Heap_isA hv) (ix_lt 1 (by decide) _ (by decide)) (wc_at (by decide) (by decide)) rfl v_Pro_65 nm_Heap_isA rfl ⟨rfl, rfl, Nat.le_of_ble_eq_true rfl, Nat.le_of_ble_eq_true rfl, Nat.zero_le _, Nat.zero_le _⟩ rfl (Nat.le_of_ble_eq_true rfl) d_Pro_enter_6 ?_
  by_cases ha : isA C 2 v = true
  · rw [if_pos ha]
    obtain ⟨ho, hon, -⟩ := isA_on hv ha
    obtain ⟨-, -, -, -, ⟨w, hw, hw2⟩, -⟩ := hok.1 _ ho
    refine g_if_ne (tgt := 14) h d_Pro_enter_9 (by decide) (fun c_9 => ?_) (fun c_9 => ?_)
    · refine g_lload_n h d_Pro_enter_14 rfl rfl ?_
      refine g_dNi h tb_good (c_TCM_numberOf) (host := "TriColourMachine") nl_Pro_71 cd_TCM_numberOf in_TCM st_TCM_numberOf nm_TCM_numberOf rfl ⟨rfl, rfl, Nat.le_of_ble_eq_true rfl, Nat.le_of_ble_eq_true rfl, Nat.zero_le _, Nat.zero_le _⟩ rfl (Nat.le_of_ble_eq_true rfl) d_Pro_enter_15 ?_
      rw [hon]
      refine g_istore h d_Pro_enter_18 rfl (by rw [hN]; decide) ?_
      refine g_aload_n h d_Pro_enter_20 rfl rfl ?_
      refine gf_Pro_heap h f_Pro_39 d_Pro_enter_21 ?_
      refine gf_Heap_cells h f_Pro_75 d_Pro_enter_24 ?_
      refine g_iload h d_Pro_enter_27 rfl ?_
      refine ga_cells h rfl ho d_Pro_enter_29 ?_
      refine gf_Cell_coroutine h f_Pro_79 (by first | assumption | omega | (show _ < 16; omega)) d_Pro_enter_30 ?_
      refine g_astore h d_Pro_enter_33 rfl (by rw [hN]; decide) ?_
      refine g_aload h d_Pro_enter_35 rfl ?_
      refine gf_Cor_state h f_Pro_85 (by first | assumption | omega | (show _ < 16; omega)) d_Pro_enter_37 ?_
      refine g_iconst (v := 3) h d_Pro_enter_40 (by decide) ?_
      refine g_icmp_eq (tgt := 53) h d_Pro_enter_41 (by decide) (fun c_41 => ?_) (fun c_41 => ?_)
      · refine g_iconst (v := 1) h d_Pro_enter_53 (by decide) ?_
        exact g_iret h r d_Pro_enter_54 (⟨by first | (simp [center, centerOk, ha, c_41]; done) | (simp [center, centerOk, ha, c_41, c_50]; done), by first | (simp [center, centerOk, ha, c_41]; done) | (simp [center, centerOk, ha, c_41, c_50]; done)⟩)
      · refine g_aload h d_Pro_enter_44 rfl ?_
        refine gf_Cor_state h f_Pro_85 (by first | assumption | omega | (show _ < 16; omega)) d_Pro_enter_46 ?_
        refine g_iconst (v := 2) h d_Pro_enter_49 (by decide) ?_
        refine g_icmp_ne (tgt := 55) h d_Pro_enter_50 (by decide) (fun c_50 => ?_) (fun c_50 => ?_)
        · refine g_aload_n h d_Pro_enter_55 rfl rfl ?_
          refine gf_Pro_depth h f_Pro_23 d_Pro_enter_56 ?_
          refine g_iconst (v := 5) h d_Pro_enter_59 (by decide) ?_
          rw [hd]
          refine g_icmp_ne (tgt := 65) h d_Pro_enter_60 (by decide) (fun c_60 => ?_) (fun c_60 => ?_)
          · have hd6 : d < 5 := by
              rcases Nat.lt_or_ge d 5 with z | z
              · exact z
              · exact absurd (by rw [show d = 5 by omega]; rfl) c_60
            refine g_aload h d_Pro_enter_65 rfl ?_
            refine gf_Cor_registers h f_Pro_88 (by first | assumption | omega | (show _ < 16; omega)) d_Pro_enter_67 ?_
            refine g_aload h d_Pro_enter_70 rfl ?_
            refine gf_Cor_comesIn h f_Pro_92 (by first | assumption | omega | (show _ < 16; omega)) d_Pro_enter_72 ?_
            refine g_lload_n h d_Pro_enter_75 rfl rfl ?_
            refine pa_regs h ho hw2 hw d_Pro_enter_76 ?_
            refine g_aload h d_Pro_enter_77 rfl ?_
            refine g_iconst (v := 2) h d_Pro_enter_79 (by decide) ?_
            refine pf_Cor_state h f_Pro_85 (by first | assumption | omega | (show _ < 16; omega)) d_Pro_enter_80 ?_
            refine g_aload_n h d_Pro_enter_83 rfl rfl ?_
            refine gf_Pro_heap h f_Pro_39 d_Pro_enter_84 ?_
            refine g_iload h d_Pro_enter_87 rfl ?_
            refine g_dVv h tb_good (c_Heap_touch ho) (ix_lt 1 (by decide) _ (by decide)) (wc_at (by decide) (by decide)) rfl v_Pro_95 nm_Heap_touch rfl ⟨rfl, rfl, Nat.le_of_ble_eq_true rfl, Nat.le_of_ble_eq_true rfl, Nat.zero_le _, Nat.zero_le _⟩ rfl (Nat.le_of_ble_eq_true rfl) d_Pro_enter_89 ?_
            refine g_aload_n h d_Pro_enter_92 rfl rfl ?_
            refine gf_Pro_active h f_Pro_19 d_Pro_enter_93 ?_
            skip
            refine g_aload_n h d_Pro_enter_96 rfl rfl ?_
            refine gf_Pro_depth h f_Pro_23 d_Pro_enter_97 ?_
            rw [ctouch_o (by decide)]
            simp only [sI_1, sI_2, sJ_1, sJ_2, sJ_3, sR_1, sR_2, sR_3, Nat.reduceEqDiff, Nat.zero_ne_one, Nat.one_ne_zero, Nat.succ_ne_zero, reduceCtorEq, false_and, if_false, true_and, and_self, if_true, and_true, and_false, reduceIte]
            refine g_aload h d_Pro_enter_100 rfl ?_
            refine pa_act h hd hd6 ho d_Pro_enter_102 ?_
            refine g_aload_n h d_Pro_enter_103 rfl rfl ?_
            refine g_dup h d_Pro_enter_104 rfl ?_
            refine gf_Pro_depth h f_Pro_23 d_Pro_enter_105 ?_
            simp only [sA_1]
            rw [ctouch_o (by decide)]
            simp only [sI_1, sI_2, sJ_1, sJ_2, sJ_3, sR_1, sR_2, sR_3, Nat.reduceEqDiff, Nat.zero_ne_one, Nat.one_ne_zero, Nat.succ_ne_zero, reduceCtorEq, false_and, if_false, true_and, and_self, if_true, and_true, and_false, reduceIte]
            refine g_iconst (v := 1) h d_Pro_enter_108 (by decide) ?_
            refine g_iadd h d_Pro_enter_109 ?_
            refine pf_Pro_depth h f_Pro_23 d_Pro_enter_110 ?_
            refine g_iconst (v := 0) h d_Pro_enter_113 (by decide) ?_
            exact g_iret h r d_Pro_enter_114 (⟨by simp [center, centerOk, ha, c_41, c_50, hd, c_60], by simp [center, centerOk, ha, c_41, c_50, hd, c_60, hw2, nI_clamp (show w < 2 ^ 31 by omega), cDepth, nI_clamp (show d < 2 ^ 31 by omega)]⟩)
          · refine g_iconst (v := 2) h d_Pro_enter_63 (by decide) ?_
            exact g_iret h r d_Pro_enter_64 (⟨by simp [center, centerOk, ha, c_41, c_50, hd, c_60], by simp [center, centerOk, ha, c_41, c_50, hd, c_60]⟩)
        · refine g_iconst (v := 1) h d_Pro_enter_53 (by decide) ?_
          exact g_iret h r d_Pro_enter_54 (⟨by first | (simp [center, centerOk, ha, c_41]; done) | (simp [center, centerOk, ha, c_41, c_50]; done), by first | (simp [center, centerOk, ha, c_41]; done) | (simp [center, centerOk, ha, c_41, c_50]; done)⟩)
    · exact absurd c_9 (by decide)
  · rw [if_neg ha]
    refine g_if_ne (tgt := 14) h d_Pro_enter_9 (by decide) (fun c_9 => ?_) (fun c_9 => ?_)
    · exact absurd rfl c_9
    · refine g_iconst (v := 1) h d_Pro_enter_12 (by decide) ?_
      exact g_iret h r d_Pro_enter_13 (⟨by simp [center, centerOk, ha], by simp [center, centerOk, ha]⟩)
set_option maxHeartbeats 4000000 in
set_option maxRecDepth 100000 in
theorem c_Pro_endActive {l : Launch} {D : va_G} {t : Nat → ClassId} {ad : Nat → Nat} {C : CS} {d : Nat} (hd5 : d ≤ 5) (hd : C.1 19 0 = nI d) (hact : ∀ i, i < d → ∃ n, n < 16 ∧ C.2.2 i = some n) : Cd l D t ad y_Pro_endActive b_Pro_endActive 2 none { frames := 0, cells := 0, slots := 0, locals := 0 } [.ref (ad (ix 10 0))] (C) (none) (cend d 0 C) := by
  refine ct_of (by decide) (Nat.le_of_ble_eq_true rfl) ?_
  intro Γ _ _ hN h r
  have loop : ∀ (c i : Nat) (C2 : CS), i + c = d → C2.1 19 0 = nI d → C2.2.2 = C.2.2 → cend c i C2 = cend d 0 C → G Γ 0 0 171 ad (wc ad t C2) 2 [some (.ref (ad (ix 10 0))), some (.int (nI i))] [] := by
    intro c
    induction c with
    | zero =>
      intro i C2 hi hD hA he
      refine g_iload_n h d_Pro_endActive_2 rfl rfl ?_
      refine g_aload_n h d_Pro_endActive_3 rfl rfl ?_
      refine gf_Pro_depth h f_Pro_23 d_Pro_endActive_4 ?_
      rw [hD]
      refine g_icmp_ge (tgt := 26) h d_Pro_endActive_7 (by decide) (fun c_7 => ?_) (fun c_7 => ?_)
      · refine g_aload_n h d_Pro_endActive_26 rfl rfl ?_
        refine g_iconst (v := 0) h d_Pro_endActive_27 (by decide) ?_
        refine pf_Pro_depth h f_Pro_23 d_Pro_endActive_28 ?_
        exact g_vret h r d_Pro_endActive_31 (⟨rfl, by rw [← he]; rfl⟩)
      · exact absurd (nI_le (a := d) (b := i) (by omega) (by omega)) c_7
    | succ c ih =>
      intro i C2 hi hD hA he
      obtain ⟨m, hm16, hm0⟩ := hact i (by omega)
      have hm : C2.2.2 i = some m := by rw [hA]; exact hm0
      refine g_iload_n h d_Pro_endActive_2 rfl rfl ?_
      refine g_aload_n h d_Pro_endActive_3 rfl rfl ?_
      refine gf_Pro_depth h f_Pro_23 d_Pro_endActive_4 ?_
      rw [hD]
      refine g_icmp_ge (tgt := 26) h d_Pro_endActive_7 (by decide) (fun c_7 => ?_) (fun c_7 => ?_)
      · exact absurd c_7 (nI_ge (b := d) (by omega) (by omega))
      · refine g_aload_n h d_Pro_endActive_10 rfl rfl ?_
        refine gf_Pro_active h f_Pro_19 d_Pro_endActive_11 ?_
        refine g_iload_n h d_Pro_endActive_14 rfl rfl ?_
        refine ga_act h rfl (by omega) hm d_Pro_endActive_15 ?_
        refine g_iconst (v := 3) h d_Pro_endActive_16 (by decide) ?_
        refine pf_Cor_state h f_Pro_85 (by first | assumption | omega | (show _ < 16; omega)) d_Pro_endActive_17 ?_
        refine g_iinc (v := nI (i + 1)) h d_Pro_endActive_20 rfl (by rw [nI_succ]; rfl) rfl (by rw [hN]; decide) ?_
        refine g_goto (tgt := 2) h d_Pro_endActive_23 (by decide) ?_
        exact ih (i + 1) _ (by omega) (by rw [sI_o (by decide)]; exact hD) hA (by rw [← he]; simp [cend, cact, hA, hm])
  refine g_at (L' := [some (.ref (ad (ix 10 0))), none]) rfl rfl rfl ?_
  refine g_iconst (v := 0) h d_Pro_endActive_0 (by decide) ?_
  refine g_istore_n h d_Pro_endActive_1 rfl rfl (by rw [hN]; decide) ?_
  exact loop d 0 C (by omega) hd rfl rfl
set_option maxHeartbeats 4000000 in
set_option maxRecDepth 100000 in
theorem c_Pro_calculate {l : Launch} {D : va_G} {t : Nat → ClassId} {ad : Nat → Nat} {C : CS} {n a : Nat} {op : Int32} {x y : Int64} (hn : n < 16) (ha : a < 4) : Cd l D t ad y_Pro_calculate b_Pro_calculate 9 (some .int) { frames := 1, cells := 0, slots := 0, locals := 21 } [.int op, .ref (ad (ix 9 n)), .int (nI a), .long x, .long y] (C) (some (.int (ccalc C op n a x y).1)) ((ccalc C op n a x y).2) := by
  refine ct_of (by decide) (Nat.le_of_ble_eq_true rfl) ?_
  intro Γ _ _ hN h r
  refine g_at (L' := [some (.int op), some (.ref (ad (ix 9 n))), some (.int (nI a)), some (.long x), none, some (.long y), none, none, none]) rfl rfl rfl ?_
  refine g_lload_n h d_Pro_calculate_0 rfl rfl ?_
  refine g_dNi h tb_good (c_TCM_isNumber) (host := "TriColourMachine") nl_Pro_165 cd_TCM_isNumber in_TCM st_TCM_isNumber nm_TCM_isNumber rfl ⟨rfl, rfl, Nat.le_of_ble_eq_true rfl, Nat.le_of_ble_eq_true rfl, Nat.zero_le _, Nat.zero_le _⟩ rfl (Nat.le_of_ble_eq_true rfl) d_Pro_calculate_1 ?_
  by_cases h1 : (-2147483648 ≤ x ∧ x ≤ 2147483647)
  · rw [if_pos h1]
    refine g_if_eq (tgt := 15) h d_Pro_calculate_4 (by decide) (fun c_4 => ?_) (fun c_4 => ?_)
    · exact absurd c_4 (by decide)
    · refine g_lload h d_Pro_calculate_7 rfl ?_
      refine g_dNi h tb_good (c_TCM_isNumber) (host := "TriColourMachine") nl_Pro_165 cd_TCM_isNumber in_TCM st_TCM_isNumber nm_TCM_isNumber rfl ⟨rfl, rfl, Nat.le_of_ble_eq_true rfl, Nat.le_of_ble_eq_true rfl, Nat.zero_le _, Nat.zero_le _⟩ rfl (Nat.le_of_ble_eq_true rfl) d_Pro_calculate_9 ?_
      by_cases h2 : (-2147483648 ≤ y ∧ y ≤ 2147483647)
      · rw [if_pos h2]
        refine g_if_ne (tgt := 17) h d_Pro_calculate_12 (by decide) (fun c_12 => ?_) (fun c_12 => ?_)
        · refine g_lload_n h d_Pro_calculate_17 rfl rfl ?_
          refine g_l2i h d_Pro_calculate_18 ?_
          refine g_istore h d_Pro_calculate_19 rfl (by rw [hN]; decide) ?_
          refine g_lload h d_Pro_calculate_21 rfl ?_
          refine g_l2i h d_Pro_calculate_23 ?_
          refine g_istore h d_Pro_calculate_24 rfl (by rw [hN]; decide) ?_
          refine g_aload_n h d_Pro_calculate_26 rfl rfl ?_
          refine g_iload_n h d_Pro_calculate_27 rfl rfl ?_
          refine g_iload_n h d_Pro_calculate_28 rfl rfl ?_
          refine g_bipush (v := 8) h d_Pro_calculate_29 (by decide) ?_
          refine g_icmp_ne (tgt := 43) h d_Pro_calculate_31 (by decide) (fun c_31 => ?_) (fun c_31 => ?_)
          · refine g_iload_n h d_Pro_calculate_43 rfl rfl ?_
            refine g_bipush (v := 9) h d_Pro_calculate_44 (by decide) ?_
            refine g_icmp_ne (tgt := 58) h d_Pro_calculate_46 (by decide) (fun c_46 => ?_) (fun c_46 => ?_)
            · refine g_iload h d_Pro_calculate_58 rfl ?_
              refine g_iload h d_Pro_calculate_60 rfl ?_
              refine g_imul h d_Pro_calculate_62 ?_
              refine g_i2l h d_Pro_calculate_63 ?_
              refine pa_regs h hn rfl ha d_Pro_calculate_64 ?_
              refine g_iconst (v := 0) h d_Pro_calculate_65 (by decide) ?_
              exact g_iret h r d_Pro_calculate_66 (⟨by unfold ccalc isNum; rw [if_pos ⟨h1, h2⟩], by unfold ccalc isNum; rw [if_pos ⟨h1, h2⟩]; first | (simp [c_31]; done) | (simp [c_31, c_46]; done)⟩)
            · refine g_iload h d_Pro_calculate_49 rfl ?_
              refine g_iload h d_Pro_calculate_51 rfl ?_
              refine g_isub h d_Pro_calculate_53 ?_
              refine g_i2l h d_Pro_calculate_54 ?_
              refine g_goto (tgt := 64) h d_Pro_calculate_55 (by decide) ?_
              refine pa_regs h hn rfl ha d_Pro_calculate_64 ?_
              refine g_iconst (v := 0) h d_Pro_calculate_65 (by decide) ?_
              exact g_iret h r d_Pro_calculate_66 (⟨by unfold ccalc isNum; rw [if_pos ⟨h1, h2⟩], by unfold ccalc isNum; rw [if_pos ⟨h1, h2⟩]; first | (simp [c_31]; done) | (simp [c_31, c_46]; done)⟩)
          · refine g_iload h d_Pro_calculate_34 rfl ?_
            refine g_iload h d_Pro_calculate_36 rfl ?_
            refine g_iadd h d_Pro_calculate_38 ?_
            refine g_i2l h d_Pro_calculate_39 ?_
            refine g_goto (tgt := 64) h d_Pro_calculate_40 (by decide) ?_
            refine pa_regs h hn rfl ha d_Pro_calculate_64 ?_
            refine g_iconst (v := 0) h d_Pro_calculate_65 (by decide) ?_
            exact g_iret h r d_Pro_calculate_66 (⟨by unfold ccalc isNum; rw [if_pos ⟨h1, h2⟩], by unfold ccalc isNum; rw [if_pos ⟨h1, h2⟩]; first | (simp [c_31]; done) | (simp [c_31, c_46]; done)⟩)
        · exact absurd c_12 (by decide)
      · rw [if_neg h2]
        refine g_if_ne (tgt := 17) h d_Pro_calculate_12 (by decide) (fun c_12 => ?_) (fun c_12 => ?_)
        · exact absurd rfl c_12
        · refine g_iconst (v := 1) h d_Pro_calculate_15 (by decide) ?_
          exact g_iret h r d_Pro_calculate_16 (⟨by unfold ccalc isNum; first | (rw [if_neg (fun z => h1 z.1)]; done) | (rw [if_neg (fun z => h2 z.2)]; done), by unfold ccalc isNum; first | (rw [if_neg (fun z => h1 z.1)]; done) | (rw [if_neg (fun z => h2 z.2)]; done)⟩)
  · rw [if_neg h1]
    refine g_if_eq (tgt := 15) h d_Pro_calculate_4 (by decide) (fun c_4 => ?_) (fun c_4 => ?_)
    · refine g_iconst (v := 1) h d_Pro_calculate_15 (by decide) ?_
      exact g_iret h r d_Pro_calculate_16 (⟨by unfold ccalc isNum; first | (rw [if_neg (fun z => h1 z.1)]; done) | (rw [if_neg (fun z => h2 z.2)]; done), by unfold ccalc isNum; first | (rw [if_neg (fun z => h1 z.1)]; done) | (rw [if_neg (fun z => h2 z.2)]; done)⟩)
    · exact absurd rfl c_4
