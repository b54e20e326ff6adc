set_option maxHeartbeats 4000000 in
set_option maxRecDepth 100000 in
theorem c_Arr_fill {l : Launch} {D : va_G} {t : Nat → ClassId} {ad : Nat → Nat} {C : CS} {n : Nat} {v : Int64} (hn : n < 16) : Cd l D t ad y_Arr_fill b_Arr_fill 5 none { frames := 0, cells := 0, slots := 0, locals := 0 } [.ref (ad (ix 9 n)), .long v] (C) (none) (sR C 3 n (fil v 4 (C.2.1 3 n))) := by
  refine ct_of (by decide) (Nat.le_of_ble_eq_true rfl) ?_
  intro Γ _ _ hN h r
  have loop : ∀ (c i : Nat) (C2 : CS), i + c = 4 → C2 = sR C 3 n (fil v i (C.2.1 3 n)) → G Γ 0 0 171 ad (wc ad t C2) 6 [some (.ref (ad (ix 9 n))), some (.long v), none, some (.int (nI i)), some (.int 4)] [] := by
    intro c
    induction c with
    | zero =>
      intro i C2 hi he
      refine g_iload_n h d_Arr_fill_6 rfl rfl ?_
      refine g_iload h d_Arr_fill_7 rfl ?_
      refine g_icmp_ge (tgt := 22) h d_Arr_fill_9 (by decide) (fun c_9 => ?_) (fun c_9 => ?_)
      · exact g_vret h r d_Arr_fill_22 (⟨rfl, by rw [he, show i = 4 by omega]⟩)
      · exact absurd (nI_le (a := 4) (b := i) (by omega) (by omega)) c_9
    | succ c ih =>
      intro i C2 hi he
      refine g_iload_n h d_Arr_fill_6 rfl rfl ?_
      refine g_iload h d_Arr_fill_7 rfl ?_
      refine g_icmp_ge (tgt := 22) h d_Arr_fill_9 (by decide) (fun c_9 => ?_) (fun c_9 => ?_)
      · exact absurd c_9 (nI_ge (b := 4) (by omega) (by decide))
      · refine g_aload_n h d_Arr_fill_12 rfl rfl ?_
        refine g_iload_n h d_Arr_fill_13 rfl rfl ?_
        refine g_lload_n h d_Arr_fill_14 rfl rfl ?_
        refine pa_regs h hn rfl (show i < 4 by omega) d_Arr_fill_15 ?_
        refine g_iinc (v := nI (i + 1)) h d_Arr_fill_16 rfl (by rw [nI_succ]; rfl) rfl (by rw [hN]; decide) ?_
        refine g_goto (tgt := 6) h d_Arr_fill_19 (by decide) ?_
        exact ih (i + 1) _ (by omega) (by rw [he]; exact fil_step C 3 n i v)
  refine g_at (L' := [some (.ref (ad (ix 9 n))), some (.long v), none, none, none]) rfl rfl rfl ?_
  refine g_iconst (v := 0) h d_Arr_fill_0 (by decide) ?_
  refine g_istore_n h d_Arr_fill_1 rfl rfl (by rw [hN]; decide) ?_
  refine g_aload_n h d_Arr_fill_2 rfl rfl ?_
  refine g_alen h (ix 9 n) 0 (ix_lt 9 (by decide) n hn) (wc_at (by decide) hn) rfl (v := 4) rfl d_Arr_fill_3 ?_
  refine g_istore h d_Arr_fill_4 rfl (by rw [hN]; decide) ?_
  exact loop 4 0 C (by omega) (fil_0 C 3 n v).symm
set_option maxHeartbeats 4000000 in
set_option maxRecDepth 100000 in
theorem c_Cor_clear {l : Launch} {D : va_G} {t : Nat → ClassId} {ad : Nat → Nat} {C : CS} {n : Nat} {f : Int32} (hn : n < 16) : Cd l D t ad y_Cor_clear b_Cor_clear 2 none { frames := 1, cells := 0, slots := 0, locals := 24 } [.ref (ad (ix 8 n)), .int f] (C) (none) (cclear C n f) := by
  refine ct_of (by decide) (Nat.le_of_ble_eq_true rfl) ?_
  intro Γ _ _ hN h r
  refine g_at (L' := [some (.ref (ad (ix 8 n))), some (.int f)]) rfl rfl rfl ?_
  refine g_aload_n h d_Cor_clear_0 rfl rfl ?_
  refine gf_Cor_registers h f_Cor_9 (by first | assumption | omega | (show _ < 16; omega)) d_Cor_clear_1 ?_
  refine g_ldc2 (v := -1000000000000) h d_Cor_clear_4 k_Cor_31 ?_
  refine g_dSv h tb_good (c_Arr_fill hn) v_Cor_33 nm_Arr_fill rfl ⟨rfl, rfl, Nat.le_of_ble_eq_true rfl, Nat.le_of_ble_eq_true rfl, Nat.zero_le _, Nat.zero_le _⟩ rfl (Nat.le_of_ble_eq_true rfl) d_Cor_clear_7 ?_
  refine g_aload_n h d_Cor_clear_10 rfl rfl ?_
  refine g_iload_n h d_Cor_clear_11 rfl rfl ?_
  refine pf_Cor_function h f_Cor_15 (by first | assumption | omega | (show _ < 16; omega)) d_Cor_clear_12 ?_
  refine g_aload_n h d_Cor_clear_15 rfl rfl ?_
  refine g_iconst (v := 0) h d_Cor_clear_16 (by decide) ?_
  refine pf_Cor_place h f_Cor_19 (by first | assumption | omega | (show _ < 16; omega)) d_Cor_clear_17 ?_
  refine g_aload_n h d_Cor_clear_20 rfl rfl ?_
  refine g_iconst (v := 0) h d_Cor_clear_21 (by decide) ?_
  refine pf_Cor_state h f_Cor_22 (by first | assumption | omega | (show _ < 16; omega)) d_Cor_clear_22 ?_
  refine g_aload_n h d_Cor_clear_25 rfl rfl ?_
  refine g_iconst (v := 0) h d_Cor_clear_26 (by decide) ?_
  refine pf_Cor_comesIn h f_Cor_25 (by first | assumption | omega | (show _ < 16; omega)) d_Cor_clear_27 ?_
  exact g_vret h r d_Cor_clear_30 (⟨rfl, rfl⟩)
set_option maxHeartbeats 4000000 in
set_option maxRecDepth 100000 in
theorem c_Tab_append {l : Launch} {D : va_G} {t : Nat → ClassId} {ad : Nat → Nat} {C : CS} {n P : Nat} {k v : Int64} (hn : n < 16) (hp : C.1 2 n = nI P) (hP : P < 6) : Cd l D t ad y_Tab_append b_Tab_append 5 none { frames := 0, cells := 0, slots := 0, locals := 0 } [.ref (ad (ix 5 n)), .long k, .long v] (C) (none) (tappend C n k v) := by
  refine ct_of (by decide) (Nat.le_of_ble_eq_true rfl) ?_
  intro Γ _ _ hN h r
  have hc := cPairs_eq hp (by omega)
  refine g_at (L' := [some (.ref (ad (ix 5 n))), some (.long k), none, some (.long v), none]) rfl rfl rfl ?_
  refine g_aload_n h d_Tab_append_0 rfl rfl ?_
  refine gf_Tab_keys h f_Tab_9 (by first | assumption | omega | (show _ < 16; omega)) d_Tab_append_1 ?_
  refine g_aload_n h d_Tab_append_4 rfl rfl ?_
  refine gf_Tab_pairs h f_Tab_18 (by first | assumption | omega | (show _ < 16; omega)) d_Tab_append_5 ?_
  refine g_lload_n h d_Tab_append_8 rfl rfl ?_
  refine pa_keys h hn hp hP d_Tab_append_9 ?_
  refine g_aload_n h d_Tab_append_10 rfl rfl ?_
  refine gf_Tab_values h f_Tab_15 (by first | assumption | omega | (show _ < 16; omega)) d_Tab_append_11 ?_
  refine g_aload_n h d_Tab_append_14 rfl rfl ?_
  refine gf_Tab_pairs h f_Tab_18 (by first | assumption | omega | (show _ < 16; omega)) d_Tab_append_15 ?_
  simp only [sI_1, sI_2, sJ_1, sJ_2, sJ_3, sR_1, sR_2, sR_3, Nat.reduceEqDiff, Nat.zero_ne_one, Nat.one_ne_zero, Nat.succ_ne_zero, reduceCtorEq, false_and, if_false, true_and, and_self, if_true, and_true, and_false, reduceIte]
  refine g_lload_n h d_Tab_append_18 rfl rfl ?_
  refine pa_vals h hn hp hP d_Tab_append_19 ?_
  refine g_aload_n h d_Tab_append_20 rfl rfl ?_
  refine g_dup h d_Tab_append_21 rfl ?_
  refine gf_Tab_pairs h f_Tab_18 (by first | assumption | omega | (show _ < 16; omega)) d_Tab_append_22 ?_
  simp only [sI_1, sI_2, sJ_1, sJ_2, sJ_3, sR_1, sR_2, sR_3, Nat.reduceEqDiff, Nat.zero_ne_one, Nat.one_ne_zero, Nat.succ_ne_zero, reduceCtorEq, false_and, if_false, true_and, and_self, if_true, and_true, and_false, reduceIte]
  refine g_iconst (v := 1) h d_Tab_append_25 (by decide) ?_
  refine g_iadd h d_Tab_append_26 ?_
  refine pf_Tab_pairs h f_Tab_18 (by first | assumption | omega | (show _ < 16; omega)) d_Tab_append_27 ?_
  exact g_vret h r d_Tab_append_30 (⟨rfl, by unfold tappend; rw [hc]⟩)
set_option maxHeartbeats 4000000 in
set_option maxRecDepth 100000 in
theorem c_Heap_create {l : Launch} {D : va_G} {t : Nat → ClassId} {ad : Nat → Nat} {C : CS} {kind f : Int32} (hok : okC C) : Cd l D t ad y_Heap_create b_Heap_create 5 (some .int) { frames := 4, cells := 0, slots := 0, locals := 90 } [.ref (ad (ix 1 0)), .int kind, .int f] (C) (some (.int (ccreate C kind f).1)) ((ccreate C kind f).2) := by
  refine ct_of (by decide) (Nat.le_of_ble_eq_true rfl) ?_
  intro Γ _ _ hN h r
  refine g_at (L' := [some (.ref (ad (ix 1 0))), some (.int kind), some (.int f), none, none]) rfl rfl rfl ?_
  refine g_aload_n h d_Heap_create_0 rfl rfl ?_
  refine g_dVi h tb_good (c_Heap_leastFree) (ix_lt 1 (by decide) _ (by decide)) (wc_at (by decide) (by decide)) rfl v_Heap_62 nm_Heap_leastFree rfl ⟨rfl, rfl, Nat.le_of_ble_eq_true rfl, Nat.le_of_ble_eq_true rfl, Nat.zero_le _, Nat.zero_le _⟩ rfl (Nat.le_of_ble_eq_true rfl) d_Heap_create_1 ?_
  refine g_istore_n h d_Heap_create_4 rfl rfl (by rw [hN]; decide) ?_
  rcases hf : cfree C with _ | q <;> simp only [enc]
  · refine g_iload_n h d_Heap_create_5 rfl rfl ?_
    refine g_if_ge (tgt := 18) h d_Heap_create_6 (by decide) (fun c_6 => ?_) (fun c_6 => ?_)
    · exact absurd c_6 (by decide)
    · refine g_aload_n h d_Heap_create_9 rfl rfl ?_
      refine g_dVv h tb_good (c_Heap_fullCollection hok) (ix_lt 1 (by decide) _ (by decide)) (wc_at (by decide) (by decide)) rfl v_Heap_66 nm_Heap_fullCollection rfl ⟨rfl, rfl, Nat.le_of_ble_eq_true rfl, Nat.le_of_ble_eq_true rfl, Nat.zero_le _, Nat.zero_le _⟩ rfl (Nat.le_of_ble_eq_true rfl) d_Heap_create_10 ?_
      refine g_aload_n h d_Heap_create_13 rfl rfl ?_
      refine g_dVi h tb_good (c_Heap_leastFree) (ix_lt 1 (by decide) _ (by decide)) (wc_at (by decide) (by decide)) rfl v_Heap_62 nm_Heap_leastFree rfl ⟨rfl, rfl, Nat.le_of_ble_eq_true rfl, Nat.le_of_ble_eq_true rfl, Nat.zero_le _, Nat.zero_le _⟩ rfl (Nat.le_of_ble_eq_true rfl) d_Heap_create_14 ?_
      refine g_istore_n h d_Heap_create_17 rfl rfl (by rw [hN]; decide) ?_
      rcases hf2 : cfree (cfull C) with _ | q <;> simp only [enc]
      · refine g_iload_n h d_Heap_create_18 rfl rfl ?_
        refine g_if_ge (tgt := 24) h d_Heap_create_19 (by decide) (fun c_19 => ?_) (fun c_19 => ?_)
        · exact absurd c_19 (by decide)
        · refine g_iconst (v := 3) h d_Heap_create_22 (by decide) ?_
          exact g_iret h r d_Heap_create_23 (⟨by simp [ccreate, hf, hf2], by simp [ccreate, hf, hf2]⟩)
      · have hq := cfree_lt hf2
        refine g_iload_n h d_Heap_create_18 rfl rfl ?_
        refine g_if_ge (tgt := 24) h d_Heap_create_19 (by decide) (fun c_19 => ?_) (fun c_19 => ?_)
        · refine g_aload_n h d_Heap_create_24 rfl rfl ?_
          refine gf_Heap_cells h f_Heap_17 d_Heap_create_25 ?_
          refine g_iload_n h d_Heap_create_28 rfl rfl ?_
          refine ga_cells h rfl hq d_Heap_create_29 ?_
          refine g_astore h d_Heap_create_30 rfl (by rw [hN]; decide) ?_
          refine g_aload h d_Heap_create_32 rfl ?_
          refine g_iload_n h d_Heap_create_34 rfl rfl ?_
          refine pf_Cell_kind h f_Heap_59 hq d_Heap_create_35 ?_
          refine g_aload h d_Heap_create_38 rfl ?_
          refine g_aload_n h d_Heap_create_40 rfl rfl ?_
          refine g_iload_n h d_Heap_create_41 rfl rfl ?_
          refine g_dVi h tb_good (c_Heap_birthColour) (ix_lt 1 (by decide) _ (by decide)) (wc_at (by decide) (by decide)) rfl v_Heap_69 nm_Heap_birthColour rfl ⟨rfl, rfl, Nat.le_of_ble_eq_true rfl, Nat.le_of_ble_eq_true rfl, Nat.zero_le _, Nat.zero_le _⟩ rfl (Nat.le_of_ble_eq_true rfl) d_Heap_create_42 ?_
          refine pf_Cell_colour h f_Heap_73 hq d_Heap_create_45 ?_
          refine g_iload_n h d_Heap_create_48 rfl rfl ?_
          refine g_iconst (v := 1) h d_Heap_create_49 (by decide) ?_
          refine g_icmp_ne (tgt := 64) h d_Heap_create_50 (by decide) (fun c_50 => ?_) (fun c_50 => ?_)
          · refine g_aload h d_Heap_create_64 rfl ?_
            refine gf_Cell_coroutine h f_Heap_85 hq d_Heap_create_66 ?_
            refine g_iload_n h d_Heap_create_69 rfl rfl ?_
            refine g_dVv h tb_good (c_Cor_clear hq) (ix_lt 8 (by decide) _ hq) (wc_at (by decide) hq) rfl v_Heap_89 nm_Cor_clear rfl ⟨rfl, rfl, Nat.le_of_ble_eq_true rfl, Nat.le_of_ble_eq_true rfl, Nat.zero_le _, Nat.zero_le _⟩ rfl (Nat.le_of_ble_eq_true rfl) d_Heap_create_70 ?_
            refine g_aload_n h d_Heap_create_73 rfl rfl ?_
            refine g_dup h d_Heap_create_74 rfl ?_
            refine gf_Heap_made h f_Heap_28 d_Heap_create_75 ?_
            refine g_iconst (v := 1) h d_Heap_create_78 (by decide) ?_
            refine g_iadd h d_Heap_create_79 ?_
            refine pf_Heap_made h f_Heap_28 d_Heap_create_80 ?_
            refine g_aload_n h d_Heap_create_83 rfl rfl ?_
            refine g_ldc2 (v := 10000000000) h d_Heap_create_84 k_Heap_53 ?_
            refine g_iload_n h d_Heap_create_87 rfl rfl ?_
            refine g_i2l h d_Heap_create_88 ?_
            refine g_ladd h d_Heap_create_89 ?_
            refine pf_Heap_found h f_Heap_42 d_Heap_create_90 ?_
            refine g_iconst (v := 0) h d_Heap_create_93 (by decide) ?_
            exact g_iret h r d_Heap_create_94 (⟨by first | (simp [ccreate, hf]; done) | (simp [ccreate, hf, hf2]; done), by first | (simp [ccreate, hf, c_50]; done) | (simp [ccreate, hf, hf2, c_50]; done)⟩)
          · refine g_aload h d_Heap_create_53 rfl ?_
            refine gf_Cell_table h f_Heap_76 hq d_Heap_create_55 ?_
            refine g_dVv h tb_good (c_Tab_clear hq) (ix_lt 5 (by decide) _ hq) (wc_at (by decide) hq) rfl v_Heap_80 nm_Tab_clear rfl ⟨rfl, rfl, Nat.le_of_ble_eq_true rfl, Nat.le_of_ble_eq_true rfl, Nat.zero_le _, Nat.zero_le _⟩ rfl (Nat.le_of_ble_eq_true rfl) d_Heap_create_58 ?_
            refine g_goto (tgt := 73) h d_Heap_create_61 (by decide) ?_
            refine g_aload_n h d_Heap_create_73 rfl rfl ?_
            refine g_dup h d_Heap_create_74 rfl ?_
            refine gf_Heap_made h f_Heap_28 d_Heap_create_75 ?_
            refine g_iconst (v := 1) h d_Heap_create_78 (by decide) ?_
            refine g_iadd h d_Heap_create_79 ?_
            refine pf_Heap_made h f_Heap_28 d_Heap_create_80 ?_
            refine g_aload_n h d_Heap_create_83 rfl rfl ?_
            refine g_ldc2 (v := 10000000000) h d_Heap_create_84 k_Heap_53 ?_
            refine g_iload_n h d_Heap_create_87 rfl rfl ?_
            refine g_i2l h d_Heap_create_88 ?_
            refine g_ladd h d_Heap_create_89 ?_
            refine pf_Heap_found h f_Heap_42 d_Heap_create_90 ?_
            refine g_iconst (v := 0) h d_Heap_create_93 (by decide) ?_
            exact g_iret h r d_Heap_create_94 (⟨by first | (simp [ccreate, hf]; done) | (simp [ccreate, hf, hf2]; done), by first | (simp [ccreate, hf, c_50]; done) | (simp [ccreate, hf, hf2, c_50]; done)⟩)
        · exact absurd (nI_pos' (by omega)) c_19
  · have hq := cfree_lt hf
    refine g_iload_n h d_Heap_create_5 rfl rfl ?_
    refine g_if_ge (tgt := 18) h d_Heap_create_6 (by decide) (fun c_6 => ?_) (fun c_6 => ?_)
    · refine g_iload_n h d_Heap_create_18 rfl rfl ?_
      refine g_if_ge (tgt := 24) h d_Heap_create_19 (by decide) (fun c_19 => ?_) (fun c_19 => ?_)
      · refine g_aload_n h d_Heap_create_24 rfl rfl ?_
        refine gf_Heap_cells h f_Heap_17 d_Heap_create_25 ?_
        refine g_iload_n h d_Heap_create_28 rfl rfl ?_
        refine ga_cells h rfl hq d_Heap_create_29 ?_
        refine g_astore h d_Heap_create_30 rfl (by rw [hN]; decide) ?_
        refine g_aload h d_Heap_create_32 rfl ?_
        refine g_iload_n h d_Heap_create_34 rfl rfl ?_
        refine pf_Cell_kind h f_Heap_59 hq d_Heap_create_35 ?_
        refine g_aload h d_Heap_create_38 rfl ?_
        refine g_aload_n h d_Heap_create_40 rfl rfl ?_
        refine g_iload_n h d_Heap_create_41 rfl rfl ?_
        refine g_dVi h tb_good (c_Heap_birthColour) (ix_lt 1 (by decide) _ (by decide)) (wc_at (by decide) (by decide)) rfl v_Heap_69 nm_Heap_birthColour rfl ⟨rfl, rfl, Nat.le_of_ble_eq_true rfl, Nat.le_of_ble_eq_true rfl, Nat.zero_le _, Nat.zero_le _⟩ rfl (Nat.le_of_ble_eq_true rfl) d_Heap_create_42 ?_
        refine pf_Cell_colour h f_Heap_73 hq d_Heap_create_45 ?_
        refine g_iload_n h d_Heap_create_48 rfl rfl ?_
        refine g_iconst (v := 1) h d_Heap_create_49 (by decide) ?_
        refine g_icmp_ne (tgt := 64) h d_Heap_create_50 (by decide) (fun c_50 => ?_) (fun c_50 => ?_)
        · refine g_aload h d_Heap_create_64 rfl ?_
          refine gf_Cell_coroutine h f_Heap_85 hq d_Heap_create_66 ?_
          refine g_iload_n h d_Heap_create_69 rfl rfl ?_
          refine g_dVv h tb_good (c_Cor_clear hq) (ix_lt 8 (by decide) _ hq) (wc_at (by decide) hq) rfl v_Heap_89 nm_Cor_clear rfl ⟨rfl, rfl, Nat.le_of_ble_eq_true rfl, Nat.le_of_ble_eq_true rfl, Nat.zero_le _, Nat.zero_le _⟩ rfl (Nat.le_of_ble_eq_true rfl) d_Heap_create_70 ?_
          refine g_aload_n h d_Heap_create_73 rfl rfl ?_
          refine g_dup h d_Heap_create_74 rfl ?_
          refine gf_Heap_made h f_Heap_28 d_Heap_create_75 ?_
          refine g_iconst (v := 1) h d_Heap_create_78 (by decide) ?_
          refine g_iadd h d_Heap_create_79 ?_
          refine pf_Heap_made h f_Heap_28 d_Heap_create_80 ?_
          refine g_aload_n h d_Heap_create_83 rfl rfl ?_
          refine g_ldc2 (v := 10000000000) h d_Heap_create_84 k_Heap_53 ?_
          refine g_iload_n h d_Heap_create_87 rfl rfl ?_
          refine g_i2l h d_Heap_create_88 ?_
          refine g_ladd h d_Heap_create_89 ?_
          refine pf_Heap_found h f_Heap_42 d_Heap_create_90 ?_
          refine g_iconst (v := 0) h d_Heap_create_93 (by decide) ?_
          exact g_iret h r d_Heap_create_94 (⟨by first | (simp [ccreate, hf]; done) | (simp [ccreate, hf, hf2]; done), by first | (simp [ccreate, hf, c_50]; done) | (simp [ccreate, hf, hf2, c_50]; done)⟩)
        · refine g_aload h d_Heap_create_53 rfl ?_
          refine gf_Cell_table h f_Heap_76 hq d_Heap_create_55 ?_
          refine g_dVv h tb_good (c_Tab_clear hq) (ix_lt 5 (by decide) _ hq) (wc_at (by decide) hq) rfl v_Heap_80 nm_Tab_clear rfl ⟨rfl, rfl, Nat.le_of_ble_eq_true rfl, Nat.le_of_ble_eq_true rfl, Nat.zero_le _, Nat.zero_le _⟩ rfl (Nat.le_of_ble_eq_true rfl) d_Heap_create_58 ?_
          refine g_goto (tgt := 73) h d_Heap_create_61 (by decide) ?_
          refine g_aload_n h d_Heap_create_73 rfl rfl ?_
          refine g_dup h d_Heap_create_74 rfl ?_
          refine gf_Heap_made h f_Heap_28 d_Heap_create_75 ?_
          refine g_iconst (v := 1) h d_Heap_create_78 (by decide) ?_
          refine g_iadd h d_Heap_create_79 ?_
          refine pf_Heap_made h f_Heap_28 d_Heap_create_80 ?_
          refine g_aload_n h d_Heap_create_83 rfl rfl ?_
          refine g_ldc2 (v := 10000000000) h d_Heap_create_84 k_Heap_53 ?_
          refine g_iload_n h d_Heap_create_87 rfl rfl ?_
          refine g_i2l h d_Heap_create_88 ?_
          refine g_ladd h d_Heap_create_89 ?_
          refine pf_Heap_found h f_Heap_42 d_Heap_create_90 ?_
          refine g_iconst (v := 0) h d_Heap_create_93 (by decide) ?_
          exact g_iret h r d_Heap_create_94 (⟨by first | (simp [ccreate, hf]; done) | (simp [ccreate, hf, hf2]; done), by first | (simp [ccreate, hf, c_50]; done) | (simp [ccreate, hf, hf2, c_50]; done)⟩)
      · exact absurd (nI_pos' (by omega)) c_19
    · exact absurd (nI_pos' (by omega)) c_6
