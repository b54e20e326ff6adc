set_option maxHeartbeats 4000000 in
set_option maxRecDepth 100000 in
theorem c_Heap_shadeRoots {l : Launch} {D : va_G} {t : Nat → ClassId} {ad : Nat → Nat} {C : CS} (hok : okC C) : Cd l D t ad y_Heap_shadeRoots b_Heap_shadeRoots 3 (some .int) { frames := 1, cells := 0, slots := 0, locals := 25 } [.ref (ad (ix 1 0))] (C) (some (.int (cshadeRoots C).1)) ((cshadeRoots C).2) := by
  refine ct_of (by decide) (Nat.le_of_ble_eq_true rfl) ?_
  intro Γ _ _ hN h r
  have loop : ∀ (c n : Nat) (a : Int32) (C2 : CS), n + c = 16 → C2.2 = C.2 → croots c n a C2 = cshadeRoots C → G Γ 0 0 171 ad (wc ad t C2) 13 [some (.ref (ad (ix 1 0))), some (.int a), some (.int (nI n))] [] := by
    intro c
    induction c with
    | zero =>
      intro n a C2 hi hC he
      refine g_iload_n h d_Heap_shadeRoots_13 rfl rfl ?_
      refine g_bipush (v := 16) h d_Heap_shadeRoots_14 (by decide) ?_
      refine g_icmp_ge (tgt := 69) h d_Heap_shadeRoots_16 (by decide) (fun c_16 => ?_) (fun c_16 => ?_)
      · refine g_iload_n h d_Heap_shadeRoots_69 rfl rfl ?_
        exact g_iret h r d_Heap_shadeRoots_70 (⟨by rw [← he]; rfl, by rw [← he]; rfl⟩)
      · exact absurd (nI_le (a := 16) (b := n) (by omega) (by omega)) c_16
    | succ c ih =>
      intro n a C2 hi hC he
      refine g_iload_n h d_Heap_shadeRoots_13 rfl rfl ?_
      refine g_bipush (v := 16) h d_Heap_shadeRoots_14 (by decide) ?_
      refine g_icmp_ge (tgt := 69) h d_Heap_shadeRoots_16 (by decide) (fun c_16 => ?_) (fun c_16 => ?_)
      · exact absurd c_16 (nI_ge (b := 16) (by omega) (by decide))
      · refine g_aload_n h d_Heap_shadeRoots_19 rfl rfl ?_
        refine gf_Heap_cells h f_Heap_17 d_Heap_shadeRoots_20 ?_
        refine g_iload_n h d_Heap_shadeRoots_23 rfl rfl ?_
        refine ga_cells h rfl (by omega) d_Heap_shadeRoots_24 ?_
        refine g_dVi h tb_good (c_Cell_isActive (show n < 16 by omega)) (ix_lt 4 (by decide) _ (by first | assumption | omega | (show _ < 16; omega))) (wc_at (by decide) (by first | assumption | omega | (show _ < 16; omega))) rfl v_Heap_158 nm_Cell_isActive rfl ⟨rfl, rfl, Nat.le_of_ble_eq_true rfl, Nat.le_of_ble_eq_true rfl, Nat.zero_le _, Nat.zero_le _⟩ rfl (Nat.le_of_ble_eq_true rfl) d_Heap_shadeRoots_25 ?_
        by_cases ha : cactive C2 n = true
        · rw [if_pos ha]
          refine g_if_eq (tgt := 63) h d_Heap_shadeRoots_28 (by decide) (fun c_28 => ?_) (fun c_28 => ?_)
          · exact absurd c_28 (by decide)
          · refine g_iload_n h d_Heap_shadeRoots_31 rfl rfl ?_
            refine g_aload_n h d_Heap_shadeRoots_32 rfl rfl ?_
            refine gf_Heap_cells h f_Heap_17 d_Heap_shadeRoots_33 ?_
            refine g_iload_n h d_Heap_shadeRoots_36 rfl rfl ?_
            refine ga_cells h rfl (by omega) d_Heap_shadeRoots_37 ?_
            refine g_dSi h tb_good (c_Heap_shade (show n < 16 by omega)) v_Heap_154 nm_Heap_shade rfl ⟨rfl, rfl, Nat.le_of_ble_eq_true rfl, Nat.le_of_ble_eq_true rfl, Nat.zero_le _, Nat.zero_le _⟩ rfl (Nat.le_of_ble_eq_true rfl) d_Heap_shadeRoots_38 ?_
            refine g_iadd h d_Heap_shadeRoots_41 ?_
            refine g_istore_n h d_Heap_shadeRoots_42 rfl rfl (by rw [hN]; decide) ?_
            refine g_iload_n h d_Heap_shadeRoots_43 rfl rfl ?_
            refine g_aload_n h d_Heap_shadeRoots_44 rfl rfl ?_
            refine g_aload_n h d_Heap_shadeRoots_45 rfl rfl ?_
            refine gf_Heap_cells h f_Heap_17 d_Heap_shadeRoots_46 ?_
            refine g_iload_n h d_Heap_shadeRoots_49 rfl rfl ?_
            refine ga_cells h rfl (by omega) d_Heap_shadeRoots_50 ?_
            refine gf_Cell_coroutine h f_Heap_85 (by first | assumption | omega | (show _ < 16; omega)) d_Heap_shadeRoots_51 ?_
            refine gf_Cor_registers h f_Heap_147 (by first | assumption | omega | (show _ < 16; omega)) d_Heap_shadeRoots_54 ?_
            refine g_iconst (v := 4) h d_Heap_shadeRoots_57 (by decide) ?_
            refine g_dVi h tb_good (c_Heap_shadeRow (len := 4) (C := (cshade C2 n).2) (ix_lt 9 (by decide) n (by show n < 16; omega)) (fun C3 e => row_r (by omega) C3 (e.trans (cshade_2 C2 n))) (Nat.le_refl _) (by decide) (fun i => by rw [hC]; exact hok.2.1 _ _ _)) (ix_lt 1 (by decide) _ (by decide)) (wc_at (by decide) (by decide)) rfl v_Heap_150 nm_Heap_shadeRow rfl ⟨rfl, rfl, Nat.le_of_ble_eq_true rfl, Nat.le_of_ble_eq_true rfl, Nat.zero_le _, Nat.zero_le _⟩ rfl (Nat.le_of_ble_eq_true rfl) d_Heap_shadeRoots_58 ?_
            refine g_iadd h d_Heap_shadeRoots_61 ?_
            refine g_istore_n h d_Heap_shadeRoots_62 rfl rfl (by rw [hN]; decide) ?_
            refine g_iinc (v := nI (n + 1)) h d_Heap_shadeRoots_63 rfl (by rw [nI_succ]; rfl) rfl (by rw [hN]; decide) ?_
            refine g_goto (tgt := 13) h d_Heap_shadeRoots_66 (by decide) ?_
            exact ih (n + 1) _ _ (by omega) (by rw [cshadeRow_2, cshade_2]; exact hC) (by rw [← he]; simp [croots, ha])
        · rw [if_neg ha]
          refine g_if_eq (tgt := 63) h d_Heap_shadeRoots_28 (by decide) (fun c_28 => ?_) (fun c_28 => ?_)
          · refine g_iinc (v := nI (n + 1)) h d_Heap_shadeRoots_63 rfl (by rw [nI_succ]; rfl) rfl (by rw [hN]; decide) ?_
            refine g_goto (tgt := 13) h d_Heap_shadeRoots_66 (by decide) ?_
            exact ih (n + 1) _ _ (by omega) hC (by rw [← he]; simp [croots, ha])
          · exact absurd rfl c_28
  refine g_at (L' := [some (.ref (ad (ix 1 0))), none, none]) rfl rfl rfl ?_
  refine g_aload_n h d_Heap_shadeRoots_0 rfl rfl ?_
  refine g_aload_n h d_Heap_shadeRoots_1 rfl rfl ?_
  refine gf_Heap_globals h f_Heap_9 d_Heap_shadeRoots_2 ?_
  refine g_bipush (v := 6) h d_Heap_shadeRoots_5 (by decide) ?_
  refine g_dVi h tb_good (c_Heap_shadeRow (len := 6) (ix_lt 2 (by decide) 0 (by decide)) row_g (Nat.le_refl _) (by decide) (fun i => hok.2.1 _ _ _)) (ix_lt 1 (by decide) _ (by decide)) (wc_at (by decide) (by decide)) rfl v_Heap_150 nm_Heap_shadeRow rfl ⟨rfl, rfl, Nat.le_of_ble_eq_true rfl, Nat.le_of_ble_eq_true rfl, Nat.zero_le _, Nat.zero_le _⟩ rfl (Nat.le_of_ble_eq_true rfl) d_Heap_shadeRoots_7 ?_
  refine g_istore_n h d_Heap_shadeRoots_10 rfl rfl (by rw [hN]; decide) ?_
  refine g_iconst (v := 0) h d_Heap_shadeRoots_11 (by decide) ?_
  refine g_istore_n h d_Heap_shadeRoots_12 rfl rfl (by rw [hN]; decide) ?_
  exact loop 16 0 _ _ (by omega) (cshadeRow_2 _ _ _ _ _) rfl
set_option maxHeartbeats 4000000 in
set_option maxRecDepth 100000 in
theorem c_Heap_blacken {l : Launch} {D : va_G} {t : Nat → ClassId} {ad : Nat → Nat} {C : CS} {n : Nat} (hok : okC C) (hn : n < 16) : Cd l D t ad y_Heap_blacken b_Heap_blacken 2 none { frames := 1, cells := 0, slots := 0, locals := 25 } [.ref (ad (ix 1 0)), .ref (ad (ix 4 n))] (C) (none) (cblacken C n) := by
  refine ct_of (by decide) (Nat.le_of_ble_eq_true rfl) ?_
  intro Γ _ _ hN h r
  obtain ⟨⟨P, hP, hp⟩, hmm, -⟩ := hok.1 n hn
  refine g_at (L' := [some (.ref (ad (ix 1 0))), some (.ref (ad (ix 4 n)))]) rfl rfl rfl ?_
  refine g_aload_n h d_Heap_blacken_0 rfl rfl ?_
  refine g_iconst (v := 2) h d_Heap_blacken_1 (by decide) ?_
  refine pf_Cell_colour h f_Heap_73 (by first | assumption | omega | (show _ < 16; omega)) d_Heap_blacken_2 ?_
  refine g_aload_n h d_Heap_blacken_5 rfl rfl ?_
  refine gf_Cell_kind h f_Heap_59 (by first | assumption | omega | (show _ < 16; omega)) d_Heap_blacken_6 ?_
  rw [show (sI C 1 n 2).1 0 n = C.1 0 n from rfl]
  refine g_iconst (v := 2) h d_Heap_blacken_9 (by decide) ?_
  refine g_icmp_ne (tgt := 27) h d_Heap_blacken_10 (by decide) (fun c_10 => ?_) (fun c_10 => ?_)
  · refine g_aload_n h d_Heap_blacken_27 rfl rfl ?_
    refine g_aload_n h d_Heap_blacken_28 rfl rfl ?_
    refine gf_Cell_table h f_Heap_76 (by first | assumption | omega | (show _ < 16; omega)) d_Heap_blacken_29 ?_
    refine gf_Tab_keys h f_Heap_128 (by first | assumption | omega | (show _ < 16; omega)) d_Heap_blacken_32 ?_
    refine g_aload_n h d_Heap_blacken_35 rfl rfl ?_
    refine gf_Cell_table h f_Heap_76 (by first | assumption | omega | (show _ < 16; omega)) d_Heap_blacken_36 ?_
    refine gf_Tab_pairs h f_Heap_108 (by first | assumption | omega | (show _ < 16; omega)) d_Heap_blacken_39 ?_
    rw [show (sI C 1 n 2).1 2 n = C.1 2 n from rfl, hp]
    refine g_dVi h tb_good (c_Heap_shadeRow (len := P) (C := (sI C 1 n 2)) (ix_lt 6 (by decide) n hn) (row_k (C := C) hn) hP (by decide) (fun i => hok.2.1 _ _ _)) (ix_lt 1 (by decide) _ (by decide)) (wc_at (by decide) (by decide)) rfl v_Heap_150 nm_Heap_shadeRow rfl ⟨rfl, rfl, Nat.le_of_ble_eq_true rfl, Nat.le_of_ble_eq_true rfl, Nat.zero_le _, Nat.zero_le _⟩ rfl (Nat.le_of_ble_eq_true rfl) d_Heap_blacken_42 ?_
    refine g_pop h d_Heap_blacken_45 rfl ?_
    refine g_aload_n h d_Heap_blacken_46 rfl rfl ?_
    refine g_aload_n h d_Heap_blacken_47 rfl rfl ?_
    refine gf_Cell_table h f_Heap_76 (by first | assumption | omega | (show _ < 16; omega)) d_Heap_blacken_48 ?_
    refine gf_Tab_values h f_Heap_105 (by first | assumption | omega | (show _ < 16; omega)) d_Heap_blacken_51 ?_
    refine g_aload_n h d_Heap_blacken_54 rfl rfl ?_
    refine gf_Cell_table h f_Heap_76 (by first | assumption | omega | (show _ < 16; omega)) d_Heap_blacken_55 ?_
    refine gf_Tab_pairs h f_Heap_108 (by first | assumption | omega | (show _ < 16; omega)) d_Heap_blacken_58 ?_
    rw [cshadeRow_1 _ _ _ _ _ _ _ (by decide), show (sI C 1 n 2).1 2 n = C.1 2 n from rfl, hp]
    refine g_dVi h tb_good (c_Heap_shadeRow (len := P) (C := (cshadeRow (C.2.1 1 n) P 0 0 (sI C 1 n 2)).2) (ix_lt 7 (by decide) n hn) (fun C3 e => row_v (C := C) hn C3 (e.trans (cshadeRow_2 _ _ _ _ _))) hP (by decide) (fun i => hok.2.1 _ _ _)) (ix_lt 1 (by decide) _ (by decide)) (wc_at (by decide) (by decide)) rfl v_Heap_150 nm_Heap_shadeRow rfl ⟨rfl, rfl, Nat.le_of_ble_eq_true rfl, Nat.le_of_ble_eq_true rfl, Nat.zero_le _, Nat.zero_le _⟩ rfl (Nat.le_of_ble_eq_true rfl) d_Heap_blacken_61 ?_
    refine g_pop h d_Heap_blacken_64 rfl ?_
    refine g_aload_n h d_Heap_blacken_65 rfl rfl ?_
    refine gf_Cell_table h f_Heap_76 (by first | assumption | omega | (show _ < 16; omega)) d_Heap_blacken_66 ?_
    refine gf_Tab_meta h f_Heap_121 (by first | assumption | omega | (show _ < 16; omega)) d_Heap_blacken_69 ?_
    rw [cshadeRow_1 _ _ _ _ _ _ _ (by decide), cshadeRow_1 _ _ _ _ _ _ _ (by decide), show (sI C 1 n 2).1 3 n = C.1 3 n from rfl]
    refine g_if_lt (tgt := 91) h d_Heap_blacken_72 (by decide) (fun c_72 => ?_) (fun c_72 => ?_)
    · exact g_vret h r d_Heap_blacken_91 (⟨rfl, by first | (simp [cblacken, c_10, c_72, cPairs_eq hp hP]; done) | (simp [cblacken, c_10, c_72, cPairs_eq hp hP, hm2, nI_clamp (show m < 2 ^ 31 by omega), nI_pos (show m < 2 ^ 31 by omega)]; done)⟩)
    · rcases hmm with hm | ⟨m, hm, hm2⟩
      · exact absurd (by rw [hm]; decide) c_72
      · refine g_aload_n h d_Heap_blacken_75 rfl rfl ?_
        refine gf_Heap_cells h f_Heap_17 d_Heap_blacken_76 ?_
        refine g_aload_n h d_Heap_blacken_79 rfl rfl ?_
        refine gf_Cell_table h f_Heap_76 (by first | assumption | omega | (show _ < 16; omega)) d_Heap_blacken_80 ?_
        refine gf_Tab_meta h f_Heap_121 (by first | assumption | omega | (show _ < 16; omega)) d_Heap_blacken_83 ?_
        rw [cshadeRow_1 _ _ _ _ _ _ _ (by decide), cshadeRow_1 _ _ _ _ _ _ _ (by decide), show (sI C 1 n 2).1 3 n = C.1 3 n from rfl]
        refine ga_cells h hm2 hm d_Heap_blacken_86 ?_
        refine g_dSi h tb_good (c_Heap_shade hm) v_Heap_154 nm_Heap_shade rfl ⟨rfl, rfl, Nat.le_of_ble_eq_true rfl, Nat.le_of_ble_eq_true rfl, Nat.zero_le _, Nat.zero_le _⟩ rfl (Nat.le_of_ble_eq_true rfl) d_Heap_blacken_87 ?_
        refine g_pop h d_Heap_blacken_90 rfl ?_
        exact g_vret h r d_Heap_blacken_91 (⟨rfl, by first | (simp [cblacken, c_10, c_72, cPairs_eq hp hP]; done) | (simp [cblacken, c_10, c_72, cPairs_eq hp hP, hm2, nI_clamp (show m < 2 ^ 31 by omega), nI_pos (show m < 2 ^ 31 by omega)]; done)⟩)
  · refine g_aload_n h d_Heap_blacken_13 rfl rfl ?_
    refine g_aload_n h d_Heap_blacken_14 rfl rfl ?_
    refine gf_Cell_coroutine h f_Heap_85 (by first | assumption | omega | (show _ < 16; omega)) d_Heap_blacken_15 ?_
    refine gf_Cor_registers h f_Heap_147 (by first | assumption | omega | (show _ < 16; omega)) d_Heap_blacken_18 ?_
    refine g_iconst (v := 4) h d_Heap_blacken_21 (by decide) ?_
    refine g_dVi h tb_good (c_Heap_shadeRow (len := 4) (C := (sI C 1 n 2)) (ix_lt 9 (by decide) n hn) (row_r (C := C) hn) (Nat.le_refl _) (by decide) (fun i => hok.2.1 _ _ _)) (ix_lt 1 (by decide) _ (by decide)) (wc_at (by decide) (by decide)) rfl v_Heap_150 nm_Heap_shadeRow rfl ⟨rfl, rfl, Nat.le_of_ble_eq_true rfl, Nat.le_of_ble_eq_true rfl, Nat.zero_le _, Nat.zero_le _⟩ rfl (Nat.le_of_ble_eq_true rfl) d_Heap_blacken_22 ?_
    refine g_pop h d_Heap_blacken_25 rfl ?_
    exact g_vret h r d_Heap_blacken_26 (⟨rfl, by simp [cblacken, c_10]⟩)
set_option maxHeartbeats 4000000 in
set_option maxRecDepth 100000 in
theorem c_Heap_sweepOne {l : Launch} {D : va_G} {t : Nat → ClassId} {ad : Nat → Nat} {C : CS} (hok : okC C) : Cd l D t ad y_Heap_sweepOne b_Heap_sweepOne 2 none { frames := 0, cells := 0, slots := 0, locals := 0 } [.ref (ad (ix 1 0))] (C) (none) (csweep C) := by
  refine ct_of (by decide) (Nat.le_of_ble_eq_true rfl) ?_
  intro Γ _ _ hN h r
  obtain ⟨i, hi, hk⟩ := hok.2.2.1
  have hcl : (nI i).toNatClampNeg = i := nI_clamp (by omega)
  refine g_at (L' := [some (.ref (ad (ix 1 0))), none]) rfl rfl rfl ?_
  refine g_aload_n h d_Heap_sweepOne_0 rfl rfl ?_
  refine gf_Heap_cells h f_Heap_17 d_Heap_sweepOne_1 ?_
  refine g_aload_n h d_Heap_sweepOne_4 rfl rfl ?_
  refine gf_Heap_sweepFrom h f_Heap_25 d_Heap_sweepOne_5 ?_
  refine ga_cells h hk hi d_Heap_sweepOne_8 ?_
  refine g_astore_n h d_Heap_sweepOne_9 rfl rfl (by rw [hN]; decide) ?_
  refine g_aload_n h d_Heap_sweepOne_10 rfl rfl ?_
  refine gf_Cell_kind h f_Heap_59 hi d_Heap_sweepOne_11 ?_
  refine g_if_eq (tgt := 39) h d_Heap_sweepOne_14 (by decide) (fun c_14 => ?_) (fun c_14 => ?_)
  · refine g_aload_n h d_Heap_sweepOne_39 rfl rfl ?_
    refine g_iconst (v := 0) h d_Heap_sweepOne_40 (by decide) ?_
    refine pf_Cell_colour h f_Heap_73 hi d_Heap_sweepOne_41 ?_
    refine g_aload_n h d_Heap_sweepOne_44 rfl rfl ?_
    refine g_dup h d_Heap_sweepOne_45 rfl ?_
    refine gf_Heap_sweepFrom h f_Heap_25 d_Heap_sweepOne_46 ?_
    simp only [sI_1, sI_2, sJ_1, sJ_2, sJ_3, sR_1, sR_2, sR_3, Nat.reduceEqDiff, Nat.zero_ne_one, Nat.one_ne_zero, Nat.succ_ne_zero, reduceCtorEq, false_and, if_false, true_and, and_self, if_true, and_true, and_false, reduceIte, hk]
    refine g_iconst (v := 1) h d_Heap_sweepOne_49 (by decide) ?_
    refine g_iadd h d_Heap_sweepOne_50 ?_
    refine pf_Heap_sweepFrom h f_Heap_25 d_Heap_sweepOne_51 ?_
    refine g_aload_n h d_Heap_sweepOne_54 rfl rfl ?_
    refine gf_Heap_sweepFrom h f_Heap_25 d_Heap_sweepOne_55 ?_
    simp only [sI_1, sI_2, sJ_1, sJ_2, sJ_3, sR_1, sR_2, sR_3, Nat.reduceEqDiff, Nat.zero_ne_one, Nat.one_ne_zero, Nat.succ_ne_zero, reduceCtorEq, false_and, if_false, true_and, and_self, if_true, and_true, and_false, reduceIte]
    refine g_bipush (v := 16) h d_Heap_sweepOne_58 (by decide) ?_
    refine g_icmp_ne (tgt := 73) h d_Heap_sweepOne_60 (by decide) (fun c_60 => ?_) (fun c_60 => ?_)
    · exact g_vret h r d_Heap_sweepOne_73 (⟨rfl, by simp only [csweep, hk, hcl]; first | (simp [c_14, c_60]; done) | (simp [c_14, c_21, c_60]; done)⟩)
    · refine g_aload_n h d_Heap_sweepOne_63 rfl rfl ?_
      refine g_iconst (v := 0) h d_Heap_sweepOne_64 (by decide) ?_
      refine pf_Heap_sweepFrom h f_Heap_25 d_Heap_sweepOne_65 ?_
      refine g_aload_n h d_Heap_sweepOne_68 rfl rfl ?_
      refine g_iconst (v := 0) h d_Heap_sweepOne_69 (by decide) ?_
      refine pf_Heap_phase h f_Heap_21 d_Heap_sweepOne_70 ?_
      exact g_vret h r d_Heap_sweepOne_73 (⟨rfl, by simp only [csweep, hk, hcl]; first | (simp [c_14, c_60]; done) | (simp [c_14, c_21, c_60]; done)⟩)
  · refine g_aload_n h d_Heap_sweepOne_17 rfl rfl ?_
    refine gf_Cell_colour h f_Heap_73 hi d_Heap_sweepOne_18 ?_
    skip
    refine g_if_ne (tgt := 39) h d_Heap_sweepOne_21 (by decide) (fun c_21 => ?_) (fun c_21 => ?_)
    · refine g_aload_n h d_Heap_sweepOne_39 rfl rfl ?_
      refine g_iconst (v := 0) h d_Heap_sweepOne_40 (by decide) ?_
      refine pf_Cell_colour h f_Heap_73 hi d_Heap_sweepOne_41 ?_
      refine g_aload_n h d_Heap_sweepOne_44 rfl rfl ?_
      refine g_dup h d_Heap_sweepOne_45 rfl ?_
      refine gf_Heap_sweepFrom h f_Heap_25 d_Heap_sweepOne_46 ?_
      simp only [sI_1, sI_2, sJ_1, sJ_2, sJ_3, sR_1, sR_2, sR_3, Nat.reduceEqDiff, Nat.zero_ne_one, Nat.one_ne_zero, Nat.succ_ne_zero, reduceCtorEq, false_and, if_false, true_and, and_self, if_true, and_true, and_false, reduceIte, hk]
      refine g_iconst (v := 1) h d_Heap_sweepOne_49 (by decide) ?_
      refine g_iadd h d_Heap_sweepOne_50 ?_
      refine pf_Heap_sweepFrom h f_Heap_25 d_Heap_sweepOne_51 ?_
      refine g_aload_n h d_Heap_sweepOne_54 rfl rfl ?_
      refine gf_Heap_sweepFrom h f_Heap_25 d_Heap_sweepOne_55 ?_
      simp only [sI_1, sI_2, sJ_1, sJ_2, sJ_3, sR_1, sR_2, sR_3, Nat.reduceEqDiff, Nat.zero_ne_one, Nat.one_ne_zero, Nat.succ_ne_zero, reduceCtorEq, false_and, if_false, true_and, and_self, if_true, and_true, and_false, reduceIte]
      refine g_bipush (v := 16) h d_Heap_sweepOne_58 (by decide) ?_
      refine g_icmp_ne (tgt := 73) h d_Heap_sweepOne_60 (by decide) (fun c_60 => ?_) (fun c_60 => ?_)
      · exact g_vret h r d_Heap_sweepOne_73 (⟨rfl, by simp only [csweep, hk, hcl]; first | (simp [c_14, c_60]; done) | (simp [c_14, c_21, c_60]; done)⟩)
      · refine g_aload_n h d_Heap_sweepOne_63 rfl rfl ?_
        refine g_iconst (v := 0) h d_Heap_sweepOne_64 (by decide) ?_
        refine pf_Heap_sweepFrom h f_Heap_25 d_Heap_sweepOne_65 ?_
        refine g_aload_n h d_Heap_sweepOne_68 rfl rfl ?_
        refine g_iconst (v := 0) h d_Heap_sweepOne_69 (by decide) ?_
        refine pf_Heap_phase h f_Heap_21 d_Heap_sweepOne_70 ?_
        exact g_vret h r d_Heap_sweepOne_73 (⟨rfl, by simp only [csweep, hk, hcl]; first | (simp [c_14, c_60]; done) | (simp [c_14, c_21, c_60]; done)⟩)
    · refine g_aload_n h d_Heap_sweepOne_24 rfl rfl ?_
      refine g_iconst (v := 0) h d_Heap_sweepOne_25 (by decide) ?_
      refine pf_Cell_kind h f_Heap_59 hi d_Heap_sweepOne_26 ?_
      refine g_aload_n h d_Heap_sweepOne_29 rfl rfl ?_
      refine g_dup h d_Heap_sweepOne_30 rfl ?_
      refine gf_Heap_gone h f_Heap_31 d_Heap_sweepOne_31 ?_
      simp only [sI_1, sI_2, sJ_1, sJ_2, sJ_3, sR_1, sR_2, sR_3, Nat.reduceEqDiff, Nat.zero_ne_one, Nat.one_ne_zero, Nat.succ_ne_zero, reduceCtorEq, false_and, if_false, true_and, and_self, if_true, and_true, and_false, reduceIte]
      refine g_iconst (v := 1) h d_Heap_sweepOne_34 (by decide) ?_
      refine g_iadd h d_Heap_sweepOne_35 ?_
      refine pf_Heap_gone h f_Heap_31 d_Heap_sweepOne_36 ?_
      refine g_aload_n h d_Heap_sweepOne_39 rfl rfl ?_
      refine g_iconst (v := 0) h d_Heap_sweepOne_40 (by decide) ?_
      refine pf_Cell_colour h f_Heap_73 hi d_Heap_sweepOne_41 ?_
      refine g_aload_n h d_Heap_sweepOne_44 rfl rfl ?_
      refine g_dup h d_Heap_sweepOne_45 rfl ?_
      refine gf_Heap_sweepFrom h f_Heap_25 d_Heap_sweepOne_46 ?_
      simp only [sI_1, sI_2, sJ_1, sJ_2, sJ_3, sR_1, sR_2, sR_3, Nat.reduceEqDiff, Nat.zero_ne_one, Nat.one_ne_zero, Nat.succ_ne_zero, reduceCtorEq, false_and, if_false, true_and, and_self, if_true, and_true, and_false, reduceIte, hk]
      refine g_iconst (v := 1) h d_Heap_sweepOne_49 (by decide) ?_
      refine g_iadd h d_Heap_sweepOne_50 ?_
      refine pf_Heap_sweepFrom h f_Heap_25 d_Heap_sweepOne_51 ?_
      refine g_aload_n h d_Heap_sweepOne_54 rfl rfl ?_
      refine gf_Heap_sweepFrom h f_Heap_25 d_Heap_sweepOne_55 ?_
      simp only [sI_1, sI_2, sJ_1, sJ_2, sJ_3, sR_1, sR_2, sR_3, Nat.reduceEqDiff, Nat.zero_ne_one, Nat.one_ne_zero, Nat.succ_ne_zero, reduceCtorEq, false_and, if_false, true_and, and_self, if_true, and_true, and_false, reduceIte]
      refine g_bipush (v := 16) h d_Heap_sweepOne_58 (by decide) ?_
      refine g_icmp_ne (tgt := 73) h d_Heap_sweepOne_60 (by decide) (fun c_60 => ?_) (fun c_60 => ?_)
      · exact g_vret h r d_Heap_sweepOne_73 (⟨rfl, by simp only [csweep, hk, hcl]; first | (simp [c_14, c_60]; done) | (simp [c_14, c_21, c_60]; done)⟩)
      · refine g_aload_n h d_Heap_sweepOne_63 rfl rfl ?_
        refine g_iconst (v := 0) h d_Heap_sweepOne_64 (by decide) ?_
        refine pf_Heap_sweepFrom h f_Heap_25 d_Heap_sweepOne_65 ?_
        refine g_aload_n h d_Heap_sweepOne_68 rfl rfl ?_
        refine g_iconst (v := 0) h d_Heap_sweepOne_69 (by decide) ?_
        refine pf_Heap_phase h f_Heap_21 d_Heap_sweepOne_70 ?_
        exact g_vret h r d_Heap_sweepOne_73 (⟨rfl, by simp only [csweep, hk, hcl]; first | (simp [c_14, c_60]; done) | (simp [c_14, c_21, c_60]; done)⟩)
