def cobj (C : CS) (n : Nat) (w : Int32) : Int32 := if w = 0 then C.1 0 n else if w = 1 then C.1 1 n else if C.1 0 n = 1 then (if w = 2 then C.1 2 n else C.1 3 n) else (if w = 2 then C.1 5 n else C.1 6 n)
set_option maxHeartbeats 4000000 in
set_option maxRecDepth 100000 in
theorem c_TCM_object {l : Launch} {D : va_G} {t : Nat → ClassId} {ad : Nat → Nat} {C : CS} {n : Nat} {w : Int32} (hn : n < 16) (hw1 : ¬ w < 0) (hw2 : ¬ 3 < w) (hz : w = 0 ∨ ¬ C.1 0 n = 0) : Cd l D t ad y_TCM_object b_TCM_object 4 (some .int) { frames := 1, cells := 0, slots := 0, locals := 22 } [.ref (ad (ix 0 0)), .int (nI n), .int w] (C) (some (.int (cobj C n w))) (C) := by
  refine ct_of (by decide) (Nat.le_of_ble_eq_true rfl) ?_
  intro Γ _ _ hN h r
  refine g_at (L' := [some (.ref (ad (ix 0 0))), some (.int (nI n)), some (.int w), none]) rfl rfl rfl ?_
  refine g_iload_n h d_TCM_object_0 rfl rfl ?_
  refine g_iconst (v := 0) h d_TCM_object_1 (by decide) ?_
  refine g_bipush (v := 15) h d_TCM_object_2 (by decide) ?_
  refine g_dSv h tb_good (c_TCM_checkRange (rg_lo (by omega)) (rg_hi (m := 15) (by omega) (by decide))) v_TCM_25 nm_TCM_checkRange rfl ⟨rfl, rfl, Nat.le_of_ble_eq_true rfl, Nat.le_of_ble_eq_true rfl, Nat.zero_le _, Nat.zero_le _⟩ rfl (Nat.le_of_ble_eq_true rfl) d_TCM_object_4 ?_
  refine g_iload_n h d_TCM_object_7 rfl rfl ?_
  refine g_iconst (v := 0) h d_TCM_object_8 (by decide) ?_
  refine g_iconst (v := 3) h d_TCM_object_9 (by decide) ?_
  refine g_dSv h tb_good (c_TCM_checkRange hw1 hw2) v_TCM_25 nm_TCM_checkRange rfl ⟨rfl, rfl, Nat.le_of_ble_eq_true rfl, Nat.le_of_ble_eq_true rfl, Nat.zero_le _, Nat.zero_le _⟩ rfl (Nat.le_of_ble_eq_true rfl) d_TCM_object_10 ?_
  refine g_aload_n h d_TCM_object_13 rfl rfl ?_
  refine gf_TCM_heap h f_TCM_12 d_TCM_object_14 ?_
  refine gf_Heap_cells h f_TCM_99 d_TCM_object_17 ?_
  refine g_iload_n h d_TCM_object_20 rfl rfl ?_
  refine ga_cells h rfl hn d_TCM_object_21 ?_
  refine g_astore_n h d_TCM_object_22 rfl rfl (by rw [hN]; decide) ?_
  refine g_iload_n h d_TCM_object_23 rfl rfl ?_
  refine g_if_ne (tgt := 32) h d_TCM_object_24 (by decide) (fun c_24 => ?_) (fun c_24 => ?_)
  · refine g_aload_n h d_TCM_object_32 rfl rfl ?_
    refine gf_Cell_kind h f_TCM_103 (by first | assumption | omega | (show _ < 16; omega)) d_TCM_object_33 ?_
    refine g_if_ne (tgt := 47) h d_TCM_object_36 (by decide) (fun c_36 => ?_) (fun c_36 => ?_)
    · refine g_iload_n h d_TCM_object_47 rfl rfl ?_
      refine g_iconst (v := 1) h d_TCM_object_48 (by decide) ?_
      refine g_icmp_ne (tgt := 57) h d_TCM_object_49 (by decide) (fun c_49 => ?_) (fun c_49 => ?_)
      · refine g_aload_n h d_TCM_object_57 rfl rfl ?_
        refine gf_Cell_kind h f_TCM_103 (by first | assumption | omega | (show _ < 16; omega)) d_TCM_object_58 ?_
        refine g_iconst (v := 1) h d_TCM_object_61 (by decide) ?_
        refine g_icmp_ne (tgt := 88) h d_TCM_object_62 (by decide) (fun c_62 => ?_) (fun c_62 => ?_)
        · refine g_iload_n h d_TCM_object_88 rfl rfl ?_
          refine g_iconst (v := 2) h d_TCM_object_89 (by decide) ?_
          refine g_icmp_ne (tgt := 103) h d_TCM_object_90 (by decide) (fun c_90 => ?_) (fun c_90 => ?_)
          · refine g_aload_n h d_TCM_object_103 rfl rfl ?_
            refine gf_Cell_coroutine h f_TCM_126 (by first | assumption | omega | (show _ < 16; omega)) d_TCM_object_104 ?_
            refine gf_Cor_state h f_TCM_135 (by first | assumption | omega | (show _ < 16; omega)) d_TCM_object_107 ?_
            exact g_iret h r d_TCM_object_110 (⟨by unfold cobj; simp [c_24, c_49, c_62, c_90], rfl⟩)
          · refine g_aload_n h d_TCM_object_93 rfl rfl ?_
            refine gf_Cell_coroutine h f_TCM_126 (by first | assumption | omega | (show _ < 16; omega)) d_TCM_object_94 ?_
            refine gf_Cor_place h f_TCM_130 (by first | assumption | omega | (show _ < 16; omega)) d_TCM_object_97 ?_
            refine g_goto (tgt := 110) h d_TCM_object_100 (by decide) ?_
            exact g_iret h r d_TCM_object_110 (⟨by unfold cobj; simp [c_24, c_49, c_62, c_90], rfl⟩)
        · refine g_iload_n h d_TCM_object_65 rfl rfl ?_
          refine g_iconst (v := 2) h d_TCM_object_66 (by decide) ?_
          refine g_icmp_ne (tgt := 80) h d_TCM_object_67 (by decide) (fun c_67 => ?_) (fun c_67 => ?_)
          · refine g_aload_n h d_TCM_object_80 rfl rfl ?_
            refine gf_Cell_table h f_TCM_114 (by first | assumption | omega | (show _ < 16; omega)) d_TCM_object_81 ?_
            refine gf_Tab_meta h f_TCM_123 (by first | assumption | omega | (show _ < 16; omega)) d_TCM_object_84 ?_
            exact g_iret h r d_TCM_object_87 (⟨by unfold cobj; simp [c_24, c_49, c_62, c_67], rfl⟩)
          · refine g_aload_n h d_TCM_object_70 rfl rfl ?_
            refine gf_Cell_table h f_TCM_114 (by first | assumption | omega | (show _ < 16; omega)) d_TCM_object_71 ?_
            refine gf_Tab_pairs h f_TCM_118 (by first | assumption | omega | (show _ < 16; omega)) d_TCM_object_74 ?_
            refine g_goto (tgt := 87) h d_TCM_object_77 (by decide) ?_
            exact g_iret h r d_TCM_object_87 (⟨by unfold cobj; simp [c_24, c_49, c_62, c_67], rfl⟩)
      · refine g_aload_n h d_TCM_object_52 rfl rfl ?_
        refine gf_Cell_colour h f_TCM_111 (by first | assumption | omega | (show _ < 16; omega)) d_TCM_object_53 ?_
        exact g_iret h r d_TCM_object_56 (⟨by unfold cobj; simp [c_24, c_49], rfl⟩)
    · exact (hz.elim c_24 (fun z => z c_36)).elim
  · refine g_aload_n h d_TCM_object_27 rfl rfl ?_
    refine gf_Cell_kind h f_TCM_103 (by first | assumption | omega | (show _ < 16; omega)) d_TCM_object_28 ?_
    exact g_iret h r d_TCM_object_31 (⟨by unfold cobj; simp [c_24], rfl⟩)
def crows (C : CS) (n : Nat) (b : Int32) : Int32 := if C.1 0 n = 1 then C.1 2 n else if C.1 0 n = 2 ∧ b = 0 then 4 else 0
def cins (C : CS) (n i : Nat) (b : Int32) : Int64 := if C.1 0 n = 2 then C.2.1 3 n i else if b = 0 then C.2.1 1 n i else C.2.1 2 n i
set_option maxHeartbeats 4000000 in
set_option maxRecDepth 100000 in
theorem c_TCM_inside {l : Launch} {D : va_G} {t : Nat → ClassId} {ad : Nat → Nat} {C : CS} {n i : Nat} {b : Int32} (hok : okC C) (hn : n < 16) (hi : i < 2 ^ 31) (hlt : nI i < crows C n b) : Cd l D t ad y_TCM_inside b_TCM_inside 5 (some .long) { frames := 1, cells := 0, slots := 0, locals := 22 } [.ref (ad (ix 0 0)), .int (nI n), .int (nI i), .int b] (C) (some (.long (cins C n i b))) (C) := by
  refine ct_of (by decide) (Nat.le_of_ble_eq_true rfl) ?_
  intro Γ _ _ hN h r
  have h6 : i < 6 := by
    obtain ⟨⟨P, hP, hP2⟩, -⟩ := hok.1 n hn
    unfold crows at hlt
    split at hlt
    · rw [hP2] at hlt
      have := (nI_ltI hi (by omega)).1 hlt
      omega
    · split at hlt
      · have := (nI_ltI (b := 4) hi (by omega)).1 hlt
        omega
      · have := (nI_ltI (b := 0) hi (by omega)).1 hlt
        omega
  have h4 : C.1 0 n = 2 → i < 4 := by
    intro z
    unfold crows at hlt
    rw [if_neg (by rw [z]; decide)] at hlt
    split at hlt
    · have := (nI_ltI (b := 4) hi (by omega)).1 hlt
      omega
    · have := (nI_ltI (b := 0) hi (by omega)).1 hlt
      omega
  refine g_at (L' := [some (.ref (ad (ix 0 0))), some (.int (nI n)), some (.int (nI i)), some (.int b), none]) rfl rfl rfl ?_
  refine g_iload_n h d_TCM_inside_0 rfl rfl ?_
  refine g_iconst (v := 0) h d_TCM_inside_1 (by decide) ?_
  refine g_bipush (v := 15) h d_TCM_inside_2 (by decide) ?_
  refine g_dSv h tb_good (c_TCM_checkRange (rg_lo (by omega)) (rg_hi (m := 15) (by omega) (by decide))) v_TCM_25 nm_TCM_checkRange rfl ⟨rfl, rfl, Nat.le_of_ble_eq_true rfl, Nat.le_of_ble_eq_true rfl, Nat.zero_le _, Nat.zero_le _⟩ rfl (Nat.le_of_ble_eq_true rfl) d_TCM_inside_4 ?_
  refine g_iload_n h d_TCM_inside_7 rfl rfl ?_
  refine g_if_ge (tgt := 19) h d_TCM_inside_8 (by decide) (fun c_8 => ?_) (fun c_8 => ?_)
  · refine g_aload_n h d_TCM_inside_19 rfl rfl ?_
    refine gf_TCM_heap h f_TCM_12 d_TCM_inside_20 ?_
    refine gf_Heap_cells h f_TCM_99 d_TCM_inside_23 ?_
    refine g_iload_n h d_TCM_inside_26 rfl rfl ?_
    refine ga_cells h rfl hn d_TCM_inside_27 ?_
    refine g_astore h d_TCM_inside_28 rfl (by rw [hN]; decide) ?_
    refine g_iload_n h d_TCM_inside_30 rfl rfl ?_
    refine g_aload h d_TCM_inside_31 rfl ?_
    refine g_iload_n h d_TCM_inside_33 rfl rfl ?_
    refine g_dVi h tb_good (c_Cell_rows hn) (ix_lt 4 (by decide) _ (by first | assumption | omega | (show _ < 16; omega))) (wc_at (by decide) (by first | assumption | omega | (show _ < 16; omega))) rfl v_TCM_141 nm_Cell_rows rfl ⟨rfl, rfl, Nat.le_of_ble_eq_true rfl, Nat.le_of_ble_eq_true rfl, Nat.zero_le _, Nat.zero_le _⟩ rfl (Nat.le_of_ble_eq_true rfl) d_TCM_inside_34 ?_
    refine g_icmp_lt (tgt := 48) h d_TCM_inside_37 (by decide) (fun c_37 => ?_) (fun c_37 => ?_)
    · refine g_aload h d_TCM_inside_48 rfl ?_
      refine gf_Cell_kind h f_TCM_103 (by first | assumption | omega | (show _ < 16; omega)) d_TCM_inside_50 ?_
      refine g_iconst (v := 2) h d_TCM_inside_53 (by decide) ?_
      refine g_icmp_ne (tgt := 68) h d_TCM_inside_54 (by decide) (fun c_54 => ?_) (fun c_54 => ?_)
      · refine g_iload_n h d_TCM_inside_68 rfl rfl ?_
        refine g_if_eq (tgt := 85) h d_TCM_inside_69 (by decide) (fun c_69 => ?_) (fun c_69 => ?_)
        · refine g_aload h d_TCM_inside_85 rfl ?_
          refine gf_Cell_table h f_TCM_114 (by first | assumption | omega | (show _ < 16; omega)) d_TCM_inside_87 ?_
          refine gf_Tab_keys h f_TCM_151 (by first | assumption | omega | (show _ < 16; omega)) d_TCM_inside_90 ?_
          refine g_iload_n h d_TCM_inside_93 rfl rfl ?_
          refine ga_keys h hn rfl h6 d_TCM_inside_94 ?_
          exact g_lret h r d_TCM_inside_95 (⟨by unfold cins; simp [c_54, c_69], rfl⟩)
        · refine g_aload h d_TCM_inside_72 rfl ?_
          refine gf_Cell_table h f_TCM_114 (by first | assumption | omega | (show _ < 16; omega)) d_TCM_inside_74 ?_
          refine gf_Tab_values h f_TCM_148 (by first | assumption | omega | (show _ < 16; omega)) d_TCM_inside_77 ?_
          refine g_iload_n h d_TCM_inside_80 rfl rfl ?_
          refine ga_vals h hn rfl h6 d_TCM_inside_81 ?_
          refine g_goto (tgt := 95) h d_TCM_inside_82 (by decide) ?_
          exact g_lret h r d_TCM_inside_95 (⟨by unfold cins; simp [c_54, c_69], rfl⟩)
      · refine g_aload h d_TCM_inside_57 rfl ?_
        refine gf_Cell_coroutine h f_TCM_126 (by first | assumption | omega | (show _ < 16; omega)) d_TCM_inside_59 ?_
        refine gf_Cor_registers h f_TCM_145 (by first | assumption | omega | (show _ < 16; omega)) d_TCM_inside_62 ?_
        refine g_iload_n h d_TCM_inside_65 rfl rfl ?_
        refine ga_regs h hn rfl (h4 c_54) d_TCM_inside_66 ?_
        exact g_lret h r d_TCM_inside_67 (⟨by unfold cins; simp [c_54], rfl⟩)
    · exact absurd hlt c_37
  · exact absurd (nI_pos' hi) c_8
def ccntO (C : CS) : Nat → Int32
  | 0 => C.1 15 0 - C.1 16 0
  | 1 => C.1 13 0
  | 2 => C.1 14 0
  | 3 => C.1 15 0
  | 4 => C.1 16 0
  | 5 => C.1 20 0
  | 6 => cgrays C 16 0 0
  | 7 => C.1 17 0
  | 8 => C.1 18 0
  | _ => -1
def ccount (C : CS) (w : Int32) : Int32 := if w.toInt < 0 ∨ 8 < w.toInt then -1 else ccntO C w.toInt.toNat
set_option maxHeartbeats 4000000 in
set_option maxRecDepth 100000 in
theorem c_TCM_count {l : Launch} {D : va_G} {t : Nat → ClassId} {ad : Nat → Nat} {C : CS} {w : Int32} : Cd l D t ad y_TCM_count b_TCM_count 2 (some .int) { frames := 1, cells := 0, slots := 0, locals := 22 } [.ref (ad (ix 0 0)), .int w] (C) (some (.int (ccount C w))) (C) := by
  refine ct_of (by decide) (Nat.le_of_ble_eq_true rfl) ?_
  intro Γ _ _ hN h r
  by_cases hw : w.toInt < 0 ∨ 8 < w.toInt
  · refine g_at (L' := [some (.ref (ad (ix 0 0))), some (.int w)]) rfl rfl rfl ?_
    refine g_iload_n h d_TCM_count_0 rfl rfl ?_
    refine g_tableOut (tgt := 132) h d_TCM_count_1 hw (by decide) ?_
    refine g_iconst (v := -1) h d_TCM_count_132 (by decide) ?_
    exact g_iret h r d_TCM_count_133 (⟨by unfold ccount; rw [if_pos hw], rfl⟩)
  · rcases i32_cases hw with rfl | rfl | rfl | rfl | rfl | rfl | rfl | rfl | rfl
    · refine g_at (L' := [some (.ref (ad (ix 0 0))), some (.int 0)]) rfl rfl rfl ?_
      refine g_iload_n h d_TCM_count_0 rfl rfl ?_
      refine g_tableIn (off := 51) (tgt := 52) h d_TCM_count_1 (by decide) (by decide) (by decide) (by decide) ?_
      refine g_aload_n h d_TCM_count_52 rfl rfl ?_
      refine gf_TCM_heap h f_TCM_12 d_TCM_count_53 ?_
      refine gf_Heap_made h f_TCM_154 d_TCM_count_56 ?_
      refine g_aload_n h d_TCM_count_59 rfl rfl ?_
      refine gf_TCM_heap h f_TCM_12 d_TCM_count_60 ?_
      refine gf_Heap_gone h f_TCM_90 d_TCM_count_63 ?_
      refine g_isub h d_TCM_count_66 ?_
      exact g_iret h r d_TCM_count_67 (⟨rfl, rfl⟩)
    · refine g_at (L' := [some (.ref (ad (ix 0 0))), some (.int 1)]) rfl rfl rfl ?_
      refine g_iload_n h d_TCM_count_0 rfl rfl ?_
      refine g_tableIn (off := 67) (tgt := 68) h d_TCM_count_1 (by decide) (by decide) (by decide) (by decide) ?_
      refine g_aload_n h d_TCM_count_68 rfl rfl ?_
      refine gf_TCM_heap h f_TCM_12 d_TCM_count_69 ?_
      refine gf_Heap_phase h f_TCM_157 d_TCM_count_72 ?_
      exact g_iret h r d_TCM_count_75 (⟨rfl, rfl⟩)
    · refine g_at (L' := [some (.ref (ad (ix 0 0))), some (.int 2)]) rfl rfl rfl ?_
      refine g_iload_n h d_TCM_count_0 rfl rfl ?_
      refine g_tableIn (off := 75) (tgt := 76) h d_TCM_count_1 (by decide) (by decide) (by decide) (by decide) ?_
      refine g_aload_n h d_TCM_count_76 rfl rfl ?_
      refine gf_TCM_heap h f_TCM_12 d_TCM_count_77 ?_
      refine gf_Heap_sweepFrom h f_TCM_160 d_TCM_count_80 ?_
      exact g_iret h r d_TCM_count_83 (⟨rfl, rfl⟩)
    · refine g_at (L' := [some (.ref (ad (ix 0 0))), some (.int 3)]) rfl rfl rfl ?_
      refine g_iload_n h d_TCM_count_0 rfl rfl ?_
      refine g_tableIn (off := 83) (tgt := 84) h d_TCM_count_1 (by decide) (by decide) (by decide) (by decide) ?_
      refine g_aload_n h d_TCM_count_84 rfl rfl ?_
      refine gf_TCM_heap h f_TCM_12 d_TCM_count_85 ?_
      refine gf_Heap_made h f_TCM_154 d_TCM_count_88 ?_
      exact g_iret h r d_TCM_count_91 (⟨rfl, rfl⟩)
    · refine g_at (L' := [some (.ref (ad (ix 0 0))), some (.int 4)]) rfl rfl rfl ?_
      refine g_iload_n h d_TCM_count_0 rfl rfl ?_
      refine g_tableIn (off := 91) (tgt := 92) h d_TCM_count_1 (by decide) (by decide) (by decide) (by decide) ?_
      refine g_aload_n h d_TCM_count_92 rfl rfl ?_
      refine gf_TCM_heap h f_TCM_12 d_TCM_count_93 ?_
      refine gf_Heap_gone h f_TCM_90 d_TCM_count_96 ?_
      exact g_iret h r d_TCM_count_99 (⟨rfl, rfl⟩)
    · refine g_at (L' := [some (.ref (ad (ix 0 0))), some (.int 5)]) rfl rfl rfl ?_
      refine g_iload_n h d_TCM_count_0 rfl rfl ?_
      refine g_tableIn (off := 99) (tgt := 100) h d_TCM_count_1 (by decide) (by decide) (by decide) (by decide) ?_
      refine g_aload_n h d_TCM_count_100 rfl rfl ?_
      refine gf_TCM_processor h f_TCM_21 d_TCM_count_101 ?_
      refine gf_Pro_begun h f_TCM_163 d_TCM_count_104 ?_
      exact g_iret h r d_TCM_count_107 (⟨rfl, rfl⟩)
    · refine g_at (L' := [some (.ref (ad (ix 0 0))), some (.int 6)]) rfl rfl rfl ?_
      refine g_iload_n h d_TCM_count_0 rfl rfl ?_
      refine g_tableIn (off := 107) (tgt := 108) h d_TCM_count_1 (by decide) (by decide) (by decide) (by decide) ?_
      refine g_aload_n h d_TCM_count_108 rfl rfl ?_
      refine gf_TCM_heap h f_TCM_12 d_TCM_count_109 ?_
      refine g_dVi h tb_good (c_Heap_grayOnes) (ix_lt 1 (by decide) _ (by decide)) (wc_at (by decide) (by decide)) rfl v_TCM_166 nm_Heap_grayOnes rfl ⟨rfl, rfl, Nat.le_of_ble_eq_true rfl, Nat.le_of_ble_eq_true rfl, Nat.zero_le _, Nat.zero_le _⟩ rfl (Nat.le_of_ble_eq_true rfl) d_TCM_count_112 ?_
      exact g_iret h r d_TCM_count_115 (⟨rfl, rfl⟩)
    · refine g_at (L' := [some (.ref (ad (ix 0 0))), some (.int 7)]) rfl rfl rfl ?_
      refine g_iload_n h d_TCM_count_0 rfl rfl ?_
      refine g_tableIn (off := 115) (tgt := 116) h d_TCM_count_1 (by decide) (by decide) (by decide) (by decide) ?_
      refine g_aload_n h d_TCM_count_116 rfl rfl ?_
      refine gf_TCM_heap h f_TCM_12 d_TCM_count_117 ?_
      refine gf_Heap_units h f_TCM_170 d_TCM_count_120 ?_
      exact g_iret h r d_TCM_count_123 (⟨rfl, rfl⟩)
    · refine g_at (L' := [some (.ref (ad (ix 0 0))), some (.int 8)]) rfl rfl rfl ?_
      refine g_iload_n h d_TCM_count_0 rfl rfl ?_
      refine g_tableIn (off := 123) (tgt := 124) h d_TCM_count_1 (by decide) (by decide) (by decide) (by decide) ?_
      refine g_aload_n h d_TCM_count_124 rfl rfl ?_
      refine gf_TCM_heap h f_TCM_12 d_TCM_count_125 ?_
      refine gf_Heap_fullCollections h f_TCM_173 d_TCM_count_128 ?_
      exact g_iret h r d_TCM_count_131 (⟨rfl, rfl⟩)
