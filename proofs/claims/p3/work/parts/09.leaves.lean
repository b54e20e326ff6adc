set_option maxHeartbeats 4000000 in
set_option maxRecDepth 100000 in
theorem c_TCM_numberOf {l : Launch} {D : va_G} {t : Nat → ClassId} {ad : Nat → Nat} {C : CS} {v : Int64} : Cd l D t ad y_TCM_numberOf b_TCM_numberOf 2 (some .int) { frames := 0, cells := 0, slots := 0, locals := 0 } [.long v] (C) (some (.int (v - 10000000000).toInt32)) (C) := by
  refine ct_of (by decide) (Nat.le_of_ble_eq_true rfl) ?_
  intro Γ _ _ hN h r
  refine g_at (L' := [some (.long v), none]) rfl rfl rfl ?_
  refine g_lload_n h d_TCM_numberOf_0 rfl rfl ?_
  refine g_ldc2 (v := 10000000000) h d_TCM_numberOf_1 k_TCM_186 ?_
  refine g_lsub h d_TCM_numberOf_4 ?_
  refine g_l2i h d_TCM_numberOf_5 ?_
  exact g_iret h r d_TCM_numberOf_6 (⟨rfl, rfl⟩)
set_option maxHeartbeats 4000000 in
set_option maxRecDepth 100000 in
theorem c_TCM_isNumber {l : Launch} {D : va_G} {t : Nat → ClassId} {ad : Nat → Nat} {C : CS} {v : Int64} : Cd l D t ad y_TCM_isNumber b_TCM_isNumber 2 (some .boolean) { frames := 0, cells := 0, slots := 0, locals := 0 } [.long v] (C) (some (.int (if -2147483648 ≤ v ∧ v ≤ 2147483647 then 1 else 0))) (C) := by
  refine ct_of (by decide) (Nat.le_of_ble_eq_true rfl) ?_
  intro Γ _ _ hN h r
  refine g_at (L' := [some (.long v), none]) rfl rfl rfl ?_
  refine g_lload_n h d_TCM_isNumber_0 rfl rfl ?_
  refine g_ldc2 (v := -2147483648) h d_TCM_isNumber_1 k_TCM_182 ?_
  refine g_lc_lt (tgt := 20) h d_TCM_isNumber_4 d_TCM_isNumber_5 (by decide) (fun c_5 => ?_) (fun c_5 => ?_)
  · refine g_iconst (v := 0) h d_TCM_isNumber_20 (by decide) ?_
    exact g_zret h r rfl d_TCM_isNumber_21 (⟨by first | (simp [c_5]; done) | (rw [if_neg (fun z => Int64.not_le.mpr c_5 z.1)]; done) | (rw [if_neg (fun z => Int64.not_le.mpr c_13 z.2)]; done) | (rw [if_pos ⟨Int64.not_lt.mp c_5, Int64.not_lt.mp c_13⟩]; done), rfl⟩)
  · refine g_lload_n h d_TCM_isNumber_8 rfl rfl ?_
    refine g_ldc2 (v := 2147483647) h d_TCM_isNumber_9 k_TCM_184 ?_
    refine g_lc_gt (tgt := 20) h d_TCM_isNumber_12 d_TCM_isNumber_13 (by decide) (fun c_13 => ?_) (fun c_13 => ?_)
    · refine g_iconst (v := 0) h d_TCM_isNumber_20 (by decide) ?_
      exact g_zret h r rfl d_TCM_isNumber_21 (⟨by first | (simp [c_5]; done) | (rw [if_neg (fun z => Int64.not_le.mpr c_5 z.1)]; done) | (rw [if_neg (fun z => Int64.not_le.mpr c_13 z.2)]; done) | (rw [if_pos ⟨Int64.not_lt.mp c_5, Int64.not_lt.mp c_13⟩]; done), rfl⟩)
    · refine g_iconst (v := 1) h d_TCM_isNumber_16 (by decide) ?_
      refine g_goto (tgt := 21) h d_TCM_isNumber_17 (by decide) ?_
      exact g_zret h r rfl d_TCM_isNumber_21 (⟨by first | (simp [c_5]; done) | (rw [if_neg (fun z => Int64.not_le.mpr c_5 z.1)]; done) | (rw [if_neg (fun z => Int64.not_le.mpr c_13 z.2)]; done) | (rw [if_pos ⟨Int64.not_lt.mp c_5, Int64.not_lt.mp c_13⟩]; done), rfl⟩)
set_option maxHeartbeats 4000000 in
set_option maxRecDepth 100000 in
theorem c_Cell_isActive {l : Launch} {D : va_G} {t : Nat → ClassId} {ad : Nat → Nat} {C : CS} {n : Nat} (hn : n < 16) : Cd l D t ad y_Cell_isActive b_Cell_isActive 1 (some .boolean) { frames := 0, cells := 0, slots := 0, locals := 0 } [.ref (ad (ix 4 n))] (C) (some (.int (if cactive C n = true then 1 else 0))) (C) := by
  refine ct_of (by decide) (Nat.le_of_ble_eq_true rfl) ?_
  intro Γ _ _ hN h r
  refine g_at (L' := [some (.ref (ad (ix 4 n)))]) rfl rfl rfl ?_
  refine g_aload_n h d_Cell_isActive_0 rfl rfl ?_
  refine gf_Cell_kind h f_Cell_25 (by first | assumption | omega | (show _ < 16; omega)) d_Cell_isActive_1 ?_
  refine g_iconst (v := 2) h d_Cell_isActive_4 (by decide) ?_
  refine g_icmp_ne (tgt := 23) h d_Cell_isActive_5 (by decide) (fun c_5 => ?_) (fun c_5 => ?_)
  · refine g_iconst (v := 0) h d_Cell_isActive_23 (by decide) ?_
    exact g_zret h r rfl d_Cell_isActive_24 (⟨by first | (simp [cactive, c_5]; done) | (simp [cactive, c_5, c_16]; done), rfl⟩)
  · refine g_aload_n h d_Cell_isActive_8 rfl rfl ?_
    refine gf_Cell_coroutine h f_Cell_21 (by first | assumption | omega | (show _ < 16; omega)) d_Cell_isActive_9 ?_
    refine gf_Cor_state h f_Cell_32 (by first | assumption | omega | (show _ < 16; omega)) d_Cell_isActive_12 ?_
    refine g_iconst (v := 2) h d_Cell_isActive_15 (by decide) ?_
    refine g_icmp_ne (tgt := 23) h d_Cell_isActive_16 (by decide) (fun c_16 => ?_) (fun c_16 => ?_)
    · refine g_iconst (v := 0) h d_Cell_isActive_23 (by decide) ?_
      exact g_zret h r rfl d_Cell_isActive_24 (⟨by first | (simp [cactive, c_5]; done) | (simp [cactive, c_5, c_16]; done), rfl⟩)
    · refine g_iconst (v := 1) h d_Cell_isActive_19 (by decide) ?_
      refine g_goto (tgt := 24) h d_Cell_isActive_20 (by decide) ?_
      exact g_zret h r rfl d_Cell_isActive_24 (⟨by first | (simp [cactive, c_5]; done) | (simp [cactive, c_5, c_16]; done), rfl⟩)
set_option maxHeartbeats 4000000 in
set_option maxRecDepth 100000 in
theorem c_Cell_rows {l : Launch} {D : va_G} {t : Nat → ClassId} {ad : Nat → Nat} {C : CS} {n : Nat} {b : Int32} (hn : n < 16) : Cd l D t ad y_Cell_rows b_Cell_rows 2 (some .int) { frames := 0, cells := 0, slots := 0, locals := 0 } [.ref (ad (ix 4 n)), .int b] (C) (some (.int (if C.1 0 n = 1 then C.1 2 n else if C.1 0 n = 2 ∧ b = 0 then 4 else 0))) (C) := by
  refine ct_of (by decide) (Nat.le_of_ble_eq_true rfl) ?_
  intro Γ _ _ hN h r
  refine g_at (L' := [some (.ref (ad (ix 4 n))), some (.int b)]) rfl rfl rfl ?_
  refine g_aload_n h d_Cell_rows_0 rfl rfl ?_
  refine gf_Cell_kind h f_Cell_25 (by first | assumption | omega | (show _ < 16; omega)) d_Cell_rows_1 ?_
  refine g_iconst (v := 1) h d_Cell_rows_4 (by decide) ?_
  refine g_icmp_ne (tgt := 16) h d_Cell_rows_5 (by decide) (fun c_5 => ?_) (fun c_5 => ?_)
  · refine g_aload_n h d_Cell_rows_16 rfl rfl ?_
    refine gf_Cell_kind h f_Cell_25 (by first | assumption | omega | (show _ < 16; omega)) d_Cell_rows_17 ?_
    refine g_iconst (v := 2) h d_Cell_rows_20 (by decide) ?_
    refine g_icmp_ne (tgt := 32) h d_Cell_rows_21 (by decide) (fun c_21 => ?_) (fun c_21 => ?_)
    · refine g_iconst (v := 0) h d_Cell_rows_32 (by decide) ?_
      exact g_iret h r d_Cell_rows_33 (⟨by first | (simp [c_5]; done) | (simp [c_5, c_21]; done) | (simp [c_5, c_21, c_25]; done), rfl⟩)
    · refine g_iload_n h d_Cell_rows_24 rfl rfl ?_
      refine g_if_ne (tgt := 32) h d_Cell_rows_25 (by decide) (fun c_25 => ?_) (fun c_25 => ?_)
      · refine g_iconst (v := 0) h d_Cell_rows_32 (by decide) ?_
        exact g_iret h r d_Cell_rows_33 (⟨by first | (simp [c_5]; done) | (simp [c_5, c_21]; done) | (simp [c_5, c_21, c_25]; done), rfl⟩)
      · refine g_iconst (v := 4) h d_Cell_rows_28 (by decide) ?_
        refine g_goto (tgt := 33) h d_Cell_rows_29 (by decide) ?_
        exact g_iret h r d_Cell_rows_33 (⟨by first | (simp [c_5]; done) | (simp [c_5, c_21]; done) | (simp [c_5, c_21, c_25]; done), rfl⟩)
  · refine g_aload_n h d_Cell_rows_8 rfl rfl ?_
    refine gf_Cell_table h f_Cell_12 (by first | assumption | omega | (show _ < 16; omega)) d_Cell_rows_9 ?_
    refine gf_Tab_pairs h f_Cell_35 (by first | assumption | omega | (show _ < 16; omega)) d_Cell_rows_12 ?_
    exact g_iret h r d_Cell_rows_15 (⟨by first | (simp [c_5]; done) | (simp [c_5, c_21]; done) | (simp [c_5, c_21, c_25]; done), rfl⟩)
set_option maxHeartbeats 4000000 in
set_option maxRecDepth 100000 in
theorem c_Tab_clear {l : Launch} {D : va_G} {t : Nat → ClassId} {ad : Nat → Nat} {C : CS} {n : Nat} (hn : n < 16) : Cd l D t ad y_Tab_clear b_Tab_clear 1 none { frames := 0, cells := 0, slots := 0, locals := 0 } [.ref (ad (ix 5 n))] (C) (none) (tclear C n) := by
  refine ct_of (by decide) (Nat.le_of_ble_eq_true rfl) ?_
  intro Γ _ _ hN h r
  refine g_at (L' := [some (.ref (ad (ix 5 n)))]) rfl rfl rfl ?_
  refine g_aload_n h d_Tab_clear_0 rfl rfl ?_
  refine g_iconst (v := 0) h d_Tab_clear_1 (by decide) ?_
  refine pf_Tab_pairs h f_Tab_18 (by first | assumption | omega | (show _ < 16; omega)) d_Tab_clear_2 ?_
  refine g_aload_n h d_Tab_clear_5 rfl rfl ?_
  refine g_iconst (v := -1) h d_Tab_clear_6 (by decide) ?_
  refine pf_Tab_meta h f_Tab_22 (by first | assumption | omega | (show _ < 16; omega)) d_Tab_clear_7 ?_
  exact g_vret h r d_Tab_clear_10 (⟨rfl, rfl⟩)
set_option maxHeartbeats 4000000 in
set_option maxRecDepth 100000 in
theorem c_Tab_find {l : Launch} {D : va_G} {t : Nat → ClassId} {ad : Nat → Nat} {C : CS} {n P : Nat} {key : Int64} (hn : n < 16) (hp : C.1 2 n = nI P) (hP : P ≤ 6) : Cd l D t ad y_Tab_find b_Tab_find 4 (some .int) { frames := 0, cells := 0, slots := 0, locals := 0 } [.ref (ad (ix 5 n)), .long key] (C) (some (.int (enc (tfind C n key)))) (C) := by
  refine ct_of (by decide) (Nat.le_of_ble_eq_true rfl) ?_
  intro Γ _ _ hN h r
  have hc : cPairs C n = P := by unfold cPairs; rw [hp]; exact nI_clamp (by omega)
  have loop : ∀ (c i : Nat), i + c = P → lst (fun j => C.2.1 1 n j == key) c i = tfind C n key → G Γ 0 0 171 ad (wc ad t C) 2 [some (.ref (ad (ix 5 n))), some (.long key), none, some (.int (nI i))] [] := by
    intro c
    induction c with
    | zero =>
      intro i hi he
      refine g_iload_n h d_Tab_find_2 rfl rfl ?_
      refine g_aload_n h d_Tab_find_3 rfl rfl ?_
      refine gf_Tab_pairs h f_Tab_18 (by first | assumption | omega | (show _ < 16; omega)) d_Tab_find_4 ?_
      rw [hp]
      refine g_icmp_ge (tgt := 29) h d_Tab_find_7 (by decide) (fun c_7 => ?_) (fun c_7 => ?_)
      · refine g_iconst (v := -1) h d_Tab_find_29 (by decide) ?_
        exact g_iret h r d_Tab_find_30 (⟨by rw [← he]; rfl, rfl⟩)
      · exact absurd (nI_le (by omega) (by omega)) c_7
    | succ c ih =>
      intro i hi he
      refine g_iload_n h d_Tab_find_2 rfl rfl ?_
      refine g_aload_n h d_Tab_find_3 rfl rfl ?_
      refine gf_Tab_pairs h f_Tab_18 (by first | assumption | omega | (show _ < 16; omega)) d_Tab_find_4 ?_
      rw [hp]
      refine g_icmp_ge (tgt := 29) h d_Tab_find_7 (by decide) (fun c_7 => ?_) (fun c_7 => ?_)
      · exact absurd c_7 (nI_ge (by omega) (by omega))
      · refine g_aload_n h d_Tab_find_10 rfl rfl ?_
        refine gf_Tab_keys h f_Tab_9 (by first | assumption | omega | (show _ < 16; omega)) d_Tab_find_11 ?_
        refine g_iload_n h d_Tab_find_14 rfl rfl ?_
        refine ga_keys h hn rfl (by omega) d_Tab_find_15 ?_
        refine g_lload_n h d_Tab_find_16 rfl rfl ?_
        refine g_lc_ne (tgt := 23) h d_Tab_find_17 d_Tab_find_18 (by decide) (fun c_18 => ?_) (fun c_18 => ?_)
        · refine g_iinc (v := nI (i + 1)) h d_Tab_find_23 rfl (by rw [nI_succ]; rfl) rfl (by rw [hN]; decide) ?_
          refine g_goto (tgt := 2) h d_Tab_find_26 (by decide) ?_
          exact ih (i + 1) (by omega) (by rw [← he]; simp [lst, c_18])
        · refine g_iload_n h d_Tab_find_21 rfl rfl ?_
          exact g_iret h r d_Tab_find_22 (⟨by rw [← he]; simp [lst, c_18, enc], rfl⟩)
  refine g_at (L' := [some (.ref (ad (ix 5 n))), some (.long key), none, none]) rfl rfl rfl ?_
  refine g_iconst (v := 0) h d_Tab_find_0 (by decide) ?_
  refine g_istore_n h d_Tab_find_1 rfl rfl (by rw [hN]; decide) ?_
  exact loop P 0 (by omega) (by unfold tfind; rw [hc])
set_option maxHeartbeats 4000000 in
set_option maxRecDepth 100000 in
theorem c_Heap_isA {l : Launch} {D : va_G} {t : Nat → ClassId} {ad : Nat → Nat} {C : CS} {k : Int32} {v : Int64} (hv : okV v) : Cd l D t ad y_Heap_isA b_Heap_isA 4 (some .boolean) { frames := 1, cells := 0, slots := 0, locals := 21 } [.ref (ad (ix 1 0)), .int k, .long v] (C) (some (.int (if isA C k v = true then 1 else 0))) (C) := by
  refine ct_of (by decide) (Nat.le_of_ble_eq_true rfl) ?_
  intro Γ _ _ hN h r
  refine g_at (L' := [some (.ref (ad (ix 1 0))), some (.int k), some (.long v), none]) rfl rfl rfl ?_
  refine g_lload_n h d_Heap_isA_0 rfl rfl ?_
  refine g_ldc2 (v := 10000000000) h d_Heap_isA_1 k_Heap_53 ?_
  refine g_lc_lt (tgt := 28) h d_Heap_isA_4 d_Heap_isA_5 (by decide) (fun c_5 => ?_) (fun c_5 => ?_)
  · refine g_iconst (v := 0) h d_Heap_isA_28 (by decide) ?_
    exact g_zret h r rfl d_Heap_isA_29 (⟨by first | (simp [isA, c_5]; done) | (simp [isA, c_5, c_21]; done), rfl⟩)
  · obtain ⟨ho, -, hq⟩ := okV_on hv c_5
    refine g_aload_n h d_Heap_isA_8 rfl rfl ?_
    refine gf_Heap_cells h f_Heap_17 d_Heap_isA_9 ?_
    refine g_lload_n h d_Heap_isA_12 rfl rfl ?_
    refine g_dNi h tb_good (c_TCM_numberOf) (host := "TriColourMachine") nl_Heap_55 cd_TCM_numberOf in_TCM st_TCM_numberOf nm_TCM_numberOf rfl ⟨rfl, rfl, Nat.le_of_ble_eq_true rfl, Nat.le_of_ble_eq_true rfl, Nat.zero_le _, Nat.zero_le _⟩ rfl (Nat.le_of_ble_eq_true rfl) d_Heap_isA_13 ?_
    refine ga_cells h hq ho d_Heap_isA_16 ?_
    refine gf_Cell_kind h f_Heap_59 (by first | assumption | omega | (show _ < 16; omega)) d_Heap_isA_17 ?_
    refine g_iload_n h d_Heap_isA_20 rfl rfl ?_
    refine g_icmp_ne (tgt := 28) h d_Heap_isA_21 (by decide) (fun c_21 => ?_) (fun c_21 => ?_)
    · refine g_iconst (v := 0) h d_Heap_isA_28 (by decide) ?_
      exact g_zret h r rfl d_Heap_isA_29 (⟨by first | (simp [isA, c_5]; done) | (simp [isA, c_5, c_21]; done), rfl⟩)
    · refine g_iconst (v := 1) h d_Heap_isA_24 (by decide) ?_
      refine g_goto (tgt := 29) h d_Heap_isA_25 (by decide) ?_
      exact g_zret h r rfl d_Heap_isA_29 (⟨by first | (simp [isA, c_5]; done) | (simp [isA, c_5, c_21]; done), rfl⟩)
set_option maxHeartbeats 4000000 in
set_option maxRecDepth 100000 in
theorem c_Heap_touch {l : Launch} {D : va_G} {t : Nat → ClassId} {ad : Nat → Nat} {C : CS} {n : Nat} (hn : n < 16) : Cd l D t ad y_Heap_touch b_Heap_touch 2 none { frames := 0, cells := 0, slots := 0, locals := 0 } [.ref (ad (ix 1 0)), .int (nI n)] (C) (none) (ctouch C n) := by
  refine ct_of (by decide) (Nat.le_of_ble_eq_true rfl) ?_
  intro Γ _ _ hN h r
  refine g_at (L' := [some (.ref (ad (ix 1 0))), some (.int (nI n))]) rfl rfl rfl ?_
  refine g_aload_n h d_Heap_touch_0 rfl rfl ?_
  refine gf_Heap_phase h f_Heap_21 d_Heap_touch_1 ?_
  refine g_iconst (v := 1) h d_Heap_touch_4 (by decide) ?_
  refine g_icmp_ne (tgt := 31) h d_Heap_touch_5 (by decide) (fun c_5 => ?_) (fun c_5 => ?_)
  · exact g_vret h r d_Heap_touch_31 (⟨rfl, by first | (simp [ctouch, c_5]; done) | (simp [ctouch, c_5, c_18]; done)⟩)
  · refine g_aload_n h d_Heap_touch_8 rfl rfl ?_
    refine gf_Heap_cells h f_Heap_17 d_Heap_touch_9 ?_
    refine g_iload_n h d_Heap_touch_12 rfl rfl ?_
    refine ga_cells h rfl hn d_Heap_touch_13 ?_
    refine gf_Cell_colour h f_Heap_73 (by first | assumption | omega | (show _ < 16; omega)) d_Heap_touch_14 ?_
    refine g_iconst (v := 2) h d_Heap_touch_17 (by decide) ?_
    refine g_icmp_ne (tgt := 31) h d_Heap_touch_18 (by decide) (fun c_18 => ?_) (fun c_18 => ?_)
    · exact g_vret h r d_Heap_touch_31 (⟨rfl, by first | (simp [ctouch, c_5]; done) | (simp [ctouch, c_5, c_18]; done)⟩)
    · refine g_aload_n h d_Heap_touch_21 rfl rfl ?_
      refine gf_Heap_cells h f_Heap_17 d_Heap_touch_22 ?_
      refine g_iload_n h d_Heap_touch_25 rfl rfl ?_
      refine ga_cells h rfl hn d_Heap_touch_26 ?_
      refine g_iconst (v := 1) h d_Heap_touch_27 (by decide) ?_
      refine pf_Cell_colour h f_Heap_73 (by first | assumption | omega | (show _ < 16; omega)) d_Heap_touch_28 ?_
      exact g_vret h r d_Heap_touch_31 (⟨rfl, by first | (simp [ctouch, c_5]; done) | (simp [ctouch, c_5, c_18]; done)⟩)
set_option maxHeartbeats 4000000 in
set_option maxRecDepth 100000 in
theorem c_Heap_birthColour {l : Launch} {D : va_G} {t : Nat → ClassId} {ad : Nat → Nat} {C : CS} {n : Nat} : Cd l D t ad y_Heap_birthColour b_Heap_birthColour 2 (some .int) { frames := 0, cells := 0, slots := 0, locals := 0 } [.ref (ad (ix 1 0)), .int (nI n)] (C) (some (.int (cbirth C n))) (C) := by
  refine ct_of (by decide) (Nat.le_of_ble_eq_true rfl) ?_
  intro Γ _ _ hN h r
  refine g_at (L' := [some (.ref (ad (ix 1 0))), some (.int (nI n))]) rfl rfl rfl ?_
  refine g_aload_n h d_Heap_birthColour_0 rfl rfl ?_
  refine gf_Heap_phase h f_Heap_21 d_Heap_birthColour_1 ?_
  refine g_iconst (v := 1) h d_Heap_birthColour_4 (by decide) ?_
  refine g_icmp_eq (tgt := 24) h d_Heap_birthColour_5 (by decide) (fun c_5 => ?_) (fun c_5 => ?_)
  · refine g_iconst (v := 2) h d_Heap_birthColour_24 (by decide) ?_
    exact g_iret h r d_Heap_birthColour_25 (⟨by first | (simp [cbirth, c_5]; done) | (simp [cbirth, c_5, c_13]; done) | (simp [cbirth, c_5, c_13, Int32.not_lt.mp c_21]; done) | (simp [cbirth, c_5, c_13, Int32.not_le.mpr c_21]; done), rfl⟩)
  · refine g_aload_n h d_Heap_birthColour_8 rfl rfl ?_
    refine gf_Heap_phase h f_Heap_21 d_Heap_birthColour_9 ?_
    refine g_iconst (v := 2) h d_Heap_birthColour_12 (by decide) ?_
    refine g_icmp_ne (tgt := 26) h d_Heap_birthColour_13 (by decide) (fun c_13 => ?_) (fun c_13 => ?_)
    · refine g_iconst (v := 0) h d_Heap_birthColour_26 (by decide) ?_
      exact g_iret h r d_Heap_birthColour_27 (⟨by first | (simp [cbirth, c_5]; done) | (simp [cbirth, c_5, c_13]; done) | (simp [cbirth, c_5, c_13, Int32.not_lt.mp c_21]; done) | (simp [cbirth, c_5, c_13, Int32.not_le.mpr c_21]; done), rfl⟩)
    · refine g_iload_n h d_Heap_birthColour_16 rfl rfl ?_
      refine g_aload_n h d_Heap_birthColour_17 rfl rfl ?_
      refine gf_Heap_sweepFrom h f_Heap_25 d_Heap_birthColour_18 ?_
      refine g_icmp_lt (tgt := 26) h d_Heap_birthColour_21 (by decide) (fun c_21 => ?_) (fun c_21 => ?_)
      · refine g_iconst (v := 0) h d_Heap_birthColour_26 (by decide) ?_
        exact g_iret h r d_Heap_birthColour_27 (⟨by first | (simp [cbirth, c_5]; done) | (simp [cbirth, c_5, c_13]; done) | (simp [cbirth, c_5, c_13, Int32.not_lt.mp c_21]; done) | (simp [cbirth, c_5, c_13, Int32.not_le.mpr c_21]; done), rfl⟩)
      · refine g_iconst (v := 2) h d_Heap_birthColour_24 (by decide) ?_
        exact g_iret h r d_Heap_birthColour_25 (⟨by first | (simp [cbirth, c_5]; done) | (simp [cbirth, c_5, c_13]; done) | (simp [cbirth, c_5, c_13, Int32.not_lt.mp c_21]; done) | (simp [cbirth, c_5, c_13, Int32.not_le.mpr c_21]; done), rfl⟩)
set_option maxHeartbeats 4000000 in
set_option maxRecDepth 100000 in
theorem c_Heap_leastFree {l : Launch} {D : va_G} {t : Nat → ClassId} {ad : Nat → Nat} {C : CS}  : Cd l D t ad y_Heap_leastFree b_Heap_leastFree 2 (some .int) { frames := 0, cells := 0, slots := 0, locals := 0 } [.ref (ad (ix 1 0))] (C) (some (.int (enc (cfree C)))) (C) := by
  refine ct_of (by decide) (Nat.le_of_ble_eq_true rfl) ?_
  intro Γ _ _ hN h r
  have loop : ∀ (c i : Nat), i + c = 16 → lst (fun n => C.1 0 n == 0) c i = cfree C → G Γ 0 0 171 ad (wc ad t C) 2 [some (.ref (ad (ix 1 0))), some (.int (nI i))] [] := by
    intro c
    induction c with
    | zero =>
      intro i hi he
      refine g_iload_n h d_Heap_leastFree_2 rfl rfl ?_
      refine g_bipush (v := 16) h d_Heap_leastFree_3 (by decide) ?_
      refine g_icmp_ge (tgt := 28) h d_Heap_leastFree_5 (by decide) (fun c_5 => ?_) (fun c_5 => ?_)
      · refine g_iconst (v := -1) h d_Heap_leastFree_28 (by decide) ?_
        exact g_iret h r d_Heap_leastFree_29 (⟨by rw [← he]; rfl, rfl⟩)
      · exact absurd (nI_le (a := 16) (b := i) (by omega) (by omega)) c_5
    | succ c ih =>
      intro i hi he
      refine g_iload_n h d_Heap_leastFree_2 rfl rfl ?_
      refine g_bipush (v := 16) h d_Heap_leastFree_3 (by decide) ?_
      refine g_icmp_ge (tgt := 28) h d_Heap_leastFree_5 (by decide) (fun c_5 => ?_) (fun c_5 => ?_)
      · exact absurd c_5 (nI_ge (b := 16) (by omega) (by decide))
      · refine g_aload_n h d_Heap_leastFree_8 rfl rfl ?_
        refine gf_Heap_cells h f_Heap_17 d_Heap_leastFree_9 ?_
        refine g_iload_n h d_Heap_leastFree_12 rfl rfl ?_
        refine ga_cells h rfl (by omega) d_Heap_leastFree_13 ?_
        refine gf_Cell_kind h f_Heap_59 (by first | assumption | omega | (show _ < 16; omega)) d_Heap_leastFree_14 ?_
        refine g_if_ne (tgt := 22) h d_Heap_leastFree_17 (by decide) (fun c_17 => ?_) (fun c_17 => ?_)
        · refine g_iinc (v := nI (i + 1)) h d_Heap_leastFree_22 rfl (by rw [nI_succ]; rfl) rfl (by rw [hN]; decide) ?_
          refine g_goto (tgt := 2) h d_Heap_leastFree_25 (by decide) ?_
          exact ih (i + 1) (by omega) (by rw [← he]; simp [lst, c_17])
        · refine g_iload_n h d_Heap_leastFree_20 rfl rfl ?_
          exact g_iret h r d_Heap_leastFree_21 (⟨by rw [← he]; simp [lst, c_17, enc], rfl⟩)
  refine g_at (L' := [some (.ref (ad (ix 1 0))), none]) rfl rfl rfl ?_
  refine g_iconst (v := 0) h d_Heap_leastFree_0 (by decide) ?_
  refine g_istore_n h d_Heap_leastFree_1 rfl rfl (by rw [hN]; decide) ?_
  exact loop 16 0 (by omega) rfl
set_option maxHeartbeats 4000000 in
set_option maxRecDepth 100000 in
theorem c_Heap_leastGray {l : Launch} {D : va_G} {t : Nat → ClassId} {ad : Nat → Nat} {C : CS}  : Cd l D t ad y_Heap_leastGray b_Heap_leastGray 2 (some .int) { frames := 0, cells := 0, slots := 0, locals := 0 } [.ref (ad (ix 1 0))] (C) (some (.int (enc (cgray C)))) (C) := by
  refine ct_of (by decide) (Nat.le_of_ble_eq_true rfl) ?_
  intro Γ _ _ hN h r
  have loop : ∀ (c i : Nat), i + c = 16 → lst (fun n => C.1 1 n == 1) c i = cgray C → G Γ 0 0 171 ad (wc ad t C) 2 [some (.ref (ad (ix 1 0))), some (.int (nI i))] [] := by
    intro c
    induction c with
    | zero =>
      intro i hi he
      refine g_iload_n h d_Heap_leastGray_2 rfl rfl ?_
      refine g_bipush (v := 16) h d_Heap_leastGray_3 (by decide) ?_
      refine g_icmp_ge (tgt := 29) h d_Heap_leastGray_5 (by decide) (fun c_5 => ?_) (fun c_5 => ?_)
      · refine g_iconst (v := -1) h d_Heap_leastGray_29 (by decide) ?_
        exact g_iret h r d_Heap_leastGray_30 (⟨by rw [← he]; rfl, rfl⟩)
      · exact absurd (nI_le (a := 16) (b := i) (by omega) (by omega)) c_5
    | succ c ih =>
      intro i hi he
      refine g_iload_n h d_Heap_leastGray_2 rfl rfl ?_
      refine g_bipush (v := 16) h d_Heap_leastGray_3 (by decide) ?_
      refine g_icmp_ge (tgt := 29) h d_Heap_leastGray_5 (by decide) (fun c_5 => ?_) (fun c_5 => ?_)
      · exact absurd c_5 (nI_ge (b := 16) (by omega) (by decide))
      · refine g_aload_n h d_Heap_leastGray_8 rfl rfl ?_
        refine gf_Heap_cells h f_Heap_17 d_Heap_leastGray_9 ?_
        refine g_iload_n h d_Heap_leastGray_12 rfl rfl ?_
        refine ga_cells h rfl (by omega) d_Heap_leastGray_13 ?_
        refine gf_Cell_colour h f_Heap_73 (by first | assumption | omega | (show _ < 16; omega)) d_Heap_leastGray_14 ?_
        refine g_iconst (v := 1) h d_Heap_leastGray_17 (by decide) ?_
        refine g_icmp_ne (tgt := 23) h d_Heap_leastGray_18 (by decide) (fun c_18 => ?_) (fun c_18 => ?_)
        · refine g_iinc (v := nI (i + 1)) h d_Heap_leastGray_23 rfl (by rw [nI_succ]; rfl) rfl (by rw [hN]; decide) ?_
          refine g_goto (tgt := 2) h d_Heap_leastGray_26 (by decide) ?_
          exact ih (i + 1) (by omega) (by rw [← he]; simp [lst, c_18])
        · refine g_iload_n h d_Heap_leastGray_21 rfl rfl ?_
          exact g_iret h r d_Heap_leastGray_22 (⟨by rw [← he]; simp [lst, c_18, enc], rfl⟩)
  refine g_at (L' := [some (.ref (ad (ix 1 0))), none]) rfl rfl rfl ?_
  refine g_iconst (v := 0) h d_Heap_leastGray_0 (by decide) ?_
  refine g_istore_n h d_Heap_leastGray_1 rfl rfl (by rw [hN]; decide) ?_
  exact loop 16 0 (by omega) rfl
