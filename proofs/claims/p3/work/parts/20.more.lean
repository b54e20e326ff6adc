def cgrays (C : CS) : Nat → Nat → Int32 → Int32
  | 0, _, a => a
  | c + 1, i, a => cgrays C c (i + 1) (if C.1 1 i = 1 then a + 1 else a)
set_option maxHeartbeats 4000000 in
set_option maxRecDepth 100000 in
theorem c_Heap_grayOnes {l : Launch} {D : va_G} {t : Nat → ClassId} {ad : Nat → Nat} {C : CS}  : Cd l D t ad y_Heap_grayOnes b_Heap_grayOnes 3 (some .int) { frames := 0, cells := 0, slots := 0, locals := 0 } [.ref (ad (ix 1 0))] (C) (some (.int (cgrays C 16 0 0))) (C) := by
  refine ct_of (by decide) (Nat.le_of_ble_eq_true rfl) ?_
  intro Γ _ _ hN h r
  have loop : ∀ (c i : Nat) (a : Int32), i + c = 16 → cgrays C c i a = cgrays C 16 0 0 → G Γ 0 0 171 ad (wc ad t C) 4 [some (.ref (ad (ix 1 0))), some (.int a), some (.int (nI i))] [] := by
    intro c
    induction c with
    | zero =>
      intro i a hi he
      refine g_iload_n h d_Heap_grayOnes_4 rfl rfl ?_
      refine g_bipush (v := 16) h d_Heap_grayOnes_5 (by decide) ?_
      refine g_icmp_ge (tgt := 32) h d_Heap_grayOnes_7 (by decide) (fun c_7 => ?_) (fun c_7 => ?_)
      · refine g_iload_n h d_Heap_grayOnes_32 rfl rfl ?_
        exact g_iret h r d_Heap_grayOnes_33 (⟨by rw [← he]; rfl, rfl⟩)
      · exact absurd (nI_le (a := 16) (b := i) (by omega) (by omega)) c_7
    | succ c ih =>
      intro i a hi he
      refine g_iload_n h d_Heap_grayOnes_4 rfl rfl ?_
      refine g_bipush (v := 16) h d_Heap_grayOnes_5 (by decide) ?_
      refine g_icmp_ge (tgt := 32) h d_Heap_grayOnes_7 (by decide) (fun c_7 => ?_) (fun c_7 => ?_)
      · exact absurd c_7 (nI_ge (b := 16) (by omega) (by decide))
      · refine g_aload_n h d_Heap_grayOnes_10 rfl rfl ?_
        refine gf_Heap_cells h f_Heap_17 d_Heap_grayOnes_11 ?_
        refine g_iload_n h d_Heap_grayOnes_14 rfl rfl ?_
        refine ga_cells h rfl (by omega) d_Heap_grayOnes_15 ?_
        refine gf_Cell_colour h f_Heap_73 (by first | assumption | omega | (show _ < 16; omega)) d_Heap_grayOnes_16 ?_
        refine g_iconst (v := 1) h d_Heap_grayOnes_19 (by decide) ?_
        refine g_icmp_ne (tgt := 26) h d_Heap_grayOnes_20 (by decide) (fun c_20 => ?_) (fun c_20 => ?_)
        · refine g_iinc (v := nI (i + 1)) h d_Heap_grayOnes_26 rfl (by rw [nI_succ]; rfl) rfl (by rw [hN]; decide) ?_
          refine g_goto (tgt := 4) h d_Heap_grayOnes_29 (by decide) ?_
          exact ih (i + 1) _ (by omega) (by rw [← he]; simp [cgrays, c_20])
        · refine g_iinc (v := a + 1) h d_Heap_grayOnes_23 rfl rfl rfl (by rw [hN]; decide) ?_
          refine g_iinc (v := nI (i + 1)) h d_Heap_grayOnes_26 rfl (by rw [nI_succ]; rfl) rfl (by rw [hN]; decide) ?_
          refine g_goto (tgt := 4) h d_Heap_grayOnes_29 (by decide) ?_
          exact ih (i + 1) _ (by omega) (by rw [← he]; simp [cgrays, c_20])
  refine g_at (L' := [some (.ref (ad (ix 1 0))), none, none]) rfl rfl rfl ?_
  refine g_iconst (v := 0) h d_Heap_grayOnes_0 (by decide) ?_
  refine g_istore_n h d_Heap_grayOnes_1 rfl rfl (by rw [hN]; decide) ?_
  refine g_iconst (v := 0) h d_Heap_grayOnes_2 (by decide) ?_
  refine g_istore_n h d_Heap_grayOnes_3 rfl rfl (by rw [hN]; decide) ?_
  exact loop 16 0 0 (by omega) rfl
set_option maxHeartbeats 4000000 in
set_option maxRecDepth 100000 in
theorem c_Pro_performN {l : Launch} {D : va_G} {t : Nat → ClassId} {ad : Nat → Nat} {C : CS} {n k : Nat} (hn : n < 16) (hk : k < 68) (hop : C.1 9 k = -1) : Cd l D t ad y_Pro_perform b_Pro_perform 7 (some .int) { frames := 5, cells := 0, slots := 0, locals := 127 } [.ref (ad (ix 10 0)), .ref (ad (ix 8 n)), .ref (ad (ix 13 k))] (C) (some (.int 1)) (C) := by
  refine ct_of (by decide) (Nat.le_of_ble_eq_true rfl) ?_
  intro Γ _ _ hN h r
  refine g_at (L' := [some (.ref (ad (ix 10 0))), some (.ref (ad (ix 8 n))), some (.ref (ad (ix 13 k))), none, none, none, none]) rfl rfl rfl ?_
  refine g_aload_n h d_Pro_perform_0 rfl rfl ?_
  refine gf_Ins_op h f_Pro_102 (by first | assumption | omega | (show _ < 16; omega) | (show _ < 68; omega)) d_Pro_perform_1 ?_
  rw [hop]
  refine g_iconst (v := -1) h d_Pro_perform_4 (by decide) ?_
  refine g_icmp_ne (tgt := 10) h d_Pro_perform_5 (by decide) (fun c_5 => ?_) (fun c_5 => ?_)
  · exact absurd rfl c_5
  · refine g_iconst (v := 1) h d_Pro_perform_8 (by decide) ?_
    exact g_iret h r d_Pro_perform_9 (⟨rfl, rfl⟩)
