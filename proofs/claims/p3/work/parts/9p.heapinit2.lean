set_option maxHeartbeats 4000000 in
set_option maxRecDepth 100000 in
theorem n_Heap_init {l : Launch} {D : va_G} {t : Nat → ClassId} {ad : Nat → Nat} {σ : Nat → va_E} (hσ : σ 0 = .inr (2, [.null, .null, .int 0, .int 0, .int 0, .int 0, .int 0, .int 0, .long 0])) : Cn l D t (tyc t) 99 ad y_Heap_init b_Heap_init 2 { frames := 3, cells := 98, slots := 502, locals := 100 } [.ref (ad 0)] σ 98 502 (fun ad2 => wHeap ad2 t) := by
  refine ctn_of (by decide) (Nat.le_of_ble_eq_true rfl) ?_
  intro Γ hL hDD hN h r hao hnm
  have loop : ∀ (c i : Nat) (a : Nat → Nat), i + c = 16 → a 0 = ad 0 → G Γ (2 + 6 * i) (22 + 30 * i) (3 + 6 * i) a (wH a t i) 70 [some (.ref (ad 0)), some (.int (nI i))] [] := by
    intro c
    induction c with
    | zero =>
      intro i a hi e0
      obtain rfl : i = 16 := by omega
      refine g_iload_n h d_Heap_init_70 rfl rfl ?_
      refine g_bipush (v := 16) h d_Heap_init_71 (by decide) ?_
      refine g_icmp_ge (tgt := 95) h d_Heap_init_73 (by decide) (fun c_ => ?_) (fun c_ => absurd (show nI 16 ≤ nI 16 from nI_le (by omega) (by omega)) c_)
      refine g_arrq (q := 2) (n := 16) (f' := fun j => some (a (3 + 6 * j))) (by decide) rfl (fun j hj => if_pos hj) ?_
      refine g_vretN h r d_Heap_init_95 (fun k hk => ?_) (fun k hk => ?_)
      · have z : k = 0 := by omega
        subst z
        exact e0
      · rfl
    | succ c ih =>
      intro i a hi e0
      refine g_iload_n h d_Heap_init_70 rfl rfl ?_
      refine g_bipush (v := 16) h d_Heap_init_71 (by decide) ?_
      refine g_icmp_ge (tgt := 95) h d_Heap_init_73 (by decide) (fun c_ => absurd c_ (nI_ge (b := 16) (by omega) (by omega))) (fun c_ => ?_)
      refine g_aload_n h d_Heap_init_76 rfl rfl ?_
      refine g_at (st' := [.ref (a 0)]) rfl rfl (by rw [e0]) ?_
      refine g_get h i_Heap 0 (by omega) rfl rfl 1 (by decide) f_Heap_17 rfl d_Heap_init_77 ?_
      refine g_iload_n h d_Heap_init_80 rfl rfl ?_
      refine g_new (ci := 0) (fs := [.null, .null, .int 0, .int 0]) h i_Cell t_Cell t_Cell_ok cl_Heap_15 ic_Cell ii_Cell rfl (by decide) ⟨by show _ ≤ 98; omega, by show _ ≤ 502; omega⟩ d_Heap_init_81 (fun qn => ?_)
      have eq : va_up a (3 + 6 * i) qn (3 + 6 * i) = qn := if_pos rfl
      refine g_dup h d_Heap_init_84 rfl ?_
      refine g_initN (q := 3 + 6 * i) (mc := 5) (ms := 26) (As := []) (rest := [.ref qn, .int (nI i), .ref (a 2)]) h tb_good hao (by rw [hL, hDD]; exact n_Cell_init (if_pos rfl)) nl_Heap_52 wi_Cell rfl nm_Cell_init rfl ⟨rfl, rfl, by decide, by decide, by show _ ≤ 98; omega, by show _ ≤ 502; omega⟩ (by rw [eq]; rfl) (Nat.le_of_ble_eq_true rfl) d_Heap_init_85 ?_
      intro a2 σ2 ea es
      rw [eq] at ea
      have bl : ∀ k, k < 3 + 6 * i → adj (3 + 6 * i) a a2 k = a k := fun k hk => if_pos hk
      have bh : ∀ j, adj (3 + 6 * i) a a2 (3 + 6 * i + j) = a2 j := fun j => by
        unfold adj
        rw [if_neg (by omega), Nat.add_sub_cancel_left]
      refine g_same (ad' := adj (3 + 6 * i) a a2) (σ' := fun k => if k < 3 + 6 * i then wH (adj (3 + 6 * i) a a2) t i k else wCell (fun j => adj (3 + 6 * i) a a2 (3 + 6 * i + j)) t (k - (3 + 6 * i))) (fun k hk => ⟨?_, ?_⟩) ?_
      · unfold adj
        by_cases z : k < 3 + 6 * i
        · rw [if_pos z, if_pos z]
          exact (if_neg (by omega)).symm
        · rw [if_neg z, if_neg z]
      · show (if k < 3 + 6 * i then _ else _) = sgj _ _ _ k
        unfold sgj
        by_cases z : k < 3 + 6 * i
        · rw [if_pos z, if_pos z, wH_ad bl z]
          exact (if_neg (by omega)).symm
        · rw [if_neg z, if_neg z, es _ (by omega)]
          exact wCell_ad (fun j _ => bh j) (by omega)
      refine g_at (st' := [.ref (adj (3 + 6 * i) a a2 (3 + 6 * i)), .int (nI i), .ref (adj (3 + 6 * i) a a2 2)]) rfl rfl (by rw [bl 2 (by omega), show adj (3 + 6 * i) a a2 (3 + 6 * i) = a2 0 from bh 0, ea]) ?_
      refine g_aastore h 2 1 (3 + 6 * i) (ci := 0) (by omega) (by omega) (if_pos (by omega)) rfl ((if_neg (by omega)).trans (by rw [Nat.sub_self]; rfl)) rfl (vp_in_nI (by omega) (by decide)) d_Heap_init_88 ?_
      rw [nI_clamp (by omega)]
      refine g_iinc (v := nI (i + 1)) h d_Heap_init_89 rfl (by rw [nI_succ]; rfl) rfl (by rw [hN]; decide) ?_
      refine g_goto (tgt := 70) h d_Heap_init_92 (by decide) ?_
      refine g_world (σ' := wH (adj (3 + 6 * i) a a2) t (i + 1)) (fun k hk => ?_) ?_
      · rw [wH_next (by omega)]
        rfl
      refine g_widen (k2 := 2 + 6 * (i + 1)) (n2 := 22 + 30 * (i + 1)) (by omega) (by omega) ?_
      exact ih (i + 1) _ (by omega) ((bl 0 (by omega)).trans e0)
  refine g_world (σ' := fun _ => .inr (2, [.null, .null, .int 0, .int 0, .int 0, .int 0, .int 0, .int 0, .long 0])) (one_cell hσ) ?_
  refine g_at (L' := [some (.ref (ad 0)), none]) rfl rfl rfl ?_
  refine g_aload_n h d_Heap_init_0 rfl rfl ?_
  refine g_objInit h oi_Heap oi_in oi_cd ⟨by decide, by decide⟩ (by decide) d_Heap_init_1 ?_
  refine g_aload_n h d_Heap_init_4 rfl rfl ?_
  refine g_bipush (v := 6) h d_Heap_init_5 (by decide) ?_
  refine g_newl h 0 rfl ac_long (m := 6) (by decide) (by decide) (by decide) ⟨by show _ ≤ 98; decide, by show _ ≤ 502; decide⟩ d_Heap_init_7 (fun q7 => ?_)
  refine g_putF h i_Heap 0 (by decide) rfl rfl 0 (by decide) t_Heap t_Heap_ok n_Heap f_Heap_9 rfl hnm rfl rfl rfl (Nat.le_of_ble_eq_true rfl) d_Heap_init_9 ?_
  refine g_aload_n h d_Heap_init_12 rfl rfl ?_
  refine g_bipush (v := 16) h d_Heap_init_13 (by decide) ?_
  refine g_newq h 1 rfl cl_Heap_15 (hao _ (by decide)) (m := 16) (by decide) (by decide) (by decide) ⟨by show _ ≤ 98; decide, by show _ ≤ 502; decide⟩ d_Heap_init_15 (fun q15 => ?_)
  refine g_putF h i_Heap 0 (by decide) rfl rfl 1 (by decide) t_Heap t_Heap_ok n_Heap f_Heap_17 rfl hnm rfl rfl rfl (Nat.le_of_ble_eq_true rfl) d_Heap_init_18 ?_
  refine g_aload_n h d_Heap_init_21 rfl rfl ?_
  refine g_iconst (v := 0) h d_Heap_init_22 (by decide) ?_
  refine g_put h i_Heap 0 (by decide) rfl rfl 2 (by decide) t_Heap t_Heap_ok n_Heap f_Heap_21 rfl rfl rfl (Nat.le_of_ble_eq_true rfl) d_Heap_init_23 ?_
  refine g_aload_n h d_Heap_init_26 rfl rfl ?_
  refine g_iconst (v := 0) h d_Heap_init_27 (by decide) ?_
  refine g_put h i_Heap 0 (by decide) rfl rfl 3 (by decide) t_Heap t_Heap_ok n_Heap f_Heap_25 rfl rfl rfl (Nat.le_of_ble_eq_true rfl) d_Heap_init_28 ?_
  refine g_aload_n h d_Heap_init_31 rfl rfl ?_
  refine g_iconst (v := 0) h d_Heap_init_32 (by decide) ?_
  refine g_put h i_Heap 0 (by decide) rfl rfl 4 (by decide) t_Heap t_Heap_ok n_Heap f_Heap_28 rfl rfl rfl (Nat.le_of_ble_eq_true rfl) d_Heap_init_33 ?_
  refine g_aload_n h d_Heap_init_36 rfl rfl ?_
  refine g_iconst (v := 0) h d_Heap_init_37 (by decide) ?_
  refine g_put h i_Heap 0 (by decide) rfl rfl 5 (by decide) t_Heap t_Heap_ok n_Heap f_Heap_31 rfl rfl rfl (Nat.le_of_ble_eq_true rfl) d_Heap_init_38 ?_
  refine g_aload_n h d_Heap_init_41 rfl rfl ?_
  refine g_iconst (v := 0) h d_Heap_init_42 (by decide) ?_
  refine g_put h i_Heap 0 (by decide) rfl rfl 6 (by decide) t_Heap t_Heap_ok n_Heap f_Heap_34 rfl rfl rfl (Nat.le_of_ble_eq_true rfl) d_Heap_init_43 ?_
  refine g_aload_n h d_Heap_init_46 rfl rfl ?_
  refine g_iconst (v := 0) h d_Heap_init_47 (by decide) ?_
  refine g_put h i_Heap 0 (by decide) rfl rfl 7 (by decide) t_Heap t_Heap_ok n_Heap f_Heap_37 rfl rfl rfl (Nat.le_of_ble_eq_true rfl) d_Heap_init_48 ?_
  refine g_aload_n h d_Heap_init_51 rfl rfl ?_
  refine g_ldc2 (v := -1000000000000) h d_Heap_init_52 k_Heap_40 ?_
  refine g_put h i_Heap 0 (by decide) rfl rfl 8 (by decide) t_Heap t_Heap_ok n_Heap f_Heap_42 rfl rfl rfl (Nat.le_of_ble_eq_true rfl) d_Heap_init_55 ?_
  refine g_aload_n h d_Heap_init_58 rfl rfl ?_
  refine g_get h i_Heap 0 (by decide) rfl rfl 0 (by decide) f_Heap_9 rfl d_Heap_init_59 ?_
  refine g_ldc2 (v := -1000000000000) h d_Heap_init_62 k_Heap_40 ?_
  refine g_callS h tb_good (c_fillG (q := 1) (v := -1000000000000) rfl (by decide) rfl) v_Heap_46 nm_Arr_fill rfl ⟨rfl, rfl, by decide, by decide, by show _ ≤ 98; decide, by show _ ≤ 502; decide⟩ rfl (Nat.le_of_ble_eq_true rfl) d_Heap_init_65 ?_
  rintro v σ2 ⟨rfl, rfl⟩
  refine g_iconst (v := 0) h d_Heap_init_68 (by decide) ?_
  refine g_istore_n h d_Heap_init_69 rfl rfl (by rw [hN]; decide) ?_
  refine g_world (σ' := wH (va_up (va_up ad 1 q7) 2 q15) t 0) (fun k hk => ?_) ?_
  · rcases (show k = 0 ∨ k = 1 ∨ k = 2 by omega) with rfl | rfl | rfl <;> rfl
  exact loop 16 0 _ (by omega) rfl
