/-! Processor's constructor -/
def wP (ad : Nat → Nat) (t : Nat → ClassId) (hp i k : Nat) : va_E := if k = 0 then .inr (4, [.ref hp, .ref (ad 1), .ref (ad 2), .int 0, .int 0, .int 0, .long (-1000000000000)]) else if k = 1 then .inl (t 2, 68, .inr (.inr (.inr (.inr (fun j => if j < i then some (ad (3 + j)) else none))))) else if k = 2 then .inl (t 3, 5, .inr (.inr (.inr (.inr (fun _ => none))))) else wIns
def wPro (ad : Nat → Nat) (t : Nat → ClassId) (hp k : Nat) : va_E := wP ad t hp 68 k
theorem wP_ad {a b : Nat → Nat} {t : Nat → ClassId} {hp i k : Nat} (h : ∀ j, j < 3 + i → a j = b j) : wP a t hp i k = wP b t hp i k := by
  unfold wP
  rw [h 1 (by omega), h 2 (by omega)]
  rw [show (fun j => if j < i then some (a (3 + j)) else none) = (fun j => if j < i then some (b (3 + j)) else none) from funext (fun j => by
    by_cases y : j < i
    · rw [if_pos y, if_pos y, h _ (by omega)]
    · rw [if_neg y, if_neg y])]
theorem wP_next {ad : Nat → Nat} {t : Nat → ClassId} {hp i k : Nat} : wP ad t hp (i + 1) k = if k = 1 then .inl (t 2, 68, .inr (.inr (.inr (.inr (va_up (fun j => if j < i then some (ad (3 + j)) else none) i (some (ad (3 + i)))))))) else wP ad t hp i k := by
  by_cases z : k = 1
  · rw [if_pos z]
    subst z
    unfold wP
    rw [if_neg (by decide), if_pos rfl]
    rw [show (fun j => if j < i + 1 then some (ad (3 + j)) else none) = va_up (fun j => if j < i then some (ad (3 + j)) else none) i (some (ad (3 + i))) from funext (fun j => by
      unfold va_up
      by_cases y : j = i
      · rw [if_pos y, if_pos (by omega), y]
      · rw [if_neg y]
        show _ = if j < i then some (ad (3 + j)) else none
        by_cases x : j < i
        · rw [if_pos x, if_pos (by omega)]
        · rw [if_neg x, if_neg (by omega)])]
  · rw [if_neg z]
    unfold wP
    rw [if_neg z, if_neg z]
set_option maxHeartbeats 4000000 in
set_option maxRecDepth 100000 in
theorem n_Pro_init {l : Launch} {D : va_G} {t : Nat → ClassId} {ad : Nat → Nat} {σ : Nat → va_E} {hp : Nat} (hσ : σ 0 = .inr (4, [.null, .null, .null, .int 0, .int 0, .int 0, .long 0])) : Cn l D t (tyc t) 71 ad y_Pro_init b_Pro_init 3 { frames := 2, cells := 70, slots := 345, locals := 60 } [.ref (ad 0), .ref hp] σ 70 345 (fun ad2 => wPro ad2 t hp) := by
  refine ctn_of (by decide) (Nat.le_of_ble_eq_true rfl) ?_
  intro Γ hL hDD hN h r hao hnm
  have loop : ∀ (c i : Nat) (a : Nat → Nat), i + c = 68 → a 0 = ad 0 → G Γ (2 + i) (73 + 4 * i) (3 + i) a (wP a t hp i) 50 [some (.ref (ad 0)), some (.ref hp), some (.int (nI i))] [] := by
    intro c
    induction c with
    | zero =>
      intro i a hi e0
      obtain rfl : i = 68 := by omega
      refine g_iload_n h d_Pro_init_50 rfl rfl ?_
      refine g_bipush (v := 68) h d_Pro_init_51 (by decide) ?_
      refine g_icmp_ge (tgt := 75) h d_Pro_init_53 (by decide) (fun c_ => ?_) (fun c_ => absurd (show nI 68 ≤ nI 68 from nI_le (by omega) (by omega)) c_)
      refine g_vretN h r d_Pro_init_75 (fun k hk => ?_) (fun k hk => rfl)
      have z : k = 0 := by omega
      subst z
      exact e0
    | succ c ih =>
      intro i a hi e0
      refine g_iload_n h d_Pro_init_50 rfl rfl ?_
      refine g_bipush (v := 68) h d_Pro_init_51 (by decide) ?_
      refine g_icmp_ge (tgt := 75) h d_Pro_init_53 (by decide) (fun c_ => absurd c_ (nI_ge (b := 68) (by omega) (by omega))) (fun c_ => ?_)
      refine g_aload_n h d_Pro_init_56 rfl rfl ?_
      refine g_at (st' := [.ref (a 0)]) rfl rfl (by rw [e0]) ?_
      refine g_get h i_Pro 0 (by omega) rfl rfl 1 (by decide) f_Pro_13 rfl d_Pro_init_57 ?_
      refine g_iload_n h d_Pro_init_60 rfl rfl ?_
      refine g_new (ci := 3) (fs := [.int 0, .int 0, .int 0, .int 0]) h i_Ins t_Ins t_Ins_ok cl_Pro_11 ic_Ins ii_Ins rfl (by decide) ⟨by show _ ≤ 70; omega, by show _ ≤ 345; omega⟩ d_Pro_init_61 (fun qn => ?_)
      have eq : va_up a (3 + i) qn (3 + i) = qn := if_pos rfl
      refine g_dup h d_Pro_init_64 rfl ?_
      refine g_initN (q := 3 + i) (mc := 0) (ms := 0) (As := []) (rest := [.ref qn, .int (nI i), .ref (a 1)]) h tb_good hao (by rw [hL, hDD]; exact n_Ins_init (if_pos rfl)) nl_Pro_43 wi_Ins rfl nm_Ins_init rfl ⟨rfl, rfl, by decide, by decide, by show _ ≤ 70; omega, by show _ ≤ 345; omega⟩ (by rw [eq]; rfl) (Nat.le_of_ble_eq_true rfl) d_Pro_init_65 ?_
      intro a2 σ2 ea es
      rw [eq] at ea
      have bl : ∀ k, k < 3 + i → adj (3 + i) a a2 k = a k := fun k hk => if_pos hk
      have bh : ∀ j, adj (3 + i) a a2 (3 + i + j) = a2 j := fun j => by
        unfold adj
        rw [if_neg (by omega), Nat.add_sub_cancel_left]
      refine g_same (ad' := adj (3 + i) a a2) (σ' := wP (adj (3 + i) a a2) t hp i) (fun k hk => ⟨?_, ?_⟩) ?_
      · unfold adj
        by_cases z : k < 3 + i
        · rw [if_pos z, if_pos z]
          exact (if_neg (by omega)).symm
        · rw [if_neg z, if_neg z]
      · rw [wP_ad bl]
        unfold sgj
        by_cases z : k < 3 + i
        · rw [if_pos z]
          exact (if_neg (by omega)).symm
        · rw [if_neg z, es _ (by omega)]
          unfold wP
          rw [if_neg (by omega), if_neg (by omega), if_neg (by omega)]
      refine g_at (st' := [.ref (adj (3 + i) a a2 (3 + i)), .int (nI i), .ref (adj (3 + i) a a2 1)]) rfl rfl (by rw [bl 1 (by omega), show adj (3 + i) a a2 (3 + i) = a2 0 from bh 0, ea]) ?_
      refine g_aastore h 1 2 (3 + i) (ci := 3) (by omega) (by omega) rfl rfl (show wP _ _ _ _ (3 + i) = _ from by
        unfold wP
        rw [if_neg (by omega), if_neg (by omega), if_neg (by omega)]
        rfl) rfl (vp_in_nI (by omega) (by decide)) d_Pro_init_68 ?_
      rw [nI_clamp (by omega)]
      refine g_iinc (v := nI (i + 1)) h d_Pro_init_69 rfl (by rw [nI_succ]; rfl) rfl (by rw [hN]; decide) ?_
      refine g_goto (tgt := 50) h d_Pro_init_72 (by decide) ?_
      refine g_world (σ' := wP (adj (3 + i) a a2) t hp (i + 1)) (fun k hk => ?_) ?_
      · rw [wP_next]
        rfl
      refine g_widen (k2 := 2 + (i + 1)) (n2 := 73 + 4 * (i + 1)) (by omega) (by omega) ?_
      exact ih (i + 1) _ (by omega) ((bl 0 (by omega)).trans e0)
  refine g_world (σ' := fun _ => .inr (4, [.null, .null, .null, .int 0, .int 0, .int 0, .long 0])) (one_cell hσ) ?_
  refine g_at (L' := [some (.ref (ad 0)), some (.ref hp), none]) rfl rfl rfl ?_
  refine g_aload_n h d_Pro_init_0 rfl rfl ?_
  refine g_objInit h oi_Pro oi_in oi_cd ⟨by decide, by decide⟩ (by decide) d_Pro_init_1 ?_
  refine g_aload_n h d_Pro_init_4 rfl rfl ?_
  refine g_bipush (v := 68) h d_Pro_init_5 (by decide) ?_
  refine g_newq h 2 rfl cl_Pro_11 (hao _ (by decide)) (m := 68) (by decide) (by decide) (by decide) ⟨by show _ ≤ 70; decide, by show _ ≤ 345; decide⟩ d_Pro_init_7 (fun q7 => ?_)
  refine g_putF h i_Pro 0 (by decide) rfl rfl 1 (by decide) t_Pro t_Pro_ok n_Pro f_Pro_13 rfl hnm rfl rfl rfl (Nat.le_of_ble_eq_true rfl) d_Pro_init_10 ?_
  refine g_aload_n h d_Pro_init_13 rfl rfl ?_
  refine g_iconst (v := 5) h d_Pro_init_14 (by decide) ?_
  refine g_newq h 3 rfl cl_Pro_17 (hao _ (by decide)) (m := 5) (by decide) (by decide) (by decide) ⟨by show _ ≤ 70; decide, by show _ ≤ 345; decide⟩ d_Pro_init_15 (fun q15 => ?_)
  refine g_putF h i_Pro 0 (by decide) rfl rfl 2 (by decide) t_Pro t_Pro_ok n_Pro f_Pro_19 rfl hnm rfl rfl rfl (Nat.le_of_ble_eq_true rfl) d_Pro_init_18 ?_
  refine g_aload_n h d_Pro_init_21 rfl rfl ?_
  refine g_iconst (v := 0) h d_Pro_init_22 (by decide) ?_
  refine g_put h i_Pro 0 (by decide) rfl rfl 3 (by decide) t_Pro t_Pro_ok n_Pro f_Pro_23 rfl rfl rfl (Nat.le_of_ble_eq_true rfl) d_Pro_init_23 ?_
  refine g_aload_n h d_Pro_init_26 rfl rfl ?_
  refine g_iconst (v := 0) h d_Pro_init_27 (by decide) ?_
  refine g_put h i_Pro 0 (by decide) rfl rfl 4 (by decide) t_Pro t_Pro_ok n_Pro f_Pro_27 rfl rfl rfl (Nat.le_of_ble_eq_true rfl) d_Pro_init_28 ?_
  refine g_aload_n h d_Pro_init_31 rfl rfl ?_
  refine g_iconst (v := 0) h d_Pro_init_32 (by decide) ?_
  refine g_put h i_Pro 0 (by decide) rfl rfl 5 (by decide) t_Pro t_Pro_ok n_Pro f_Pro_30 rfl rfl rfl (Nat.le_of_ble_eq_true rfl) d_Pro_init_33 ?_
  refine g_aload_n h d_Pro_init_36 rfl rfl ?_
  refine g_ldc2 (v := -1000000000000) h d_Pro_init_37 k_Pro_33 ?_
  refine g_put h i_Pro 0 (by decide) rfl rfl 6 (by decide) t_Pro t_Pro_ok n_Pro f_Pro_35 rfl rfl rfl (Nat.le_of_ble_eq_true rfl) d_Pro_init_40 ?_
  refine g_aload_n h d_Pro_init_43 rfl rfl ?_
  refine g_aload_n h d_Pro_init_44 rfl rfl ?_
  refine g_putF h i_Pro 0 (by decide) rfl rfl 0 (by decide) t_Pro t_Pro_ok n_Pro f_Pro_39 rfl hnm rfl rfl rfl (Nat.le_of_ble_eq_true rfl) d_Pro_init_45 ?_
  refine g_iconst (v := 0) h d_Pro_init_48 (by decide) ?_
  refine g_istore_n h d_Pro_init_49 rfl rfl (by rw [hN]; decide) ?_
  refine g_world (σ' := wP (va_up (va_up ad 1 q7) 2 q15) t hp 0) (fun k hk => ?_) ?_
  · rcases (show k = 0 ∨ k = 1 ∨ k = 2 by omega) with rfl | rfl | rfl <;> rfl
  exact loop 68 0 _ (by omega) rfl
