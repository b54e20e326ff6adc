set_option maxHeartbeats 4000000 in
set_option maxRecDepth 100000 in
theorem c_Mod_whole {l : Launch} {D : va_G} {u : Nat → ClassId} {ad : Nat → Nat} {M : CS} (hok : okM M) : Cm l D u ad y_Mod_whole b_Mod_whole 2 (some .int) { frames := 4, cells := 0, slots := 0, locals := 89 } [.ref (ad 0)] (M) (some (.int (mwhole M).1)) ((mwhole M).2) := by
  refine ct_of (by decide) (Nat.le_of_ble_eq_true rfl) ?_
  intro Γ _ _ hN h r
  have hok0 : okM (sI M 20 0 (M.1 20 0 + 1)) := okM_keep (by decide) hok
  have loop2 : ∀ (c : Nat) (a : Int32) (M2 : CS), okM M2 → mu M2 ≤ c → mwhile c a M2 = mwhole M → G Γ 0 0 18 ad (mob ad u M2) 36 [some (.ref (ad 0)), some (.int a)] [] := by
    intro c
    induction c with
    | zero =>
      intro a M2 hM hmu he
      refine g_aload_n h d_Mod_whole_36 rfl rfl ?_
      refine gf_Mod_phase h f_Mod_92 d_Mod_whole_37 ?_
      refine g_if_eq (tgt := 53) h d_Mod_whole_40 (by decide) (fun c_40 => ?_) (fun c_40 => ?_)
      · refine g_iload_n h d_Mod_whole_53 rfl rfl ?_
        exact g_iret h r d_Mod_whole_54 (⟨by rw [← he]; simp [mwhile, c_40], by rw [← he]; simp [mwhile, c_40]⟩)
      · exact absurd (mu_0 hM (by omega)) c_40
    | succ c ih =>
      intro a M2 hM hmu he
      refine g_aload_n h d_Mod_whole_36 rfl rfl ?_
      refine gf_Mod_phase h f_Mod_92 d_Mod_whole_37 ?_
      refine g_if_eq (tgt := 53) h d_Mod_whole_40 (by decide) (fun c_40 => ?_) (fun c_40 => ?_)
      · refine g_iload_n h d_Mod_whole_53 rfl rfl ?_
        exact g_iret h r d_Mod_whole_54 (⟨by rw [← he]; simp [mwhile, c_40], by rw [← he]; simp [mwhile, c_40]⟩)
      · refine g_iload_n h d_Mod_whole_43 rfl rfl ?_
        refine g_aload_n h d_Mod_whole_44 rfl rfl ?_
        refine g_dVi h tb_good (c_Mod_unit hM) (q := 0) (by decide) rfl rfl v_Mod_115 nm_Mod_unit rfl ⟨rfl, rfl, Nat.le_of_ble_eq_true rfl, Nat.le_of_ble_eq_true rfl, Nat.zero_le _, Nat.zero_le _⟩ rfl (Nat.le_of_ble_eq_true rfl) d_Mod_whole_45 ?_
        refine g_iadd h d_Mod_whole_48 ?_
        refine g_istore_n h d_Mod_whole_49 rfl rfl (by rw [hN]; decide) ?_
        refine g_goto (tgt := 36) h d_Mod_whole_50 (by decide) ?_
        exact ih _ _ (okM_unit hM) (by have := mu_unit hM c_40; omega) (by rw [← he]; simp [mwhile, c_40])
  have hA : okM (mwhile 1000 0 (sI M 20 0 (M.1 20 0 + 1))).2 := okM_while _ _ hok0
  have mid : G Γ 0 0 18 ad (mob ad u (mwhile 1000 0 (sI M 20 0 (M.1 20 0 + 1))).2) 29 [some (.ref (ad 0)), some (.int (mwhile 1000 0 (sI M 20 0 (M.1 20 0 + 1))).1)] [] := by
    refine g_iload_n h d_Mod_whole_29 rfl rfl ?_
    refine g_aload_n h d_Mod_whole_30 rfl rfl ?_
    refine g_dVi h tb_good (c_Mod_unit hA) (q := 0) (by decide) rfl rfl v_Mod_115 nm_Mod_unit rfl ⟨rfl, rfl, Nat.le_of_ble_eq_true rfl, Nat.le_of_ble_eq_true rfl, Nat.zero_le _, Nat.zero_le _⟩ rfl (Nat.le_of_ble_eq_true rfl) d_Mod_whole_31 ?_
    refine g_iadd h d_Mod_whole_34 ?_
    refine g_istore_n h d_Mod_whole_35 rfl rfl (by rw [hN]; decide) ?_
    exact loop2 1000 _ _ (okM_unit hA) (Nat.le_trans (mu_50 _) (by decide)) rfl
  have loop1 : ∀ (c : Nat) (a : Int32) (M2 : CS), okM M2 → mu M2 ≤ c → mwhile c a M2 = (mwhile 1000 0 (sI M 20 0 (M.1 20 0 + 1))) → G Γ 0 0 18 ad (mob ad u M2) 12 [some (.ref (ad 0)), some (.int a)] [] := by
    intro c
    induction c with
    | zero =>
      intro a M2 hM hmu he
      refine g_aload_n h d_Mod_whole_12 rfl rfl ?_
      refine gf_Mod_phase h f_Mod_92 d_Mod_whole_13 ?_
      refine g_if_eq (tgt := 29) h d_Mod_whole_16 (by decide) (fun c_16 => ?_) (fun c_16 => ?_)
      · have e1 : a = (mwhile 1000 0 (sI M 20 0 (M.1 20 0 + 1))).1 := by rw [← he]; simp [mwhile, c_16]
        have e2 : M2 = (mwhile 1000 0 (sI M 20 0 (M.1 20 0 + 1))).2 := by rw [← he]; simp [mwhile, c_16]
        rw [e1, e2]
        exact mid
      · exact absurd (mu_0 hM (by omega)) c_16
    | succ c ih =>
      intro a M2 hM hmu he
      refine g_aload_n h d_Mod_whole_12 rfl rfl ?_
      refine gf_Mod_phase h f_Mod_92 d_Mod_whole_13 ?_
      refine g_if_eq (tgt := 29) h d_Mod_whole_16 (by decide) (fun c_16 => ?_) (fun c_16 => ?_)
      · have e1 : a = (mwhile 1000 0 (sI M 20 0 (M.1 20 0 + 1))).1 := by rw [← he]; simp [mwhile, c_16]
        have e2 : M2 = (mwhile 1000 0 (sI M 20 0 (M.1 20 0 + 1))).2 := by rw [← he]; simp [mwhile, c_16]
        rw [e1, e2]
        exact mid
      · refine g_iload_n h d_Mod_whole_19 rfl rfl ?_
        refine g_aload_n h d_Mod_whole_20 rfl rfl ?_
        refine g_dVi h tb_good (c_Mod_unit hM) (q := 0) (by decide) rfl rfl v_Mod_115 nm_Mod_unit rfl ⟨rfl, rfl, Nat.le_of_ble_eq_true rfl, Nat.le_of_ble_eq_true rfl, Nat.zero_le _, Nat.zero_le _⟩ rfl (Nat.le_of_ble_eq_true rfl) d_Mod_whole_21 ?_
        refine g_iadd h d_Mod_whole_24 ?_
        refine g_istore_n h d_Mod_whole_25 rfl rfl (by rw [hN]; decide) ?_
        refine g_goto (tgt := 12) h d_Mod_whole_26 (by decide) ?_
        exact ih _ _ (okM_unit hM) (by have := mu_unit hM c_16; omega) (by rw [← he]; simp [mwhile, c_16])
  refine g_at (L' := [some (.ref (ad 0)), none]) rfl rfl rfl ?_
  refine g_aload_n h d_Mod_whole_0 rfl rfl ?_
  refine g_dup h d_Mod_whole_1 rfl ?_
  refine gf_Mod_fulls h f_Mod_112 d_Mod_whole_2 ?_
  refine g_iconst (v := 1) h d_Mod_whole_5 (by decide) ?_
  refine g_iadd h d_Mod_whole_6 ?_
  refine pf_Mod_fulls h f_Mod_112 d_Mod_whole_7 ?_
  refine g_iconst (v := 0) h d_Mod_whole_10 (by decide) ?_
  refine g_istore_n h d_Mod_whole_11 rfl rfl (by rw [hN]; decide) ?_
  exact loop1 1000 0 _ hok0 (Nat.le_trans (mu_50 _) (by decide)) rfl
