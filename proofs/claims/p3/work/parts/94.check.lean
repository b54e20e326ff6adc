/-! checkRange, checkGlobal, raise: they return, or they throw -/
abbrev Ce (l : Launch) (D : va_G) (t : Nat → ClassId) (ad : Nat → Nat) (y : MethodName) (b : ByteArray) (n : Nat) (ret : Option FieldType) (rm : Room) (As : List Value) (C : CS) (X : String) (C2 : CS) : Prop := CtX l D CL (tyc t) NL 171 ad y (.code y b n ret :: TB) rm As (wc ad t C) (fun X' σ2 => X' = X ∧ σ2 = wc ad t C2)
section Checks
variable {l : Launch} {D : va_G} {t : Nat → ClassId} {ad : Nat → Nat} {C : CS}
theorem c_TCM_checkRange {n a b : Int32} (h1 : ¬ n < a) (h2 : ¬ b < n) : Cd l D t ad y_TCM_checkRange b_TCM_checkRange 3 none { frames := 0, cells := 0, slots := 0, locals := 0 } [.int n, .int a, .int b] C none C := by
  refine ct_of (by decide) (Nat.le_of_ble_eq_true rfl) ?_
  intro Γ _ _ hN h r
  refine g_at (L' := [some (.int n), some (.int a), some (.int b)]) rfl rfl rfl ?_
  refine g_iload_n h d_TCM_checkRange_0 rfl rfl ?_
  refine g_iload_n h d_TCM_checkRange_1 rfl rfl ?_
  refine g_icmp_lt (tgt := 10) h d_TCM_checkRange_2 (by decide) (fun c => absurd c h1) (fun _ => ?_)
  refine g_iload_n h d_TCM_checkRange_5 rfl rfl ?_
  refine g_iload_n h d_TCM_checkRange_6 rfl rfl ?_
  refine g_icmp_le (tgt := 18) h d_TCM_checkRange_7 (by decide) (fun _ => ?_) (fun c => absurd (Int32.not_lt.mp h2) c)
  exact g_vret h r d_TCM_checkRange_18 ⟨rfl, rfl⟩
theorem x_TCM_checkRange {n a b : Int32} (htr : l.stackTraces = false) (hbad : n < a ∨ b < n) : Ce l D t ad y_TCM_checkRange b_TCM_checkRange 3 none { frames := 6, cells := 1, slots := 6, locals := 88 } [.int n, .int a, .int b] C X_IAE C := by
  refine ctX_of (by decide) (Nat.le_of_ble_eq_true rfl) ?_
  intro Γ hL _ hN h r pw
  refine p_at (L' := [some (.int n), some (.int a), some (.int b)]) rfl rfl rfl ?_
  have thr : GP Γ 10 [some (.int n), some (.int a), some (.int b)] [] := p_throw h r pw (by rw [hL]; exact htr) (X := X_IAE) (names := xN) (by decide +kernel) xN_fit xw_IAE xcl_IAE xin_IAE xii_IAE ⟨by decide, by decide, by decide, by decide⟩ (by decide) ⟨rfl, rfl⟩ d_TCM_checkRange_10 d_TCM_checkRange_13 d_TCM_checkRange_14 d_TCM_checkRange_17
  refine p_iload_n h d_TCM_checkRange_0 rfl rfl ?_
  refine p_iload_n h d_TCM_checkRange_1 rfl rfl ?_
  refine p_icmp_lt (tgt := 10) h d_TCM_checkRange_2 (by decide) (fun _ => thr) (fun c2 => ?_)
  refine p_iload_n h d_TCM_checkRange_5 rfl rfl ?_
  refine p_iload_n h d_TCM_checkRange_6 rfl rfl ?_
  exact p_icmp_le (tgt := 18) h d_TCM_checkRange_7 (by decide) (fun c7 => absurd (hbad.resolve_left c2) (Int32.not_lt.mpr c7)) (fun _ => thr)
theorem c_TCM_checkGlobal {g : Int32} (hg : ¬ (g < 0 ∨ 5 < g)) : Cd l D t ad y_TCM_checkGlobal b_TCM_checkGlobal 1 none { frames := 1, cells := 0, slots := 0, locals := 22 } [.int g] C none C := by
  refine ct_of (by decide) (Nat.le_of_ble_eq_true rfl) ?_
  intro Γ _ _ hN h r
  refine g_at (L' := [some (.int g)]) rfl rfl rfl ?_
  refine g_iload_n h d_TCM_checkGlobal_0 rfl rfl ?_
  refine g_iconst (v := 0) h d_TCM_checkGlobal_1 (by decide) ?_
  refine g_iconst (v := 5) h d_TCM_checkGlobal_2 (by decide) ?_
  refine g_dSv h tb_good (c_TCM_checkRange (fun z => hg (.inl z)) (fun z => hg (.inr z))) v_TCM_25 nm_TCM_checkRange rfl ⟨rfl, rfl, Nat.le_of_ble_eq_true rfl, Nat.le_of_ble_eq_true rfl, Nat.zero_le _, Nat.zero_le _⟩ rfl (Nat.le_of_ble_eq_true rfl) d_TCM_checkGlobal_3 ?_
  exact g_vret h r d_TCM_checkGlobal_6 ⟨rfl, rfl⟩
theorem x_TCM_checkGlobal {g : Int32} (htr : l.stackTraces = false) (hg : g < 0 ∨ 5 < g) : Ce l D t ad y_TCM_checkGlobal b_TCM_checkGlobal 1 none { frames := 7, cells := 1, slots := 6, locals := 110 } [.int g] C X_IAE C := by
  refine ctX_of (by decide) (Nat.le_of_ble_eq_true rfl) ?_
  intro Γ hL hDD hN h r pw
  refine gp_g pw ?_
  refine g_at (L' := [some (.int g)]) rfl rfl rfl ?_
  refine g_iload_n h d_TCM_checkGlobal_0 rfl rfl ?_
  refine g_iconst (v := 0) h d_TCM_checkGlobal_1 (by decide) ?_
  refine g_iconst (v := 5) h d_TCM_checkGlobal_2 (by decide) ?_
  exact g_thruS h r tb_good (by rw [hL, hDD]; exact x_TCM_checkRange htr hg) v_TCM_25 nm_TCM_checkRange rfl ⟨rfl, rfl, Nat.le_of_ble_eq_true rfl, Nat.le_of_ble_eq_true rfl, Nat.le_of_ble_eq_true rfl, Nat.le_of_ble_eq_true rfl⟩ rfl (Nat.le_of_ble_eq_true rfl) d_TCM_checkGlobal_3
theorem c_TCM_raise : Cd l D t ad y_TCM_raise b_TCM_raise 1 none { frames := 0, cells := 0, slots := 0, locals := 0 } [.int 0] C none C := by
  refine ct_of (by decide) (Nat.le_of_ble_eq_true rfl) ?_
  intro Γ _ _ hN h r
  refine g_at (L' := [some (.int 0)]) rfl rfl rfl ?_
  refine g_iload_n h d_TCM_raise_0 rfl rfl ?_
  refine g_iconst (v := 1) h d_TCM_raise_1 (by decide) ?_
  refine g_icmp_ne (tgt := 13) h d_TCM_raise_2 (by decide) (fun _ => ?_) (fun c => absurd c (by decide))
  refine g_iload_n h d_TCM_raise_13 rfl rfl ?_
  refine g_if_eq (tgt := 25) h d_TCM_raise_14 (by decide) (fun _ => ?_) (fun c => absurd rfl c)
  exact g_vret h r d_TCM_raise_25 ⟨rfl, rfl⟩
def xRaise (tr : Int32) : String := if tr = 1 then X_UOE else X_ISE
theorem x_TCM_raise {tr : Int32} (htr : l.stackTraces = false) (h0 : ¬ tr = 0) : Ce l D t ad y_TCM_raise b_TCM_raise 1 none { frames := 6, cells := 1, slots := 6, locals := 88 } [.int tr] C (xRaise tr) C := by
  refine ctX_of (by decide) (Nat.le_of_ble_eq_true rfl) ?_
  intro Γ hL _ hN h r pw
  refine p_at (L' := [some (.int tr)]) rfl rfl rfl ?_
  refine p_iload_n h d_TCM_raise_0 rfl rfl ?_
  refine p_iconst (v := 1) h d_TCM_raise_1 (by decide) ?_
  refine p_icmp_ne (tgt := 13) h d_TCM_raise_2 (by decide) (fun c2 => ?_) (fun c2 => ?_)
  · refine p_iload_n h d_TCM_raise_13 rfl rfl ?_
    refine p_if_eq (tgt := 25) h d_TCM_raise_14 (by decide) (fun c => absurd c h0) (fun _ => ?_)
    exact p_throw h r pw (by rw [hL]; exact htr) (X := X_ISE) (names := xN) (by decide +kernel) xN_fit xw_ISE xcl_ISE xin_ISE xii_ISE ⟨by decide, by decide, by decide, by decide⟩ (by decide) ⟨by unfold xRaise; rw [if_neg c2], rfl⟩ d_TCM_raise_17 d_TCM_raise_20 d_TCM_raise_21 d_TCM_raise_24
  · exact p_throw h r pw (by rw [hL]; exact htr) (X := X_UOE) (names := xN) (by decide +kernel) xN_fit xw_UOE xcl_UOE xin_UOE xii_UOE ⟨by decide, by decide, by decide, by decide⟩ (by decide) ⟨by unfold xRaise; rw [if_pos c2], rfl⟩ d_TCM_raise_5 d_TCM_raise_8 d_TCM_raise_9 d_TCM_raise_12
end Checks
theorem KK_okC {tr : Int32} {X : CS} (h : ∃ M, KK tr X M) : okC X := by
  obtain ⟨M, d, a, h, -⟩ := h
  exact h.1
theorem KK_cpreE {X : CS} (h : ∃ M, KK 0 X M) (hd : 0 < X.1 19 0) : cpre X := by
  obtain ⟨M, h⟩ := h
  exact KK_cpre h hd
theorem KK_stepE {X : CS} (h : ∃ M, KK 0 X M) (hd : 0 < X.1 19 0) : ∃ M, KK (cstep X).1 (cstep X).2 M := by
  obtain ⟨M, h⟩ := h
  exact ⟨_, step_all h hd⟩
theorem start_KN {C M : CS} {a b : Nat} (h : RR C M) (ha : a < 6) (hb : b < 6) : KK (center C (C.2.1 0 0 a) (C.2.1 0 0 b)).1 (center C (C.2.1 0 0 a) (C.2.1 0 0 b)).2 (mres0 M (nI a) (nI b)) := by
  have ea : (nI a).toNatClampNeg = a := nI_clamp (by omega)
  have eb : (nI b).toNatClampNeg = b := nI_clamp (by omega)
  have := start_KK (g := nI a) (v := nI b) h (by rw [ea]; exact ha) (by rw [eb]; exact hb)
  rw [ea, eb] at this
  exact this
