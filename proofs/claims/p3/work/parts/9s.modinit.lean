/-! the reference's constructor -/
def M0i (i j : Nat) : CS := (fun f b => if f = 0 ∧ b < i then -1 else 0, fun f n b => if f = 0 ∧ n = 0 ∧ b < j then -1000000000000 else 0, fun _ => none)
theorem M0_I {i j : Nat} : sI (M0i i j) 0 i (-1) = M0i (i + 1) j := by
  refine Prod.ext (funext fun f => funext fun b => ?_) rfl
  show (if f = 0 ∧ b = i then -1 else if f = 0 ∧ b < i then (-1 : Int32) else 0) = if f = 0 ∧ b < i + 1 then -1 else 0
  by_cases z : f = 0
  · subst z
    by_cases y : b = i
    · rw [if_pos ⟨rfl, y⟩, if_pos ⟨rfl, by omega⟩]
    · rw [if_neg (fun q => y q.2)]
      by_cases x : b < i
      · rw [if_pos ⟨rfl, x⟩, if_pos ⟨rfl, by omega⟩]
      · rw [if_neg (fun q => x q.2), if_neg (fun q => by have := q.2; omega)]
  · rw [if_neg (fun q => z q.1), if_neg (fun q => z q.1), if_neg (fun q => z q.1)]
theorem M0_J {i j : Nat} : sJ (M0i i j) 0 0 j (-1000000000000) = M0i i (j + 1) := by
  refine Prod.ext rfl (Prod.ext (funext fun f => funext fun n => funext fun b => ?_) rfl)
  show (if f = 0 ∧ n = 0 ∧ b = j then -1000000000000 else if f = 0 ∧ n = 0 ∧ b < j then (-1000000000000 : Int64) else 0) = if f = 0 ∧ n = 0 ∧ b < j + 1 then -1000000000000 else 0
  by_cases z : f = 0 ∧ n = 0
  · by_cases y : b = j
    · rw [if_pos ⟨z.1, z.2, y⟩, if_pos ⟨z.1, z.2, by omega⟩]
    · rw [if_neg (fun q => y q.2.2)]
      by_cases x : b < j
      · rw [if_pos ⟨z.1, z.2, x⟩, if_pos ⟨z.1, z.2, by omega⟩]
      · rw [if_neg (fun q => x q.2.2), if_neg (fun q => by have := q.2.2; omega)]
  · rw [if_neg (fun q => z ⟨q.1, q.2.1⟩), if_neg (fun q => z ⟨q.1, q.2.1⟩), if_neg (fun q => z ⟨q.1, q.2.1⟩)]
theorem M0_z : (∀ f, (M0i 0 0).1 f = fun _ => 0) ∧ ∀ f, (M0i 0 0).2.1 f 0 = fun _ => 0 := ⟨fun f => funext fun b => if_neg (fun q => by have := q.2; omega), fun f => funext fun b => if_neg (fun q => by have := q.2.2; omega)⟩
set_option maxHeartbeats 4000000 in
set_option maxRecDepth 100000 in
theorem n_Mod_init {l : Launch} {D : va_G} {t u : Nat → ClassId} {ad : Nat → Nat} {σ : Nat → va_E} (hσ : σ 0 = .inr (7, [.null, .null, .null, .null, .null, .null, .null, .null, .null, .null, .null, .null, .null, .null, .null, .null, .null, .int 0, .int 0, .int 0, .int 0, .int 0, .int 0, .int 0, .int 0, .int 0, .int 0, .long 0])) : Cn l D t (tym u) 18 ad y_Mod_init b_Mod_init 2 { frames := 1, cells := 17, slots := 652, locals := 20 } [.ref (ad 0)] σ 17 652 (fun ad2 => mob ad2 u (M0i 64 6)) := by
  refine ctn_of (by decide) (Nat.le_of_ble_eq_true rfl) ?_
  intro Γ hL hDD hN h r hao hnm
  have loop2 : ∀ (c i : Nat) (a : Nat → Nat), i + c = 6 → a 0 = ad 0 → G Γ 17 652 18 a (mob a u (M0i 64 i)) 163 [some (.ref (a 0)), some (.int (nI i))] [] := by
    intro c
    induction c with
    | zero =>
      intro i a hi e0
      obtain rfl : i = 6 := by omega
      refine g_iload_n h d_Mod_init_163 rfl rfl ?_
      refine g_bipush (v := 6) h d_Mod_init_164 (by decide) ?_
      refine g_icmp_ge (tgt := 184) h d_Mod_init_166 (by decide) (fun c_ => ?_) (fun c_ => absurd (show nI 6 ≤ nI 6 from nI_le (by omega) (by omega)) c_)
      refine g_vretN h r d_Mod_init_184 (fun k hk => ?_) (fun k hk => rfl)
      have z : k = 0 := by omega
      subst z
      exact e0
    | succ c ih =>
      intro i a hi e0
      refine g_iload_n h d_Mod_init_163 rfl rfl ?_
      refine g_bipush (v := 6) h d_Mod_init_164 (by decide) ?_
      refine g_icmp_ge (tgt := 184) h d_Mod_init_166 (by decide) (fun c_ => absurd c_ (nI_ge (b := 6) (by omega) (by omega))) (fun c_ => ?_)
      refine g_aload_n h d_Mod_init_169 rfl rfl ?_
      refine gf_Mod_globals h f_Mod_22 d_Mod_init_170 ?_
      refine g_iload_n h d_Mod_init_173 rfl rfl ?_
      refine g_ldc2 (v := -1000000000000) h d_Mod_init_174 k_Mod_62 ?_
      refine pj_globals h rfl (show i < 6 by omega) d_Mod_init_177 ?_
      rw [M0_J]
      refine g_iinc (v := nI (i + 1)) h d_Mod_init_178 rfl (by rw [nI_succ]; rfl) rfl (by rw [hN]; decide) ?_
      refine g_goto (tgt := 163) h d_Mod_init_181 (by decide) ?_
      exact ih (i + 1) a (by omega) e0
  have loop1 : ∀ (c i : Nat) (a : Nat → Nat), i + c = 64 → a 0 = ad 0 → G Γ 17 652 18 a (mob a u (M0i i 0)) 142 [some (.ref (a 0)), some (.int (nI i))] [] := by
    intro c
    induction c with
    | zero =>
      intro i a hi e0
      obtain rfl : i = 64 := by omega
      refine g_iload_n h d_Mod_init_142 rfl rfl ?_
      refine g_bipush (v := 64) h d_Mod_init_143 (by decide) ?_
      refine g_icmp_ge (tgt := 161) h d_Mod_init_145 (by decide) (fun c_ => ?_) (fun c_ => absurd (show nI 64 ≤ nI 64 from nI_le (by omega) (by omega)) c_)
      refine g_iconst (v := 0) h d_Mod_init_161 (by decide) ?_
      refine g_istore_n h d_Mod_init_162 rfl rfl (by rw [hN]; decide) ?_
      exact loop2 6 0 a (by omega) e0
    | succ c ih =>
      intro i a hi e0
      refine g_iload_n h d_Mod_init_142 rfl rfl ?_
      refine g_bipush (v := 64) h d_Mod_init_143 (by decide) ?_
      refine g_icmp_ge (tgt := 161) h d_Mod_init_145 (by decide) (fun c_ => absurd c_ (nI_ge (b := 64) (by omega) (by omega))) (fun c_ => ?_)
      refine g_aload_n h d_Mod_init_148 rfl rfl ?_
      refine gf_Mod_ops h f_Mod_7 d_Mod_init_149 ?_
      refine g_iload_n h d_Mod_init_152 rfl rfl ?_
      refine g_iconst (v := -1) h d_Mod_init_153 (by decide) ?_
      refine pi_ops h rfl (show i < 64 by omega) d_Mod_init_154 ?_
      rw [M0_I]
      refine g_iinc (v := nI (i + 1)) h d_Mod_init_155 rfl (by rw [nI_succ]; rfl) rfl (by rw [hN]; decide) ?_
      refine g_goto (tgt := 142) h d_Mod_init_158 (by decide) ?_
      exact ih (i + 1) a (by omega) e0
  refine g_world (σ' := fun _ => .inr (7, [.null, .null, .null, .null, .null, .null, .null, .null, .null, .null, .null, .null, .null, .null, .null, .null, .null, .int 0, .int 0, .int 0, .int 0, .int 0, .int 0, .int 0, .int 0, .int 0, .int 0, .long 0])) (one_cell hσ) ?_
  refine g_at (L' := [some (.ref (ad 0)), none]) rfl rfl rfl ?_
  refine g_aload_n h d_Mod_init_0 rfl rfl ?_
  refine g_objInit h oi_Mod oi_in oi_cd ⟨by decide, by decide⟩ (by decide) d_Mod_init_1 ?_
  refine g_aload_n h d_Mod_init_4 rfl rfl ?_
  refine g_bipush (v := 64) h d_Mod_init_5 (by decide) ?_
  refine g_newi h 0 rfl ac_int (m := 64) (by decide) (by decide) (by decide) ⟨by show _ ≤ 17; decide, by show _ ≤ 652; decide⟩ d_Mod_init_7 (fun q7 => ?_)
  refine g_putF h i_Mod 0 (by decide) rfl rfl 0 (by decide) t_Mod t_Mod_ok n_Mod f_Mod_7 rfl hnm rfl rfl rfl (Nat.le_of_ble_eq_true rfl) d_Mod_init_9 ?_
  refine g_aload_n h d_Mod_init_12 rfl rfl ?_
  refine g_bipush (v := 64) h d_Mod_init_13 (by decide) ?_
  refine g_newi h 0 rfl ac_int (m := 64) (by decide) (by decide) (by decide) ⟨by show _ ≤ 17; decide, by show _ ≤ 652; decide⟩ d_Mod_init_15 (fun q15 => ?_)
  refine g_putF h i_Mod 0 (by decide) rfl rfl 1 (by decide) t_Mod t_Mod_ok n_Mod f_Mod_13 rfl hnm rfl rfl rfl (Nat.le_of_ble_eq_true rfl) d_Mod_init_17 ?_
  refine g_aload_n h d_Mod_init_20 rfl rfl ?_
  refine g_bipush (v := 64) h d_Mod_init_21 (by decide) ?_
  refine g_newi h 0 rfl ac_int (m := 64) (by decide) (by decide) (by decide) ⟨by show _ ≤ 17; decide, by show _ ≤ 652; decide⟩ d_Mod_init_23 (fun q23 => ?_)
  refine g_putF h i_Mod 0 (by decide) rfl rfl 2 (by decide) t_Mod t_Mod_ok n_Mod f_Mod_16 rfl hnm rfl rfl rfl (Nat.le_of_ble_eq_true rfl) d_Mod_init_25 ?_
  refine g_aload_n h d_Mod_init_28 rfl rfl ?_
  refine g_bipush (v := 64) h d_Mod_init_29 (by decide) ?_
  refine g_newi h 0 rfl ac_int (m := 64) (by decide) (by decide) (by decide) ⟨by show _ ≤ 17; decide, by show _ ≤ 652; decide⟩ d_Mod_init_31 (fun q31 => ?_)
  refine g_putF h i_Mod 0 (by decide) rfl rfl 3 (by decide) t_Mod t_Mod_ok n_Mod f_Mod_19 rfl hnm rfl rfl rfl (Nat.le_of_ble_eq_true rfl) d_Mod_init_33 ?_
  refine g_aload_n h d_Mod_init_36 rfl rfl ?_
  refine g_bipush (v := 6) h d_Mod_init_37 (by decide) ?_
  refine g_newl h 1 rfl ac_long (m := 6) (by decide) (by decide) (by decide) ⟨by show _ ≤ 17; decide, by show _ ≤ 652; decide⟩ d_Mod_init_39 (fun q39 => ?_)
  refine g_putF h i_Mod 0 (by decide) rfl rfl 4 (by decide) t_Mod t_Mod_ok n_Mod f_Mod_22 rfl hnm rfl rfl rfl (Nat.le_of_ble_eq_true rfl) d_Mod_init_41 ?_
  refine g_aload_n h d_Mod_init_44 rfl rfl ?_
  refine g_bipush (v := 16) h d_Mod_init_45 (by decide) ?_
  refine g_newi h 0 rfl ac_int (m := 16) (by decide) (by decide) (by decide) ⟨by show _ ≤ 17; decide, by show _ ≤ 652; decide⟩ d_Mod_init_47 (fun q47 => ?_)
  refine g_putF h i_Mod 0 (by decide) rfl rfl 5 (by decide) t_Mod t_Mod_ok n_Mod f_Mod_26 rfl hnm rfl rfl rfl (Nat.le_of_ble_eq_true rfl) d_Mod_init_49 ?_
  refine g_aload_n h d_Mod_init_52 rfl rfl ?_
  refine g_bipush (v := 16) h d_Mod_init_53 (by decide) ?_
  refine g_newi h 0 rfl ac_int (m := 16) (by decide) (by decide) (by decide) ⟨by show _ ≤ 17; decide, by show _ ≤ 652; decide⟩ d_Mod_init_55 (fun q55 => ?_)
  refine g_putF h i_Mod 0 (by decide) rfl rfl 6 (by decide) t_Mod t_Mod_ok n_Mod f_Mod_29 rfl hnm rfl rfl rfl (Nat.le_of_ble_eq_true rfl) d_Mod_init_57 ?_
  refine g_aload_n h d_Mod_init_60 rfl rfl ?_
  refine g_bipush (v := 16) h d_Mod_init_61 (by decide) ?_
  refine g_newi h 0 rfl ac_int (m := 16) (by decide) (by decide) (by decide) ⟨by show _ ≤ 17; decide, by show _ ≤ 652; decide⟩ d_Mod_init_63 (fun q63 => ?_)
  refine g_putF h i_Mod 0 (by decide) rfl rfl 7 (by decide) t_Mod t_Mod_ok n_Mod f_Mod_32 rfl hnm rfl rfl rfl (Nat.le_of_ble_eq_true rfl) d_Mod_init_65 ?_
  refine g_aload_n h d_Mod_init_68 rfl rfl ?_
  refine g_bipush (v := 16) h d_Mod_init_69 (by decide) ?_
  refine g_newi h 0 rfl ac_int (m := 16) (by decide) (by decide) (by decide) ⟨by show _ ≤ 17; decide, by show _ ≤ 652; decide⟩ d_Mod_init_71 (fun q71 => ?_)
  refine g_putF h i_Mod 0 (by decide) rfl rfl 8 (by decide) t_Mod t_Mod_ok n_Mod f_Mod_35 rfl hnm rfl rfl rfl (Nat.le_of_ble_eq_true rfl) d_Mod_init_73 ?_
  refine g_aload_n h d_Mod_init_76 rfl rfl ?_
  refine g_bipush (v := 96) h d_Mod_init_77 (by decide) ?_
  refine g_newl h 1 rfl ac_long (m := 96) (by decide) (by decide) (by decide) ⟨by show _ ≤ 17; decide, by show _ ≤ 652; decide⟩ d_Mod_init_79 (fun q79 => ?_)
  refine g_putF h i_Mod 0 (by decide) rfl rfl 9 (by decide) t_Mod t_Mod_ok n_Mod f_Mod_38 rfl hnm rfl rfl rfl (Nat.le_of_ble_eq_true rfl) d_Mod_init_81 ?_
  refine g_aload_n h d_Mod_init_84 rfl rfl ?_
  refine g_bipush (v := 96) h d_Mod_init_85 (by decide) ?_
  refine g_newl h 1 rfl ac_long (m := 96) (by decide) (by decide) (by decide) ⟨by show _ ≤ 17; decide, by show _ ≤ 652; decide⟩ d_Mod_init_87 (fun q87 => ?_)
  refine g_putF h i_Mod 0 (by decide) rfl rfl 10 (by decide) t_Mod t_Mod_ok n_Mod f_Mod_41 rfl hnm rfl rfl rfl (Nat.le_of_ble_eq_true rfl) d_Mod_init_89 ?_
  refine g_aload_n h d_Mod_init_92 rfl rfl ?_
  refine g_bipush (v := 64) h d_Mod_init_93 (by decide) ?_
  refine g_newl h 1 rfl ac_long (m := 64) (by decide) (by decide) (by decide) ⟨by show _ ≤ 17; decide, by show _ ≤ 652; decide⟩ d_Mod_init_95 (fun q95 => ?_)
  refine g_putF h i_Mod 0 (by decide) rfl rfl 11 (by decide) t_Mod t_Mod_ok n_Mod f_Mod_44 rfl hnm rfl rfl rfl (Nat.le_of_ble_eq_true rfl) d_Mod_init_97 ?_
  refine g_aload_n h d_Mod_init_100 rfl rfl ?_
  refine g_bipush (v := 16) h d_Mod_init_101 (by decide) ?_
  refine g_newi h 0 rfl ac_int (m := 16) (by decide) (by decide) (by decide) ⟨by show _ ≤ 17; decide, by show _ ≤ 652; decide⟩ d_Mod_init_103 (fun q103 => ?_)
  refine g_putF h i_Mod 0 (by decide) rfl rfl 12 (by decide) t_Mod t_Mod_ok n_Mod f_Mod_47 rfl hnm rfl rfl rfl (Nat.le_of_ble_eq_true rfl) d_Mod_init_105 ?_
  refine g_aload_n h d_Mod_init_108 rfl rfl ?_
  refine g_bipush (v := 16) h d_Mod_init_109 (by decide) ?_
  refine g_newi h 0 rfl ac_int (m := 16) (by decide) (by decide) (by decide) ⟨by show _ ≤ 17; decide, by show _ ≤ 652; decide⟩ d_Mod_init_111 (fun q111 => ?_)
  refine g_putF h i_Mod 0 (by decide) rfl rfl 13 (by decide) t_Mod t_Mod_ok n_Mod f_Mod_50 rfl hnm rfl rfl rfl (Nat.le_of_ble_eq_true rfl) d_Mod_init_113 ?_
  refine g_aload_n h d_Mod_init_116 rfl rfl ?_
  refine g_bipush (v := 16) h d_Mod_init_117 (by decide) ?_
  refine g_newi h 0 rfl ac_int (m := 16) (by decide) (by decide) (by decide) ⟨by show _ ≤ 17; decide, by show _ ≤ 652; decide⟩ d_Mod_init_119 (fun q119 => ?_)
  refine g_putF h i_Mod 0 (by decide) rfl rfl 14 (by decide) t_Mod t_Mod_ok n_Mod f_Mod_53 rfl hnm rfl rfl rfl (Nat.le_of_ble_eq_true rfl) d_Mod_init_121 ?_
  refine g_aload_n h d_Mod_init_124 rfl rfl ?_
  refine g_bipush (v := 16) h d_Mod_init_125 (by decide) ?_
  refine g_newi h 0 rfl ac_int (m := 16) (by decide) (by decide) (by decide) ⟨by show _ ≤ 17; decide, by show _ ≤ 652; decide⟩ d_Mod_init_127 (fun q127 => ?_)
  refine g_putF h i_Mod 0 (by decide) rfl rfl 15 (by decide) t_Mod t_Mod_ok n_Mod f_Mod_56 rfl hnm rfl rfl rfl (Nat.le_of_ble_eq_true rfl) d_Mod_init_129 ?_
  refine g_aload_n h d_Mod_init_132 rfl rfl ?_
  refine g_bipush (v := 6) h d_Mod_init_133 (by decide) ?_
  refine g_newi h 0 rfl ac_int (m := 6) (by decide) (by decide) (by decide) ⟨by show _ ≤ 17; decide, by show _ ≤ 652; decide⟩ d_Mod_init_135 (fun q135 => ?_)
  refine g_putF h i_Mod 0 (by decide) rfl rfl 16 (by decide) t_Mod t_Mod_ok n_Mod f_Mod_59 rfl hnm rfl rfl rfl (Nat.le_of_ble_eq_true rfl) d_Mod_init_137 ?_
  refine g_iconst (v := 0) h d_Mod_init_140 (by decide) ?_
  refine g_istore_n h d_Mod_init_141 rfl rfl (by rw [hN]; decide) ?_
  refine g_world (σ' := mob (va_up (va_up (va_up (va_up (va_up (va_up (va_up (va_up (va_up (va_up (va_up (va_up (va_up (va_up (va_up (va_up (va_up ad 1 q7) 2 q15) 3 q23) 4 q31) 5 q39) 6 q47) 7 q55) 8 q63) 9 q71) 10 q79) 11 q87) 12 q95) 13 q103) 14 q111) 15 q119) 16 q127) 17 q135) u (M0i 0 0)) (fun k hk => ?_) ?_
  · obtain ⟨z1, z2⟩ := M0_z
    rcases (show k = 0 ∨ k = 1 ∨ k = 2 ∨ k = 3 ∨ k = 4 ∨ k = 5 ∨ k = 6 ∨ k = 7 ∨ k = 8 ∨ k = 9 ∨ k = 10 ∨ k = 11 ∨ k = 12 ∨ k = 13 ∨ k = 14 ∨ k = 15 ∨ k = 16 ∨ k = 17 by omega) with rfl | rfl | rfl | rfl | rfl | rfl | rfl | rfl | rfl | rfl | rfl | rfl | rfl | rfl | rfl | rfl | rfl | rfl
    all_goals first | rfl | (simp only [mob]; rw [z1]; rfl) | (simp only [mob]; rw [z2]; rfl)
  exact loop1 64 0 _ (by omega) rfl
