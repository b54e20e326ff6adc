-- part 35.leavesM
section
set_option maxHeartbeats 4000000 in
set_option maxRecDepth 100000 in
theorem c_Mod_badGlobal {l : Launch} {D : va_G} {u : Nat → ClassId} {ad : Nat → Nat} {M : CS} {g : Int32} : Cm l D u ad y_Mod_badGlobal b_Mod_badGlobal 2 (some .boolean) { frames := 0, cells := 0, slots := 0, locals := 0 } [.ref (ad 0), .int g] (M) (some (.int (if g < 0 ∨ 5 < g then 1 else 0))) (M) := by
  refine ct_of (by decide) (Nat.le_of_ble_eq_true rfl) ?_
  intro Γ _ _ hN h r
  refine g_at (L' := [some (.ref (ad 0)), some (.int g)]) rfl rfl rfl ?_
  refine g_iload_n h d_Mod_badGlobal_0 rfl rfl ?_
  refine g_if_lt (tgt := 9) h d_Mod_badGlobal_1 (by decide) (fun c_1 => ?_) (fun c_1 => ?_)
  · refine g_iconst (v := 1) h d_Mod_badGlobal_9 (by decide) ?_
    refine g_goto (tgt := 14) h d_Mod_badGlobal_10 (by decide) ?_
    exact g_zret h r rfl d_Mod_badGlobal_14 (⟨by first | (simp [c_1]; done) | (rw [if_neg (fun z => z.elim c_1 (fun z => Int32.not_lt.mpr c_6 z))]; done) | (rw [if_pos (Or.inr (Int32.not_le.mp c_6))]; done), rfl⟩)
  · refine g_iload_n h d_Mod_badGlobal_4 rfl rfl ?_
    refine g_iconst (v := 5) h d_Mod_badGlobal_5 (by decide) ?_
    refine g_icmp_le (tgt := 13) h d_Mod_badGlobal_6 (by decide) (fun c_6 => ?_) (fun c_6 => ?_)
    · refine g_iconst (v := 0) h d_Mod_badGlobal_13 (by decide) ?_
      exact g_zret h r rfl d_Mod_badGlobal_14 (⟨by first | (simp [c_1]; done) | (rw [if_neg (fun z => z.elim c_1 (fun z => Int32.not_lt.mpr c_6 z))]; done) | (rw [if_pos (Or.inr (Int32.not_le.mp c_6))]; done), rfl⟩)
    · refine g_iconst (v := 1) h d_Mod_badGlobal_9 (by decide) ?_
      refine g_goto (tgt := 14) h d_Mod_badGlobal_10 (by decide) ?_
      exact g_zret h r rfl d_Mod_badGlobal_14 (⟨by first | (simp [c_1]; done) | (rw [if_neg (fun z => z.elim c_1 (fun z => Int32.not_lt.mpr c_6 z))]; done) | (rw [if_pos (Or.inr (Int32.not_le.mp c_6))]; done), rfl⟩)
set_option maxHeartbeats 4000000 in
set_option maxRecDepth 100000 in
theorem c_Mod_isNumber {l : Launch} {D : va_G} {u : Nat → ClassId} {ad : Nat → Nat} {M : CS} {v : Int64} : Cm l D u ad y_Mod_isNumber b_Mod_isNumber 3 (some .boolean) { frames := 0, cells := 0, slots := 0, locals := 0 } [.ref (ad 0), .long v] (M) (some (.int (if -2147483648 ≤ v ∧ v ≤ 2147483647 then 1 else 0))) (M) := by
  refine ct_of (by decide) (Nat.le_of_ble_eq_true rfl) ?_
  intro Γ _ _ hN h r
  refine g_at (L' := [some (.ref (ad 0)), some (.long v), none]) rfl rfl rfl ?_
  refine g_lload_n h d_Mod_isNumber_0 rfl rfl ?_
  refine g_ldc2 (v := -2147483648) h d_Mod_isNumber_1 k_Mod_68 ?_
  refine g_lc_lt (tgt := 20) h d_Mod_isNumber_4 d_Mod_isNumber_5 (by decide) (fun c_5 => ?_) (fun c_5 => ?_)
  · refine g_iconst (v := 0) h d_Mod_isNumber_20 (by decide) ?_
    exact g_zret h r rfl d_Mod_isNumber_21 (⟨by first | (simp [c_5]; done) | (rw [if_neg (fun z => Int64.not_le.mpr c_5 z.1)]; done) | (rw [if_neg (fun z => Int64.not_le.mpr c_13 z.2)]; done) | (rw [if_pos ⟨Int64.not_lt.mp c_5, Int64.not_lt.mp c_13⟩]; done), rfl⟩)
  · refine g_lload_n h d_Mod_isNumber_8 rfl rfl ?_
    refine g_ldc2 (v := 2147483647) h d_Mod_isNumber_9 k_Mod_70 ?_
    refine g_lc_gt (tgt := 20) h d_Mod_isNumber_12 d_Mod_isNumber_13 (by decide) (fun c_13 => ?_) (fun c_13 => ?_)
    · refine g_iconst (v := 0) h d_Mod_isNumber_20 (by decide) ?_
      exact g_zret h r rfl d_Mod_isNumber_21 (⟨by first | (simp [c_5]; done) | (rw [if_neg (fun z => Int64.not_le.mpr c_5 z.1)]; done) | (rw [if_neg (fun z => Int64.not_le.mpr c_13 z.2)]; done) | (rw [if_pos ⟨Int64.not_lt.mp c_5, Int64.not_lt.mp c_13⟩]; done), rfl⟩)
    · refine g_iconst (v := 1) h d_Mod_isNumber_16 (by decide) ?_
      refine g_goto (tgt := 21) h d_Mod_isNumber_17 (by decide) ?_
      exact g_zret h r rfl d_Mod_isNumber_21 (⟨by first | (simp [c_5]; done) | (rw [if_neg (fun z => Int64.not_le.mpr c_5 z.1)]; done) | (rw [if_neg (fun z => Int64.not_le.mpr c_13 z.2)]; done) | (rw [if_pos ⟨Int64.not_lt.mp c_5, Int64.not_lt.mp c_13⟩]; done), rfl⟩)
set_option maxHeartbeats 4000000 in
set_option maxRecDepth 100000 in
theorem c_Mod_objectOf {l : Launch} {D : va_G} {u : Nat → ClassId} {ad : Nat → Nat} {M : CS} {v : Int64} (hv : okV v) : Cm l D u ad y_Mod_objectOf b_Mod_objectOf 3 (some .int) { frames := 0, cells := 0, slots := 0, locals := 0 } [.ref (ad 0), .long v] (M) (some (.int (enc (mObj v)))) (M) := by
  refine ct_of (by decide) (Nat.le_of_ble_eq_true rfl) ?_
  intro Γ _ _ hN h r
  refine g_at (L' := [some (.ref (ad 0)), some (.long v), none]) rfl rfl rfl ?_
  refine g_lload_n h d_Mod_objectOf_0 rfl rfl ?_
  refine g_ldc2 (v := 10000000000) h d_Mod_objectOf_1 k_Mod_72 ?_
  refine g_lc_lt (tgt := 17) h d_Mod_objectOf_4 d_Mod_objectOf_5 (by decide) (fun c_5 => ?_) (fun c_5 => ?_)
  · refine g_iconst (v := -1) h d_Mod_objectOf_17 (by decide) ?_
    exact g_iret h r d_Mod_objectOf_18 (⟨by first | (simp [mObj, c_5, enc]; done) | (simp [mObj, c_5, enc, (okV_on hv c_5).2.2]; done), rfl⟩)
  · refine g_lload_n h d_Mod_objectOf_8 rfl rfl ?_
    refine g_ldc2 (v := 10000000000) h d_Mod_objectOf_9 k_Mod_72 ?_
    refine g_lsub h d_Mod_objectOf_12 ?_
    refine g_l2i h d_Mod_objectOf_13 ?_
    refine g_goto (tgt := 18) h d_Mod_objectOf_14 (by decide) ?_
    exact g_iret h r d_Mod_objectOf_18 (⟨by first | (simp [mObj, c_5, enc]; done) | (simp [mObj, c_5, enc, (okV_on hv c_5).2.2]; done), rfl⟩)
set_option maxHeartbeats 4000000 in
set_option maxRecDepth 100000 in
theorem c_Mod_tableOf {l : Launch} {D : va_G} {u : Nat → ClassId} {ad : Nat → Nat} {M : CS} {v : Int64} (hv : okV v) : Cm l D u ad y_Mod_tableOf b_Mod_tableOf 4 (some .int) { frames := 1, cells := 0, slots := 0, locals := 22 } [.ref (ad 0), .long v] (M) (some (.int (enc (mOf M 1 v)))) (M) := by
  refine ct_of (by decide) (Nat.le_of_ble_eq_true rfl) ?_
  intro Γ _ _ hN h r
  refine g_at (L' := [some (.ref (ad 0)), some (.long v), none, none]) rfl rfl rfl ?_
  refine g_aload_n h d_Mod_tableOf_0 rfl rfl ?_
  refine g_lload_n h d_Mod_tableOf_1 rfl rfl ?_
  refine g_dVi h tb_good (c_Mod_objectOf hv) (q := 0) (by decide) rfl rfl v_Mod_74 nm_Mod_objectOf rfl ⟨rfl, rfl, Nat.le_of_ble_eq_true rfl, Nat.le_of_ble_eq_true rfl, Nat.zero_le _, Nat.zero_le _⟩ rfl (Nat.le_of_ble_eq_true rfl) d_Mod_tableOf_2 ?_
  by_cases hF : v < 10000000000
  · rw [show mObj v = none from if_pos hF]
    simp only [enc]
    refine g_istore_n h d_Mod_tableOf_5 rfl rfl (by rw [hN]; decide) ?_
    refine g_iload_n h d_Mod_tableOf_6 rfl rfl ?_
    refine g_if_lt (tgt := 24) h d_Mod_tableOf_7 (by decide) (fun c_7 => ?_) (fun c_7 => ?_)
    · refine g_iconst (v := -1) h d_Mod_tableOf_24 (by decide) ?_
      exact g_iret h r d_Mod_tableOf_25 (⟨by first | (simp [mOf, hF, enc]; done) | (simp [mOf, hF, c_17, enc]; done), rfl⟩)
    · exact absurd (by decide) c_7
  · rw [show mObj v = some (on v) from if_neg hF]
    simp only [enc]
    obtain ⟨ho, -, -⟩ := okV_on hv hF
    refine g_istore_n h d_Mod_tableOf_5 rfl rfl (by rw [hN]; decide) ?_
    refine g_iload_n h d_Mod_tableOf_6 rfl rfl ?_
    refine g_if_lt (tgt := 24) h d_Mod_tableOf_7 (by decide) (fun c_7 => ?_) (fun c_7 => ?_)
    · exact absurd c_7 (nI_pos (by omega))
    · refine g_aload_n h d_Mod_tableOf_10 rfl rfl ?_
      refine gf_Mod_kind h f_Mod_26 d_Mod_tableOf_11 ?_
      refine g_iload_n h d_Mod_tableOf_14 rfl rfl ?_
      refine gi_kind h rfl ho d_Mod_tableOf_15 ?_
      refine g_iconst (v := 1) h d_Mod_tableOf_16 (by decide) ?_
      refine g_icmp_ne (tgt := 24) h d_Mod_tableOf_17 (by decide) (fun c_17 => ?_) (fun c_17 => ?_)
      · refine g_iconst (v := -1) h d_Mod_tableOf_24 (by decide) ?_
        exact g_iret h r d_Mod_tableOf_25 (⟨by first | (simp [mOf, hF, enc]; done) | (simp [mOf, hF, c_17, enc]; done), rfl⟩)
      · refine g_iload_n h d_Mod_tableOf_20 rfl rfl ?_
        refine g_goto (tgt := 25) h d_Mod_tableOf_21 (by decide) ?_
        exact g_iret h r d_Mod_tableOf_25 (⟨by first | (simp [mOf, hF, enc]; done) | (simp [mOf, hF, c_17, enc]; done), rfl⟩)
set_option maxHeartbeats 4000000 in
set_option maxRecDepth 100000 in
theorem c_Mod_coroutineOf {l : Launch} {D : va_G} {u : Nat → ClassId} {ad : Nat → Nat} {M : CS} {v : Int64} (hv : okV v) : Cm l D u ad y_Mod_coroutineOf b_Mod_coroutineOf 4 (some .int) { frames := 1, cells := 0, slots := 0, locals := 22 } [.ref (ad 0), .long v] (M) (some (.int (enc (mOf M 2 v)))) (M) := by
  refine ct_of (by decide) (Nat.le_of_ble_eq_true rfl) ?_
  intro Γ _ _ hN h r
  refine g_at (L' := [some (.ref (ad 0)), some (.long v), none, none]) rfl rfl rfl ?_
  refine g_aload_n h d_Mod_coroutineOf_0 rfl rfl ?_
  refine g_lload_n h d_Mod_coroutineOf_1 rfl rfl ?_
  refine g_dVi h tb_good (c_Mod_objectOf hv) (q := 0) (by decide) rfl rfl v_Mod_74 nm_Mod_objectOf rfl ⟨rfl, rfl, Nat.le_of_ble_eq_true rfl, Nat.le_of_ble_eq_true rfl, Nat.zero_le _, Nat.zero_le _⟩ rfl (Nat.le_of_ble_eq_true rfl) d_Mod_coroutineOf_2 ?_
  by_cases hF : v < 10000000000
  · rw [show mObj v = none from if_pos hF]
    simp only [enc]
    refine g_istore_n h d_Mod_coroutineOf_5 rfl rfl (by rw [hN]; decide) ?_
    refine g_iload_n h d_Mod_coroutineOf_6 rfl rfl ?_
    refine g_if_lt (tgt := 24) h d_Mod_coroutineOf_7 (by decide) (fun c_7 => ?_) (fun c_7 => ?_)
    · refine g_iconst (v := -1) h d_Mod_coroutineOf_24 (by decide) ?_
      exact g_iret h r d_Mod_coroutineOf_25 (⟨by first | (simp [mOf, hF, enc]; done) | (simp [mOf, hF, c_17, enc]; done), rfl⟩)
    · exact absurd (by decide) c_7
  · rw [show mObj v = some (on v) from if_neg hF]
    simp only [enc]
    obtain ⟨ho, -, -⟩ := okV_on hv hF
    refine g_istore_n h d_Mod_coroutineOf_5 rfl rfl (by rw [hN]; decide) ?_
    refine g_iload_n h d_Mod_coroutineOf_6 rfl rfl ?_
    refine g_if_lt (tgt := 24) h d_Mod_coroutineOf_7 (by decide) (fun c_7 => ?_) (fun c_7 => ?_)
    · exact absurd c_7 (nI_pos (by omega))
    · refine g_aload_n h d_Mod_coroutineOf_10 rfl rfl ?_
      refine gf_Mod_kind h f_Mod_26 d_Mod_coroutineOf_11 ?_
      refine g_iload_n h d_Mod_coroutineOf_14 rfl rfl ?_
      refine gi_kind h rfl ho d_Mod_coroutineOf_15 ?_
      refine g_iconst (v := 2) h d_Mod_coroutineOf_16 (by decide) ?_
      refine g_icmp_ne (tgt := 24) h d_Mod_coroutineOf_17 (by decide) (fun c_17 => ?_) (fun c_17 => ?_)
      · refine g_iconst (v := -1) h d_Mod_coroutineOf_24 (by decide) ?_
        exact g_iret h r d_Mod_coroutineOf_25 (⟨by first | (simp [mOf, hF, enc]; done) | (simp [mOf, hF, c_17, enc]; done), rfl⟩)
      · refine g_iload_n h d_Mod_coroutineOf_20 rfl rfl ?_
        refine g_goto (tgt := 25) h d_Mod_coroutineOf_21 (by decide) ?_
        exact g_iret h r d_Mod_coroutineOf_25 (⟨by first | (simp [mOf, hF, enc]; done) | (simp [mOf, hF, c_17, enc]; done), rfl⟩)
set_option maxHeartbeats 4000000 in
set_option maxRecDepth 100000 in
theorem c_Mod_shade {l : Launch} {D : va_G} {u : Nat → ClassId} {ad : Nat → Nat} {M : CS} {v : Int64} (hv : okV v) : Cm l D u ad y_Mod_shade b_Mod_shade 4 none { frames := 1, cells := 0, slots := 0, locals := 22 } [.ref (ad 0), .long v] (M) (none) (mshade M v) := by
  refine ct_of (by decide) (Nat.le_of_ble_eq_true rfl) ?_
  intro Γ _ _ hN h r
  refine g_at (L' := [some (.ref (ad 0)), some (.long v), none, none]) rfl rfl rfl ?_
  refine g_aload_n h d_Mod_shade_0 rfl rfl ?_
  refine g_lload_n h d_Mod_shade_1 rfl rfl ?_
  refine g_dVi h tb_good (c_Mod_objectOf hv) (q := 0) (by decide) rfl rfl v_Mod_74 nm_Mod_objectOf rfl ⟨rfl, rfl, Nat.le_of_ble_eq_true rfl, Nat.le_of_ble_eq_true rfl, Nat.zero_le _, Nat.zero_le _⟩ rfl (Nat.le_of_ble_eq_true rfl) d_Mod_shade_2 ?_
  by_cases hF : v < 10000000000
  · rw [show mObj v = none from if_pos hF]
    simp only [enc]
    refine g_istore_n h d_Mod_shade_5 rfl rfl (by rw [hN]; decide) ?_
    refine g_iload_n h d_Mod_shade_6 rfl rfl ?_
    refine g_if_lt (tgt := 26) h d_Mod_shade_7 (by decide) (fun c_7 => ?_) (fun c_7 => ?_)
    · exact g_vret h r d_Mod_shade_26 (⟨rfl, by first | (simp [mshade, hF]; done) | (simp [mshade, hF, c_16]; done)⟩)
    · exact absurd (by decide) c_7
  · rw [show mObj v = some (on v) from if_neg hF]
    simp only [enc]
    obtain ⟨ho, -, -⟩ := okV_on hv hF
    refine g_istore_n h d_Mod_shade_5 rfl rfl (by rw [hN]; decide) ?_
    refine g_iload_n h d_Mod_shade_6 rfl rfl ?_
    refine g_if_lt (tgt := 26) h d_Mod_shade_7 (by decide) (fun c_7 => ?_) (fun c_7 => ?_)
    · exact absurd c_7 (nI_pos (by omega))
    · refine g_aload_n h d_Mod_shade_10 rfl rfl ?_
      refine gf_Mod_colour h f_Mod_29 d_Mod_shade_11 ?_
      refine g_iload_n h d_Mod_shade_14 rfl rfl ?_
      refine gi_colour h rfl ho d_Mod_shade_15 ?_
      refine g_if_ne (tgt := 26) h d_Mod_shade_16 (by decide) (fun c_16 => ?_) (fun c_16 => ?_)
      · exact g_vret h r d_Mod_shade_26 (⟨rfl, by first | (simp [mshade, hF]; done) | (simp [mshade, hF, c_16]; done)⟩)
      · refine g_aload_n h d_Mod_shade_19 rfl rfl ?_
        refine gf_Mod_colour h f_Mod_29 d_Mod_shade_20 ?_
        refine g_iload_n h d_Mod_shade_23 rfl rfl ?_
        refine g_iconst (v := 1) h d_Mod_shade_24 (by decide) ?_
        refine pi_colour h rfl ho d_Mod_shade_25 ?_
        exact g_vret h r d_Mod_shade_26 (⟨rfl, by first | (simp [mshade, hF]; done) | (simp [mshade, hF, c_16]; done)⟩)
set_option maxHeartbeats 4000000 in
set_option maxRecDepth 100000 in
theorem c_Mod_touch {l : Launch} {D : va_G} {u : Nat → ClassId} {ad : Nat → Nat} {M : CS} {n : Nat} (hn : n < 16) : Cm l D u ad y_Mod_touch b_Mod_touch 2 none { frames := 0, cells := 0, slots := 0, locals := 0 } [.ref (ad 0), .int (nI n)] (M) (none) (mtouch M n) := by
  refine ct_of (by decide) (Nat.le_of_ble_eq_true rfl) ?_
  intro Γ _ _ hN h r
  refine g_at (L' := [some (.ref (ad 0)), some (.int (nI n))]) rfl rfl rfl ?_
  refine g_aload_n h d_Mod_touch_0 rfl rfl ?_
  refine gf_Mod_phase h f_Mod_92 d_Mod_touch_1 ?_
  refine g_iconst (v := 1) h d_Mod_touch_4 (by decide) ?_
  refine g_icmp_ne (tgt := 25) h d_Mod_touch_5 (by decide) (fun c_5 => ?_) (fun c_5 => ?_)
  · exact g_vret h r d_Mod_touch_25 (⟨rfl, by first | (simp [mtouch, c_5]; done) | (simp [mtouch, c_5, c_15]; done)⟩)
  · refine g_aload_n h d_Mod_touch_8 rfl rfl ?_
    refine gf_Mod_colour h f_Mod_29 d_Mod_touch_9 ?_
    refine g_iload_n h d_Mod_touch_12 rfl rfl ?_
    refine gi_colour h rfl hn d_Mod_touch_13 ?_
    refine g_iconst (v := 2) h d_Mod_touch_14 (by decide) ?_
    refine g_icmp_ne (tgt := 25) h d_Mod_touch_15 (by decide) (fun c_15 => ?_) (fun c_15 => ?_)
    · exact g_vret h r d_Mod_touch_25 (⟨rfl, by first | (simp [mtouch, c_5]; done) | (simp [mtouch, c_5, c_15]; done)⟩)
    · refine g_aload_n h d_Mod_touch_18 rfl rfl ?_
      refine gf_Mod_colour h f_Mod_29 d_Mod_touch_19 ?_
      refine g_iload_n h d_Mod_touch_22 rfl rfl ?_
      refine g_iconst (v := 1) h d_Mod_touch_23 (by decide) ?_
      refine pi_colour h rfl hn d_Mod_touch_24 ?_
      exact g_vret h r d_Mod_touch_25 (⟨rfl, by first | (simp [mtouch, c_5]; done) | (simp [mtouch, c_5, c_15]; done)⟩)
set_option maxHeartbeats 4000000 in
set_option maxRecDepth 100000 in
theorem c_Mod_free {l : Launch} {D : va_G} {u : Nat → ClassId} {ad : Nat → Nat} {M : CS}  : Cm l D u ad y_Mod_free b_Mod_free 2 (some .int) { frames := 0, cells := 0, slots := 0, locals := 0 } [.ref (ad 0)] (M) (some (.int (enc (mfree M)))) (M) := by
  refine ct_of (by decide) (Nat.le_of_ble_eq_true rfl) ?_
  intro Γ _ _ hN h r
  have loop : ∀ (c i : Nat), i + c = 16 → lst (fun n => M.1 4 n == 0) c i = mfree M → G Γ 0 0 18 ad (mob ad u M) 2 [some (.ref (ad 0)), some (.int (nI i))] [] := by
    intro c
    induction c with
    | zero =>
      intro i hi he
      refine g_iload_n h d_Mod_free_2 rfl rfl ?_
      refine g_bipush (v := 16) h d_Mod_free_3 (by decide) ?_
      refine g_icmp_ge (tgt := 25) h d_Mod_free_5 (by decide) (fun c_5 => ?_) (fun c_5 => ?_)
      · refine g_iconst (v := -1) h d_Mod_free_25 (by decide) ?_
        exact g_iret h r d_Mod_free_26 (⟨by rw [← he]; rfl, rfl⟩)
      · exact absurd (nI_le (a := 16) (b := i) (by omega) (by omega)) c_5
    | succ c ih =>
      intro i hi he
      refine g_iload_n h d_Mod_free_2 rfl rfl ?_
      refine g_bipush (v := 16) h d_Mod_free_3 (by decide) ?_
      refine g_icmp_ge (tgt := 25) h d_Mod_free_5 (by decide) (fun c_5 => ?_) (fun c_5 => ?_)
      · exact absurd c_5 (nI_ge (b := 16) (by omega) (by decide))
      · refine g_aload_n h d_Mod_free_8 rfl rfl ?_
        refine gf_Mod_kind h f_Mod_26 d_Mod_free_9 ?_
        refine g_iload_n h d_Mod_free_12 rfl rfl ?_
        refine gi_kind h rfl (by omega) d_Mod_free_13 ?_
        refine g_if_ne (tgt := 19) h d_Mod_free_14 (by decide) (fun c_14 => ?_) (fun c_14 => ?_)
        · refine g_iinc (v := nI (i + 1)) h d_Mod_free_19 rfl (by rw [nI_succ]; rfl) rfl (by rw [hN]; decide) ?_
          refine g_goto (tgt := 2) h d_Mod_free_22 (by decide) ?_
          exact ih (i + 1) (by omega) (by rw [← he]; simp [lst, c_14])
        · refine g_iload_n h d_Mod_free_17 rfl rfl ?_
          exact g_iret h r d_Mod_free_18 (⟨by rw [← he]; simp [lst, c_14, enc], rfl⟩)
  refine g_at (L' := [some (.ref (ad 0)), none]) rfl rfl rfl ?_
  refine g_iconst (v := 0) h d_Mod_free_0 (by decide) ?_
  refine g_istore_n h d_Mod_free_1 rfl rfl (by rw [hN]; decide) ?_
  exact loop 16 0 (by omega) rfl
set_option maxHeartbeats 4000000 in
set_option maxRecDepth 100000 in
theorem c_Mod_leastGray {l : Launch} {D : va_G} {u : Nat → ClassId} {ad : Nat → Nat} {M : CS}  : Cm l D u ad y_Mod_leastGray b_Mod_leastGray 2 (some .int) { frames := 0, cells := 0, slots := 0, locals := 0 } [.ref (ad 0)] (M) (some (.int (enc (mgray M)))) (M) := by
  refine ct_of (by decide) (Nat.le_of_ble_eq_true rfl) ?_
  intro Γ _ _ hN h r
  have loop : ∀ (c i : Nat), i + c = 16 → lst (fun n => !(M.1 4 n == 0) && M.1 5 n == 1) c i = mgray M → G Γ 0 0 18 ad (mob ad u M) 2 [some (.ref (ad 0)), some (.int (nI i))] [] := by
    intro c
    induction c with
    | zero =>
      intro i hi he
      refine g_iload_n h d_Mod_leastGray_2 rfl rfl ?_
      refine g_bipush (v := 16) h d_Mod_leastGray_3 (by decide) ?_
      refine g_icmp_ge (tgt := 35) h d_Mod_leastGray_5 (by decide) (fun c_5 => ?_) (fun c_5 => ?_)
      · refine g_iconst (v := -1) h d_Mod_leastGray_35 (by decide) ?_
        exact g_iret h r d_Mod_leastGray_36 (⟨by rw [← he]; rfl, rfl⟩)
      · exact absurd (nI_le (a := 16) (b := i) (by omega) (by omega)) c_5
    | succ c ih =>
      intro i hi he
      refine g_iload_n h d_Mod_leastGray_2 rfl rfl ?_
      refine g_bipush (v := 16) h d_Mod_leastGray_3 (by decide) ?_
      refine g_icmp_ge (tgt := 35) h d_Mod_leastGray_5 (by decide) (fun c_5 => ?_) (fun c_5 => ?_)
      · exact absurd c_5 (nI_ge (b := 16) (by omega) (by decide))
      · refine g_aload_n h d_Mod_leastGray_8 rfl rfl ?_
        refine gf_Mod_kind h f_Mod_26 d_Mod_leastGray_9 ?_
        refine g_iload_n h d_Mod_leastGray_12 rfl rfl ?_
        refine gi_kind h rfl (by omega) d_Mod_leastGray_13 ?_
        refine g_if_eq (tgt := 29) h d_Mod_leastGray_14 (by decide) (fun c_14 => ?_) (fun c_14 => ?_)
        · refine g_iinc (v := nI (i + 1)) h d_Mod_leastGray_29 rfl (by rw [nI_succ]; rfl) rfl (by rw [hN]; decide) ?_
          refine g_goto (tgt := 2) h d_Mod_leastGray_32 (by decide) ?_
          exact ih (i + 1) (by omega) (by rw [← he]; first | (simp [lst, c_14]; done) | (simp [lst, c_14, c_24]; done))
        · refine g_aload_n h d_Mod_leastGray_17 rfl rfl ?_
          refine gf_Mod_colour h f_Mod_29 d_Mod_leastGray_18 ?_
          refine g_iload_n h d_Mod_leastGray_21 rfl rfl ?_
          refine gi_colour h rfl (by omega) d_Mod_leastGray_22 ?_
          refine g_iconst (v := 1) h d_Mod_leastGray_23 (by decide) ?_
          refine g_icmp_ne (tgt := 29) h d_Mod_leastGray_24 (by decide) (fun c_24 => ?_) (fun c_24 => ?_)
          · refine g_iinc (v := nI (i + 1)) h d_Mod_leastGray_29 rfl (by rw [nI_succ]; rfl) rfl (by rw [hN]; decide) ?_
            refine g_goto (tgt := 2) h d_Mod_leastGray_32 (by decide) ?_
            exact ih (i + 1) (by omega) (by rw [← he]; first | (simp [lst, c_14]; done) | (simp [lst, c_14, c_24]; done))
          · refine g_iload_n h d_Mod_leastGray_27 rfl rfl ?_
            exact g_iret h r d_Mod_leastGray_28 (⟨by rw [← he]; simp [lst, c_14, c_24, enc], rfl⟩)
  refine g_at (L' := [some (.ref (ad 0)), none]) rfl rfl rfl ?_
  refine g_iconst (v := 0) h d_Mod_leastGray_0 (by decide) ?_
  refine g_istore_n h d_Mod_leastGray_1 rfl rfl (by rw [hN]; decide) ?_
  exact loop 16 0 (by omega) rfl
set_option maxHeartbeats 4000000 in
set_option maxRecDepth 100000 in
theorem c_Mod_pairOf {l : Launch} {D : va_G} {u : Nat → ClassId} {ad : Nat → Nat} {M : CS} {n P : Nat} {key : Int64} (hn : n < 16) (hp : M.1 6 n = nI P) (hP : P ≤ 6) : Cm l D u ad y_Mod_pairOf b_Mod_pairOf 5 (some .int) { frames := 0, cells := 0, slots := 0, locals := 0 } [.ref (ad 0), .int (nI n), .long key] (M) (some (.int (enc (mpair M n key)))) (M) := by
  refine ct_of (by decide) (Nat.le_of_ble_eq_true rfl) ?_
  intro Γ _ _ hN h r
  have hc : mSize M n = P := mSize_eq hp hP
  have loop : ∀ (c i : Nat), i + c = P → lst (fun j => M.2.1 1 0 (n * 6 + j) == key) c i = mpair M n key → G Γ 0 0 18 ad (mob ad u M) 3 [some (.ref (ad 0)), some (.int (nI n)), some (.long key), none, some (.int (nI i))] [] := by
    intro c
    induction c with
    | zero =>
      intro i hi he
      refine g_iload h d_Mod_pairOf_3 rfl ?_
      refine g_aload_n h d_Mod_pairOf_5 rfl rfl ?_
      refine gf_Mod_size h f_Mod_32 d_Mod_pairOf_6 ?_
      refine g_iload_n h d_Mod_pairOf_9 rfl rfl ?_
      refine gi_size h rfl hn d_Mod_pairOf_10 ?_
      rw [hp]
      refine g_icmp_ge (tgt := 40) h d_Mod_pairOf_11 (by decide) (fun c_11 => ?_) (fun c_11 => ?_)
      · refine g_iconst (v := -1) h d_Mod_pairOf_40 (by decide) ?_
        exact g_iret h r d_Mod_pairOf_41 (⟨by rw [← he]; rfl, rfl⟩)
      · exact absurd (nI_le (by omega) (by omega)) c_11
    | succ c ih =>
      intro i hi he
      refine g_iload h d_Mod_pairOf_3 rfl ?_
      refine g_aload_n h d_Mod_pairOf_5 rfl rfl ?_
      refine gf_Mod_size h f_Mod_32 d_Mod_pairOf_6 ?_
      refine g_iload_n h d_Mod_pairOf_9 rfl rfl ?_
      refine gi_size h rfl hn d_Mod_pairOf_10 ?_
      rw [hp]
      refine g_icmp_ge (tgt := 40) h d_Mod_pairOf_11 (by decide) (fun c_11 => ?_) (fun c_11 => ?_)
      · exact absurd c_11 (nI_ge (by omega) (by omega))
      · refine g_aload_n h d_Mod_pairOf_14 rfl rfl ?_
        refine gf_Mod_keys h f_Mod_38 d_Mod_pairOf_15 ?_
        refine g_iload_n h d_Mod_pairOf_18 rfl rfl ?_
        refine g_bipush (v := 6) h d_Mod_pairOf_19 (by decide) ?_
        refine g_imul h d_Mod_pairOf_21 ?_
        refine g_iload h d_Mod_pairOf_22 rfl ?_
        refine g_iadd h d_Mod_pairOf_24 ?_
        refine gj_keys h (nI_at6 n i) (by omega) d_Mod_pairOf_25 ?_
        refine g_lload_n h d_Mod_pairOf_26 rfl rfl ?_
        refine g_lc_ne (tgt := 34) h d_Mod_pairOf_27 d_Mod_pairOf_28 (by decide) (fun c_28 => ?_) (fun c_28 => ?_)
        · refine g_iinc (v := nI (i + 1)) h d_Mod_pairOf_34 rfl (by rw [nI_succ]; rfl) rfl (by rw [hN]; decide) ?_
          refine g_goto (tgt := 3) h d_Mod_pairOf_37 (by decide) ?_
          exact ih (i + 1) (by omega) (by rw [← he]; simp [lst, c_28])
        · refine g_iload h d_Mod_pairOf_31 rfl ?_
          exact g_iret h r d_Mod_pairOf_33 (⟨by rw [← he]; simp [lst, c_28, enc], rfl⟩)
  refine g_at (L' := [some (.ref (ad 0)), some (.int (nI n)), some (.long key), none, none]) rfl rfl rfl ?_
  refine g_iconst (v := 0) h d_Mod_pairOf_0 (by decide) ?_
  refine g_istore h d_Mod_pairOf_1 rfl (by rw [hN]; decide) ?_
  exact loop P 0 (by omega) (by unfold mpair; rw [hc])
set_option maxHeartbeats 4000000 in
set_option maxRecDepth 100000 in
theorem c_Mod_next {l : Launch} {D : va_G} {u : Nat → ClassId} {ad : Nat → Nat} {M : CS} {n : Nat} {key : Int64} (hok : okM M) (hn : n < 16) : Cm l D u ad y_Mod_next b_Mod_next 6 (some .int) { frames := 2, cells := 0, slots := 0, locals := 45 } [.ref (ad 0), .int (nI n), .long key] (M) (some (.int (enc (mnext M n key)))) (M) := by
  refine ct_of (by decide) (Nat.le_of_ble_eq_true rfl) ?_
  intro Γ _ _ hN h r
  rcases (hok.1 n hn).2.1 with hm | ⟨j, hj, hm⟩
  · refine g_at (L' := [some (.ref (ad 0)), some (.int (nI n)), some (.long key), none, none, none]) rfl rfl rfl ?_
    refine g_aload_n h d_Mod_next_0 rfl rfl ?_
    refine gf_Mod_metaOf h f_Mod_35 d_Mod_next_1 ?_
    refine g_iload_n h d_Mod_next_4 rfl rfl ?_
    refine gi_metaOf h rfl hn d_Mod_next_5 ?_
    rw [hm]
    refine g_istore h d_Mod_next_6 rfl (by rw [hN]; decide) ?_
    refine g_iload h d_Mod_next_8 rfl ?_
    refine g_if_ge (tgt := 15) h d_Mod_next_10 (by decide) (fun c_10 => ?_) (fun c_10 => ?_)
    · exact absurd c_10 (by decide)
    · refine g_iconst (v := -1) h d_Mod_next_13 (by decide) ?_
      exact g_iret h r d_Mod_next_14 (⟨by simp [mnext, hm, enc], rfl⟩)
  · obtain ⟨⟨P, hP, hp⟩, -⟩ := hok.1 j hj
    refine g_at (L' := [some (.ref (ad 0)), some (.int (nI n)), some (.long key), none, none, none]) rfl rfl rfl ?_
    refine g_aload_n h d_Mod_next_0 rfl rfl ?_
    refine gf_Mod_metaOf h f_Mod_35 d_Mod_next_1 ?_
    refine g_iload_n h d_Mod_next_4 rfl rfl ?_
    refine gi_metaOf h rfl hn d_Mod_next_5 ?_
    rw [hm]
    refine g_istore h d_Mod_next_6 rfl (by rw [hN]; decide) ?_
    refine g_iload h d_Mod_next_8 rfl ?_
    refine g_if_ge (tgt := 15) h d_Mod_next_10 (by decide) (fun c_10 => ?_) (fun c_10 => ?_)
    · refine g_aload_n h d_Mod_next_15 rfl rfl ?_
      refine g_iload h d_Mod_next_16 rfl ?_
      refine g_lload_n h d_Mod_next_18 rfl rfl ?_
      refine g_dVi h tb_good (c_Mod_pairOf hj hp hP) (q := 0) (by decide) rfl rfl v_Mod_131 nm_Mod_pairOf rfl ⟨rfl, rfl, Nat.le_of_ble_eq_true rfl, Nat.le_of_ble_eq_true rfl, Nat.zero_le _, Nat.zero_le _⟩ rfl (Nat.le_of_ble_eq_true rfl) d_Mod_next_19 ?_
      rcases hf : mpair M j key with _ | q <;> simp only [enc]
      · refine g_istore h d_Mod_next_22 rfl (by rw [hN]; decide) ?_
        refine g_iload h d_Mod_next_24 rfl ?_
        refine g_if_ge (tgt := 33) h d_Mod_next_26 (by decide) (fun c_26 => ?_) (fun c_26 => ?_)
        · exact absurd c_26 (by decide)
        · refine g_iconst (v := -1) h d_Mod_next_29 (by decide) ?_
          refine g_goto (tgt := 50) h d_Mod_next_30 (by decide) ?_
          exact g_iret h r d_Mod_next_50 (⟨by simp [mnext, hm, nI_pos (show j < 2 ^ 31 by omega), nI_clamp (show j < 2 ^ 31 by omega), hf, enc], rfl⟩)
      · have hq := mpair_lt hp hP hf
        refine g_istore h d_Mod_next_22 rfl (by rw [hN]; decide) ?_
        refine g_iload h d_Mod_next_24 rfl ?_
        refine g_if_ge (tgt := 33) h d_Mod_next_26 (by decide) (fun c_26 => ?_) (fun c_26 => ?_)
        · refine g_aload_n h d_Mod_next_33 rfl rfl ?_
          refine g_aload_n h d_Mod_next_34 rfl rfl ?_
          refine gf_Mod_values h f_Mod_41 d_Mod_next_35 ?_
          refine g_iload h d_Mod_next_38 rfl ?_
          refine g_bipush (v := 6) h d_Mod_next_40 (by decide) ?_
          refine g_imul h d_Mod_next_42 ?_
          refine g_iload h d_Mod_next_43 rfl ?_
          refine g_iadd h d_Mod_next_45 ?_
          refine gj_values h (nI_at6 j q) (by omega) d_Mod_next_46 ?_
          refine g_dVi h tb_good (c_Mod_tableOf (hok.2.1 2 _)) (q := 0) (by decide) rfl rfl v_Mod_135 nm_Mod_tableOf rfl ⟨rfl, rfl, Nat.le_of_ble_eq_true rfl, Nat.le_of_ble_eq_true rfl, Nat.zero_le _, Nat.zero_le _⟩ rfl (Nat.le_of_ble_eq_true rfl) d_Mod_next_47 ?_
          exact g_iret h r d_Mod_next_50 (⟨by simp [mnext, hm, nI_pos (show j < 2 ^ 31 by omega), nI_clamp (show j < 2 ^ 31 by omega), hf, enc], rfl⟩)
        · exact absurd (nI_pos' (by omega)) c_26
    · exact absurd (nI_pos' (by omega)) c_10
end

-- part 36.rootsM
section
set_option maxHeartbeats 4000000 in
set_option maxRecDepth 100000 in
theorem c_Mod_shadeRoots {l : Launch} {D : va_G} {u : Nat → ClassId} {ad : Nat → Nat} {M : CS} (hok : okM M) : Cm l D u ad y_Mod_shadeRoots b_Mod_shadeRoots 3 none { frames := 2, cells := 0, slots := 0, locals := 45 } [.ref (ad 0)] (M) (none) (mshadeRoots M) := by
  refine ct_of (by decide) (Nat.le_of_ble_eq_true rfl) ?_
  intro Γ _ _ hN h r
  obtain ⟨d, hd5, hd⟩ := hok.2.2.2.1
  have hdd : mDepth M = d := by unfold mDepth; rw [hd]; exact nI_clamp (by omega)
  have loopB : ∀ (c k : Nat) (M2 : CS), k + c = d → eq5 M2 M → mroots c k M2 = mshadeRoots M → G Γ 0 0 18 ad (mob ad u M2) 26 [some (.ref (ad 0)), some (.int (nI k)), none] [] := by
    intro c
    induction c with
    | zero =>
      intro k M2 hk hE he
      refine g_iload_n h d_Mod_shadeRoots_26 rfl rfl ?_
      refine g_aload_n h d_Mod_shadeRoots_27 rfl rfl ?_
      refine gf_Mod_depth h f_Mod_86 d_Mod_shadeRoots_28 ?_
      rw [hE.2 13 (by decide) 0, hd]
      refine g_icmp_ge (tgt := 87) h d_Mod_shadeRoots_31 (by decide) (fun c_31 => ?_) (fun c_31 => ?_)
      · exact g_vret h r d_Mod_shadeRoots_87 (⟨rfl, by rw [← he]; rfl⟩)
      · exact absurd (nI_le (by omega) (by omega)) c_31
    | succ c ih =>
      intro k M2 hk hE he
      refine g_iload_n h d_Mod_shadeRoots_26 rfl rfl ?_
      refine g_aload_n h d_Mod_shadeRoots_27 rfl rfl ?_
      refine gf_Mod_depth h f_Mod_86 d_Mod_shadeRoots_28 ?_
      rw [hE.2 13 (by decide) 0, hd]
      refine g_icmp_ge (tgt := 87) h d_Mod_shadeRoots_31 (by decide) (fun c_31 => ?_) (fun c_31 => ?_)
      · exact absurd c_31 (nI_ge (by omega) (by omega))
      · refine g_aload_n h d_Mod_shadeRoots_34 rfl rfl ?_
        refine g_ldc2 (v := 10000000000) h d_Mod_shadeRoots_35 k_Mod_72 ?_
        refine g_aload_n h d_Mod_shadeRoots_38 rfl rfl ?_
        refine gf_Mod_active h f_Mod_59 d_Mod_shadeRoots_39 ?_
        refine g_iload_n h d_Mod_shadeRoots_42 rfl rfl ?_
        refine gi_active h rfl (show k < 6 by omega) d_Mod_shadeRoots_43 ?_
        obtain ⟨n, hn, hA⟩ := hok.2.2.2.2 k (by omega)
        have hA2 : M2.1 12 k = nI n := (hE.2 12 (by decide) k).trans hA
        rw [hA2]
        refine g_i2l h d_Mod_shadeRoots_44 ?_
        refine g_ladd h d_Mod_shadeRoots_45 ?_
        refine g_dVv h tb_good (c_Mod_shade (okV_o hn)) (q := 0) (by decide) rfl rfl v_Mod_82 nm_Mod_shade rfl ⟨rfl, rfl, Nat.le_of_ble_eq_true rfl, Nat.le_of_ble_eq_true rfl, Nat.zero_le _, Nat.zero_le _⟩ rfl (Nat.le_of_ble_eq_true rfl) d_Mod_shadeRoots_46 ?_
        refine g_iconst (v := 0) h d_Mod_shadeRoots_49 (by decide) ?_
        refine g_istore_n h d_Mod_shadeRoots_50 rfl rfl (by rw [hN]; decide) ?_
        have loopC : ∀ (c3 r : Nat) (M3 : CS), r + c3 = 4 → eq5 M3 M → mshades (fun r => M.2.1 3 0 (n * 4 + r)) c3 r M3 = mshades (fun r => M.2.1 3 0 (n * 4 + r)) 4 0 (mshade M2 (10000000000 + (nI n).toInt64)) → G Γ 0 0 18 ad (mob ad u M3) 51 [some (.ref (ad 0)), some (.int (nI k)), some (.int (nI r))] [] := by
          intro c3
          induction c3 with
          | zero =>
            intro r M3 hr hE3 he3
            refine g_iload_n h d_Mod_shadeRoots_51 rfl rfl ?_
            refine g_iconst (v := 4) h d_Mod_shadeRoots_52 (by decide) ?_
            refine g_icmp_ge (tgt := 81) h d_Mod_shadeRoots_53 (by decide) (fun c_53 => ?_) (fun c_53 => ?_)
            · refine g_iinc (v := nI (k + 1)) h d_Mod_shadeRoots_81 rfl (by rw [nI_succ]; rfl) rfl (by rw [hN]; decide) ?_
              refine g_goto (tgt := 26) h d_Mod_shadeRoots_84 (by decide) ?_
              refine g_lessL (L' := [some (.ref (ad 0)), some (.int (nI (k + 1))), none]) (by simp [leL]) ?_
              refine ih (k + 1) M3 (by omega) hE3 ?_
              rw [show M3 = _ from he3, ← he]
              show _ = mroots c (k + 1) (mshades (fun r => M2.2.1 3 0 (mAct M2 k * 4 + r)) 4 0 (mshade M2 (10000000000 + (M2.1 12 k).toInt64)))
              unfold mAct
              rw [hA2, nI_clamp (show n < 2 ^ 31 by omega), hE.1]
            · exact absurd (nI_le (a := 4) (b := r) (by omega) (by omega)) c_53
          | succ c3 ih3 =>
            intro r M3 hr hE3 he3
            refine g_iload_n h d_Mod_shadeRoots_51 rfl rfl ?_
            refine g_iconst (v := 4) h d_Mod_shadeRoots_52 (by decide) ?_
            refine g_icmp_ge (tgt := 81) h d_Mod_shadeRoots_53 (by decide) (fun c_53 => ?_) (fun c_53 => ?_)
            · exact absurd c_53 (nI_ge (b := 4) (by omega) (by decide))
            · refine g_aload_n h d_Mod_shadeRoots_56 rfl rfl ?_
              refine g_aload_n h d_Mod_shadeRoots_57 rfl rfl ?_
              refine gf_Mod_registers h f_Mod_44 d_Mod_shadeRoots_58 ?_
              refine g_aload_n h d_Mod_shadeRoots_61 rfl rfl ?_
              refine gf_Mod_active h f_Mod_59 d_Mod_shadeRoots_62 ?_
              refine g_iload_n h d_Mod_shadeRoots_65 rfl rfl ?_
              refine gi_active h rfl (show k < 6 by omega) d_Mod_shadeRoots_66 ?_
              rw [hE3.2 12 (by decide) k, hA]
              refine g_iconst (v := 4) h d_Mod_shadeRoots_67 (by decide) ?_
              refine g_imul h d_Mod_shadeRoots_68 ?_
              refine g_iload_n h d_Mod_shadeRoots_69 rfl rfl ?_
              refine g_iadd h d_Mod_shadeRoots_70 ?_
              refine gj_registers h (nI_at4 n r) (by omega) d_Mod_shadeRoots_71 ?_
              rw [hE3.1]
              refine g_dVv h tb_good (c_Mod_shade (hok.2.1 3 _)) (q := 0) (by decide) rfl rfl v_Mod_82 nm_Mod_shade rfl ⟨rfl, rfl, Nat.le_of_ble_eq_true rfl, Nat.le_of_ble_eq_true rfl, Nat.zero_le _, Nat.zero_le _⟩ rfl (Nat.le_of_ble_eq_true rfl) d_Mod_shadeRoots_72 ?_
              refine g_iinc (v := nI (r + 1)) h d_Mod_shadeRoots_75 rfl (by rw [nI_succ]; rfl) rfl (by rw [hN]; decide) ?_
              refine g_goto (tgt := 51) h d_Mod_shadeRoots_78 (by decide) ?_
              exact ih3 (r + 1) _ (by omega) (eq5_shade hE3) he3
        exact loopC 4 0 _ (by omega) (eq5_shade hE) rfl
  have loopA : ∀ (c i : Nat) (M2 : CS), i + c = 6 → eq5 M2 M → mshades (M.2.1 0 0) c i M2 = mshades (M.2.1 0 0) 6 0 M → G Γ 0 0 18 ad (mob ad u M2) 2 [some (.ref (ad 0)), some (.int (nI i)), none] [] := by
    intro c
    induction c with
    | zero =>
      intro i M2 hi hE he
      refine g_iload_n h d_Mod_shadeRoots_2 rfl rfl ?_
      refine g_bipush (v := 6) h d_Mod_shadeRoots_3 (by decide) ?_
      refine g_icmp_ge (tgt := 24) h d_Mod_shadeRoots_5 (by decide) (fun c_5 => ?_) (fun c_5 => ?_)
      · refine g_iconst (v := 0) h d_Mod_shadeRoots_24 (by decide) ?_
        refine g_istore_n h d_Mod_shadeRoots_25 rfl rfl (by rw [hN]; decide) ?_
        exact loopB d 0 M2 (by omega) hE (by unfold mshadeRoots; rw [hdd, ← he]; rfl)
      · exact absurd (nI_le (a := 6) (b := i) (by omega) (by omega)) c_5
    | succ c ih =>
      intro i M2 hi hE he
      refine g_iload_n h d_Mod_shadeRoots_2 rfl rfl ?_
      refine g_bipush (v := 6) h d_Mod_shadeRoots_3 (by decide) ?_
      refine g_icmp_ge (tgt := 24) h d_Mod_shadeRoots_5 (by decide) (fun c_5 => ?_) (fun c_5 => ?_)
      · exact absurd c_5 (nI_ge (b := 6) (by omega) (by decide))
      · refine g_aload_n h d_Mod_shadeRoots_8 rfl rfl ?_
        refine g_aload_n h d_Mod_shadeRoots_9 rfl rfl ?_
        refine gf_Mod_globals h f_Mod_22 d_Mod_shadeRoots_10 ?_
        refine g_iload_n h d_Mod_shadeRoots_13 rfl rfl ?_
        refine gj_globals h rfl (by omega) d_Mod_shadeRoots_14 ?_
        rw [hE.1]
        refine g_dVv h tb_good (c_Mod_shade (hok.2.1 0 _)) (q := 0) (by decide) rfl rfl v_Mod_82 nm_Mod_shade rfl ⟨rfl, rfl, Nat.le_of_ble_eq_true rfl, Nat.le_of_ble_eq_true rfl, Nat.zero_le _, Nat.zero_le _⟩ rfl (Nat.le_of_ble_eq_true rfl) d_Mod_shadeRoots_15 ?_
        refine g_iinc (v := nI (i + 1)) h d_Mod_shadeRoots_18 rfl (by rw [nI_succ]; rfl) rfl (by rw [hN]; decide) ?_
        refine g_goto (tgt := 2) h d_Mod_shadeRoots_21 (by decide) ?_
        exact ih (i + 1) _ (by omega) (eq5_shade hE) he
  refine g_at (L' := [some (.ref (ad 0)), none, none]) rfl rfl rfl ?_
  refine g_iconst (v := 0) h d_Mod_shadeRoots_0 (by decide) ?_
  refine g_istore_n h d_Mod_shadeRoots_1 rfl rfl (by rw [hN]; decide) ?_
  exact loopA 6 0 M (by omega) (eq5_refl M) rfl
end

-- part 37.blackenM
section
set_option maxHeartbeats 4000000 in
set_option maxRecDepth 100000 in
theorem c_Mod_blacken {l : Launch} {D : va_G} {u : Nat → ClassId} {ad : Nat → Nat} {M : CS} {n : Nat} (hok : okM M) (hn : n < 16) : Cm l D u ad y_Mod_blacken b_Mod_blacken 3 none { frames := 2, cells := 0, slots := 0, locals := 45 } [.ref (ad 0), .int (nI n)] (M) (none) (mblacken M n) := by
  refine ct_of (by decide) (Nat.le_of_ble_eq_true rfl) ?_
  intro Γ _ _ hN h r
  obtain ⟨⟨P, hP, hp⟩, hmm, -⟩ := hok.1 n hn
  have hc := mSize_eq hp hP
  have loopA : ∀ (c i : Nat) (M2 : CS), i + c = 4 → eq5 M2 M → mob ad u (mshades (fun r => M.2.1 3 0 (n * 4 + r)) c i M2) = mob ad u (mblacken M n) → G Γ 0 0 18 ad (mob ad u M2) 19 [some (.ref (ad 0)), some (.int (nI n)), some (.int (nI i))] [] := by
    intro c
    induction c with
    | zero =>
      intro i M2 hi hE he
      refine g_iload_n h d_Mod_blacken_19 rfl rfl ?_
      refine g_iconst (v := 4) h d_Mod_blacken_20 (by decide) ?_
      refine g_icmp_ge (tgt := 44) h d_Mod_blacken_21 (by decide) (fun c_21 => ?_) (fun c_21 => ?_)
      · exact g_vret h r d_Mod_blacken_44 (⟨rfl, he⟩)
      · exact absurd (nI_le (a := 4) (b := i) (by omega) (by omega)) c_21
    | succ c ih =>
      intro i M2 hi hE he
      refine g_iload_n h d_Mod_blacken_19 rfl rfl ?_
      refine g_iconst (v := 4) h d_Mod_blacken_20 (by decide) ?_
      refine g_icmp_ge (tgt := 44) h d_Mod_blacken_21 (by decide) (fun c_21 => ?_) (fun c_21 => ?_)
      · exact absurd c_21 (nI_ge (b := 4) (by omega) (by decide))
      · refine g_aload_n h d_Mod_blacken_24 rfl rfl ?_
        refine g_aload_n h d_Mod_blacken_25 rfl rfl ?_
        refine gf_Mod_registers h f_Mod_44 d_Mod_blacken_26 ?_
        refine g_iload_n h d_Mod_blacken_29 rfl rfl ?_
        refine g_iconst (v := 4) h d_Mod_blacken_30 (by decide) ?_
        refine g_imul h d_Mod_blacken_31 ?_
        refine g_iload_n h d_Mod_blacken_32 rfl rfl ?_
        refine g_iadd h d_Mod_blacken_33 ?_
        refine gj_registers h (nI_at4 n i) (by omega) d_Mod_blacken_34 ?_
        rw [hE.1]
        refine g_dVv h tb_good (c_Mod_shade (hok.2.1 3 _)) (q := 0) (by decide) rfl rfl v_Mod_82 nm_Mod_shade rfl ⟨rfl, rfl, Nat.le_of_ble_eq_true rfl, Nat.le_of_ble_eq_true rfl, Nat.zero_le _, Nat.zero_le _⟩ rfl (Nat.le_of_ble_eq_true rfl) d_Mod_blacken_35 ?_
        refine g_iinc (v := nI (i + 1)) h d_Mod_blacken_38 rfl (by rw [nI_succ]; rfl) rfl (by rw [hN]; decide) ?_
        refine g_goto (tgt := 19) h d_Mod_blacken_41 (by decide) ?_
        exact ih (i + 1) _ (by omega) (eq5_shade hE) he
  have loopB : ∀ (c i : Nat) (M2 : CS), i + c = P → eq5 M2 M → mob ad u (mshadeKV (fun p => M.2.1 1 0 (n * 6 + p)) (fun p => M.2.1 2 0 (n * 6 + p)) c i M2) = mob ad u (mblacken M n) → G Γ 0 0 18 ad (mob ad u M2) 71 [some (.ref (ad 0)), some (.int (nI n)), some (.int (nI i))] [] := by
    intro c
    induction c with
    | zero =>
      intro i M2 hi hE he
      refine g_iload_n h d_Mod_blacken_71 rfl rfl ?_
      refine g_aload_n h d_Mod_blacken_72 rfl rfl ?_
      refine gf_Mod_size h f_Mod_32 d_Mod_blacken_73 ?_
      refine g_iload_n h d_Mod_blacken_76 rfl rfl ?_
      refine gi_size h rfl hn d_Mod_blacken_77 ?_
      rw [hE.2 6 (by decide) n, hp]
      refine g_icmp_ge (tgt := 117) h d_Mod_blacken_78 (by decide) (fun c_78 => ?_) (fun c_78 => ?_)
      · exact g_vret h r d_Mod_blacken_117 (⟨rfl, he⟩)
      · exact absurd (nI_le (by omega) (by omega)) c_78
    | succ c ih =>
      intro i M2 hi hE he
      refine g_iload_n h d_Mod_blacken_71 rfl rfl ?_
      refine g_aload_n h d_Mod_blacken_72 rfl rfl ?_
      refine gf_Mod_size h f_Mod_32 d_Mod_blacken_73 ?_
      refine g_iload_n h d_Mod_blacken_76 rfl rfl ?_
      refine gi_size h rfl hn d_Mod_blacken_77 ?_
      rw [hE.2 6 (by decide) n, hp]
      refine g_icmp_ge (tgt := 117) h d_Mod_blacken_78 (by decide) (fun c_78 => ?_) (fun c_78 => ?_)
      · exact absurd c_78 (nI_ge (by omega) (by omega))
      · refine g_aload_n h d_Mod_blacken_81 rfl rfl ?_
        refine g_aload_n h d_Mod_blacken_82 rfl rfl ?_
        refine gf_Mod_keys h f_Mod_38 d_Mod_blacken_83 ?_
        refine g_iload_n h d_Mod_blacken_86 rfl rfl ?_
        refine g_bipush (v := 6) h d_Mod_blacken_87 (by decide) ?_
        refine g_imul h d_Mod_blacken_89 ?_
        refine g_iload_n h d_Mod_blacken_90 rfl rfl ?_
        refine g_iadd h d_Mod_blacken_91 ?_
        refine gj_keys h (nI_at6 n i) (by omega) d_Mod_blacken_92 ?_
        rw [hE.1]
        refine g_dVv h tb_good (c_Mod_shade (hok.2.1 1 _)) (q := 0) (by decide) rfl rfl v_Mod_82 nm_Mod_shade rfl ⟨rfl, rfl, Nat.le_of_ble_eq_true rfl, Nat.le_of_ble_eq_true rfl, Nat.zero_le _, Nat.zero_le _⟩ rfl (Nat.le_of_ble_eq_true rfl) d_Mod_blacken_93 ?_
        refine g_aload_n h d_Mod_blacken_96 rfl rfl ?_
        refine g_aload_n h d_Mod_blacken_97 rfl rfl ?_
        refine gf_Mod_values h f_Mod_41 d_Mod_blacken_98 ?_
        refine g_iload_n h d_Mod_blacken_101 rfl rfl ?_
        refine g_bipush (v := 6) h d_Mod_blacken_102 (by decide) ?_
        refine g_imul h d_Mod_blacken_104 ?_
        refine g_iload_n h d_Mod_blacken_105 rfl rfl ?_
        refine g_iadd h d_Mod_blacken_106 ?_
        refine gj_values h (nI_at6 n i) (by omega) d_Mod_blacken_107 ?_
        rw [(eq5_shade hE).1]
        refine g_dVv h tb_good (c_Mod_shade (hok.2.1 2 _)) (q := 0) (by decide) rfl rfl v_Mod_82 nm_Mod_shade rfl ⟨rfl, rfl, Nat.le_of_ble_eq_true rfl, Nat.le_of_ble_eq_true rfl, Nat.zero_le _, Nat.zero_le _⟩ rfl (Nat.le_of_ble_eq_true rfl) d_Mod_blacken_108 ?_
        refine g_iinc (v := nI (i + 1)) h d_Mod_blacken_111 rfl (by rw [nI_succ]; rfl) rfl (by rw [hN]; decide) ?_
        refine g_goto (tgt := 71) h d_Mod_blacken_114 (by decide) ?_
        exact ih (i + 1) _ (by omega) (eq5_shade (eq5_shade hE)) he
  refine g_at (L' := [some (.ref (ad 0)), some (.int (nI n)), none]) rfl rfl rfl ?_
  refine g_aload_n h d_Mod_blacken_0 rfl rfl ?_
  refine gf_Mod_colour h f_Mod_29 d_Mod_blacken_1 ?_
  refine g_iload_n h d_Mod_blacken_4 rfl rfl ?_
  refine g_iconst (v := 2) h d_Mod_blacken_5 (by decide) ?_
  refine pi_colour h rfl hn d_Mod_blacken_6 ?_
  refine g_aload_n h d_Mod_blacken_7 rfl rfl ?_
  refine gf_Mod_kind h f_Mod_26 d_Mod_blacken_8 ?_
  refine g_iload_n h d_Mod_blacken_11 rfl rfl ?_
  refine gi_kind h rfl hn d_Mod_blacken_12 ?_
  rw [show (sI M 5 n 2).1 4 n = M.1 4 n from rfl]
  refine g_iconst (v := 2) h d_Mod_blacken_13 (by decide) ?_
  refine g_icmp_ne (tgt := 45) h d_Mod_blacken_14 (by decide) (fun c_14 => ?_) (fun c_14 => ?_)
  · refine g_aload_n h d_Mod_blacken_45 rfl rfl ?_
    refine gf_Mod_metaOf h f_Mod_35 d_Mod_blacken_46 ?_
    refine g_iload_n h d_Mod_blacken_49 rfl rfl ?_
    refine gi_metaOf h rfl hn d_Mod_blacken_50 ?_
    rw [show (sI M 5 n 2).1 7 n = M.1 7 n from rfl]
    refine g_if_lt (tgt := 69) h d_Mod_blacken_51 (by decide) (fun c_51 => ?_) (fun c_51 => ?_)
    · refine g_iconst (v := 0) h d_Mod_blacken_69 (by decide) ?_
      refine g_istore_n h d_Mod_blacken_70 rfl rfl (by rw [hN]; decide) ?_
      exact loopB P 0 _ (by omega) (eq5_sI (eq5_refl M)) (by simp [mblacken, c_14, c_51, hc])
    · rcases hmm with hm | ⟨m, hm, hm2⟩
      · exact absurd (by rw [hm]; decide) c_51
      · refine g_aload_n h d_Mod_blacken_54 rfl rfl ?_
        refine g_ldc2 (v := 10000000000) h d_Mod_blacken_55 k_Mod_72 ?_
        refine g_aload_n h d_Mod_blacken_58 rfl rfl ?_
        refine gf_Mod_metaOf h f_Mod_35 d_Mod_blacken_59 ?_
        refine g_iload_n h d_Mod_blacken_62 rfl rfl ?_
        refine gi_metaOf h rfl hn d_Mod_blacken_63 ?_
        rw [show (sI M 5 n 2).1 7 n = M.1 7 n from rfl]
        refine g_i2l h d_Mod_blacken_64 ?_
        refine g_ladd h d_Mod_blacken_65 ?_
        refine g_dVv h tb_good (c_Mod_shade (by rw [hm2]; exact okV_o hm)) (q := 0) (by decide) rfl rfl v_Mod_82 nm_Mod_shade rfl ⟨rfl, rfl, Nat.le_of_ble_eq_true rfl, Nat.le_of_ble_eq_true rfl, Nat.zero_le _, Nat.zero_le _⟩ rfl (Nat.le_of_ble_eq_true rfl) d_Mod_blacken_66 ?_
        refine g_iconst (v := 0) h d_Mod_blacken_69 (by decide) ?_
        refine g_istore_n h d_Mod_blacken_70 rfl rfl (by rw [hN]; decide) ?_
        exact loopB P 0 _ (by omega) (eq5_shade (eq5_sI (eq5_refl M))) (by simp [mblacken, c_14, c_51, hc])
  · refine g_iconst (v := 0) h d_Mod_blacken_17 (by decide) ?_
    refine g_istore_n h d_Mod_blacken_18 rfl rfl (by rw [hN]; decide) ?_
    exact loopA 4 0 _ (by omega) (eq5_sI (eq5_refl M)) (by simp [mblacken, c_14])
end

-- part 38.unitM
section
set_option maxHeartbeats 4000000 in
set_option maxRecDepth 100000 in
theorem c_Mod_unit {l : Launch} {D : va_G} {u : Nat → ClassId} {ad : Nat → Nat} {M : CS} (hok : okM M) : Cm l D u ad y_Mod_unit b_Mod_unit 3 (some .int) { frames := 3, cells := 0, slots := 0, locals := 67 } [.ref (ad 0)] (M) (some (.int (munit M).1)) ((munit M).2) := by
  refine ct_of (by decide) (Nat.le_of_ble_eq_true rfl) ?_
  intro Γ _ _ hN h r
  have hok1 : okM (sI M 19 0 (M.1 19 0 + 1)) := okM_keep (by decide) hok
  obtain ⟨i, hi, hk⟩ := hok.2.2.1
  have hcl : (nI i).toNatClampNeg = i := nI_clamp (by omega)
  refine g_at (L' := [some (.ref (ad 0)), none, none]) rfl rfl rfl ?_
  refine g_aload_n h d_Mod_unit_0 rfl rfl ?_
  refine g_dup h d_Mod_unit_1 rfl ?_
  refine gf_Mod_units h f_Mod_89 d_Mod_unit_2 ?_
  refine g_iconst (v := 1) h d_Mod_unit_5 (by decide) ?_
  refine g_iadd h d_Mod_unit_6 ?_
  refine pf_Mod_units h f_Mod_89 d_Mod_unit_7 ?_
  refine g_iconst (v := 0) h d_Mod_unit_10 (by decide) ?_
  refine g_istore_n h d_Mod_unit_11 rfl rfl (by rw [hN]; decide) ?_
  refine g_aload_n h d_Mod_unit_12 rfl rfl ?_
  refine gf_Mod_phase h f_Mod_92 d_Mod_unit_13 ?_
  simp only [sI_1, sI_2, sJ_1, sJ_2, sJ_3, sR_1, sR_2, sR_3, Nat.reduceEqDiff, Nat.zero_ne_one, Nat.one_ne_zero, Nat.succ_ne_zero, reduceCtorEq, false_and, if_false, true_and, and_self, if_true, and_true, and_false, reduceIte]
  refine g_if_ne (tgt := 31) h d_Mod_unit_16 (by decide) (fun c_16 => ?_) (fun c_16 => ?_)
  · refine g_aload_n h d_Mod_unit_31 rfl rfl ?_
    refine gf_Mod_phase h f_Mod_92 d_Mod_unit_32 ?_
    refine g_iconst (v := 1) h d_Mod_unit_35 (by decide) ?_
    simp only [sI_1, sI_2, sJ_1, sJ_2, sJ_3, sR_1, sR_2, sR_3, Nat.reduceEqDiff, Nat.zero_ne_one, Nat.one_ne_zero, Nat.succ_ne_zero, reduceCtorEq, false_and, if_false, true_and, and_self, if_true, and_true, and_false, reduceIte]
    refine g_icmp_ne (tgt := 84) h d_Mod_unit_36 (by decide) (fun c_36 => ?_) (fun c_36 => ?_)
    · refine g_aload_n h d_Mod_unit_84 rfl rfl ?_
      refine gf_Mod_kind h f_Mod_26 d_Mod_unit_85 ?_
      refine g_aload_n h d_Mod_unit_88 rfl rfl ?_
      refine gf_Mod_sweep h f_Mod_106 d_Mod_unit_89 ?_
      simp only [sI_1, sI_2, sJ_1, sJ_2, sJ_3, sR_1, sR_2, sR_3, Nat.reduceEqDiff, Nat.zero_ne_one, Nat.one_ne_zero, Nat.succ_ne_zero, reduceCtorEq, false_and, if_false, true_and, and_self, if_true, and_true, and_false, reduceIte, hk]
      refine gi_kind h rfl hi d_Mod_unit_92 ?_
      simp only [sI_1, sI_2, sJ_1, sJ_2, sJ_3, sR_1, sR_2, sR_3, Nat.reduceEqDiff, Nat.zero_ne_one, Nat.one_ne_zero, Nat.succ_ne_zero, reduceCtorEq, false_and, if_false, true_and, and_self, if_true, and_true, and_false, reduceIte]
      refine g_if_eq (tgt := 130) h d_Mod_unit_93 (by decide) (fun c_93 => ?_) (fun c_93 => ?_)
      · refine g_aload_n h d_Mod_unit_130 rfl rfl ?_
        refine gf_Mod_colour h f_Mod_29 d_Mod_unit_131 ?_
        refine g_aload_n h d_Mod_unit_134 rfl rfl ?_
        refine gf_Mod_sweep h f_Mod_106 d_Mod_unit_135 ?_
        simp only [sI_1, sI_2, sJ_1, sJ_2, sJ_3, sR_1, sR_2, sR_3, Nat.reduceEqDiff, Nat.zero_ne_one, Nat.one_ne_zero, Nat.succ_ne_zero, reduceCtorEq, false_and, if_false, true_and, and_self, if_true, and_true, and_false, reduceIte, hk]
        refine g_iconst (v := 0) h d_Mod_unit_138 (by decide) ?_
        refine pi_colour h rfl hi d_Mod_unit_139 ?_
        refine g_aload_n h d_Mod_unit_140 rfl rfl ?_
        refine g_dup h d_Mod_unit_141 rfl ?_
        refine gf_Mod_sweep h f_Mod_106 d_Mod_unit_142 ?_
        simp only [sI_1, sI_2, sJ_1, sJ_2, sJ_3, sR_1, sR_2, sR_3, Nat.reduceEqDiff, Nat.zero_ne_one, Nat.one_ne_zero, Nat.succ_ne_zero, reduceCtorEq, false_and, if_false, true_and, and_self, if_true, and_true, and_false, reduceIte, hk]
        refine g_iconst (v := 1) h d_Mod_unit_145 (by decide) ?_
        refine g_iadd h d_Mod_unit_146 ?_
        refine pf_Mod_sweep h f_Mod_106 d_Mod_unit_147 ?_
        refine g_aload_n h d_Mod_unit_150 rfl rfl ?_
        refine gf_Mod_sweep h f_Mod_106 d_Mod_unit_151 ?_
        try simp only [sI_1, sI_2, sJ_1, sJ_2, sJ_3, sR_1, sR_2, sR_3, Nat.reduceEqDiff, Nat.zero_ne_one, Nat.one_ne_zero, Nat.succ_ne_zero, reduceCtorEq, false_and, if_false, true_and, and_self, if_true, and_true, and_false, reduceIte, hk]
        refine g_bipush (v := 16) h d_Mod_unit_154 (by decide) ?_
        refine g_icmp_ne (tgt := 169) h d_Mod_unit_156 (by decide) (fun c_156 => ?_) (fun c_156 => ?_)
        · refine g_iload_n h d_Mod_unit_169 rfl rfl ?_
          exact g_iret h r d_Mod_unit_170 (⟨by first | (simp [munit, c_16]; done) | (simp [munit, c_16, c_36, hg]; done) | (simp [munit, c_16, c_36, hg, hg2]; done) | (simp [munit, c_16, c_36, hk, hcl, c_93]; done) | (simp [munit, c_16, c_36, hk, hcl, c_93, c_105]; done), by first | (simp [munit, c_16]; done) | (simp [munit, c_16, c_36, hg]; done) | (simp [munit, c_16, c_36, hg, hg2]; done) | (simp [munit, c_16, c_36, hk, hcl, c_93, c_156]; done) | (simp [munit, c_16, c_36, hk, hcl, c_93, c_105, c_156]; done)⟩)
        · refine g_aload_n h d_Mod_unit_159 rfl rfl ?_
          refine g_iconst (v := 0) h d_Mod_unit_160 (by decide) ?_
          refine pf_Mod_sweep h f_Mod_106 d_Mod_unit_161 ?_
          refine g_aload_n h d_Mod_unit_164 rfl rfl ?_
          refine g_iconst (v := 0) h d_Mod_unit_165 (by decide) ?_
          refine pf_Mod_phase h f_Mod_92 d_Mod_unit_166 ?_
          refine g_iload_n h d_Mod_unit_169 rfl rfl ?_
          exact g_iret h r d_Mod_unit_170 (⟨by first | (simp [munit, c_16]; done) | (simp [munit, c_16, c_36, hg]; done) | (simp [munit, c_16, c_36, hg, hg2]; done) | (simp [munit, c_16, c_36, hk, hcl, c_93]; done) | (simp [munit, c_16, c_36, hk, hcl, c_93, c_105]; done), by first | (simp [munit, c_16]; done) | (simp [munit, c_16, c_36, hg]; done) | (simp [munit, c_16, c_36, hg, hg2]; done) | (simp [munit, c_16, c_36, hk, hcl, c_93, c_156]; done) | (simp [munit, c_16, c_36, hk, hcl, c_93, c_105, c_156]; done)⟩)
      · refine g_aload_n h d_Mod_unit_96 rfl rfl ?_
        refine gf_Mod_colour h f_Mod_29 d_Mod_unit_97 ?_
        refine g_aload_n h d_Mod_unit_100 rfl rfl ?_
        refine gf_Mod_sweep h f_Mod_106 d_Mod_unit_101 ?_
        simp only [sI_1, sI_2, sJ_1, sJ_2, sJ_3, sR_1, sR_2, sR_3, Nat.reduceEqDiff, Nat.zero_ne_one, Nat.one_ne_zero, Nat.succ_ne_zero, reduceCtorEq, false_and, if_false, true_and, and_self, if_true, and_true, and_false, reduceIte, hk]
        refine gi_colour h rfl hi d_Mod_unit_104 ?_
        simp only [sI_1, sI_2, sJ_1, sJ_2, sJ_3, sR_1, sR_2, sR_3, Nat.reduceEqDiff, Nat.zero_ne_one, Nat.one_ne_zero, Nat.succ_ne_zero, reduceCtorEq, false_and, if_false, true_and, and_self, if_true, and_true, and_false, reduceIte]
        refine g_if_ne (tgt := 130) h d_Mod_unit_105 (by decide) (fun c_105 => ?_) (fun c_105 => ?_)
        · refine g_aload_n h d_Mod_unit_130 rfl rfl ?_
          refine gf_Mod_colour h f_Mod_29 d_Mod_unit_131 ?_
          refine g_aload_n h d_Mod_unit_134 rfl rfl ?_
          refine gf_Mod_sweep h f_Mod_106 d_Mod_unit_135 ?_
          simp only [sI_1, sI_2, sJ_1, sJ_2, sJ_3, sR_1, sR_2, sR_3, Nat.reduceEqDiff, Nat.zero_ne_one, Nat.one_ne_zero, Nat.succ_ne_zero, reduceCtorEq, false_and, if_false, true_and, and_self, if_true, and_true, and_false, reduceIte, hk]
          refine g_iconst (v := 0) h d_Mod_unit_138 (by decide) ?_
          refine pi_colour h rfl hi d_Mod_unit_139 ?_
          refine g_aload_n h d_Mod_unit_140 rfl rfl ?_
          refine g_dup h d_Mod_unit_141 rfl ?_
          refine gf_Mod_sweep h f_Mod_106 d_Mod_unit_142 ?_
          simp only [sI_1, sI_2, sJ_1, sJ_2, sJ_3, sR_1, sR_2, sR_3, Nat.reduceEqDiff, Nat.zero_ne_one, Nat.one_ne_zero, Nat.succ_ne_zero, reduceCtorEq, false_and, if_false, true_and, and_self, if_true, and_true, and_false, reduceIte, hk]
          refine g_iconst (v := 1) h d_Mod_unit_145 (by decide) ?_
          refine g_iadd h d_Mod_unit_146 ?_
          refine pf_Mod_sweep h f_Mod_106 d_Mod_unit_147 ?_
          refine g_aload_n h d_Mod_unit_150 rfl rfl ?_
          refine gf_Mod_sweep h f_Mod_106 d_Mod_unit_151 ?_
          try simp only [sI_1, sI_2, sJ_1, sJ_2, sJ_3, sR_1, sR_2, sR_3, Nat.reduceEqDiff, Nat.zero_ne_one, Nat.one_ne_zero, Nat.succ_ne_zero, reduceCtorEq, false_and, if_false, true_and, and_self, if_true, and_true, and_false, reduceIte, hk]
          refine g_bipush (v := 16) h d_Mod_unit_154 (by decide) ?_
          refine g_icmp_ne (tgt := 169) h d_Mod_unit_156 (by decide) (fun c_156 => ?_) (fun c_156 => ?_)
          · refine g_iload_n h d_Mod_unit_169 rfl rfl ?_
            exact g_iret h r d_Mod_unit_170 (⟨by first | (simp [munit, c_16]; done) | (simp [munit, c_16, c_36, hg]; done) | (simp [munit, c_16, c_36, hg, hg2]; done) | (simp [munit, c_16, c_36, hk, hcl, c_93]; done) | (simp [munit, c_16, c_36, hk, hcl, c_93, c_105]; done), by first | (simp [munit, c_16]; done) | (simp [munit, c_16, c_36, hg]; done) | (simp [munit, c_16, c_36, hg, hg2]; done) | (simp [munit, c_16, c_36, hk, hcl, c_93, c_156]; done) | (simp [munit, c_16, c_36, hk, hcl, c_93, c_105, c_156]; done)⟩)
          · refine g_aload_n h d_Mod_unit_159 rfl rfl ?_
            refine g_iconst (v := 0) h d_Mod_unit_160 (by decide) ?_
            refine pf_Mod_sweep h f_Mod_106 d_Mod_unit_161 ?_
            refine g_aload_n h d_Mod_unit_164 rfl rfl ?_
            refine g_iconst (v := 0) h d_Mod_unit_165 (by decide) ?_
            refine pf_Mod_phase h f_Mod_92 d_Mod_unit_166 ?_
            refine g_iload_n h d_Mod_unit_169 rfl rfl ?_
            exact g_iret h r d_Mod_unit_170 (⟨by first | (simp [munit, c_16]; done) | (simp [munit, c_16, c_36, hg]; done) | (simp [munit, c_16, c_36, hg, hg2]; done) | (simp [munit, c_16, c_36, hk, hcl, c_93]; done) | (simp [munit, c_16, c_36, hk, hcl, c_93, c_105]; done), by first | (simp [munit, c_16]; done) | (simp [munit, c_16, c_36, hg]; done) | (simp [munit, c_16, c_36, hg, hg2]; done) | (simp [munit, c_16, c_36, hk, hcl, c_93, c_156]; done) | (simp [munit, c_16, c_36, hk, hcl, c_93, c_105, c_156]; done)⟩)
        · refine g_aload_n h d_Mod_unit_108 rfl rfl ?_
          refine gf_Mod_kind h f_Mod_26 d_Mod_unit_109 ?_
          refine g_aload_n h d_Mod_unit_112 rfl rfl ?_
          refine gf_Mod_sweep h f_Mod_106 d_Mod_unit_113 ?_
          simp only [sI_1, sI_2, sJ_1, sJ_2, sJ_3, sR_1, sR_2, sR_3, Nat.reduceEqDiff, Nat.zero_ne_one, Nat.one_ne_zero, Nat.succ_ne_zero, reduceCtorEq, false_and, if_false, true_and, and_self, if_true, and_true, and_false, reduceIte, hk]
          refine g_iconst (v := 0) h d_Mod_unit_116 (by decide) ?_
          refine pi_kind h rfl hi d_Mod_unit_117 ?_
          refine g_aload_n h d_Mod_unit_118 rfl rfl ?_
          refine g_dup h d_Mod_unit_119 rfl ?_
          refine gf_Mod_gone h f_Mod_109 d_Mod_unit_120 ?_
          simp only [sI_1, sI_2, sJ_1, sJ_2, sJ_3, sR_1, sR_2, sR_3, Nat.reduceEqDiff, Nat.zero_ne_one, Nat.one_ne_zero, Nat.succ_ne_zero, reduceCtorEq, false_and, if_false, true_and, and_self, if_true, and_true, and_false, reduceIte]
          refine g_iconst (v := 1) h d_Mod_unit_123 (by decide) ?_
          refine g_iadd h d_Mod_unit_124 ?_
          refine pf_Mod_gone h f_Mod_109 d_Mod_unit_125 ?_
          refine g_iconst (v := 1) h d_Mod_unit_128 (by decide) ?_
          refine g_istore_n h d_Mod_unit_129 rfl rfl (by rw [hN]; decide) ?_
          refine g_aload_n h d_Mod_unit_130 rfl rfl ?_
          refine gf_Mod_colour h f_Mod_29 d_Mod_unit_131 ?_
          refine g_aload_n h d_Mod_unit_134 rfl rfl ?_
          refine gf_Mod_sweep h f_Mod_106 d_Mod_unit_135 ?_
          simp only [sI_1, sI_2, sJ_1, sJ_2, sJ_3, sR_1, sR_2, sR_3, Nat.reduceEqDiff, Nat.zero_ne_one, Nat.one_ne_zero, Nat.succ_ne_zero, reduceCtorEq, false_and, if_false, true_and, and_self, if_true, and_true, and_false, reduceIte, hk]
          refine g_iconst (v := 0) h d_Mod_unit_138 (by decide) ?_
          refine pi_colour h rfl hi d_Mod_unit_139 ?_
          refine g_aload_n h d_Mod_unit_140 rfl rfl ?_
          refine g_dup h d_Mod_unit_141 rfl ?_
          refine gf_Mod_sweep h f_Mod_106 d_Mod_unit_142 ?_
          simp only [sI_1, sI_2, sJ_1, sJ_2, sJ_3, sR_1, sR_2, sR_3, Nat.reduceEqDiff, Nat.zero_ne_one, Nat.one_ne_zero, Nat.succ_ne_zero, reduceCtorEq, false_and, if_false, true_and, and_self, if_true, and_true, and_false, reduceIte, hk]
          refine g_iconst (v := 1) h d_Mod_unit_145 (by decide) ?_
          refine g_iadd h d_Mod_unit_146 ?_
          refine pf_Mod_sweep h f_Mod_106 d_Mod_unit_147 ?_
          refine g_aload_n h d_Mod_unit_150 rfl rfl ?_
          refine gf_Mod_sweep h f_Mod_106 d_Mod_unit_151 ?_
          try simp only [sI_1, sI_2, sJ_1, sJ_2, sJ_3, sR_1, sR_2, sR_3, Nat.reduceEqDiff, Nat.zero_ne_one, Nat.one_ne_zero, Nat.succ_ne_zero, reduceCtorEq, false_and, if_false, true_and, and_self, if_true, and_true, and_false, reduceIte, hk]
          refine g_bipush (v := 16) h d_Mod_unit_154 (by decide) ?_
          refine g_icmp_ne (tgt := 169) h d_Mod_unit_156 (by decide) (fun c_156 => ?_) (fun c_156 => ?_)
          · refine g_iload_n h d_Mod_unit_169 rfl rfl ?_
            exact g_iret h r d_Mod_unit_170 (⟨by first | (simp [munit, c_16]; done) | (simp [munit, c_16, c_36, hg]; done) | (simp [munit, c_16, c_36, hg, hg2]; done) | (simp [munit, c_16, c_36, hk, hcl, c_93]; done) | (simp [munit, c_16, c_36, hk, hcl, c_93, c_105]; done), by first | (simp [munit, c_16]; done) | (simp [munit, c_16, c_36, hg]; done) | (simp [munit, c_16, c_36, hg, hg2]; done) | (simp [munit, c_16, c_36, hk, hcl, c_93, c_156]; done) | (simp [munit, c_16, c_36, hk, hcl, c_93, c_105, c_156]; done)⟩)
          · refine g_aload_n h d_Mod_unit_159 rfl rfl ?_
            refine g_iconst (v := 0) h d_Mod_unit_160 (by decide) ?_
            refine pf_Mod_sweep h f_Mod_106 d_Mod_unit_161 ?_
            refine g_aload_n h d_Mod_unit_164 rfl rfl ?_
            refine g_iconst (v := 0) h d_Mod_unit_165 (by decide) ?_
            refine pf_Mod_phase h f_Mod_92 d_Mod_unit_166 ?_
            refine g_iload_n h d_Mod_unit_169 rfl rfl ?_
            exact g_iret h r d_Mod_unit_170 (⟨by first | (simp [munit, c_16]; done) | (simp [munit, c_16, c_36, hg]; done) | (simp [munit, c_16, c_36, hg, hg2]; done) | (simp [munit, c_16, c_36, hk, hcl, c_93]; done) | (simp [munit, c_16, c_36, hk, hcl, c_93, c_105]; done), by first | (simp [munit, c_16]; done) | (simp [munit, c_16, c_36, hg]; done) | (simp [munit, c_16, c_36, hg, hg2]; done) | (simp [munit, c_16, c_36, hk, hcl, c_93, c_156]; done) | (simp [munit, c_16, c_36, hk, hcl, c_93, c_105, c_156]; done)⟩)
    · refine g_aload_n h d_Mod_unit_39 rfl rfl ?_
      refine g_dVi h tb_good (c_Mod_leastGray) (q := 0) (by decide) rfl rfl v_Mod_98 nm_Mod_leastGray rfl ⟨rfl, rfl, Nat.le_of_ble_eq_true rfl, Nat.le_of_ble_eq_true rfl, Nat.zero_le _, Nat.zero_le _⟩ rfl (Nat.le_of_ble_eq_true rfl) d_Mod_unit_40 ?_
      rcases hg : mgray (sI M 19 0 (M.1 19 0 + 1)) with _ | q <;> simp only [enc]
      · refine g_istore_n h d_Mod_unit_43 rfl rfl (by rw [hN]; decide) ?_
        refine g_iload_n h d_Mod_unit_44 rfl rfl ?_
        refine g_if_lt (tgt := 56) h d_Mod_unit_45 (by decide) (fun c_45 => ?_) (fun c_45 => ?_)
        · refine g_aload_n h d_Mod_unit_56 rfl rfl ?_
          refine g_dVv h tb_good (c_Mod_shadeRoots hok1) (q := 0) (by decide) rfl rfl v_Mod_95 nm_Mod_shadeRoots rfl ⟨rfl, rfl, Nat.le_of_ble_eq_true rfl, Nat.le_of_ble_eq_true rfl, Nat.zero_le _, Nat.zero_le _⟩ rfl (Nat.le_of_ble_eq_true rfl) d_Mod_unit_57 ?_
          refine g_iload_n h d_Mod_unit_60 rfl rfl ?_
          refine g_if_ge (tgt := 81) h d_Mod_unit_61 (by decide) (fun c_61 => ?_) (fun c_61 => ?_)
          · exact absurd c_61 (by decide)
          · refine g_aload_n h d_Mod_unit_64 rfl rfl ?_
            refine g_dVi h tb_good (c_Mod_leastGray) (q := 0) (by decide) rfl rfl v_Mod_98 nm_Mod_leastGray rfl ⟨rfl, rfl, Nat.le_of_ble_eq_true rfl, Nat.le_of_ble_eq_true rfl, Nat.zero_le _, Nat.zero_le _⟩ rfl (Nat.le_of_ble_eq_true rfl) d_Mod_unit_65 ?_
            rcases hg2 : mgray (mshadeRoots (sI M 19 0 (M.1 19 0 + 1))) with _ | q2 <;> simp only [enc]
            · refine g_if_ge (tgt := 81) h d_Mod_unit_68 (by decide) (fun c_68 => ?_) (fun c_68 => ?_)
              · exact absurd c_68 (by decide)
              · refine g_aload_n h d_Mod_unit_71 rfl rfl ?_
                refine g_iconst (v := 2) h d_Mod_unit_72 (by decide) ?_
                refine pf_Mod_phase h f_Mod_92 d_Mod_unit_73 ?_
                refine g_aload_n h d_Mod_unit_76 rfl rfl ?_
                refine g_iconst (v := 0) h d_Mod_unit_77 (by decide) ?_
                refine pf_Mod_sweep h f_Mod_106 d_Mod_unit_78 ?_
                refine g_goto (tgt := 169) h d_Mod_unit_81 (by decide) ?_
                refine g_iload_n h d_Mod_unit_169 rfl rfl ?_
                exact g_iret h r d_Mod_unit_170 (⟨by first | (simp [munit, c_16]; done) | (simp [munit, c_16, c_36, hg]; done) | (simp [munit, c_16, c_36, hg, hg2]; done) | (simp [munit, c_16, c_36, hk, hcl, c_93]; done) | (simp [munit, c_16, c_36, hk, hcl, c_93, c_105]; done), by first | (simp [munit, c_16]; done) | (simp [munit, c_16, c_36, hg]; done) | (simp [munit, c_16, c_36, hg, hg2]; done) | (simp [munit, c_16, c_36, hk, hcl, c_93, c_156]; done) | (simp [munit, c_16, c_36, hk, hcl, c_93, c_105, c_156]; done)⟩)
            · have hq2 := mgray_lt hg2
              refine g_if_ge (tgt := 81) h d_Mod_unit_68 (by decide) (fun c_68 => ?_) (fun c_68 => ?_)
              · refine g_goto (tgt := 169) h d_Mod_unit_81 (by decide) ?_
                refine g_iload_n h d_Mod_unit_169 rfl rfl ?_
                exact g_iret h r d_Mod_unit_170 (⟨by first | (simp [munit, c_16]; done) | (simp [munit, c_16, c_36, hg]; done) | (simp [munit, c_16, c_36, hg, hg2]; done) | (simp [munit, c_16, c_36, hk, hcl, c_93]; done) | (simp [munit, c_16, c_36, hk, hcl, c_93, c_105]; done), by first | (simp [munit, c_16]; done) | (simp [munit, c_16, c_36, hg]; done) | (simp [munit, c_16, c_36, hg, hg2]; done) | (simp [munit, c_16, c_36, hk, hcl, c_93, c_156]; done) | (simp [munit, c_16, c_36, hk, hcl, c_93, c_105, c_156]; done)⟩)
              · exact absurd (nI_pos' (by omega)) c_68
        · exact absurd (by decide) c_45
      · have hq := mgray_lt hg
        refine g_istore_n h d_Mod_unit_43 rfl rfl (by rw [hN]; decide) ?_
        refine g_iload_n h d_Mod_unit_44 rfl rfl ?_
        refine g_if_lt (tgt := 56) h d_Mod_unit_45 (by decide) (fun c_45 => ?_) (fun c_45 => ?_)
        · exact absurd c_45 (nI_pos (by omega))
        · refine g_aload_n h d_Mod_unit_48 rfl rfl ?_
          refine g_iload_n h d_Mod_unit_49 rfl rfl ?_
          refine g_dVv h tb_good (c_Mod_blacken hok1 hq) (q := 0) (by decide) rfl rfl v_Mod_102 nm_Mod_blacken rfl ⟨rfl, rfl, Nat.le_of_ble_eq_true rfl, Nat.le_of_ble_eq_true rfl, Nat.zero_le _, Nat.zero_le _⟩ rfl (Nat.le_of_ble_eq_true rfl) d_Mod_unit_50 ?_
          refine g_goto (tgt := 60) h d_Mod_unit_53 (by decide) ?_
          refine g_iload_n h d_Mod_unit_60 rfl rfl ?_
          refine g_if_ge (tgt := 81) h d_Mod_unit_61 (by decide) (fun c_61 => ?_) (fun c_61 => ?_)
          · refine g_goto (tgt := 169) h d_Mod_unit_81 (by decide) ?_
            refine g_iload_n h d_Mod_unit_169 rfl rfl ?_
            exact g_iret h r d_Mod_unit_170 (⟨by first | (simp [munit, c_16]; done) | (simp [munit, c_16, c_36, hg]; done) | (simp [munit, c_16, c_36, hg, hg2]; done) | (simp [munit, c_16, c_36, hk, hcl, c_93]; done) | (simp [munit, c_16, c_36, hk, hcl, c_93, c_105]; done), by first | (simp [munit, c_16]; done) | (simp [munit, c_16, c_36, hg]; done) | (simp [munit, c_16, c_36, hg, hg2]; done) | (simp [munit, c_16, c_36, hk, hcl, c_93, c_156]; done) | (simp [munit, c_16, c_36, hk, hcl, c_93, c_105, c_156]; done)⟩)
          · exact absurd (nI_pos' (by omega)) c_61
  · refine g_aload_n h d_Mod_unit_19 rfl rfl ?_
    refine g_dVv h tb_good (c_Mod_shadeRoots hok1) (q := 0) (by decide) rfl rfl v_Mod_95 nm_Mod_shadeRoots rfl ⟨rfl, rfl, Nat.le_of_ble_eq_true rfl, Nat.le_of_ble_eq_true rfl, Nat.zero_le _, Nat.zero_le _⟩ rfl (Nat.le_of_ble_eq_true rfl) d_Mod_unit_20 ?_
    refine g_aload_n h d_Mod_unit_23 rfl rfl ?_
    refine g_iconst (v := 1) h d_Mod_unit_24 (by decide) ?_
    refine pf_Mod_phase h f_Mod_92 d_Mod_unit_25 ?_
    refine g_goto (tgt := 169) h d_Mod_unit_28 (by decide) ?_
    refine g_iload_n h d_Mod_unit_169 rfl rfl ?_
    exact g_iret h r d_Mod_unit_170 (⟨by first | (simp [munit, c_16]; done) | (simp [munit, c_16, c_36, hg]; done) | (simp [munit, c_16, c_36, hg, hg2]; done) | (simp [munit, c_16, c_36, hk, hcl, c_93]; done) | (simp [munit, c_16, c_36, hk, hcl, c_93, c_105]; done), by first | (simp [munit, c_16]; done) | (simp [munit, c_16, c_36, hg]; done) | (simp [munit, c_16, c_36, hg, hg2]; done) | (simp [munit, c_16, c_36, hk, hcl, c_93, c_156]; done) | (simp [munit, c_16, c_36, hk, hcl, c_93, c_105, c_156]; done)⟩)
end

-- part 39.gettingM
section
set_option maxHeartbeats 4000000 in
set_option maxRecDepth 100000 in
theorem c_Mod_getting {l : Launch} {D : va_G} {u : Nat → ClassId} {ad : Nat → Nat} {M : CS} {n0 : Nat} {key : Int64} (hok : okM M) (hn0 : n0 < 16) : Cm l D u ad y_Mod_getting b_Mod_getting 7 (some .long) { frames := 3, cells := 0, slots := 0, locals := 70 } [.ref (ad 0), .int (nI n0), .long key] (M) (some (.long (mgetting M key 5 n0).1)) ((mgetting M key 5 n0).2) := by
  refine ct_of (by decide) (Nat.le_of_ble_eq_true rfl) ?_
  intro Γ _ _ hN h r
  have loop : ∀ (c k n : Nat), k + c = 5 → n < 16 → mgetting M key c n = mgetting M key 5 n0 → G Γ 0 0 18 ad (mob ad u M) 6 [some (.ref (ad 0)), none, some (.long key), none, some (.int (nI n)), some (.int (nI k)), none] [] := by
    intro c
    induction c with
    | zero =>
      intro k n hk hn he
      refine g_iload h d_Mod_getting_6 rfl ?_
      refine g_iconst (v := 5) h d_Mod_getting_8 (by decide) ?_
      refine g_icmp_ge (tgt := 76) h d_Mod_getting_9 (by decide) (fun c_9 => ?_) (fun c_9 => ?_)
      · refine g_aload_n h d_Mod_getting_76 rfl rfl ?_
        refine g_iconst (v := 2) h d_Mod_getting_77 (by decide) ?_
        refine pf_Mod_trouble h f_Mod_141 d_Mod_getting_78 ?_
        refine g_ldc2 (v := -1000000000000) h d_Mod_getting_81 k_Mod_62 ?_
        exact g_lret h r d_Mod_getting_84 (⟨by rw [← he]; rfl, by rw [← he]; rfl⟩)
      · exact absurd (nI_le (a := 5) (b := k) (by omega) (by omega)) c_9
    | succ c ih =>
      intro k n hk hn he
      refine g_iload h d_Mod_getting_6 rfl ?_
      refine g_iconst (v := 5) h d_Mod_getting_8 (by decide) ?_
      refine g_icmp_ge (tgt := 76) h d_Mod_getting_9 (by decide) (fun c_9 => ?_) (fun c_9 => ?_)
      · exact absurd c_9 (nI_ge (b := 5) (by omega) (by decide))
      · refine g_lload_n h d_Mod_getting_12 rfl rfl ?_
        refine g_ldc2 (v := -1000000000000) h d_Mod_getting_13 k_Mod_62 ?_
        refine g_lc_ne (tgt := 24) h d_Mod_getting_16 d_Mod_getting_17 (by decide) (fun c_17 => ?_) (fun c_17 => ?_)
        · refine g_aload_n h d_Mod_getting_24 rfl rfl ?_
          refine g_iload h d_Mod_getting_25 rfl ?_
          refine g_lload_n h d_Mod_getting_27 rfl rfl ?_
          obtain ⟨⟨P, hP, hp⟩, -⟩ := hok.1 n hn
          refine g_dVi h tb_good (c_Mod_pairOf hn hp hP) (q := 0) (by decide) rfl rfl v_Mod_131 nm_Mod_pairOf rfl ⟨rfl, rfl, Nat.le_of_ble_eq_true rfl, Nat.le_of_ble_eq_true rfl, Nat.zero_le _, Nat.zero_le _⟩ rfl (Nat.le_of_ble_eq_true rfl) d_Mod_getting_28 ?_
          rcases hf : mpair M n key with _ | q <;> simp only [enc]
          · refine g_istore h d_Mod_getting_31 rfl (by rw [hN]; decide) ?_
            refine g_iload h d_Mod_getting_33 rfl ?_
            refine g_if_lt (tgt := 52) h d_Mod_getting_35 (by decide) (fun c_35 => ?_) (fun c_35 => ?_)
            · refine g_aload_n h d_Mod_getting_52 rfl rfl ?_
              refine g_iload h d_Mod_getting_53 rfl ?_
              refine g_lconst (v := 0) h d_Mod_getting_55 (by decide) ?_
              refine g_dVi h tb_good (c_Mod_next hok hn) (q := 0) (by decide) rfl rfl v_Mod_138 nm_Mod_next rfl ⟨rfl, rfl, Nat.le_of_ble_eq_true rfl, Nat.le_of_ble_eq_true rfl, Nat.zero_le _, Nat.zero_le _⟩ rfl (Nat.le_of_ble_eq_true rfl) d_Mod_getting_56 ?_
              rcases hx : mnext M n 0 with _ | m <;> simp only [enc]
              · refine g_istore h d_Mod_getting_59 rfl (by rw [hN]; decide) ?_
                refine g_iload h d_Mod_getting_61 rfl ?_
                refine g_if_ge (tgt := 70) h d_Mod_getting_63 (by decide) (fun c_63 => ?_) (fun c_63 => ?_)
                · exact absurd c_63 (by decide)
                · refine g_ldc2 (v := -1000000000000) h d_Mod_getting_66 k_Mod_62 ?_
                  exact g_lret h r d_Mod_getting_69 (⟨by rw [← he]; first | (simp [mgetting, c_17]; done) | (simp [mgetting, c_17, hf]; done) | (simp [mgetting, c_17, hf, hx]; done), by rw [← he]; first | (simp [mgetting, c_17]; done) | (simp [mgetting, c_17, hf]; done) | (simp [mgetting, c_17, hf, hx]; done)⟩)
              · have hm := mnext_lt hok hx
                refine g_istore h d_Mod_getting_59 rfl (by rw [hN]; decide) ?_
                refine g_iload h d_Mod_getting_61 rfl ?_
                refine g_if_ge (tgt := 70) h d_Mod_getting_63 (by decide) (fun c_63 => ?_) (fun c_63 => ?_)
                · refine g_iinc (v := nI (k + 1)) h d_Mod_getting_70 rfl (by rw [nI_succ]; rfl) rfl (by rw [hN]; decide) ?_
                  refine g_goto (tgt := 6) h d_Mod_getting_73 (by decide) ?_
                  refine g_lessL (L' := [some (.ref (ad 0)), none, some (.long key), none, some (.int (nI m)), some (.int (nI (k + 1))), none]) (by simp [leL]) ?_
                  exact ih (k + 1) m (by omega) hm (by rw [← he]; simp [mgetting, c_17, hf, hx])
                · exact absurd (nI_pos' (by omega)) c_63
            · exact absurd (by decide) c_35
          · have hq := mpair_lt hp hP hf
            refine g_istore h d_Mod_getting_31 rfl (by rw [hN]; decide) ?_
            refine g_iload h d_Mod_getting_33 rfl ?_
            refine g_if_lt (tgt := 52) h d_Mod_getting_35 (by decide) (fun c_35 => ?_) (fun c_35 => ?_)
            · exact absurd c_35 (nI_pos (by omega))
            · refine g_aload_n h d_Mod_getting_38 rfl rfl ?_
              refine gf_Mod_values h f_Mod_41 d_Mod_getting_39 ?_
              refine g_iload h d_Mod_getting_42 rfl ?_
              refine g_bipush (v := 6) h d_Mod_getting_44 (by decide) ?_
              refine g_imul h d_Mod_getting_46 ?_
              refine g_iload h d_Mod_getting_47 rfl ?_
              refine g_iadd h d_Mod_getting_49 ?_
              refine gj_values h (nI_at6 n q) (by omega) d_Mod_getting_50 ?_
              exact g_lret h r d_Mod_getting_51 (⟨by rw [← he]; first | (simp [mgetting, c_17]; done) | (simp [mgetting, c_17, hf]; done) | (simp [mgetting, c_17, hf, hx]; done), by rw [← he]; first | (simp [mgetting, c_17]; done) | (simp [mgetting, c_17, hf]; done) | (simp [mgetting, c_17, hf, hx]; done)⟩)
        · refine g_ldc2 (v := -1000000000000) h d_Mod_getting_20 k_Mod_62 ?_
          exact g_lret h r d_Mod_getting_23 (⟨by rw [← he]; first | (simp [mgetting, c_17]; done) | (simp [mgetting, c_17, hf]; done) | (simp [mgetting, c_17, hf, hx]; done), by rw [← he]; first | (simp [mgetting, c_17]; done) | (simp [mgetting, c_17, hf]; done) | (simp [mgetting, c_17, hf, hx]; done)⟩)
  refine g_at (L' := [some (.ref (ad 0)), some (.int (nI n0)), some (.long key), none, none, none, none]) rfl rfl rfl ?_
  refine g_iload_n h d_Mod_getting_0 rfl rfl ?_
  refine g_istore h d_Mod_getting_1 rfl (by rw [hN]; decide) ?_
  refine g_iconst (v := 0) h d_Mod_getting_3 (by decide) ?_
  refine g_istore h d_Mod_getting_4 rfl (by rw [hN]; decide) ?_
  refine g_lessL (L' := [some (.ref (ad 0)), none, some (.long key), none, some (.int (nI n0)), some (.int (nI 0)), none]) (by simp [leL]; first | done | rfl) ?_
  exact loop 5 0 n0 (by omega) hn0 rfl
end

-- part 40.specM2
section
theorem nI_x6 (a : Nat) : nI a * 6 = nI (a * 6) := (Int32.ofNat_mul a 6).symm
theorem mtouch_1 {M : CS} {n f b : Nat} (h : f ≠ 5) : (mtouch M n).1 f b = M.1 f b := by
  unfold mtouch
  split
  · rw [sI_1, if_neg (fun z => h z.1)]
  · rfl
theorem mtouch_2 {M : CS} {n : Nat} : (mtouch M n).2 = M.2 := by
  unfold mtouch
  split <;> rfl
theorem mtouch_13 {M : CS} {n b : Nat} : (mtouch M n).1 13 b = M.1 13 b := mtouch_1 (by decide)
def mjoin (M : CS) (t m : Int64) : CS := match mOf M 1 t with
  | none => sI M 22 0 3
  | some n => if m = -1000000000000 then mtouch (sI M 7 n (-1)) n else match mOf M 1 m with
    | none => sI M 22 0 3
    | some j => mtouch (sI M 7 n (nI j)) n
def menter (M : CS) (v x : Int64) : CS := match mOf M 2 v with
  | none => sI M 22 0 3
  | some n => if 1 < M.1 10 n then sI M 22 0 3 else if M.1 13 0 = 5 then sI M 22 0 2 else
    sI (sI (sI (mtouch (sJ M 3 0 (n * 4 + (if M.1 10 n = 1 then (M.1 11 n).toNatClampNeg else 0)) x) n) 10 n 2) 12 (mDepth M) (nI n)) 13 0 (M.1 13 0 + 1)
def mcalc (M : CS) (op : Int32) (a : Nat) (b c : Int64) : CS := if (-2147483648 ≤ b ∧ b ≤ 2147483647) ∧ (-2147483648 ≤ c ∧ c ≤ 2147483647) then sJ M 3 0 a (if op = 8 then (b + c).toInt32.toInt64 else if op = 9 then (b - c).toInt32.toInt64 else (b * c).toInt32.toInt64) else sI M 22 0 3
def mfollow (M : CS) (n : Nat) (key : Int64) : Int64 × CS := if key = -1000000000000 then (if 0 < mSize M n then M.2.1 1 0 (n * 6) else -1000000000000, M) else match mpair M n key with
  | none => (-1000000000000, sI M 22 0 3)
  | some p => (if p + 1 < mSize M n then M.2.1 1 0 (n * 6 + p + 1) else -1000000000000, M)
def mjumps (op : Int32) (a b : Int64) : Prop := (op = 11 ∧ a < b) ∨ op = 12 ∨ (op = 13 ∧ a = -1000000000000) ∨ (op = 14 ∧ a = b)
def mjumpsM (M : CS) (op : Int32) (a b : Int64) : CS := if op = 11 ∧ ¬ ((-2147483648 ≤ a ∧ a ≤ 2147483647) ∧ (-2147483648 ≤ b ∧ b ≤ 2147483647)) then sI M 22 0 3 else M
def msetAt (M : CS) (key : Int64) : Nat → Nat → Option Nat
  | 0, _ => none
  | c + 1, n => if (mpair M n key).isSome = true then some n else match mnext M n 1 with
    | none => some n
    | some m => msetAt M key c m
theorem msetAt_lt {M : CS} {key : Int64} (hok : okM M) : ∀ (c n m : Nat), n < 16 → msetAt M key c n = some m → m < 16
  | 0, _, _, _, h => by cases h
  | c + 1, n, m, hn, h => by
    unfold msetAt at h
    split at h
    · cases h; exact hn
    · split at h
      · cases h; exact hn
      · rename_i j hj
        exact msetAt_lt hok c j m (mnext_lt hok hj) h
def mshift (n : Nat) : Nat → Nat → CS → CS
  | 0, _, M => M
  | c + 1, k, M => mshift n c (k + 1) (sJ (sJ M 1 0 (n * 6 + k) (M.2.1 1 0 (n * 6 + k + 1))) 2 0 (n * 6 + k) (M.2.1 2 0 (n * 6 + k + 1)))
def mset1 (M : CS) (n : Nat) (key v : Int64) : CS := match mpair M n key with
  | none => if v = -1000000000000 then M else if M.1 6 n = 6 then sI M 22 0 2 else mtouch (sI (sJ (sJ M 1 0 (n * 6 + mSize M n) key) 2 0 (n * 6 + mSize M n) v) 6 n (M.1 6 n + 1)) n
  | some p => if v = -1000000000000 then mtouch (mshift n (mSize M n - 1 - p) p (sI M 6 n (M.1 6 n - 1))) n else mtouch (sJ M 2 0 (n * 6 + p) v) n
def msetting (M : CS) (n0 : Nat) (key v : Int64) : CS := if key = -1000000000000 then sI M 22 0 3 else match msetAt M key 5 n0 with
  | none => sI M 22 0 2
  | some n => mset1 M n key v
end

-- part 41.joinM
section
set_option maxHeartbeats 4000000 in
set_option maxRecDepth 100000 in
theorem c_Mod_join {l : Launch} {D : va_G} {u : Nat → ClassId} {ad : Nat → Nat} {M : CS} {t m : Int64} (ht : okV t) (hm : okV m) : Cm l D u ad y_Mod_join b_Mod_join 6 none { frames := 2, cells := 0, slots := 0, locals := 45 } [.ref (ad 0), .long t, .long m] (M) (none) (mjoin M t m) := by
  refine ct_of (by decide) (Nat.le_of_ble_eq_true rfl) ?_
  intro Γ _ _ hN h r
  refine g_at (L' := [some (.ref (ad 0)), some (.long t), none, some (.long m), none, none]) rfl rfl rfl ?_
  refine g_aload_n h d_Mod_join_0 rfl rfl ?_
  refine g_lload_n h d_Mod_join_1 rfl rfl ?_
  refine g_dVi h tb_good (c_Mod_tableOf ht) (q := 0) (by decide) rfl rfl v_Mod_135 nm_Mod_tableOf rfl ⟨rfl, rfl, Nat.le_of_ble_eq_true rfl, Nat.le_of_ble_eq_true rfl, Nat.zero_le _, Nat.zero_le _⟩ rfl (Nat.le_of_ble_eq_true rfl) d_Mod_join_2 ?_
  rcases hf : mOf M 1 t with _ | n <;> simp only [enc]
  · refine g_istore h d_Mod_join_5 rfl (by rw [hN]; decide) ?_
    refine g_iload h d_Mod_join_7 rfl ?_
    refine g_if_lt (tgt := 28) h d_Mod_join_9 (by decide) (fun c_9 => ?_) (fun c_9 => ?_)
    · refine g_aload_n h d_Mod_join_28 rfl rfl ?_
      refine g_iconst (v := 3) h d_Mod_join_29 (by decide) ?_
      refine pf_Mod_trouble h f_Mod_141 d_Mod_join_30 ?_
      exact g_vret h r d_Mod_join_33 (⟨rfl, by first | (simp [mjoin, hf]; done) | (simp [mjoin, hf, c_17]; done) | (simp [mjoin, hf, c_17, hf2]; done)⟩)
    · exact absurd (by decide) c_9
  · have hn := mOf_lt ht hf
    refine g_istore h d_Mod_join_5 rfl (by rw [hN]; decide) ?_
    refine g_iload h d_Mod_join_7 rfl ?_
    refine g_if_lt (tgt := 28) h d_Mod_join_9 (by decide) (fun c_9 => ?_) (fun c_9 => ?_)
    · exact absurd c_9 (nI_pos (by omega))
    · refine g_lload_n h d_Mod_join_12 rfl rfl ?_
      refine g_ldc2 (v := -1000000000000) h d_Mod_join_13 k_Mod_62 ?_
      refine g_lc_eq (tgt := 34) h d_Mod_join_16 d_Mod_join_17 (by decide) (fun c_17 => ?_) (fun c_17 => ?_)
      · refine g_aload_n h d_Mod_join_34 rfl rfl ?_
        refine gf_Mod_metaOf h f_Mod_35 d_Mod_join_35 ?_
        refine g_iload h d_Mod_join_38 rfl ?_
        refine g_lload_n h d_Mod_join_40 rfl rfl ?_
        refine g_ldc2 (v := -1000000000000) h d_Mod_join_41 k_Mod_62 ?_
        refine g_lc_ne (tgt := 52) h d_Mod_join_44 d_Mod_join_45 (by decide) (fun c_45 => ?_) (fun c_45 => ?_)
        · exact absurd c_17 c_45
        · refine g_iconst (v := -1) h d_Mod_join_48 (by decide) ?_
          refine g_goto (tgt := 57) h d_Mod_join_49 (by decide) ?_
          refine pi_metaOf h rfl hn d_Mod_join_57 ?_
          refine g_aload_n h d_Mod_join_58 rfl rfl ?_
          refine g_iload h d_Mod_join_59 rfl ?_
          refine g_dVv h tb_good (c_Mod_touch hn) (q := 0) (by decide) rfl rfl v_Mod_144 nm_Mod_touch rfl ⟨rfl, rfl, Nat.le_of_ble_eq_true rfl, Nat.le_of_ble_eq_true rfl, Nat.zero_le _, Nat.zero_le _⟩ rfl (Nat.le_of_ble_eq_true rfl) d_Mod_join_61 ?_
          exact g_vret h r d_Mod_join_64 (⟨rfl, by first | (simp [mjoin, hf]; done) | (simp [mjoin, hf, c_17]; done) | (simp [mjoin, hf, c_17, hf2]; done)⟩)
      · skip
        · refine g_aload_n h d_Mod_join_20 rfl rfl ?_
          refine g_lload_n h d_Mod_join_21 rfl rfl ?_
          refine g_dVi h tb_good (c_Mod_tableOf hm) (q := 0) (by decide) rfl rfl v_Mod_135 nm_Mod_tableOf rfl ⟨rfl, rfl, Nat.le_of_ble_eq_true rfl, Nat.le_of_ble_eq_true rfl, Nat.zero_le _, Nat.zero_le _⟩ rfl (Nat.le_of_ble_eq_true rfl) d_Mod_join_22 ?_
          rcases hf2 : mOf M 1 m with _ | j <;> simp only [enc]
          · refine g_if_ge (tgt := 34) h d_Mod_join_25 (by decide) (fun c_25 => ?_) (fun c_25 => ?_)
            · exact absurd c_25 (by decide)
            · refine g_aload_n h d_Mod_join_28 rfl rfl ?_
              refine g_iconst (v := 3) h d_Mod_join_29 (by decide) ?_
              refine pf_Mod_trouble h f_Mod_141 d_Mod_join_30 ?_
              exact g_vret h r d_Mod_join_33 (⟨rfl, by first | (simp [mjoin, hf]; done) | (simp [mjoin, hf, c_17]; done) | (simp [mjoin, hf, c_17, hf2]; done)⟩)
          · have hj := mOf_lt hm hf2
            refine g_if_ge (tgt := 34) h d_Mod_join_25 (by decide) (fun c_25 => ?_) (fun c_25 => ?_)
            · refine g_aload_n h d_Mod_join_34 rfl rfl ?_
              refine gf_Mod_metaOf h f_Mod_35 d_Mod_join_35 ?_
              refine g_iload h d_Mod_join_38 rfl ?_
              refine g_lload_n h d_Mod_join_40 rfl rfl ?_
              refine g_ldc2 (v := -1000000000000) h d_Mod_join_41 k_Mod_62 ?_
              refine g_lc_ne (tgt := 52) h d_Mod_join_44 d_Mod_join_45 (by decide) (fun c_45 => ?_) (fun c_45 => ?_)
              · refine g_aload_n h d_Mod_join_52 rfl rfl ?_
                refine g_lload_n h d_Mod_join_53 rfl rfl ?_
                refine g_dVi h tb_good (c_Mod_tableOf hm) (q := 0) (by decide) rfl rfl v_Mod_135 nm_Mod_tableOf rfl ⟨rfl, rfl, Nat.le_of_ble_eq_true rfl, Nat.le_of_ble_eq_true rfl, Nat.zero_le _, Nat.zero_le _⟩ rfl (Nat.le_of_ble_eq_true rfl) d_Mod_join_54 ?_
                rw [hf2]
                simp only [enc]
                refine pi_metaOf h rfl hn d_Mod_join_57 ?_
                refine g_aload_n h d_Mod_join_58 rfl rfl ?_
                refine g_iload h d_Mod_join_59 rfl ?_
                refine g_dVv h tb_good (c_Mod_touch hn) (q := 0) (by decide) rfl rfl v_Mod_144 nm_Mod_touch rfl ⟨rfl, rfl, Nat.le_of_ble_eq_true rfl, Nat.le_of_ble_eq_true rfl, Nat.zero_le _, Nat.zero_le _⟩ rfl (Nat.le_of_ble_eq_true rfl) d_Mod_join_61 ?_
                exact g_vret h r d_Mod_join_64 (⟨rfl, by first | (simp [mjoin, hf]; done) | (simp [mjoin, hf, c_17]; done) | (simp [mjoin, hf, c_17, hf2]; done)⟩)
              · exact absurd c_45 c_17
            · exact absurd (nI_pos' (by omega)) c_25
end

-- part 42.enterM
section
set_option maxHeartbeats 4000000 in
set_option maxRecDepth 100000 in
theorem c_Mod_enter {l : Launch} {D : va_G} {u : Nat → ClassId} {ad : Nat → Nat} {M : CS} {v x : Int64} (hok : okM M) (hv : okV v) : Cm l D u ad y_Mod_enter b_Mod_enter 7 none { frames := 2, cells := 0, slots := 0, locals := 45 } [.ref (ad 0), .long v, .long x] (M) (none) (menter M v x) := by
  refine ct_of (by decide) (Nat.le_of_ble_eq_true rfl) ?_
  intro Γ _ _ hN h r
  obtain ⟨d, hd5, hd⟩ := hok.2.2.2.1
  have hdd : mDepth M = d := by unfold mDepth; rw [hd]; exact nI_clamp (by omega)
  refine g_at (L' := [some (.ref (ad 0)), some (.long v), none, some (.long x), none, none, none]) rfl rfl rfl ?_
  refine g_aload_n h d_Mod_enter_0 rfl rfl ?_
  refine g_lload_n h d_Mod_enter_1 rfl rfl ?_
  refine g_dVi h tb_good (c_Mod_coroutineOf hv) (q := 0) (by decide) rfl rfl v_Mod_159 nm_Mod_coroutineOf rfl ⟨rfl, rfl, Nat.le_of_ble_eq_true rfl, Nat.le_of_ble_eq_true rfl, Nat.zero_le _, Nat.zero_le _⟩ rfl (Nat.le_of_ble_eq_true rfl) d_Mod_enter_2 ?_
  rcases hf : mOf M 2 v with _ | n <;> simp only [enc]
  · refine g_istore h d_Mod_enter_5 rfl (by rw [hN]; decide) ?_
    refine g_iload h d_Mod_enter_7 rfl ?_
    refine g_if_lt (tgt := 23) h d_Mod_enter_9 (by decide) (fun c_9 => ?_) (fun c_9 => ?_)
    · refine g_aload_n h d_Mod_enter_23 rfl rfl ?_
      refine g_iconst (v := 3) h d_Mod_enter_24 (by decide) ?_
      refine pf_Mod_trouble h f_Mod_141 d_Mod_enter_25 ?_
      exact g_vret h r d_Mod_enter_28 (⟨rfl, by first | (simp [menter, hf]; done) | (simp [menter, hf, Int32.not_le.mp c_20]; done) | (simp [menter, hf, Int32.not_lt.mpr c_20, c_34]; done) | (simp [menter, hf, Int32.not_lt.mpr c_20, c_34, c_54, hdd, ha2, nI_clamp (show a < 2 ^ 31 by omega)]; done)⟩)
    · exact absurd (by decide) c_9
  · have hn := mOf_lt hv hf
    obtain ⟨a, ha, ha2⟩ := (hok.1 n hn).2.2.2
    refine g_istore h d_Mod_enter_5 rfl (by rw [hN]; decide) ?_
    refine g_iload h d_Mod_enter_7 rfl ?_
    refine g_if_lt (tgt := 23) h d_Mod_enter_9 (by decide) (fun c_9 => ?_) (fun c_9 => ?_)
    · exact absurd c_9 (nI_pos (by omega))
    · refine g_aload_n h d_Mod_enter_12 rfl rfl ?_
      refine gf_Mod_state h f_Mod_53 d_Mod_enter_13 ?_
      refine g_iload h d_Mod_enter_16 rfl ?_
      refine gi_state h rfl hn d_Mod_enter_18 ?_
      refine g_iconst (v := 1) h d_Mod_enter_19 (by decide) ?_
      refine g_icmp_le (tgt := 29) h d_Mod_enter_20 (by decide) (fun c_20 => ?_) (fun c_20 => ?_)
      · refine g_aload_n h d_Mod_enter_29 rfl rfl ?_
        refine gf_Mod_depth h f_Mod_86 d_Mod_enter_30 ?_
        refine g_iconst (v := 5) h d_Mod_enter_33 (by decide) ?_
        refine g_icmp_ne (tgt := 43) h d_Mod_enter_34 (by decide) (fun c_34 => ?_) (fun c_34 => ?_)
        · refine g_iconst (v := 0) h d_Mod_enter_43 (by decide) ?_
          refine g_istore h d_Mod_enter_44 rfl (by rw [hN]; decide) ?_
          refine g_aload_n h d_Mod_enter_46 rfl rfl ?_
          refine gf_Mod_state h f_Mod_53 d_Mod_enter_47 ?_
          refine g_iload h d_Mod_enter_50 rfl ?_
          refine gi_state h rfl hn d_Mod_enter_52 ?_
          refine g_iconst (v := 1) h d_Mod_enter_53 (by decide) ?_
          refine g_icmp_ne (tgt := 66) h d_Mod_enter_54 (by decide) (fun c_54 => ?_) (fun c_54 => ?_)
          · refine g_aload_n h d_Mod_enter_66 rfl rfl ?_
            refine gf_Mod_registers h f_Mod_44 d_Mod_enter_67 ?_
            refine g_iload h d_Mod_enter_70 rfl ?_
            refine g_iconst (v := 4) h d_Mod_enter_72 (by decide) ?_
            refine g_imul h d_Mod_enter_73 ?_
            refine g_iload h d_Mod_enter_74 rfl ?_
            refine g_iadd h d_Mod_enter_76 ?_
            refine g_lload_n h d_Mod_enter_77 rfl rfl ?_
            refine pj_registers h (nI_at4 n 0) (by omega) d_Mod_enter_78 ?_
            refine g_aload_n h d_Mod_enter_79 rfl rfl ?_
            refine g_iload h d_Mod_enter_80 rfl ?_
            refine g_dVv h tb_good (c_Mod_touch hn) (q := 0) (by decide) rfl rfl v_Mod_144 nm_Mod_touch rfl ⟨rfl, rfl, Nat.le_of_ble_eq_true rfl, Nat.le_of_ble_eq_true rfl, Nat.zero_le _, Nat.zero_le _⟩ rfl (Nat.le_of_ble_eq_true rfl) d_Mod_enter_82 ?_
            refine g_aload_n h d_Mod_enter_85 rfl rfl ?_
            refine gf_Mod_state h f_Mod_53 d_Mod_enter_86 ?_
            refine g_iload h d_Mod_enter_89 rfl ?_
            refine g_iconst (v := 2) h d_Mod_enter_91 (by decide) ?_
            refine pi_state h rfl hn d_Mod_enter_92 ?_
            refine g_aload_n h d_Mod_enter_93 rfl rfl ?_
            refine gf_Mod_active h f_Mod_59 d_Mod_enter_94 ?_
            refine g_aload_n h d_Mod_enter_97 rfl rfl ?_
            refine gf_Mod_depth h f_Mod_86 d_Mod_enter_98 ?_
            simp only [sI_1, sI_2, sJ_1, sJ_2, sJ_3, sR_1, sR_2, sR_3, Nat.reduceEqDiff, Nat.zero_ne_one, Nat.one_ne_zero, Nat.succ_ne_zero, reduceCtorEq, false_and, if_false, true_and, and_self, if_true, and_true, and_false, reduceIte, mtouch_13, hd]
            refine g_iload h d_Mod_enter_101 rfl ?_
            refine pi_active h rfl (show d < 6 by omega) d_Mod_enter_103 ?_
            refine g_aload_n h d_Mod_enter_104 rfl rfl ?_
            refine g_dup h d_Mod_enter_105 rfl ?_
            refine gf_Mod_depth h f_Mod_86 d_Mod_enter_106 ?_
            simp only [sI_1, sI_2, sJ_1, sJ_2, sJ_3, sR_1, sR_2, sR_3, Nat.reduceEqDiff, Nat.zero_ne_one, Nat.one_ne_zero, Nat.succ_ne_zero, reduceCtorEq, false_and, if_false, true_and, and_self, if_true, and_true, and_false, reduceIte, mtouch_13]
            refine g_iconst (v := 1) h d_Mod_enter_109 (by decide) ?_
            refine g_iadd h d_Mod_enter_110 ?_
            refine pf_Mod_depth h f_Mod_86 d_Mod_enter_111 ?_
            exact g_vret h r d_Mod_enter_114 (⟨rfl, by first | (simp [menter, hf]; done) | (simp [menter, hf, Int32.not_le.mp c_20]; done) | (simp [menter, hf, Int32.not_lt.mpr c_20, c_34]; done) | (simp [menter, hf, Int32.not_lt.mpr c_20, c_34, c_54, hdd, ha2, nI_clamp (show a < 2 ^ 31 by omega)]; done)⟩)
          · skip
            · refine g_aload_n h d_Mod_enter_57 rfl rfl ?_
              refine gf_Mod_waits h f_Mod_56 d_Mod_enter_58 ?_
              refine g_iload h d_Mod_enter_61 rfl ?_
              refine gi_waits h rfl hn d_Mod_enter_63 ?_
              rw [ha2]
              refine g_istore h d_Mod_enter_64 rfl (by rw [hN]; decide) ?_
              refine g_aload_n h d_Mod_enter_66 rfl rfl ?_
              refine gf_Mod_registers h f_Mod_44 d_Mod_enter_67 ?_
              refine g_iload h d_Mod_enter_70 rfl ?_
              refine g_iconst (v := 4) h d_Mod_enter_72 (by decide) ?_
              refine g_imul h d_Mod_enter_73 ?_
              refine g_iload h d_Mod_enter_74 rfl ?_
              refine g_iadd h d_Mod_enter_76 ?_
              refine g_lload_n h d_Mod_enter_77 rfl rfl ?_
              refine pj_registers h (nI_at4 n a) (by omega) d_Mod_enter_78 ?_
              refine g_aload_n h d_Mod_enter_79 rfl rfl ?_
              refine g_iload h d_Mod_enter_80 rfl ?_
              refine g_dVv h tb_good (c_Mod_touch hn) (q := 0) (by decide) rfl rfl v_Mod_144 nm_Mod_touch rfl ⟨rfl, rfl, Nat.le_of_ble_eq_true rfl, Nat.le_of_ble_eq_true rfl, Nat.zero_le _, Nat.zero_le _⟩ rfl (Nat.le_of_ble_eq_true rfl) d_Mod_enter_82 ?_
              refine g_aload_n h d_Mod_enter_85 rfl rfl ?_
              refine gf_Mod_state h f_Mod_53 d_Mod_enter_86 ?_
              refine g_iload h d_Mod_enter_89 rfl ?_
              refine g_iconst (v := 2) h d_Mod_enter_91 (by decide) ?_
              refine pi_state h rfl hn d_Mod_enter_92 ?_
              refine g_aload_n h d_Mod_enter_93 rfl rfl ?_
              refine gf_Mod_active h f_Mod_59 d_Mod_enter_94 ?_
              refine g_aload_n h d_Mod_enter_97 rfl rfl ?_
              refine gf_Mod_depth h f_Mod_86 d_Mod_enter_98 ?_
              simp only [sI_1, sI_2, sJ_1, sJ_2, sJ_3, sR_1, sR_2, sR_3, Nat.reduceEqDiff, Nat.zero_ne_one, Nat.one_ne_zero, Nat.succ_ne_zero, reduceCtorEq, false_and, if_false, true_and, and_self, if_true, and_true, and_false, reduceIte, mtouch_13, hd]
              refine g_iload h d_Mod_enter_101 rfl ?_
              refine pi_active h rfl (show d < 6 by omega) d_Mod_enter_103 ?_
              refine g_aload_n h d_Mod_enter_104 rfl rfl ?_
              refine g_dup h d_Mod_enter_105 rfl ?_
              refine gf_Mod_depth h f_Mod_86 d_Mod_enter_106 ?_
              simp only [sI_1, sI_2, sJ_1, sJ_2, sJ_3, sR_1, sR_2, sR_3, Nat.reduceEqDiff, Nat.zero_ne_one, Nat.one_ne_zero, Nat.succ_ne_zero, reduceCtorEq, false_and, if_false, true_and, and_self, if_true, and_true, and_false, reduceIte, mtouch_13]
              refine g_iconst (v := 1) h d_Mod_enter_109 (by decide) ?_
              refine g_iadd h d_Mod_enter_110 ?_
              refine pf_Mod_depth h f_Mod_86 d_Mod_enter_111 ?_
              exact g_vret h r d_Mod_enter_114 (⟨rfl, by first | (simp [menter, hf]; done) | (simp [menter, hf, Int32.not_le.mp c_20]; done) | (simp [menter, hf, Int32.not_lt.mpr c_20, c_34]; done) | (simp [menter, hf, Int32.not_lt.mpr c_20, c_34, c_54, hdd, ha2, nI_clamp (show a < 2 ^ 31 by omega)]; done)⟩)
        · refine g_aload_n h d_Mod_enter_37 rfl rfl ?_
          refine g_iconst (v := 2) h d_Mod_enter_38 (by decide) ?_
          refine pf_Mod_trouble h f_Mod_141 d_Mod_enter_39 ?_
          exact g_vret h r d_Mod_enter_42 (⟨rfl, by first | (simp [menter, hf]; done) | (simp [menter, hf, Int32.not_le.mp c_20]; done) | (simp [menter, hf, Int32.not_lt.mpr c_20, c_34]; done) | (simp [menter, hf, Int32.not_lt.mpr c_20, c_34, c_54, hdd, ha2, nI_clamp (show a < 2 ^ 31 by omega)]; done)⟩)
      · refine g_aload_n h d_Mod_enter_23 rfl rfl ?_
        refine g_iconst (v := 3) h d_Mod_enter_24 (by decide) ?_
        refine pf_Mod_trouble h f_Mod_141 d_Mod_enter_25 ?_
        exact g_vret h r d_Mod_enter_28 (⟨rfl, by first | (simp [menter, hf]; done) | (simp [menter, hf, Int32.not_le.mp c_20]; done) | (simp [menter, hf, Int32.not_lt.mpr c_20, c_34]; done) | (simp [menter, hf, Int32.not_lt.mpr c_20, c_34, c_54, hdd, ha2, nI_clamp (show a < 2 ^ 31 by omega)]; done)⟩)
end

-- part 43.smallM
section
set_option maxHeartbeats 4000000 in
set_option maxRecDepth 100000 in
theorem c_Mod_calculate {l : Launch} {D : va_G} {u : Nat → ClassId} {ad : Nat → Nat} {M : CS} {x op : Int32} {a : Nat} {b c : Int64} (ha : a < 64) : Cm l D u ad y_Mod_calculate b_Mod_calculate 8 none { frames := 1, cells := 0, slots := 0, locals := 22 } [.ref (ad 0), .int x, .int op, .int (nI a), .long b, .long c] (M) (none) (mcalc M op a b c) := by
  refine ct_of (by decide) (Nat.le_of_ble_eq_true rfl) ?_
  intro Γ _ _ hN h r
  refine g_at (L' := [some (.ref (ad 0)), some (.int x), some (.int op), some (.int (nI a)), some (.long b), none, some (.long c), none]) rfl rfl rfl ?_
  refine g_aload_n h d_Mod_calculate_0 rfl rfl ?_
  refine g_lload h d_Mod_calculate_1 rfl ?_
  refine g_dVi h tb_good (c_Mod_isNumber) (q := 0) (by decide) rfl rfl v_Mod_166 nm_Mod_isNumber rfl ⟨rfl, rfl, Nat.le_of_ble_eq_true rfl, Nat.le_of_ble_eq_true rfl, Nat.zero_le _, Nat.zero_le _⟩ rfl (Nat.le_of_ble_eq_true rfl) d_Mod_calculate_3 ?_
  by_cases hb : -2147483648 ≤ b ∧ b ≤ 2147483647
  · rw [if_pos hb]
    refine g_if_eq (tgt := 18) h d_Mod_calculate_6 (by decide) (fun c_6 => ?_) (fun c_6 => ?_)
    · exact absurd c_6 (by decide)
    · refine g_aload_n h d_Mod_calculate_9 rfl rfl ?_
      refine g_lload h d_Mod_calculate_10 rfl ?_
      refine g_dVi h tb_good (c_Mod_isNumber) (q := 0) (by decide) rfl rfl v_Mod_166 nm_Mod_isNumber rfl ⟨rfl, rfl, Nat.le_of_ble_eq_true rfl, Nat.le_of_ble_eq_true rfl, Nat.zero_le _, Nat.zero_le _⟩ rfl (Nat.le_of_ble_eq_true rfl) d_Mod_calculate_12 ?_
      by_cases hc : -2147483648 ≤ c ∧ c ≤ 2147483647
      · rw [if_pos hc]
        refine g_if_ne (tgt := 24) h d_Mod_calculate_15 (by decide) (fun c_15 => ?_) (fun c_15 => ?_)
        · refine g_aload_n h d_Mod_calculate_24 rfl rfl ?_
          refine gf_Mod_registers h f_Mod_44 d_Mod_calculate_25 ?_
          refine g_iload_n h d_Mod_calculate_28 rfl rfl ?_
          refine g_iload_n h d_Mod_calculate_29 rfl rfl ?_
          refine g_bipush (v := 8) h d_Mod_calculate_30 (by decide) ?_
          refine g_icmp_ne (tgt := 43) h d_Mod_calculate_32 (by decide) (fun c_32 => ?_) (fun c_32 => ?_)
          · refine g_iload_n h d_Mod_calculate_43 rfl rfl ?_
            refine g_bipush (v := 9) h d_Mod_calculate_44 (by decide) ?_
            refine g_icmp_ne (tgt := 57) h d_Mod_calculate_46 (by decide) (fun c_46 => ?_) (fun c_46 => ?_)
            · refine g_lload h d_Mod_calculate_57 rfl ?_
              refine g_lload h d_Mod_calculate_59 rfl ?_
              refine g_lmul h d_Mod_calculate_61 ?_
              refine g_l2i h d_Mod_calculate_62 ?_
              refine g_i2l h d_Mod_calculate_63 ?_
              refine pj_registers h rfl ha d_Mod_calculate_64 ?_
              exact g_vret h r d_Mod_calculate_65 (⟨rfl, by unfold mcalc; first | (rw [if_neg (fun z => hb z.1)]; done) | (rw [if_neg (fun z => hc z.2)]; done) | (rw [if_pos ⟨hb, hc⟩, if_pos c_32]; done) | (rw [if_pos ⟨hb, hc⟩, if_neg c_32, if_pos c_46]; done) | (rw [if_pos ⟨hb, hc⟩, if_neg c_32, if_neg c_46]; done)⟩)
            · refine g_lload h d_Mod_calculate_49 rfl ?_
              refine g_lload h d_Mod_calculate_51 rfl ?_
              refine g_lsub h d_Mod_calculate_53 ?_
              refine g_goto (tgt := 62) h d_Mod_calculate_54 (by decide) ?_
              refine g_l2i h d_Mod_calculate_62 ?_
              refine g_i2l h d_Mod_calculate_63 ?_
              refine pj_registers h rfl ha d_Mod_calculate_64 ?_
              exact g_vret h r d_Mod_calculate_65 (⟨rfl, by unfold mcalc; first | (rw [if_neg (fun z => hb z.1)]; done) | (rw [if_neg (fun z => hc z.2)]; done) | (rw [if_pos ⟨hb, hc⟩, if_pos c_32]; done) | (rw [if_pos ⟨hb, hc⟩, if_neg c_32, if_pos c_46]; done) | (rw [if_pos ⟨hb, hc⟩, if_neg c_32, if_neg c_46]; done)⟩)
          · refine g_lload h d_Mod_calculate_35 rfl ?_
            refine g_lload h d_Mod_calculate_37 rfl ?_
            refine g_ladd h d_Mod_calculate_39 ?_
            refine g_goto (tgt := 62) h d_Mod_calculate_40 (by decide) ?_
            refine g_l2i h d_Mod_calculate_62 ?_
            refine g_i2l h d_Mod_calculate_63 ?_
            refine pj_registers h rfl ha d_Mod_calculate_64 ?_
            exact g_vret h r d_Mod_calculate_65 (⟨rfl, by unfold mcalc; first | (rw [if_neg (fun z => hb z.1)]; done) | (rw [if_neg (fun z => hc z.2)]; done) | (rw [if_pos ⟨hb, hc⟩, if_pos c_32]; done) | (rw [if_pos ⟨hb, hc⟩, if_neg c_32, if_pos c_46]; done) | (rw [if_pos ⟨hb, hc⟩, if_neg c_32, if_neg c_46]; done)⟩)
        · exact absurd c_15 (by decide)
      · rw [if_neg hc]
        refine g_if_ne (tgt := 24) h d_Mod_calculate_15 (by decide) (fun c_15 => ?_) (fun c_15 => ?_)
        · exact absurd rfl c_15
        · refine g_aload_n h d_Mod_calculate_18 rfl rfl ?_
          refine g_iconst (v := 3) h d_Mod_calculate_19 (by decide) ?_
          refine pf_Mod_trouble h f_Mod_141 d_Mod_calculate_20 ?_
          exact g_vret h r d_Mod_calculate_23 (⟨rfl, by unfold mcalc; first | (rw [if_neg (fun z => hb z.1)]; done) | (rw [if_neg (fun z => hc z.2)]; done) | (rw [if_pos ⟨hb, hc⟩, if_pos c_32]; done) | (rw [if_pos ⟨hb, hc⟩, if_neg c_32, if_pos c_46]; done) | (rw [if_pos ⟨hb, hc⟩, if_neg c_32, if_neg c_46]; done)⟩)
  · rw [if_neg hb]
    refine g_if_eq (tgt := 18) h d_Mod_calculate_6 (by decide) (fun c_6 => ?_) (fun c_6 => ?_)
    · refine g_aload_n h d_Mod_calculate_18 rfl rfl ?_
      refine g_iconst (v := 3) h d_Mod_calculate_19 (by decide) ?_
      refine pf_Mod_trouble h f_Mod_141 d_Mod_calculate_20 ?_
      exact g_vret h r d_Mod_calculate_23 (⟨rfl, by unfold mcalc; first | (rw [if_neg (fun z => hb z.1)]; done) | (rw [if_neg (fun z => hc z.2)]; done) | (rw [if_pos ⟨hb, hc⟩, if_pos c_32]; done) | (rw [if_pos ⟨hb, hc⟩, if_neg c_32, if_pos c_46]; done) | (rw [if_pos ⟨hb, hc⟩, if_neg c_32, if_neg c_46]; done)⟩)
    · exact absurd rfl c_6
set_option maxHeartbeats 4000000 in
set_option maxRecDepth 100000 in
theorem c_Mod_following {l : Launch} {D : va_G} {u : Nat → ClassId} {ad : Nat → Nat} {M : CS} {n : Nat} {key : Int64} (hok : okM M) (hn : n < 16) : Cm l D u ad y_Mod_following b_Mod_following 5 (some .long) { frames := 1, cells := 0, slots := 0, locals := 24 } [.ref (ad 0), .int (nI n), .long key] (M) (some (.long (mfollow M n key).1)) ((mfollow M n key).2) := by
  refine ct_of (by decide) (Nat.le_of_ble_eq_true rfl) ?_
  intro Γ _ _ hN h r
  obtain ⟨⟨P, hP, hp⟩, -⟩ := hok.1 n hn
  have hc := mSize_eq hp hP
  refine g_at (L' := [some (.ref (ad 0)), some (.int (nI n)), some (.long key), none, none]) rfl rfl rfl ?_
  refine g_lload_n h d_Mod_following_0 rfl rfl ?_
  refine g_ldc2 (v := -1000000000000) h d_Mod_following_1 k_Mod_62 ?_
  refine g_lc_ne (tgt := 33) h d_Mod_following_4 d_Mod_following_5 (by decide) (fun c_5 => ?_) (fun c_5 => ?_)
  · refine g_aload_n h d_Mod_following_33 rfl rfl ?_
    refine g_iload_n h d_Mod_following_34 rfl rfl ?_
    refine g_lload_n h d_Mod_following_35 rfl rfl ?_
    refine g_dVi h tb_good (c_Mod_pairOf hn hp hP) (q := 0) (by decide) rfl rfl v_Mod_131 nm_Mod_pairOf rfl ⟨rfl, rfl, Nat.le_of_ble_eq_true rfl, Nat.le_of_ble_eq_true rfl, Nat.zero_le _, Nat.zero_le _⟩ rfl (Nat.le_of_ble_eq_true rfl) d_Mod_following_36 ?_
    rcases hf : mpair M n key with _ | q <;> simp only [enc]
    · refine g_istore h d_Mod_following_39 rfl (by rw [hN]; decide) ?_
      refine g_iload h d_Mod_following_41 rfl ?_
      refine g_if_ge (tgt := 51) h d_Mod_following_43 (by decide) (fun c_43 => ?_) (fun c_43 => ?_)
      · exact absurd c_43 (by decide)
      · refine g_aload_n h d_Mod_following_46 rfl rfl ?_
        refine g_iconst (v := 3) h d_Mod_following_47 (by decide) ?_
        refine pf_Mod_trouble h f_Mod_141 d_Mod_following_48 ?_
        refine g_iload h d_Mod_following_51 rfl ?_
        refine g_if_lt (tgt := 69) h d_Mod_following_53 (by decide) (fun c_53 => ?_) (fun c_53 => ?_)
        · refine g_ldc2 (v := -1000000000000) h d_Mod_following_69 k_Mod_62 ?_
          refine g_goto (tgt := 89) h d_Mod_following_72 (by decide) ?_
          exact g_lret h r d_Mod_following_89 (⟨by first | (simp [mfollow, c_5, hc, h0]; done) | (simp [mfollow, c_5, hf]; done) | (simp [mfollow, c_5, hf, hc, hl]; done), by first | (simp [mfollow, c_5, hc, h0]; done) | (simp [mfollow, c_5, hf]; done) | (simp [mfollow, c_5, hf, hc, hl]; done)⟩)
        · exact absurd (by decide) c_53
    · have hq := mpair_lt hp hP hf
      refine g_istore h d_Mod_following_39 rfl (by rw [hN]; decide) ?_
      refine g_iload h d_Mod_following_41 rfl ?_
      refine g_if_ge (tgt := 51) h d_Mod_following_43 (by decide) (fun c_43 => ?_) (fun c_43 => ?_)
      · refine g_iload h d_Mod_following_51 rfl ?_
        refine g_if_lt (tgt := 69) h d_Mod_following_53 (by decide) (fun c_53 => ?_) (fun c_53 => ?_)
        · exact absurd c_53 (nI_pos (by omega))
        · refine g_iload h d_Mod_following_56 rfl ?_
          refine g_iconst (v := 1) h d_Mod_following_58 (by decide) ?_
          refine g_iadd h d_Mod_following_59 ?_
          refine g_aload_n h d_Mod_following_60 rfl rfl ?_
          refine gf_Mod_size h f_Mod_32 d_Mod_following_61 ?_
          refine g_iload_n h d_Mod_following_64 rfl rfl ?_
          refine gi_size h rfl hn d_Mod_following_65 ?_
          rw [hp, nI_1]
          by_cases hl : q + 1 < P
          · refine g_icmp_lt (tgt := 75) h d_Mod_following_66 (by decide) (fun c_66 => ?_) (fun c_66 => ?_)
            · refine g_aload_n h d_Mod_following_75 rfl rfl ?_
              refine gf_Mod_keys h f_Mod_38 d_Mod_following_76 ?_
              refine g_iload_n h d_Mod_following_79 rfl rfl ?_
              refine g_bipush (v := 6) h d_Mod_following_80 (by decide) ?_
              refine g_imul h d_Mod_following_82 ?_
              refine g_iload h d_Mod_following_83 rfl ?_
              refine g_iadd h d_Mod_following_85 ?_
              refine g_iconst (v := 1) h d_Mod_following_86 (by decide) ?_
              refine g_iadd h d_Mod_following_87 ?_
              refine gj_keys h (j := n * 6 + q + 1) (by rw [nI_at6, nI_1]) (by omega) d_Mod_following_88 ?_
              exact g_lret h r d_Mod_following_89 (⟨by first | (simp [mfollow, c_5, hc, h0]; done) | (simp [mfollow, c_5, hf]; done) | (simp [mfollow, c_5, hf, hc, hl]; done), by first | (simp [mfollow, c_5, hc, h0]; done) | (simp [mfollow, c_5, hf]; done) | (simp [mfollow, c_5, hf, hc, hl]; done)⟩)
            · exact absurd (nI_lt hl (by omega)) c_66
          · refine g_icmp_lt (tgt := 75) h d_Mod_following_66 (by decide) (fun c_66 => ?_) (fun c_66 => ?_)
            · exact absurd c_66 (nI_nlt (by omega) (by omega))
            · refine g_ldc2 (v := -1000000000000) h d_Mod_following_69 k_Mod_62 ?_
              refine g_goto (tgt := 89) h d_Mod_following_72 (by decide) ?_
              exact g_lret h r d_Mod_following_89 (⟨by first | (simp [mfollow, c_5, hc, h0]; done) | (simp [mfollow, c_5, hf]; done) | (simp [mfollow, c_5, hf, hc, hl]; done), by first | (simp [mfollow, c_5, hc, h0]; done) | (simp [mfollow, c_5, hf]; done) | (simp [mfollow, c_5, hf, hc, hl]; done)⟩)
      · exact absurd (nI_pos' (by omega)) c_43
  · refine g_aload_n h d_Mod_following_8 rfl rfl ?_
    refine gf_Mod_size h f_Mod_32 d_Mod_following_9 ?_
    refine g_iload_n h d_Mod_following_12 rfl rfl ?_
    refine gi_size h rfl hn d_Mod_following_13 ?_
    rw [hp]
    rcases Nat.eq_zero_or_pos P with h0 | h0
    · refine g_if_le (tgt := 29) h d_Mod_following_14 (by decide) (fun c_14 => ?_) (fun c_14 => ?_)
      · refine g_ldc2 (v := -1000000000000) h d_Mod_following_29 k_Mod_62 ?_
        exact g_lret h r d_Mod_following_32 (⟨by first | (simp [mfollow, c_5, hc, h0]; done) | (simp [mfollow, c_5, hf]; done) | (simp [mfollow, c_5, hf, hc, hl]; done), by first | (simp [mfollow, c_5, hc, h0]; done) | (simp [mfollow, c_5, hf]; done) | (simp [mfollow, c_5, hf, hc, hl]; done)⟩)
      · exact absurd (by rw [h0]; decide) c_14
    · refine g_if_le (tgt := 29) h d_Mod_following_14 (by decide) (fun c_14 => ?_) (fun c_14 => ?_)
      · exact absurd c_14 (nI_nle h0 (by omega))
      · refine g_aload_n h d_Mod_following_17 rfl rfl ?_
        refine gf_Mod_keys h f_Mod_38 d_Mod_following_18 ?_
        refine g_iload_n h d_Mod_following_21 rfl rfl ?_
        refine g_bipush (v := 6) h d_Mod_following_22 (by decide) ?_
        refine g_imul h d_Mod_following_24 ?_
        refine gj_keys h (nI_x6 n) (by omega) d_Mod_following_25 ?_
        refine g_goto (tgt := 32) h d_Mod_following_26 (by decide) ?_
        exact g_lret h r d_Mod_following_32 (⟨by first | (simp [mfollow, c_5, hc, h0]; done) | (simp [mfollow, c_5, hf]; done) | (simp [mfollow, c_5, hf, hc, hl]; done), by first | (simp [mfollow, c_5, hc, h0]; done) | (simp [mfollow, c_5, hf]; done) | (simp [mfollow, c_5, hf, hc, hl]; done)⟩)
set_option maxHeartbeats 4000000 in
set_option maxRecDepth 100000 in
theorem c_Mod_jumps {l : Launch} {D : va_G} {u : Nat → ClassId} {ad : Nat → Nat} {M : CS} {op : Int32} {a b : Int64} : Cm l D u ad y_Mod_jumps b_Mod_jumps 6 (some .boolean) { frames := 1, cells := 0, slots := 0, locals := 22 } [.ref (ad 0), .int op, .long a, .long b] (M) (some (.int (if (op = 11 ∧ a < b) ∨ op = 12 ∨ (op = 13 ∧ a = -1000000000000) ∨ (op = 14 ∧ a = b) then 1 else 0))) (mjumpsM M op a b) := by
  refine ct_of (by decide) (Nat.le_of_ble_eq_true rfl) ?_
  intro Γ _ _ hN h r
  refine g_at (L' := [some (.ref (ad 0)), some (.int op), some (.long a), none, some (.long b), none]) rfl rfl rfl ?_
  refine g_iload_n h d_Mod_jumps_0 rfl rfl ?_
  refine g_bipush (v := 11) h d_Mod_jumps_1 (by decide) ?_
  refine g_icmp_ne (tgt := 41) h d_Mod_jumps_3 (by decide) (fun c_3 => ?_) (fun c_3 => ?_)
  · refine g_iload_n h d_Mod_jumps_41 rfl rfl ?_
    refine g_bipush (v := 12) h d_Mod_jumps_42 (by decide) ?_
    refine g_icmp_eq (tgt := 74) h d_Mod_jumps_44 (by decide) (fun c_44 => ?_) (fun c_44 => ?_)
    · refine g_iconst (v := 1) h d_Mod_jumps_74 (by decide) ?_
      refine g_goto (tgt := 79) h d_Mod_jumps_75 (by decide) ?_
      exact g_zret h r rfl d_Mod_jumps_79 (⟨by first | exact absurd (c_50.symm.trans c_64) (by decide) | (simp [c_3]; done) | (simp [c_3, c_44]; done) | (simp [c_3, c_50, c_58]; done) | (simp [c_3, c_44, c_50, c_64]; done) | (simp [c_3, c_44, c_50, c_64, c_71]; done) | (simp [c_3, c_44, c_50, c_58, c_64]; done) | (simp [c_3, c_44, c_50, c_58, c_64, c_71]; done), by simp [mjumpsM, c_3]⟩)
    · refine g_iload_n h d_Mod_jumps_47 rfl rfl ?_
      refine g_bipush (v := 13) h d_Mod_jumps_48 (by decide) ?_
      refine g_icmp_ne (tgt := 61) h d_Mod_jumps_50 (by decide) (fun c_50 => ?_) (fun c_50 => ?_)
      · refine g_iload_n h d_Mod_jumps_61 rfl rfl ?_
        refine g_bipush (v := 14) h d_Mod_jumps_62 (by decide) ?_
        refine g_icmp_ne (tgt := 78) h d_Mod_jumps_64 (by decide) (fun c_64 => ?_) (fun c_64 => ?_)
        · refine g_iconst (v := 0) h d_Mod_jumps_78 (by decide) ?_
          exact g_zret h r rfl d_Mod_jumps_79 (⟨by first | exact absurd (c_50.symm.trans c_64) (by decide) | (simp [c_3]; done) | (simp [c_3, c_44]; done) | (simp [c_3, c_50, c_58]; done) | (simp [c_3, c_44, c_50, c_64]; done) | (simp [c_3, c_44, c_50, c_64, c_71]; done) | (simp [c_3, c_44, c_50, c_58, c_64]; done) | (simp [c_3, c_44, c_50, c_58, c_64, c_71]; done), by simp [mjumpsM, c_3]⟩)
        · refine g_lload_n h d_Mod_jumps_67 rfl rfl ?_
          refine g_lload h d_Mod_jumps_68 rfl ?_
          refine g_lc_ne (tgt := 78) h d_Mod_jumps_70 d_Mod_jumps_71 (by decide) (fun c_71 => ?_) (fun c_71 => ?_)
          · refine g_iconst (v := 0) h d_Mod_jumps_78 (by decide) ?_
            exact g_zret h r rfl d_Mod_jumps_79 (⟨by first | exact absurd (c_50.symm.trans c_64) (by decide) | (simp [c_3]; done) | (simp [c_3, c_44]; done) | (simp [c_3, c_50, c_58]; done) | (simp [c_3, c_44, c_50, c_64]; done) | (simp [c_3, c_44, c_50, c_64, c_71]; done) | (simp [c_3, c_44, c_50, c_58, c_64]; done) | (simp [c_3, c_44, c_50, c_58, c_64, c_71]; done), by simp [mjumpsM, c_3]⟩)
          · refine g_iconst (v := 1) h d_Mod_jumps_74 (by decide) ?_
            refine g_goto (tgt := 79) h d_Mod_jumps_75 (by decide) ?_
            exact g_zret h r rfl d_Mod_jumps_79 (⟨by first | exact absurd (c_50.symm.trans c_64) (by decide) | (simp [c_3]; done) | (simp [c_3, c_44]; done) | (simp [c_3, c_50, c_58]; done) | (simp [c_3, c_44, c_50, c_64]; done) | (simp [c_3, c_44, c_50, c_64, c_71]; done) | (simp [c_3, c_44, c_50, c_58, c_64]; done) | (simp [c_3, c_44, c_50, c_58, c_64, c_71]; done), by simp [mjumpsM, c_3]⟩)
      · refine g_lload_n h d_Mod_jumps_53 rfl rfl ?_
        refine g_ldc2 (v := -1000000000000) h d_Mod_jumps_54 k_Mod_62 ?_
        refine g_lc_eq (tgt := 74) h d_Mod_jumps_57 d_Mod_jumps_58 (by decide) (fun c_58 => ?_) (fun c_58 => ?_)
        · refine g_iconst (v := 1) h d_Mod_jumps_74 (by decide) ?_
          refine g_goto (tgt := 79) h d_Mod_jumps_75 (by decide) ?_
          exact g_zret h r rfl d_Mod_jumps_79 (⟨by first | exact absurd (c_50.symm.trans c_64) (by decide) | (simp [c_3]; done) | (simp [c_3, c_44]; done) | (simp [c_3, c_50, c_58]; done) | (simp [c_3, c_44, c_50, c_64]; done) | (simp [c_3, c_44, c_50, c_64, c_71]; done) | (simp [c_3, c_44, c_50, c_58, c_64]; done) | (simp [c_3, c_44, c_50, c_58, c_64, c_71]; done), by simp [mjumpsM, c_3]⟩)
        · refine g_iload_n h d_Mod_jumps_61 rfl rfl ?_
          refine g_bipush (v := 14) h d_Mod_jumps_62 (by decide) ?_
          refine g_icmp_ne (tgt := 78) h d_Mod_jumps_64 (by decide) (fun c_64 => ?_) (fun c_64 => ?_)
          · refine g_iconst (v := 0) h d_Mod_jumps_78 (by decide) ?_
            exact g_zret h r rfl d_Mod_jumps_79 (⟨by first | exact absurd (c_50.symm.trans c_64) (by decide) | (simp [c_3]; done) | (simp [c_3, c_44]; done) | (simp [c_3, c_50, c_58]; done) | (simp [c_3, c_44, c_50, c_64]; done) | (simp [c_3, c_44, c_50, c_64, c_71]; done) | (simp [c_3, c_44, c_50, c_58, c_64]; done) | (simp [c_3, c_44, c_50, c_58, c_64, c_71]; done), by simp [mjumpsM, c_3]⟩)
          · refine g_lload_n h d_Mod_jumps_67 rfl rfl ?_
            refine g_lload h d_Mod_jumps_68 rfl ?_
            refine g_lc_ne (tgt := 78) h d_Mod_jumps_70 d_Mod_jumps_71 (by decide) (fun c_71 => ?_) (fun c_71 => ?_)
            · refine g_iconst (v := 0) h d_Mod_jumps_78 (by decide) ?_
              exact g_zret h r rfl d_Mod_jumps_79 (⟨by first | exact absurd (c_50.symm.trans c_64) (by decide) | (simp [c_3]; done) | (simp [c_3, c_44]; done) | (simp [c_3, c_50, c_58]; done) | (simp [c_3, c_44, c_50, c_64]; done) | (simp [c_3, c_44, c_50, c_64, c_71]; done) | (simp [c_3, c_44, c_50, c_58, c_64]; done) | (simp [c_3, c_44, c_50, c_58, c_64, c_71]; done), by simp [mjumpsM, c_3]⟩)
            · refine g_iconst (v := 1) h d_Mod_jumps_74 (by decide) ?_
              refine g_goto (tgt := 79) h d_Mod_jumps_75 (by decide) ?_
              exact g_zret h r rfl d_Mod_jumps_79 (⟨by first | exact absurd (c_50.symm.trans c_64) (by decide) | (simp [c_3]; done) | (simp [c_3, c_44]; done) | (simp [c_3, c_50, c_58]; done) | (simp [c_3, c_44, c_50, c_64]; done) | (simp [c_3, c_44, c_50, c_64, c_71]; done) | (simp [c_3, c_44, c_50, c_58, c_64]; done) | (simp [c_3, c_44, c_50, c_58, c_64, c_71]; done), by simp [mjumpsM, c_3]⟩)
  · refine g_aload_n h d_Mod_jumps_6 rfl rfl ?_
    refine g_lload_n h d_Mod_jumps_7 rfl rfl ?_
    refine g_dVi h tb_good (c_Mod_isNumber) (q := 0) (by decide) rfl rfl v_Mod_166 nm_Mod_isNumber rfl ⟨rfl, rfl, Nat.le_of_ble_eq_true rfl, Nat.le_of_ble_eq_true rfl, Nat.zero_le _, Nat.zero_le _⟩ rfl (Nat.le_of_ble_eq_true rfl) d_Mod_jumps_8 ?_
    by_cases hb : -2147483648 ≤ a ∧ a ≤ 2147483647
    · rw [if_pos hb]
      refine g_if_eq (tgt := 23) h d_Mod_jumps_11 (by decide) (fun c_11 => ?_) (fun c_11 => ?_)
      · exact absurd c_11 (by decide)
      · refine g_aload_n h d_Mod_jumps_14 rfl rfl ?_
        refine g_lload h d_Mod_jumps_15 rfl ?_
        refine g_dVi h tb_good (c_Mod_isNumber) (q := 0) (by decide) rfl rfl v_Mod_166 nm_Mod_isNumber rfl ⟨rfl, rfl, Nat.le_of_ble_eq_true rfl, Nat.le_of_ble_eq_true rfl, Nat.zero_le _, Nat.zero_le _⟩ rfl (Nat.le_of_ble_eq_true rfl) d_Mod_jumps_17 ?_
        by_cases hc : -2147483648 ≤ b ∧ b ≤ 2147483647
        · rw [if_pos hc]
          refine g_if_ne (tgt := 28) h d_Mod_jumps_20 (by decide) (fun c_20 => ?_) (fun c_20 => ?_)
          · refine g_lload_n h d_Mod_jumps_28 rfl rfl ?_
            refine g_lload h d_Mod_jumps_29 rfl ?_
            refine g_lc_ge (tgt := 39) h d_Mod_jumps_31 d_Mod_jumps_32 (by decide) (fun c_32 => ?_) (fun c_32 => ?_)
            · refine g_iconst (v := 0) h d_Mod_jumps_39 (by decide) ?_
              exact g_zret h r rfl d_Mod_jumps_40 (⟨by first | (rw [if_pos (Or.inl ⟨c_3, Int64.not_le.mp c_32⟩)]; done) | (rw [if_neg (fun z => by rcases z with z | z | z | z <;> first | exact absurd z.2 (Int64.not_lt.mpr c_32) | (rw [c_3] at z; exact absurd z (by decide)) | (rw [c_3] at z; exact absurd z.1 (by decide)))]; done), by unfold mjumpsM; first | (rw [if_pos ⟨c_3, fun z => hb z.1⟩]; done) | (rw [if_pos ⟨c_3, fun z => hc z.2⟩]; done) | (rw [if_neg (fun z => z.2 ⟨hb, hc⟩)]; done)⟩)
            · refine g_iconst (v := 1) h d_Mod_jumps_35 (by decide) ?_
              refine g_goto (tgt := 40) h d_Mod_jumps_36 (by decide) ?_
              exact g_zret h r rfl d_Mod_jumps_40 (⟨by first | (rw [if_pos (Or.inl ⟨c_3, Int64.not_le.mp c_32⟩)]; done) | (rw [if_neg (fun z => by rcases z with z | z | z | z <;> first | exact absurd z.2 (Int64.not_lt.mpr c_32) | (rw [c_3] at z; exact absurd z (by decide)) | (rw [c_3] at z; exact absurd z.1 (by decide)))]; done), by unfold mjumpsM; first | (rw [if_pos ⟨c_3, fun z => hb z.1⟩]; done) | (rw [if_pos ⟨c_3, fun z => hc z.2⟩]; done) | (rw [if_neg (fun z => z.2 ⟨hb, hc⟩)]; done)⟩)
          · exact absurd c_20 (by decide)
        · rw [if_neg hc]
          refine g_if_ne (tgt := 28) h d_Mod_jumps_20 (by decide) (fun c_20 => ?_) (fun c_20 => ?_)
          · exact absurd rfl c_20
          · refine g_aload_n h d_Mod_jumps_23 rfl rfl ?_
            refine g_iconst (v := 3) h d_Mod_jumps_24 (by decide) ?_
            refine pf_Mod_trouble h f_Mod_141 d_Mod_jumps_25 ?_
            refine g_lload_n h d_Mod_jumps_28 rfl rfl ?_
            refine g_lload h d_Mod_jumps_29 rfl ?_
            refine g_lc_ge (tgt := 39) h d_Mod_jumps_31 d_Mod_jumps_32 (by decide) (fun c_32 => ?_) (fun c_32 => ?_)
            · refine g_iconst (v := 0) h d_Mod_jumps_39 (by decide) ?_
              exact g_zret h r rfl d_Mod_jumps_40 (⟨by first | (rw [if_pos (Or.inl ⟨c_3, Int64.not_le.mp c_32⟩)]; done) | (rw [if_neg (fun z => by rcases z with z | z | z | z <;> first | exact absurd z.2 (Int64.not_lt.mpr c_32) | (rw [c_3] at z; exact absurd z (by decide)) | (rw [c_3] at z; exact absurd z.1 (by decide)))]; done), by unfold mjumpsM; first | (rw [if_pos ⟨c_3, fun z => hb z.1⟩]; done) | (rw [if_pos ⟨c_3, fun z => hc z.2⟩]; done) | (rw [if_neg (fun z => z.2 ⟨hb, hc⟩)]; done)⟩)
            · refine g_iconst (v := 1) h d_Mod_jumps_35 (by decide) ?_
              refine g_goto (tgt := 40) h d_Mod_jumps_36 (by decide) ?_
              exact g_zret h r rfl d_Mod_jumps_40 (⟨by first | (rw [if_pos (Or.inl ⟨c_3, Int64.not_le.mp c_32⟩)]; done) | (rw [if_neg (fun z => by rcases z with z | z | z | z <;> first | exact absurd z.2 (Int64.not_lt.mpr c_32) | (rw [c_3] at z; exact absurd z (by decide)) | (rw [c_3] at z; exact absurd z.1 (by decide)))]; done), by unfold mjumpsM; first | (rw [if_pos ⟨c_3, fun z => hb z.1⟩]; done) | (rw [if_pos ⟨c_3, fun z => hc z.2⟩]; done) | (rw [if_neg (fun z => z.2 ⟨hb, hc⟩)]; done)⟩)
    · rw [if_neg hb]
      refine g_if_eq (tgt := 23) h d_Mod_jumps_11 (by decide) (fun c_11 => ?_) (fun c_11 => ?_)
      · refine g_aload_n h d_Mod_jumps_23 rfl rfl ?_
        refine g_iconst (v := 3) h d_Mod_jumps_24 (by decide) ?_
        refine pf_Mod_trouble h f_Mod_141 d_Mod_jumps_25 ?_
        refine g_lload_n h d_Mod_jumps_28 rfl rfl ?_
        refine g_lload h d_Mod_jumps_29 rfl ?_
        refine g_lc_ge (tgt := 39) h d_Mod_jumps_31 d_Mod_jumps_32 (by decide) (fun c_32 => ?_) (fun c_32 => ?_)
        · refine g_iconst (v := 0) h d_Mod_jumps_39 (by decide) ?_
          exact g_zret h r rfl d_Mod_jumps_40 (⟨by first | (rw [if_pos (Or.inl ⟨c_3, Int64.not_le.mp c_32⟩)]; done) | (rw [if_neg (fun z => by rcases z with z | z | z | z <;> first | exact absurd z.2 (Int64.not_lt.mpr c_32) | (rw [c_3] at z; exact absurd z (by decide)) | (rw [c_3] at z; exact absurd z.1 (by decide)))]; done), by unfold mjumpsM; first | (rw [if_pos ⟨c_3, fun z => hb z.1⟩]; done) | (rw [if_pos ⟨c_3, fun z => hc z.2⟩]; done) | (rw [if_neg (fun z => z.2 ⟨hb, hc⟩)]; done)⟩)
        · refine g_iconst (v := 1) h d_Mod_jumps_35 (by decide) ?_
          refine g_goto (tgt := 40) h d_Mod_jumps_36 (by decide) ?_
          exact g_zret h r rfl d_Mod_jumps_40 (⟨by first | (rw [if_pos (Or.inl ⟨c_3, Int64.not_le.mp c_32⟩)]; done) | (rw [if_neg (fun z => by rcases z with z | z | z | z <;> first | exact absurd z.2 (Int64.not_lt.mpr c_32) | (rw [c_3] at z; exact absurd z (by decide)) | (rw [c_3] at z; exact absurd z.1 (by decide)))]; done), by unfold mjumpsM; first | (rw [if_pos ⟨c_3, fun z => hb z.1⟩]; done) | (rw [if_pos ⟨c_3, fun z => hc z.2⟩]; done) | (rw [if_neg (fun z => z.2 ⟨hb, hc⟩)]; done)⟩)
      · exact absurd rfl c_11
end

-- part 44.settingM
section
set_option maxHeartbeats 4000000 in
set_option maxRecDepth 100000 in
theorem c_Mod_setting {l : Launch} {D : va_G} {u : Nat → ClassId} {ad : Nat → Nat} {M : CS} {n0 : Nat} {key v : Int64} (hok : okM M) (hn0 : n0 < 16) : Cm l D u ad y_Mod_setting b_Mod_setting 10 none { frames := 3, cells := 0, slots := 0, locals := 70 } [.ref (ad 0), .int (nI n0), .long key, .long v] (M) (none) (msetting M n0 key v) := by
  refine ct_of (by decide) (Nat.le_of_ble_eq_true rfl) ?_
  intro Γ _ _ hN h r
  by_cases hkey : key = -1000000000000
  · refine g_at (L' := [some (.ref (ad 0)), some (.int (nI n0)), some (.long key), none, some (.long v), none, none, none, none, none]) rfl rfl rfl ?_
    refine g_lload_n h d_Mod_setting_0 rfl rfl ?_
    refine g_ldc2 (v := -1000000000000) h d_Mod_setting_1 k_Mod_62 ?_
    refine g_lc_ne (tgt := 14) h d_Mod_setting_4 d_Mod_setting_5 (by decide) (fun c_5 => ?_) (fun c_5 => ?_)
    · exact absurd hkey c_5
    · refine g_aload_n h d_Mod_setting_8 rfl rfl ?_
      refine g_iconst (v := 3) h d_Mod_setting_9 (by decide) ?_
      refine pf_Mod_trouble h f_Mod_141 d_Mod_setting_10 ?_
      exact g_vret h r d_Mod_setting_13 (⟨rfl, by simp [msetting, hkey]⟩)
  have one : ∀ n, n < 16 → msetAt M key 5 n0 = some n → ∀ tu : Int32, G Γ 0 0 18 ad (mob ad u M) 64 [some (.ref (ad 0)), none, some (.long key), none, some (.long v), none, some (.int (nI n)), some (.int tu), none, none] [] := by
    intro n hn hat tu
    have hres : msetting M n0 key v = mset1 M n key v := by simp [msetting, hkey, hat]
    rw [hres] at r
    obtain ⟨⟨P, hP, hp⟩, -⟩ := hok.1 n hn
    have hc := mSize_eq hp hP
    have loopS : ∀ (c k : Nat) (M2 : CS), k + c + 1 = P → M2.1 6 n = nI (P - 1) → mtouch (mshift n c k M2) n = mset1 M n key v → G Γ 0 0 18 ad (mob ad u M2) 103 [some (.ref (ad 0)), none, some (.long key), none, some (.long v), none, some (.int (nI n)), none, none, some (.int (nI k))] [] := by
      intro c
      induction c with
      | zero =>
        intro k M2 hk hs2 he
        refine g_iload h d_Mod_setting_103 rfl ?_
        refine g_aload_n h d_Mod_setting_105 rfl rfl ?_
        refine gf_Mod_size h f_Mod_32 d_Mod_setting_106 ?_
        refine g_iload h d_Mod_setting_109 rfl ?_
        refine gi_size h rfl hn d_Mod_setting_111 ?_
        rw [hs2]
        refine g_icmp_ge (tgt := 177) h d_Mod_setting_112 (by decide) (fun c_112 => ?_) (fun c_112 => ?_)
        · refine g_goto (tgt := 271) h d_Mod_setting_177 (by decide) ?_
          refine g_aload_n h d_Mod_setting_271 rfl rfl ?_
          refine g_iload h d_Mod_setting_272 rfl ?_
          refine g_dVv h tb_good (c_Mod_touch hn) (q := 0) (by decide) rfl rfl v_Mod_144 nm_Mod_touch rfl ⟨rfl, rfl, Nat.le_of_ble_eq_true rfl, Nat.le_of_ble_eq_true rfl, Nat.zero_le _, Nat.zero_le _⟩ rfl (Nat.le_of_ble_eq_true rfl) d_Mod_setting_274 ?_
          exact g_vret h r d_Mod_setting_277 (⟨rfl, by rw [← he]; rfl⟩)
        · exact absurd (nI_le (by omega) (by omega)) c_112
      | succ c ih =>
        intro k M2 hk hs2 he
        refine g_iload h d_Mod_setting_103 rfl ?_
        refine g_aload_n h d_Mod_setting_105 rfl rfl ?_
        refine gf_Mod_size h f_Mod_32 d_Mod_setting_106 ?_
        refine g_iload h d_Mod_setting_109 rfl ?_
        refine gi_size h rfl hn d_Mod_setting_111 ?_
        rw [hs2]
        refine g_icmp_ge (tgt := 177) h d_Mod_setting_112 (by decide) (fun c_112 => ?_) (fun c_112 => ?_)
        · exact absurd c_112 (nI_ge (by omega) (by omega))
        · refine g_aload_n h d_Mod_setting_115 rfl rfl ?_
          refine gf_Mod_keys h f_Mod_38 d_Mod_setting_116 ?_
          refine g_iload h d_Mod_setting_119 rfl ?_
          refine g_bipush (v := 6) h d_Mod_setting_121 (by decide) ?_
          refine g_imul h d_Mod_setting_123 ?_
          refine g_iload h d_Mod_setting_124 rfl ?_
          refine g_iadd h d_Mod_setting_126 ?_
          refine g_aload_n h d_Mod_setting_127 rfl rfl ?_
          refine gf_Mod_keys h f_Mod_38 d_Mod_setting_128 ?_
          refine g_iload h d_Mod_setting_131 rfl ?_
          refine g_bipush (v := 6) h d_Mod_setting_133 (by decide) ?_
          refine g_imul h d_Mod_setting_135 ?_
          refine g_iload h d_Mod_setting_136 rfl ?_
          refine g_iadd h d_Mod_setting_138 ?_
          refine g_iconst (v := 1) h d_Mod_setting_139 (by decide) ?_
          refine g_iadd h d_Mod_setting_140 ?_
          refine gj_keys h (j := n * 6 + k + 1) (by rw [nI_at6, nI_1]) (by omega) d_Mod_setting_141 ?_
          refine pj_keys h (nI_at6 n k) (by omega) d_Mod_setting_142 ?_
          refine g_aload_n h d_Mod_setting_143 rfl rfl ?_
          refine gf_Mod_values h f_Mod_41 d_Mod_setting_144 ?_
          refine g_iload h d_Mod_setting_147 rfl ?_
          refine g_bipush (v := 6) h d_Mod_setting_149 (by decide) ?_
          refine g_imul h d_Mod_setting_151 ?_
          refine g_iload h d_Mod_setting_152 rfl ?_
          refine g_iadd h d_Mod_setting_154 ?_
          refine g_aload_n h d_Mod_setting_155 rfl rfl ?_
          refine gf_Mod_values h f_Mod_41 d_Mod_setting_156 ?_
          refine g_iload h d_Mod_setting_159 rfl ?_
          refine g_bipush (v := 6) h d_Mod_setting_161 (by decide) ?_
          refine g_imul h d_Mod_setting_163 ?_
          refine g_iload h d_Mod_setting_164 rfl ?_
          refine g_iadd h d_Mod_setting_166 ?_
          refine g_iconst (v := 1) h d_Mod_setting_167 (by decide) ?_
          refine g_iadd h d_Mod_setting_168 ?_
          refine gj_values h (j := n * 6 + k + 1) (by rw [nI_at6, nI_1]) (by omega) d_Mod_setting_169 ?_
          rw [sJ_2, if_neg (fun z => absurd z.1 (by decide))]
          refine pj_values h (nI_at6 n k) (by omega) d_Mod_setting_170 ?_
          refine g_iinc (v := nI (k + 1)) h d_Mod_setting_171 rfl (by rw [nI_succ]; rfl) rfl (by rw [hN]; decide) ?_
          refine g_goto (tgt := 103) h d_Mod_setting_174 (by decide) ?_
          exact ih (k + 1) _ (by omega) hs2 he
    refine g_aload_n h d_Mod_setting_64 rfl rfl ?_
    refine g_iload h d_Mod_setting_65 rfl ?_
    refine g_lload_n h d_Mod_setting_67 rfl rfl ?_
    refine g_dVi h tb_good (c_Mod_pairOf hn hp hP) (q := 0) (by decide) rfl rfl v_Mod_131 nm_Mod_pairOf rfl ⟨rfl, rfl, Nat.le_of_ble_eq_true rfl, Nat.le_of_ble_eq_true rfl, Nat.zero_le _, Nat.zero_le _⟩ rfl (Nat.le_of_ble_eq_true rfl) d_Mod_setting_68 ?_
    rcases hf : mpair M n key with _ | q <;> simp only [enc]
    · refine g_istore h d_Mod_setting_71 rfl (by rw [hN]; decide) ?_
      refine g_lload h d_Mod_setting_73 rfl ?_
      refine g_ldc2 (v := -1000000000000) h d_Mod_setting_75 k_Mod_62 ?_
      refine g_lc_ne (tgt := 180) h d_Mod_setting_78 d_Mod_setting_79 (by decide) (fun c_79 => ?_) (fun c_79 => ?_)
      · refine g_iload h d_Mod_setting_180 rfl ?_
        refine g_if_lt (tgt := 203) h d_Mod_setting_182 (by decide) (fun c_182 => ?_) (fun c_182 => ?_)
        · refine g_aload_n h d_Mod_setting_203 rfl rfl ?_
          refine gf_Mod_size h f_Mod_32 d_Mod_setting_204 ?_
          refine g_iload h d_Mod_setting_207 rfl ?_
          refine gi_size h rfl hn d_Mod_setting_209 ?_
          refine g_bipush (v := 6) h d_Mod_setting_210 (by decide) ?_
          refine g_icmp_ne (tgt := 221) h d_Mod_setting_212 (by decide) (fun c_212 => ?_) (fun c_212 => ?_)
          · refine g_aload_n h d_Mod_setting_221 rfl rfl ?_
            refine gf_Mod_keys h f_Mod_38 d_Mod_setting_222 ?_
            refine g_iload h d_Mod_setting_225 rfl ?_
            refine g_bipush (v := 6) h d_Mod_setting_227 (by decide) ?_
            refine g_imul h d_Mod_setting_229 ?_
            refine g_aload_n h d_Mod_setting_230 rfl rfl ?_
            refine gf_Mod_size h f_Mod_32 d_Mod_setting_231 ?_
            refine g_iload h d_Mod_setting_234 rfl ?_
            refine gi_size h rfl hn d_Mod_setting_236 ?_
            have hP6 : P < 6 := by
              rcases Nat.lt_or_ge P 6 with z | z
              · exact z
              · exact absurd (by rw [hp, show P = 6 by omega]; rfl) c_212
            rw [hp]
            refine g_iadd h d_Mod_setting_237 ?_
            refine g_lload_n h d_Mod_setting_238 rfl rfl ?_
            refine pj_keys h (nI_at6 n P) (by omega) d_Mod_setting_239 ?_
            refine g_aload_n h d_Mod_setting_240 rfl rfl ?_
            refine gf_Mod_values h f_Mod_41 d_Mod_setting_241 ?_
            refine g_iload h d_Mod_setting_244 rfl ?_
            refine g_bipush (v := 6) h d_Mod_setting_246 (by decide) ?_
            refine g_imul h d_Mod_setting_248 ?_
            refine g_aload_n h d_Mod_setting_249 rfl rfl ?_
            refine gf_Mod_size h f_Mod_32 d_Mod_setting_250 ?_
            refine g_iload h d_Mod_setting_253 rfl ?_
            refine gi_size h rfl hn d_Mod_setting_255 ?_
            simp only [sI_1, sI_2, sJ_1, sJ_2, sJ_3, sR_1, sR_2, sR_3, Nat.reduceEqDiff, Nat.zero_ne_one, Nat.one_ne_zero, Nat.succ_ne_zero, reduceCtorEq, false_and, if_false, true_and, and_self, if_true, and_true, and_false, reduceIte, hp]
            refine g_iadd h d_Mod_setting_256 ?_
            refine g_lload h d_Mod_setting_257 rfl ?_
            refine pj_values h (nI_at6 n P) (by omega) d_Mod_setting_259 ?_
            refine g_aload_n h d_Mod_setting_260 rfl rfl ?_
            refine gf_Mod_size h f_Mod_32 d_Mod_setting_261 ?_
            refine g_iload h d_Mod_setting_264 rfl ?_
            refine g_dup2 h d_Mod_setting_266 rfl rfl ?_
            refine gi_size h rfl hn d_Mod_setting_267 ?_
            simp only [sI_1, sI_2, sJ_1, sJ_2, sJ_3, sR_1, sR_2, sR_3, Nat.reduceEqDiff, Nat.zero_ne_one, Nat.one_ne_zero, Nat.succ_ne_zero, reduceCtorEq, false_and, if_false, true_and, and_self, if_true, and_true, and_false, reduceIte]
            refine g_iconst (v := 1) h d_Mod_setting_268 (by decide) ?_
            refine g_iadd h d_Mod_setting_269 ?_
            refine pi_size h rfl hn d_Mod_setting_270 ?_
            refine g_aload_n h d_Mod_setting_271 rfl rfl ?_
            refine g_iload h d_Mod_setting_272 rfl ?_
            refine g_dVv h tb_good (c_Mod_touch hn) (q := 0) (by decide) rfl rfl v_Mod_144 nm_Mod_touch rfl ⟨rfl, rfl, Nat.le_of_ble_eq_true rfl, Nat.le_of_ble_eq_true rfl, Nat.zero_le _, Nat.zero_le _⟩ rfl (Nat.le_of_ble_eq_true rfl) d_Mod_setting_274 ?_
            exact g_vret h r d_Mod_setting_277 (⟨rfl, by first | (simp [mset1, hf, c_79]; done) | (simp [mset1, hf, c_79, c_212]; done) | (have c6 := c_212; rw [hp] at c6; simp [mset1, hf, c_79, c6, hc, hp]; done)⟩)
          · refine g_aload_n h d_Mod_setting_215 rfl rfl ?_
            refine g_iconst (v := 2) h d_Mod_setting_216 (by decide) ?_
            refine pf_Mod_trouble h f_Mod_141 d_Mod_setting_217 ?_
            exact g_vret h r d_Mod_setting_220 (⟨rfl, by first | (simp [mset1, hf, c_79]; done) | (simp [mset1, hf, c_79, c_212]; done) | (have c6 := c_212; rw [hp] at c6; simp [mset1, hf, c_79, c6, hc, hp]; done)⟩)
        · exact absurd (by decide) c_182
      · refine g_iload h d_Mod_setting_82 rfl ?_
        refine g_if_ge (tgt := 88) h d_Mod_setting_84 (by decide) (fun c_84 => ?_) (fun c_84 => ?_)
        · exact absurd c_84 (by decide)
        · exact g_vret h r d_Mod_setting_87 (⟨rfl, by first | (simp [mset1, hf, c_79]; done) | (simp [mset1, hf, c_79, c_212]; done) | (have c6 := c_212; rw [hp] at c6; simp [mset1, hf, c_79, c6, hc, hp]; done)⟩)
    · have hq := mpair_lt hp hP hf
      refine g_istore h d_Mod_setting_71 rfl (by rw [hN]; decide) ?_
      refine g_lload h d_Mod_setting_73 rfl ?_
      refine g_ldc2 (v := -1000000000000) h d_Mod_setting_75 k_Mod_62 ?_
      refine g_lc_ne (tgt := 180) h d_Mod_setting_78 d_Mod_setting_79 (by decide) (fun c_79 => ?_) (fun c_79 => ?_)
      · refine g_iload h d_Mod_setting_180 rfl ?_
        refine g_if_lt (tgt := 203) h d_Mod_setting_182 (by decide) (fun c_182 => ?_) (fun c_182 => ?_)
        · exact absurd c_182 (nI_pos (by omega))
        · refine g_aload_n h d_Mod_setting_185 rfl rfl ?_
          refine gf_Mod_values h f_Mod_41 d_Mod_setting_186 ?_
          refine g_iload h d_Mod_setting_189 rfl ?_
          refine g_bipush (v := 6) h d_Mod_setting_191 (by decide) ?_
          refine g_imul h d_Mod_setting_193 ?_
          refine g_iload h d_Mod_setting_194 rfl ?_
          refine g_iadd h d_Mod_setting_196 ?_
          refine g_lload h d_Mod_setting_197 rfl ?_
          refine pj_values h (nI_at6 n q) (by omega) d_Mod_setting_199 ?_
          refine g_goto (tgt := 271) h d_Mod_setting_200 (by decide) ?_
          refine g_aload_n h d_Mod_setting_271 rfl rfl ?_
          refine g_iload h d_Mod_setting_272 rfl ?_
          refine g_dVv h tb_good (c_Mod_touch hn) (q := 0) (by decide) rfl rfl v_Mod_144 nm_Mod_touch rfl ⟨rfl, rfl, Nat.le_of_ble_eq_true rfl, Nat.le_of_ble_eq_true rfl, Nat.zero_le _, Nat.zero_le _⟩ rfl (Nat.le_of_ble_eq_true rfl) d_Mod_setting_274 ?_
          exact g_vret h r d_Mod_setting_277 (⟨rfl, by first | (simp [mset1, hf, c_79]; done) | (simp [mset1, hf, c_79, c_212]; done) | (have c6 := c_212; rw [hp] at c6; simp [mset1, hf, c_79, c6, hc, hp]; done)⟩)
      · refine g_iload h d_Mod_setting_82 rfl ?_
        refine g_if_ge (tgt := 88) h d_Mod_setting_84 (by decide) (fun c_84 => ?_) (fun c_84 => ?_)
        · refine g_aload_n h d_Mod_setting_88 rfl rfl ?_
          refine gf_Mod_size h f_Mod_32 d_Mod_setting_89 ?_
          refine g_iload h d_Mod_setting_92 rfl ?_
          refine g_dup2 h d_Mod_setting_94 rfl rfl ?_
          refine gi_size h rfl hn d_Mod_setting_95 ?_
          rw [hp]
          refine g_iconst (v := 1) h d_Mod_setting_96 (by decide) ?_
          refine g_isub h d_Mod_setting_97 ?_
          refine pi_size h rfl hn d_Mod_setting_98 ?_
          refine g_iload h d_Mod_setting_99 rfl ?_
          refine g_istore h d_Mod_setting_101 rfl (by rw [hN]; decide) ?_
          refine g_lessL (L' := [some (.ref (ad 0)), none, some (.long key), none, some (.long v), none, some (.int (nI n)), none, none, some (.int (nI q))]) (by simp [leL]) ?_
          refine loopS (P - 1 - q) q _ (by omega) ?_ ?_
          · simp only [sI_1, sI_2, sJ_1, sJ_2, sJ_3, sR_1, sR_2, sR_3, Nat.reduceEqDiff, Nat.zero_ne_one, Nat.one_ne_zero, Nat.succ_ne_zero, reduceCtorEq, false_and, if_false, true_and, and_self, if_true, and_true, and_false, reduceIte]
            rw [show P = (P - 1) + 1 by omega, nI_pred]
            rfl
          · simp [mset1, hf, c_79, hc, hp]
        · exact absurd (nI_pos' (by omega)) c_84
  have loop : ∀ (c k n : Nat), k + c = 5 → n < 16 → msetAt M key (c + 1) n = msetAt M key 5 n0 → G Γ 0 0 18 ad (mob ad u M) 20 [some (.ref (ad 0)), none, some (.long key), none, some (.long v), none, some (.int (nI n)), some (.int (nI k)), none, none] [] := by
    intro c
    induction c with
    | zero =>
      intro k n hk hn he
      obtain ⟨⟨P, hP, hp⟩, -⟩ := hok.1 n hn
      refine g_aload_n h d_Mod_setting_20 rfl rfl ?_
      refine g_iload h d_Mod_setting_21 rfl ?_
      refine g_lload_n h d_Mod_setting_23 rfl rfl ?_
      refine g_dVi h tb_good (c_Mod_pairOf hn hp hP) (q := 0) (by decide) rfl rfl v_Mod_131 nm_Mod_pairOf rfl ⟨rfl, rfl, Nat.le_of_ble_eq_true rfl, Nat.le_of_ble_eq_true rfl, Nat.zero_le _, Nat.zero_le _⟩ rfl (Nat.le_of_ble_eq_true rfl) d_Mod_setting_24 ?_
      rcases hf : mpair M n key with _ | q <;> simp only [enc]
      · refine g_if_ge (tgt := 64) h d_Mod_setting_27 (by decide) (fun c_27 => ?_) (fun c_27 => ?_)
        · exact absurd c_27 (by decide)
        · refine g_aload_n h d_Mod_setting_30 rfl rfl ?_
          refine g_iload h d_Mod_setting_31 rfl ?_
          refine g_lconst (v := 1) h d_Mod_setting_33 (by decide) ?_
          refine g_dVi h tb_good (c_Mod_next hok hn) (q := 0) (by decide) rfl rfl v_Mod_138 nm_Mod_next rfl ⟨rfl, rfl, Nat.le_of_ble_eq_true rfl, Nat.le_of_ble_eq_true rfl, Nat.zero_le _, Nat.zero_le _⟩ rfl (Nat.le_of_ble_eq_true rfl) d_Mod_setting_34 ?_
          rcases hx : mnext M n 1 with _ | m <;> simp only [enc]
          · refine g_if_lt (tgt := 64) h d_Mod_setting_37 (by decide) (fun c_37 => ?_) (fun c_37 => ?_)
            · exact one n hn (by rw [← he]; first | (simp [msetAt, hf]; done) | (simp [msetAt, hf, hx]; done)) _
            · exact absurd (by decide) c_37
          · have hm := mnext_lt hok hx
            refine g_if_lt (tgt := 64) h d_Mod_setting_37 (by decide) (fun c_37 => ?_) (fun c_37 => ?_)
            · exact absurd c_37 (nI_pos (by omega))
            · refine g_aload_n h d_Mod_setting_40 rfl rfl ?_
              refine g_iload h d_Mod_setting_41 rfl ?_
              refine g_lconst (v := 1) h d_Mod_setting_43 (by decide) ?_
              refine g_dVi h tb_good (c_Mod_next hok hn) (q := 0) (by decide) rfl rfl v_Mod_138 nm_Mod_next rfl ⟨rfl, rfl, Nat.le_of_ble_eq_true rfl, Nat.le_of_ble_eq_true rfl, Nat.zero_le _, Nat.zero_le _⟩ rfl (Nat.le_of_ble_eq_true rfl) d_Mod_setting_44 ?_
              rw [hx]
              simp only [enc]
              refine g_istore h d_Mod_setting_47 rfl (by rw [hN]; decide) ?_
              refine g_iinc (v := nI (k + 1)) h d_Mod_setting_49 rfl (by rw [nI_succ]; rfl) rfl (by rw [hN]; decide) ?_
              refine g_iload h d_Mod_setting_52 rfl ?_
              refine g_iconst (v := 5) h d_Mod_setting_54 (by decide) ?_
              refine g_icmp_le (tgt := 20) h d_Mod_setting_55 (by decide) (fun c_55 => ?_) (fun c_55 => ?_)
              · exact absurd c_55 (nI_ge (a := 5) (b := k + 1) (by omega) (by omega))
              · refine g_aload_n h d_Mod_setting_58 rfl rfl ?_
                refine g_iconst (v := 2) h d_Mod_setting_59 (by decide) ?_
                refine pf_Mod_trouble h f_Mod_141 d_Mod_setting_60 ?_
                exact g_vret h r d_Mod_setting_63 (⟨rfl, by simp [msetting, hkey, (show msetAt M key 5 n0 = none by rw [← he]; simp [msetAt, hf, hx])]⟩)
      · have hq := mpair_lt hp hP hf
        refine g_if_ge (tgt := 64) h d_Mod_setting_27 (by decide) (fun c_27 => ?_) (fun c_27 => ?_)
        · exact one n hn (by rw [← he]; first | (simp [msetAt, hf]; done) | (simp [msetAt, hf, hx]; done)) _
        · exact absurd (nI_pos' (by omega)) c_27
    | succ c ih =>
      intro k n hk hn he
      obtain ⟨⟨P, hP, hp⟩, -⟩ := hok.1 n hn
      refine g_aload_n h d_Mod_setting_20 rfl rfl ?_
      refine g_iload h d_Mod_setting_21 rfl ?_
      refine g_lload_n h d_Mod_setting_23 rfl rfl ?_
      refine g_dVi h tb_good (c_Mod_pairOf hn hp hP) (q := 0) (by decide) rfl rfl v_Mod_131 nm_Mod_pairOf rfl ⟨rfl, rfl, Nat.le_of_ble_eq_true rfl, Nat.le_of_ble_eq_true rfl, Nat.zero_le _, Nat.zero_le _⟩ rfl (Nat.le_of_ble_eq_true rfl) d_Mod_setting_24 ?_
      rcases hf : mpair M n key with _ | q <;> simp only [enc]
      · refine g_if_ge (tgt := 64) h d_Mod_setting_27 (by decide) (fun c_27 => ?_) (fun c_27 => ?_)
        · exact absurd c_27 (by decide)
        · refine g_aload_n h d_Mod_setting_30 rfl rfl ?_
          refine g_iload h d_Mod_setting_31 rfl ?_
          refine g_lconst (v := 1) h d_Mod_setting_33 (by decide) ?_
          refine g_dVi h tb_good (c_Mod_next hok hn) (q := 0) (by decide) rfl rfl v_Mod_138 nm_Mod_next rfl ⟨rfl, rfl, Nat.le_of_ble_eq_true rfl, Nat.le_of_ble_eq_true rfl, Nat.zero_le _, Nat.zero_le _⟩ rfl (Nat.le_of_ble_eq_true rfl) d_Mod_setting_34 ?_
          rcases hx : mnext M n 1 with _ | m <;> simp only [enc]
          · refine g_if_lt (tgt := 64) h d_Mod_setting_37 (by decide) (fun c_37 => ?_) (fun c_37 => ?_)
            · exact one n hn (by rw [← he]; first | (simp [msetAt, hf]; done) | (simp [msetAt, hf, hx]; done)) _
            · exact absurd (by decide) c_37
          · have hm := mnext_lt hok hx
            refine g_if_lt (tgt := 64) h d_Mod_setting_37 (by decide) (fun c_37 => ?_) (fun c_37 => ?_)
            · exact absurd c_37 (nI_pos (by omega))
            · refine g_aload_n h d_Mod_setting_40 rfl rfl ?_
              refine g_iload h d_Mod_setting_41 rfl ?_
              refine g_lconst (v := 1) h d_Mod_setting_43 (by decide) ?_
              refine g_dVi h tb_good (c_Mod_next hok hn) (q := 0) (by decide) rfl rfl v_Mod_138 nm_Mod_next rfl ⟨rfl, rfl, Nat.le_of_ble_eq_true rfl, Nat.le_of_ble_eq_true rfl, Nat.zero_le _, Nat.zero_le _⟩ rfl (Nat.le_of_ble_eq_true rfl) d_Mod_setting_44 ?_
              rw [hx]
              simp only [enc]
              refine g_istore h d_Mod_setting_47 rfl (by rw [hN]; decide) ?_
              refine g_iinc (v := nI (k + 1)) h d_Mod_setting_49 rfl (by rw [nI_succ]; rfl) rfl (by rw [hN]; decide) ?_
              refine g_iload h d_Mod_setting_52 rfl ?_
              refine g_iconst (v := 5) h d_Mod_setting_54 (by decide) ?_
              refine g_icmp_le (tgt := 20) h d_Mod_setting_55 (by decide) (fun c_55 => ?_) (fun c_55 => ?_)
              · exact ih (k + 1) m (by omega) hm (by rw [← he]; simp [msetAt, hf, hx])
              · exact absurd (nI_le (a := k + 1) (b := 5) (by omega) (by decide)) c_55
      · have hq := mpair_lt hp hP hf
        refine g_if_ge (tgt := 64) h d_Mod_setting_27 (by decide) (fun c_27 => ?_) (fun c_27 => ?_)
        · exact one n hn (by rw [← he]; first | (simp [msetAt, hf]; done) | (simp [msetAt, hf, hx]; done)) _
        · exact absurd (nI_pos' (by omega)) c_27
  refine g_at (L' := [some (.ref (ad 0)), some (.int (nI n0)), some (.long key), none, some (.long v), none, none, none, none, none]) rfl rfl rfl ?_
  refine g_lload_n h d_Mod_setting_0 rfl rfl ?_
  refine g_ldc2 (v := -1000000000000) h d_Mod_setting_1 k_Mod_62 ?_
  refine g_lc_ne (tgt := 14) h d_Mod_setting_4 d_Mod_setting_5 (by decide) (fun c_5 => ?_) (fun c_5 => ?_)
  · refine g_iload_n h d_Mod_setting_14 rfl rfl ?_
    refine g_istore h d_Mod_setting_15 rfl (by rw [hN]; decide) ?_
    refine g_iconst (v := 1) h d_Mod_setting_17 (by decide) ?_
    refine g_istore h d_Mod_setting_18 rfl (by rw [hN]; decide) ?_
    refine g_lessL (L' := [some (.ref (ad 0)), none, some (.long key), none, some (.long v), none, some (.int (nI n0)), some (.int (nI 1)), none, none]) (by simp [leL]; first | done | rfl) ?_
    exact loop 4 1 n0 (by omega) hn0 rfl
  · exact absurd c_5 hkey
end

-- part 45.endM
section
/-! the reference's full collection ends -/
theorem sI_e {M : CS} {f n g b : Nat} {v : Int32} (h : g ≠ f) : (sI M f n v).1 g b = M.1 g b := by rw [sI_1, if_neg (fun z => h z.1)]
theorem sI_self {M : CS} {f n : Nat} {v : Int32} : (sI M f n v).1 f n = v := by rw [sI_1, if_pos ⟨rfl, rfl⟩]
theorem sI_over {M : CS} {f n : Nat} {v w : Int32} : sI (sI M f n v) f n w = sI M f n w := by
  unfold sI
  refine Prod.ext ?_ rfl
  funext a b
  show (if a = f ∧ b = n then w else if a = f ∧ b = n then v else M.1 a b) = if a = f ∧ b = n then w else M.1 a b
  split <;> rfl
theorem okM_15 {M : CS} {i : Nat} (hi : i < 16) (h : okM M) : okM (sI M 15 0 (nI i)) := by
  obtain ⟨h1, h2, -, h4, h5⟩ := h
  refine ⟨fun n hn => ?_, fun f j => h2 f j, ⟨i, hi, sI_self⟩, ?_, fun k hk => ?_⟩
  · rw [sI_e (by decide), sI_e (by decide), sI_e (by decide), sI_e (by decide)]; exact h1 n hn
  · rw [sI_e (by decide)]; exact h4
  · rw [sI_e (by decide)]; exact h5 k hk
theorem okM_unit {M : CS} (h : okM M) : okM (munit M).2 := by
  have h1 : okM (sI M 19 0 (M.1 19 0 + 1)) := okM_keep (by decide) h
  obtain ⟨i, hi, hk⟩ := h.2.2.1
  simp only [munit, hk, nI_clamp (show i < 2 ^ 31 by omega)]
  split
  · exact okM_keep (by decide) (okM_eq5 (eq5_shadeRoots (eq5_refl _)) h1)
  · split
    · split
      · exact okM_eq5 (eq5_blacken (eq5_refl _)) h1
      · split
        · exact okM_eq5 (eq5_shadeRoots (eq5_refl _)) h1
        · exact okM_15 (i := 0) (by decide) (okM_keep (by decide) (okM_eq5 (eq5_shadeRoots (eq5_refl _)) h1))
    · have h2 : okM (if ¬ M.1 4 i = 0 ∧ M.1 5 i = 0 then sI (sI (sI M 19 0 (M.1 19 0 + 1)) 4 i 0) 17 0 (M.1 17 0 + 1) else sI M 19 0 (M.1 19 0 + 1)) := by
        split
        · exact okM_keep (by decide) (okM_keep (by decide) h1)
        · exact h1
      have h3 := okM_keep (f := 5) (n := i) (v := 0) (by decide) h2
      by_cases hs : nI i + 1 = 16
      · rw [if_pos hs]
        refine okM_keep (f := 14) (by decide) ?_
        rw [sI_over]
        exact okM_15 (i := 0) (by decide) h3
      · rw [if_neg hs]
        have : i + 1 ≠ 16 := fun z => hs (by rw [nI_1, z]; rfl)
        show okM (sI _ 15 0 (nI i + 1))
        rw [nI_1]
        exact okM_15 (by omega) h3
def wt (M : CS) (n : Nat) : Nat := if M.1 5 n = 0 then 2 else if M.1 5 n = 1 then 1 else 0
def sumN (f : Nat → Nat) : Nat → Nat
  | 0 => 0
  | n + 1 => sumN f n + f n
theorem sumN_le {f g : Nat → Nat} : ∀ n, (∀ i, i < n → f i ≤ g i) → sumN f n ≤ sumN g n
  | 0, _ => Nat.le_refl _
  | n + 1, h => Nat.add_le_add (sumN_le n (fun i hi => h i (by omega))) (h n (by omega))
theorem sumN_lt {f g : Nat → Nat} {k : Nat} (hk2 : f k < g k) : ∀ n, k < n → (∀ i, i < n → f i ≤ g i) → sumN f n < sumN g n
  | 0, hk, _ => absurd hk (Nat.not_lt_zero _)
  | n + 1, hk, h => by
    have h1 := sumN_le n (fun i hi => h i (by omega))
    have h2 := h n (by omega)
    show sumN f n + f n < sumN g n + g n
    by_cases e : k = n
    · subst e; omega
    · have := sumN_lt hk2 n (by omega) (fun i hi => h i (by omega))
      omega
theorem sumN_up {f : Nat → Nat} {b : Nat} (h : ∀ i, f i ≤ b) : ∀ n, sumN f n ≤ n * b
  | 0 => Nat.zero_le _
  | n + 1 => by
    have := sumN_up h n
    have := h n
    show sumN f n + f n ≤ (n + 1) * b
    rw [Nat.succ_mul]; omega
theorem wt_ne {M : CS} {n j : Nat} {v : Int32} (e : ¬ j = n) : wt (sI M 5 n v) j = wt M j := by
  have : (sI M 5 n v).1 5 j = M.1 5 j := by rw [sI_1, if_neg (fun z => e z.2)]
  unfold wt
  rw [this]
theorem wt_2 (M : CS) (n : Nat) : wt M n ≤ 2 := by
  unfold wt
  split
  · omega
  · split <;> omega
def lew (M2 M : CS) : Prop := ∀ n, wt M2 n ≤ wt M n
theorem lew_shade {M2 M : CS} {v : Int64} (h : lew M2 M) : lew (mshade M2 v) M := fun n => by
  unfold mshade
  split
  · rename_i hc
    by_cases e : n = on v
    · have h1 : wt M2 n = 2 := by unfold wt; rw [e, if_pos hc.2]
      have h2 : wt (sI M2 5 (on v) 1) n = 1 := by unfold wt; rw [e, sI_self]; rfl
      have := h n
      omega
    · have h2 : wt (sI M2 5 (on v) 1) n = wt M2 n := wt_ne e
      rw [h2]; exact h n
  · exact h n
theorem lew_shades {row : Nat → Int64} : ∀ (c i : Nat) {M2 M : CS}, lew M2 M → lew (mshades row c i M2) M
  | 0, _, _, _, h => h
  | c + 1, i, _, _, h => lew_shades c (i + 1) (lew_shade h)
theorem lew_roots : ∀ (c k : Nat) {M2 M : CS}, lew M2 M → lew (mroots c k M2) M
  | 0, _, _, _, h => h
  | c + 1, k, _, _, h => lew_roots c (k + 1) (lew_shades 4 0 (lew_shade h))
theorem lew_shadeKV {ks vs : Nat → Int64} : ∀ (c i : Nat) {M2 M : CS}, lew M2 M → lew (mshadeKV ks vs c i M2) M
  | 0, _, _, _, h => h
  | c + 1, i, _, _, h => lew_shadeKV c (i + 1) (lew_shade (lew_shade h))
theorem lew_refl (M : CS) : lew M M := fun _ => Nat.le_refl _
theorem lew_shadeRoots (M : CS) : lew (mshadeRoots M) M := lew_roots _ _ (lew_shades 6 0 (lew_refl M))
theorem lew_blacken (M : CS) (n : Nat) : lew (mblacken M n) (sI M 5 n 2) := by
  unfold mblacken
  split
  · exact lew_shades _ _ (lew_refl _)
  · refine lew_shadeKV _ _ ?_
    split
    · exact lew_refl _
    · exact lew_shade (lew_refl _)
theorem lst_none {p : Nat → Bool} : ∀ (c i : Nat), lst p c i = none → ∀ j, i ≤ j → j < i + c → p j = false
  | 0, i, _, j, h1, h2 => by omega
  | c + 1, i, h, j, h1, h2 => by
    unfold lst at h
    by_cases hp : p i = true
    · rw [if_pos hp] at h; cases h
    · rw [if_neg hp] at h
      by_cases e : j = i
      · subst e; exact Bool.eq_false_iff.mpr hp
      · exact lst_none c (i + 1) h j (by omega) (by omega)
def mu (M : CS) : Nat := if M.1 14 0 = 0 then 0 else if M.1 14 0 = 1 then 18 + sumN (wt M) 16 else 17 - (M.1 15 0).toNatClampNeg
theorem mu_50 (M : CS) : mu M ≤ 50 := by
  have := sumN_up (wt_2 M) 16
  unfold mu
  split
  · omega
  · split <;> omega
theorem mu_unit {M : CS} (h : okM M) (hp : ¬ M.1 14 0 = 0) : mu (munit M).2 < mu M := by
  obtain ⟨i, hi, hk⟩ := h.2.2.1
  have hcl : (nI i).toNatClampNeg = i := nI_clamp (by omega)
  have hw : ∀ n, wt (sI M 19 0 (M.1 19 0 + 1)) n = wt M n := fun n => by unfold wt; rw [sI_e (by decide)]
  simp only [munit, hk, hcl, if_neg hp]
  by_cases h1 : M.1 14 0 = 1
  · have hM : mu M = 18 + sumN (wt M) 16 := by unfold mu; rw [if_neg hp, if_pos h1]
    have hE : ∀ M2, eq5 M2 (sI M 19 0 (M.1 19 0 + 1)) → mu M2 = 18 + sumN (wt M2) 16 := fun M2 e => by
      have : M2.1 14 0 = 1 := by rw [e.2 14 (by decide), sI_e (by decide)]; exact h1
      unfold mu
      rw [if_neg (by rw [this]; decide), if_pos this]
    rw [if_pos h1, hM]
    split
    · rename_i n hg
      have hgn := (lst_lt _ _ _ hg).2.2
      have hc : M.1 5 n = 1 := by
        have : (!((sI M 19 0 (M.1 19 0 + 1)).1 4 n == 0) && (sI M 19 0 (M.1 19 0 + 1)).1 5 n == 1) = true := hgn
        rw [Bool.and_eq_true] at this
        have := eq_of_beq this.2
        rw [sI_e (by decide)] at this
        exact this
      rw [hE _ (eq5_blacken (eq5_refl _))]
      have hl := lew_blacken (sI M 19 0 (M.1 19 0 + 1)) n
      have hle : ∀ j, wt (sI (sI M 19 0 (M.1 19 0 + 1)) 5 n 2) j ≤ wt M j := fun j => by
        by_cases e : j = n
        · have : wt (sI (sI M 19 0 (M.1 19 0 + 1)) 5 n 2) j = 0 := by unfold wt; rw [e, sI_self]; rfl
          omega
        · have : wt (sI (sI M 19 0 (M.1 19 0 + 1)) 5 n 2) j = wt (sI M 19 0 (M.1 19 0 + 1)) j := wt_ne e
          rw [this, hw]; exact Nat.le_refl _
      have hz : wt (sI (sI M 19 0 (M.1 19 0 + 1)) 5 n 2) n = 0 := by unfold wt; rw [sI_self]; rfl
      have hz2 : wt M n = 1 := by unfold wt; rw [hc]; rfl
      have := sumN_lt (f := wt (mblacken (sI M 19 0 (M.1 19 0 + 1)) n)) (g := wt M) (k := n) (by have := hl n; omega) 16 (mgray_lt hg) (fun j _ => Nat.le_trans (hl j) (hle j))
      omega
    · rename_i hg
      split
      · rename_i j hg2
        have hl := lew_shadeRoots (sI M 19 0 (M.1 19 0 + 1))
        have e5 := eq5_shadeRoots (eq5_refl (sI M 19 0 (M.1 19 0 + 1)))
        have hj := mgray_lt hg2
        have g2 : (!((mshadeRoots (sI M 19 0 (M.1 19 0 + 1))).1 4 j == 0) && (mshadeRoots (sI M 19 0 (M.1 19 0 + 1))).1 5 j == 1) = true := (lst_lt _ _ _ hg2).2.2
        have g1 : (!((sI M 19 0 (M.1 19 0 + 1)).1 4 j == 0) && (sI M 19 0 (M.1 19 0 + 1)).1 5 j == 1) = false := lst_none 16 0 hg j (by omega) (by omega)
        rw [Bool.and_eq_true, e5.2 4 (by decide)] at g2
        rw [g2.1, Bool.true_and] at g1
        have c2 := eq_of_beq g2.2
        have c1 : ¬ M.1 5 j = 1 := by
          rw [sI_e (by decide)] at g1
          exact fun z => absurd g1 (by rw [z]; decide)
        have w2 : wt (mshadeRoots (sI M 19 0 (M.1 19 0 + 1))) j = 1 := by unfold wt; rw [c2]; rfl
        have w1 : wt M j ≠ 1 := by
          unfold wt
          rw [if_neg c1]
          split <;> omega
        have := hl j
        rw [hw] at this
        rw [hE _ e5]
        have := sumN_lt (f := wt (mshadeRoots (sI M 19 0 (M.1 19 0 + 1)))) (g := wt M) (k := j) (by omega) 16 hj (fun k _ => by rw [← hw k]; exact hl k)
        omega
      · have : mu (sI (sI (mshadeRoots (sI M 19 0 (M.1 19 0 + 1))) 14 0 2) 15 0 0) = 17 := by
          unfold mu
          rw [sI_e (by decide), sI_self, if_neg (by decide), if_neg (by decide), sI_self]
          rfl
        show mu (sI (sI (mshadeRoots (sI M 19 0 (M.1 19 0 + 1))) 14 0 2) 15 0 0) < _
        omega
  · have hM : mu M = 17 - i := by unfold mu; rw [if_neg hp, if_neg h1, hk, hcl]
    rw [if_neg h1, hM]
    by_cases hs : nI i + 1 = 16
    · rw [if_pos hs]
      have : ∀ A : CS, mu (sI A 14 0 0) = 0 := fun A => by unfold mu; rw [sI_self, if_pos rfl]
      show mu (sI _ 14 0 0) < _
      rw [this]; omega
    · rw [if_neg hs]
      have hph : ∀ A : CS, A.1 14 0 = M.1 14 0 → mu (sI A 15 0 (nI i + 1)) = 17 - (i + 1) := fun A e => by
        unfold mu
        rw [sI_e (by decide), e, if_neg hp, if_neg h1, sI_self, nI_1, nI_clamp (by omega)]
      show mu (sI _ 15 0 (nI i + 1)) < _
      rw [hph _ (by
        rw [sI_e (by decide)]
        split
        · rw [sI_e (by decide), sI_e (by decide), sI_e (by decide)]
        · rw [sI_e (by decide)])]
      omega
def mwhile : Nat → Int32 → CS → Int32 × CS
  | 0, a, M => (a, M)
  | c + 1, a, M => if M.1 14 0 = 0 then (a, M) else mwhile c (a + (munit M).1) (munit M).2
theorem okM_while : ∀ (c : Nat) (a : Int32) {M : CS}, okM M → okM (mwhile c a M).2
  | 0, _, _, h => h
  | c + 1, a, M, h => by
    unfold mwhile
    split
    · exact h
    · exact okM_while c _ (okM_unit h)
def mwhole (M : CS) : Int32 × CS :=
  let A := mwhile 1000 0 (sI M 20 0 (M.1 20 0 + 1))
  mwhile 1000 (A.1 + (munit A.2).1) (munit A.2).2
theorem okM_whole {M : CS} (h : okM M) : okM (mwhole M).2 := okM_while _ _ (okM_unit (okM_while _ _ (okM_keep (by decide) h)))
end
