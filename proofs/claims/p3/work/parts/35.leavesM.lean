set_option maxHeartbeats 4000000 in
set_option maxRecDepth 100000 in
theorem c_Mod_badGlobal {l : Launch} {D : va_G} {u : Nat → ClassId} {ad : Nat → Nat} {M : CS} {g : Int32} : Cm l D u ad y_Mod_badGlobal b_Mod_badGlobal 2 (some .boolean) { frames := 0, cells := 0, slots := 0, locals := 0 } [.ref (ad 0), .int g] (M) (some (.int (if g < 0 ∨ 5 < g then 1 else 0))) (M) := by
  refine ct_of (by decide) (Nat.le_of_ble_eq_true rfl) ?_
  intro Γ _ _ hN h r
  refine g_at (L' := [some (.ref (ad 0)), some (.int g)]) rfl rfl rfl ?_
  refine g_iload_n h d_Mod_badGlobal_0 rfl rfl ?_
  refine g_if_lt (tgt := 9) h d_Mod_badGlobal_1 (by decide) (fun c_1 => ?_) (fun c_1 => ?_)
  · refine g_iconst (v := 1) h d_Mod_badGlobal_9 (by decide) ?_
    refine g_goto (tgt := 14) h d_Mod_badGlobal_10 (by decide) ?_
    exact g_zret h r rfl d_Mod_badGlobal_14 (⟨by first | (simp [c_1]; done) | (rw [if_neg (fun z => z.elim c_1 (fun z => Int32.not_lt.mpr c_6 z))]; done) | (rw [if_pos (Or.inr (Int32.not_le.mp c_6))]; done), rfl⟩)
  · refine g_iload_n h d_Mod_badGlobal_4 rfl rfl ?_
    refine g_iconst (v := 5) h d_Mod_badGlobal_5 (by decide) ?_
    refine g_icmp_le (tgt := 13) h d_Mod_badGlobal_6 (by decide) (fun c_6 => ?_) (fun c_6 => ?_)
    · refine g_iconst (v := 0) h d_Mod_badGlobal_13 (by decide) ?_
      exact g_zret h r rfl d_Mod_badGlobal_14 (⟨by first | (simp [c_1]; done) | (rw [if_neg (fun z => z.elim c_1 (fun z => Int32.not_lt.mpr c_6 z))]; done) | (rw [if_pos (Or.inr (Int32.not_le.mp c_6))]; done), rfl⟩)
    · refine g_iconst (v := 1) h d_Mod_badGlobal_9 (by decide) ?_
      refine g_goto (tgt := 14) h d_Mod_badGlobal_10 (by decide) ?_
      exact g_zret h r rfl d_Mod_badGlobal_14 (⟨by first | (simp [c_1]; done) | (rw [if_neg (fun z => z.elim c_1 (fun z => Int32.not_lt.mpr c_6 z))]; done) | (rw [if_pos (Or.inr (Int32.not_le.mp c_6))]; done), rfl⟩)
set_option maxHeartbeats 4000000 in
set_option maxRecDepth 100000 in
theorem c_Mod_isNumber {l : Launch} {D : va_G} {u : Nat → ClassId} {ad : Nat → Nat} {M : CS} {v : Int64} : Cm l D u ad y_Mod_isNumber b_Mod_isNumber 3 (some .boolean) { frames := 0, cells := 0, slots := 0, locals := 0 } [.ref (ad 0), .long v] (M) (some (.int (if -2147483648 ≤ v ∧ v ≤ 2147483647 then 1 else 0))) (M) := by
  refine ct_of (by decide) (Nat.le_of_ble_eq_true rfl) ?_
  intro Γ _ _ hN h r
  refine g_at (L' := [some (.ref (ad 0)), some (.long v), none]) rfl rfl rfl ?_
  refine g_lload_n h d_Mod_isNumber_0 rfl rfl ?_
  refine g_ldc2 (v := -2147483648) h d_Mod_isNumber_1 k_Mod_68 ?_
  refine g_lc_lt (tgt := 20) h d_Mod_isNumber_4 d_Mod_isNumber_5 (by decide) (fun c_5 => ?_) (fun c_5 => ?_)
  · refine g_iconst (v := 0) h d_Mod_isNumber_20 (by decide) ?_
    exact g_zret h r rfl d_Mod_isNumber_21 (⟨by first | (simp [c_5]; done) | (rw [if_neg (fun z => Int64.not_le.mpr c_5 z.1)]; done) | (rw [if_neg (fun z => Int64.not_le.mpr c_13 z.2)]; done) | (rw [if_pos ⟨Int64.not_lt.mp c_5, Int64.not_lt.mp c_13⟩]; done), rfl⟩)
  · refine g_lload_n h d_Mod_isNumber_8 rfl rfl ?_
    refine g_ldc2 (v := 2147483647) h d_Mod_isNumber_9 k_Mod_70 ?_
    refine g_lc_gt (tgt := 20) h d_Mod_isNumber_12 d_Mod_isNumber_13 (by decide) (fun c_13 => ?_) (fun c_13 => ?_)
    · refine g_iconst (v := 0) h d_Mod_isNumber_20 (by decide) ?_
      exact g_zret h r rfl d_Mod_isNumber_21 (⟨by first | (simp [c_5]; done) | (rw [if_neg (fun z => Int64.not_le.mpr c_5 z.1)]; done) | (rw [if_neg (fun z => Int64.not_le.mpr c_13 z.2)]; done) | (rw [if_pos ⟨Int64.not_lt.mp c_5, Int64.not_lt.mp c_13⟩]; done), rfl⟩)
    · refine g_iconst (v := 1) h d_Mod_isNumber_16 (by decide) ?_
      refine g_goto (tgt := 21) h d_Mod_isNumber_17 (by decide) ?_
      exact g_zret h r rfl d_Mod_isNumber_21 (⟨by first | (simp [c_5]; done) | (rw [if_neg (fun z => Int64.not_le.mpr c_5 z.1)]; done) | (rw [if_neg (fun z => Int64.not_le.mpr c_13 z.2)]; done) | (rw [if_pos ⟨Int64.not_lt.mp c_5, Int64.not_lt.mp c_13⟩]; done), rfl⟩)
set_option maxHeartbeats 4000000 in
set_option maxRecDepth 100000 in
theorem c_Mod_objectOf {l : Launch} {D : va_G} {u : Nat → ClassId} {ad : Nat → Nat} {M : CS} {v : Int64} (hv : okV v) : Cm l D u ad y_Mod_objectOf b_Mod_objectOf 3 (some .int) { frames := 0, cells := 0, slots := 0, locals := 0 } [.ref (ad 0), .long v] (M) (some (.int (enc (mObj v)))) (M) := by
  refine ct_of (by decide) (Nat.le_of_ble_eq_true rfl) ?_
  intro Γ _ _ hN h r
  refine g_at (L' := [some (.ref (ad 0)), some (.long v), none]) rfl rfl rfl ?_
  refine g_lload_n h d_Mod_objectOf_0 rfl rfl ?_
  refine g_ldc2 (v := 10000000000) h d_Mod_objectOf_1 k_Mod_72 ?_
  refine g_lc_lt (tgt := 17) h d_Mod_objectOf_4 d_Mod_objectOf_5 (by decide) (fun c_5 => ?_) (fun c_5 => ?_)
  · refine g_iconst (v := -1) h d_Mod_objectOf_17 (by decide) ?_
    exact g_iret h r d_Mod_objectOf_18 (⟨by first | (simp [mObj, c_5, enc]; done) | (simp [mObj, c_5, enc, (okV_on hv c_5).2.2]; done), rfl⟩)
  · refine g_lload_n h d_Mod_objectOf_8 rfl rfl ?_
    refine g_ldc2 (v := 10000000000) h d_Mod_objectOf_9 k_Mod_72 ?_
    refine g_lsub h d_Mod_objectOf_12 ?_
    refine g_l2i h d_Mod_objectOf_13 ?_
    refine g_goto (tgt := 18) h d_Mod_objectOf_14 (by decide) ?_
    exact g_iret h r d_Mod_objectOf_18 (⟨by first | (simp [mObj, c_5, enc]; done) | (simp [mObj, c_5, enc, (okV_on hv c_5).2.2]; done), rfl⟩)
set_option maxHeartbeats 4000000 in
set_option maxRecDepth 100000 in
theorem c_Mod_tableOf {l : Launch} {D : va_G} {u : Nat → ClassId} {ad : Nat → Nat} {M : CS} {v : Int64} (hv : okV v) : Cm l D u ad y_Mod_tableOf b_Mod_tableOf 4 (some .int) { frames := 1, cells := 0, slots := 0, locals := 22 } [.ref (ad 0), .long v] (M) (some (.int (enc (mOf M 1 v)))) (M) := by
  refine ct_of (by decide) (Nat.le_of_ble_eq_true rfl) ?_
  intro Γ _ _ hN h r
  refine g_at (L' := [some (.ref (ad 0)), some (.long v), none, none]) rfl rfl rfl ?_
  refine g_aload_n h d_Mod_tableOf_0 rfl rfl ?_
  refine g_lload_n h d_Mod_tableOf_1 rfl rfl ?_
  refine g_dVi h tb_good (c_Mod_objectOf hv) (q := 0) (by decide) rfl rfl v_Mod_74 nm_Mod_objectOf rfl ⟨rfl, rfl, Nat.le_of_ble_eq_true rfl, Nat.le_of_ble_eq_true rfl, Nat.zero_le _, Nat.zero_le _⟩ rfl (Nat.le_of_ble_eq_true rfl) d_Mod_tableOf_2 ?_
  by_cases hF : v < 10000000000
  · rw [show mObj v = none from if_pos hF]
    simp only [enc]
    refine g_istore_n h d_Mod_tableOf_5 rfl rfl (by rw [hN]; decide) ?_
    refine g_iload_n h d_Mod_tableOf_6 rfl rfl ?_
    refine g_if_lt (tgt := 24) h d_Mod_tableOf_7 (by decide) (fun c_7 => ?_) (fun c_7 => ?_)
    · refine g_iconst (v := -1) h d_Mod_tableOf_24 (by decide) ?_
      exact g_iret h r d_Mod_tableOf_25 (⟨by first | (simp [mOf, hF, enc]; done) | (simp [mOf, hF, c_17, enc]; done), rfl⟩)
    · exact absurd (by decide) c_7
  · rw [show mObj v = some (on v) from if_neg hF]
    simp only [enc]
    obtain ⟨ho, -, -⟩ := okV_on hv hF
    refine g_istore_n h d_Mod_tableOf_5 rfl rfl (by rw [hN]; decide) ?_
    refine g_iload_n h d_Mod_tableOf_6 rfl rfl ?_
    refine g_if_lt (tgt := 24) h d_Mod_tableOf_7 (by decide) (fun c_7 => ?_) (fun c_7 => ?_)
    · exact absurd c_7 (nI_pos (by omega))
    · refine g_aload_n h d_Mod_tableOf_10 rfl rfl ?_
      refine gf_Mod_kind h f_Mod_26 d_Mod_tableOf_11 ?_
      refine g_iload_n h d_Mod_tableOf_14 rfl rfl ?_
      refine gi_kind h rfl ho d_Mod_tableOf_15 ?_
      refine g_iconst (v := 1) h d_Mod_tableOf_16 (by decide) ?_
      refine g_icmp_ne (tgt := 24) h d_Mod_tableOf_17 (by decide) (fun c_17 => ?_) (fun c_17 => ?_)
      · refine g_iconst (v := -1) h d_Mod_tableOf_24 (by decide) ?_
        exact g_iret h r d_Mod_tableOf_25 (⟨by first | (simp [mOf, hF, enc]; done) | (simp [mOf, hF, c_17, enc]; done), rfl⟩)
      · refine g_iload_n h d_Mod_tableOf_20 rfl rfl ?_
        refine g_goto (tgt := 25) h d_Mod_tableOf_21 (by decide) ?_
        exact g_iret h r d_Mod_tableOf_25 (⟨by first | (simp [mOf, hF, enc]; done) | (simp [mOf, hF, c_17, enc]; done), rfl⟩)
set_option maxHeartbeats 4000000 in
set_option maxRecDepth 100000 in
theorem c_Mod_coroutineOf {l : Launch} {D : va_G} {u : Nat → ClassId} {ad : Nat → Nat} {M : CS} {v : Int64} (hv : okV v) : Cm l D u ad y_Mod_coroutineOf b_Mod_coroutineOf 4 (some .int) { frames := 1, cells := 0, slots := 0, locals := 22 } [.ref (ad 0), .long v] (M) (some (.int (enc (mOf M 2 v)))) (M) := by
  refine ct_of (by decide) (Nat.le_of_ble_eq_true rfl) ?_
  intro Γ _ _ hN h r
  refine g_at (L' := [some (.ref (ad 0)), some (.long v), none, none]) rfl rfl rfl ?_
  refine g_aload_n h d_Mod_coroutineOf_0 rfl rfl ?_
  refine g_lload_n h d_Mod_coroutineOf_1 rfl rfl ?_
  refine g_dVi h tb_good (c_Mod_objectOf hv) (q := 0) (by decide) rfl rfl v_Mod_74 nm_Mod_objectOf rfl ⟨rfl, rfl, Nat.le_of_ble_eq_true rfl, Nat.le_of_ble_eq_true rfl, Nat.zero_le _, Nat.zero_le _⟩ rfl (Nat.le_of_ble_eq_true rfl) d_Mod_coroutineOf_2 ?_
  by_cases hF : v < 10000000000
  · rw [show mObj v = none from if_pos hF]
    simp only [enc]
    refine g_istore_n h d_Mod_coroutineOf_5 rfl rfl (by rw [hN]; decide) ?_
    refine g_iload_n h d_Mod_coroutineOf_6 rfl rfl ?_
    refine g_if_lt (tgt := 24) h d_Mod_coroutineOf_7 (by decide) (fun c_7 => ?_) (fun c_7 => ?_)
    · refine g_iconst (v := -1) h d_Mod_coroutineOf_24 (by decide) ?_
      exact g_iret h r d_Mod_coroutineOf_25 (⟨by first | (simp [mOf, hF, enc]; done) | (simp [mOf, hF, c_17, enc]; done), rfl⟩)
    · exact absurd (by decide) c_7
  · rw [show mObj v = some (on v) from if_neg hF]
    simp only [enc]
    obtain ⟨ho, -, -⟩ := okV_on hv hF
    refine g_istore_n h d_Mod_coroutineOf_5 rfl rfl (by rw [hN]; decide) ?_
    refine g_iload_n h d_Mod_coroutineOf_6 rfl rfl ?_
    refine g_if_lt (tgt := 24) h d_Mod_coroutineOf_7 (by decide) (fun c_7 => ?_) (fun c_7 => ?_)
    · exact absurd c_7 (nI_pos (by omega))
    · refine g_aload_n h d_Mod_coroutineOf_10 rfl rfl ?_
      refine gf_Mod_kind h f_Mod_26 d_Mod_coroutineOf_11 ?_
      refine g_iload_n h d_Mod_coroutineOf_14 rfl rfl ?_
      refine gi_kind h rfl ho d_Mod_coroutineOf_15 ?_
      refine g_iconst (v := 2) h d_Mod_coroutineOf_16 (by decide) ?_
      refine g_icmp_ne (tgt := 24) h d_Mod_coroutineOf_17 (by decide) (fun c_17 => ?_) (fun c_17 => ?_)
      · refine g_iconst (v := -1) h d_Mod_coroutineOf_24 (by decide) ?_
        exact g_iret h r d_Mod_coroutineOf_25 (⟨by first | (simp [mOf, hF, enc]; done) | (simp [mOf, hF, c_17, enc]; done), rfl⟩)
      · refine g_iload_n h d_Mod_coroutineOf_20 rfl rfl ?_
        refine g_goto (tgt := 25) h d_Mod_coroutineOf_21 (by decide) ?_
        exact g_iret h r d_Mod_coroutineOf_25 (⟨by first | (simp [mOf, hF, enc]; done) | (simp [mOf, hF, c_17, enc]; done), rfl⟩)
set_option maxHeartbeats 4000000 in
set_option maxRecDepth 100000 in
theorem c_Mod_shade {l : Launch} {D : va_G} {u : Nat → ClassId} {ad : Nat → Nat} {M : CS} {v : Int64} (hv : okV v) : Cm l D u ad y_Mod_shade b_Mod_shade 4 none { frames := 1, cells := 0, slots := 0, locals := 22 } [.ref (ad 0), .long v] (M) (none) (mshade M v) := by
  refine ct_of (by decide) (Nat.le_of_ble_eq_true rfl) ?_
  intro Γ _ _ hN h r
  refine g_at (L' := [some (.ref (ad 0)), some (.long v), none, none]) rfl rfl rfl ?_
  refine g_aload_n h d_Mod_shade_0 rfl rfl ?_
  refine g_lload_n h d_Mod_shade_1 rfl rfl ?_
  refine g_dVi h tb_good (c_Mod_objectOf hv) (q := 0) (by decide) rfl rfl v_Mod_74 nm_Mod_objectOf rfl ⟨rfl, rfl, Nat.le_of_ble_eq_true rfl, Nat.le_of_ble_eq_true rfl, Nat.zero_le _, Nat.zero_le _⟩ rfl (Nat.le_of_ble_eq_true rfl) d_Mod_shade_2 ?_
  by_cases hF : v < 10000000000
  · rw [show mObj v = none from if_pos hF]
    simp only [enc]
    refine g_istore_n h d_Mod_shade_5 rfl rfl (by rw [hN]; decide) ?_
    refine g_iload_n h d_Mod_shade_6 rfl rfl ?_
    refine g_if_lt (tgt := 26) h d_Mod_shade_7 (by decide) (fun c_7 => ?_) (fun c_7 => ?_)
    · exact g_vret h r d_Mod_shade_26 (⟨rfl, by first | (simp [mshade, hF]; done) | (simp [mshade, hF, c_16]; done)⟩)
    · exact absurd (by decide) c_7
  · rw [show mObj v = some (on v) from if_neg hF]
    simp only [enc]
    obtain ⟨ho, -, -⟩ := okV_on hv hF
    refine g_istore_n h d_Mod_shade_5 rfl rfl (by rw [hN]; decide) ?_
    refine g_iload_n h d_Mod_shade_6 rfl rfl ?_
    refine g_if_lt (tgt := 26) h d_Mod_shade_7 (by decide) (fun c_7 => ?_) (fun c_7 => ?_)
    · exact absurd c_7 (nI_pos (by omega))
    · refine g_aload_n h d_Mod_shade_10 rfl rfl ?_
      refine gf_Mod_colour h f_Mod_29 d_Mod_shade_11 ?_
      refine g_iload_n h d_Mod_shade_14 rfl rfl ?_
      refine gi_colour h rfl ho d_Mod_shade_15 ?_
      refine g_if_ne (tgt := 26) h d_Mod_shade_16 (by decide) (fun c_16 => ?_) (fun c_16 => ?_)
      · exact g_vret h r d_Mod_shade_26 (⟨rfl, by first | (simp [mshade, hF]; done) | (simp [mshade, hF, c_16]; done)⟩)
      · refine g_aload_n h d_Mod_shade_19 rfl rfl ?_
        refine gf_Mod_colour h f_Mod_29 d_Mod_shade_20 ?_
        refine g_iload_n h d_Mod_shade_23 rfl rfl ?_
        refine g_iconst (v := 1) h d_Mod_shade_24 (by decide) ?_
        refine pi_colour h rfl ho d_Mod_shade_25 ?_
        exact g_vret h r d_Mod_shade_26 (⟨rfl, by first | (simp [mshade, hF]; done) | (simp [mshade, hF, c_16]; done)⟩)
set_option maxHeartbeats 4000000 in
set_option maxRecDepth 100000 in
theorem c_Mod_touch {l : Launch} {D : va_G} {u : Nat → ClassId} {ad : Nat → Nat} {M : CS} {n : Nat} (hn : n < 16) : Cm l D u ad y_Mod_touch b_Mod_touch 2 none { frames := 0, cells := 0, slots := 0, locals := 0 } [.ref (ad 0), .int (nI n)] (M) (none) (mtouch M n) := by
  refine ct_of (by decide) (Nat.le_of_ble_eq_true rfl) ?_
  intro Γ _ _ hN h r
  refine g_at (L' := [some (.ref (ad 0)), some (.int (nI n))]) rfl rfl rfl ?_
  refine g_aload_n h d_Mod_touch_0 rfl rfl ?_
  refine gf_Mod_phase h f_Mod_92 d_Mod_touch_1 ?_
  refine g_iconst (v := 1) h d_Mod_touch_4 (by decide) ?_
  refine g_icmp_ne (tgt := 25) h d_Mod_touch_5 (by decide) (fun c_5 => ?_) (fun c_5 => ?_)
  · exact g_vret h r d_Mod_touch_25 (⟨rfl, by first | (simp [mtouch, c_5]; done) | (simp [mtouch, c_5, c_15]; done)⟩)
  · refine g_aload_n h d_Mod_touch_8 rfl rfl ?_
    refine gf_Mod_colour h f_Mod_29 d_Mod_touch_9 ?_
    refine g_iload_n h d_Mod_touch_12 rfl rfl ?_
    refine gi_colour h rfl hn d_Mod_touch_13 ?_
    refine g_iconst (v := 2) h d_Mod_touch_14 (by decide) ?_
    refine g_icmp_ne (tgt := 25) h d_Mod_touch_15 (by decide) (fun c_15 => ?_) (fun c_15 => ?_)
    · exact g_vret h r d_Mod_touch_25 (⟨rfl, by first | (simp [mtouch, c_5]; done) | (simp [mtouch, c_5, c_15]; done)⟩)
    · refine g_aload_n h d_Mod_touch_18 rfl rfl ?_
      refine gf_Mod_colour h f_Mod_29 d_Mod_touch_19 ?_
      refine g_iload_n h d_Mod_touch_22 rfl rfl ?_
      refine g_iconst (v := 1) h d_Mod_touch_23 (by decide) ?_
      refine pi_colour h rfl hn d_Mod_touch_24 ?_
      exact g_vret h r d_Mod_touch_25 (⟨rfl, by first | (simp [mtouch, c_5]; done) | (simp [mtouch, c_5, c_15]; done)⟩)
set_option maxHeartbeats 4000000 in
set_option maxRecDepth 100000 in
theorem c_Mod_free {l : Launch} {D : va_G} {u : Nat → ClassId} {ad : Nat → Nat} {M : CS}  : Cm l D u ad y_Mod_free b_Mod_free 2 (some .int) { frames := 0, cells := 0, slots := 0, locals := 0 } [.ref (ad 0)] (M) (some (.int (enc (mfree M)))) (M) := by
  refine ct_of (by decide) (Nat.le_of_ble_eq_true rfl) ?_
  intro Γ _ _ hN h r
  have loop : ∀ (c i : Nat), i + c = 16 → lst (fun n => M.1 4 n == 0) c i = mfree M → G Γ 0 0 18 ad (mob ad u M) 2 [some (.ref (ad 0)), some (.int (nI i))] [] := by
    intro c
    induction c with
    | zero =>
      intro i hi he
      refine g_iload_n h d_Mod_free_2 rfl rfl ?_
      refine g_bipush (v := 16) h d_Mod_free_3 (by decide) ?_
      refine g_icmp_ge (tgt := 25) h d_Mod_free_5 (by decide) (fun c_5 => ?_) (fun c_5 => ?_)
      · refine g_iconst (v := -1) h d_Mod_free_25 (by decide) ?_
        exact g_iret h r d_Mod_free_26 (⟨by rw [← he]; rfl, rfl⟩)
      · exact absurd (nI_le (a := 16) (b := i) (by omega) (by omega)) c_5
    | succ c ih =>
      intro i hi he
      refine g_iload_n h d_Mod_free_2 rfl rfl ?_
      refine g_bipush (v := 16) h d_Mod_free_3 (by decide) ?_
      refine g_icmp_ge (tgt := 25) h d_Mod_free_5 (by decide) (fun c_5 => ?_) (fun c_5 => ?_)
      · exact absurd c_5 (nI_ge (b := 16) (by omega) (by decide))
      · refine g_aload_n h d_Mod_free_8 rfl rfl ?_
        refine gf_Mod_kind h f_Mod_26 d_Mod_free_9 ?_
        refine g_iload_n h d_Mod_free_12 rfl rfl ?_
        refine gi_kind h rfl (by omega) d_Mod_free_13 ?_
        refine g_if_ne (tgt := 19) h d_Mod_free_14 (by decide) (fun c_14 => ?_) (fun c_14 => ?_)
        · refine g_iinc (v := nI (i + 1)) h d_Mod_free_19 rfl (by rw [nI_succ]; rfl) rfl (by rw [hN]; decide) ?_
          refine g_goto (tgt := 2) h d_Mod_free_22 (by decide) ?_
          exact ih (i + 1) (by omega) (by rw [← he]; simp [lst, c_14])
        · refine g_iload_n h d_Mod_free_17 rfl rfl ?_
          exact g_iret h r d_Mod_free_18 (⟨by rw [← he]; simp [lst, c_14, enc], rfl⟩)
  refine g_at (L' := [some (.ref (ad 0)), none]) rfl rfl rfl ?_
  refine g_iconst (v := 0) h d_Mod_free_0 (by decide) ?_
  refine g_istore_n h d_Mod_free_1 rfl rfl (by rw [hN]; decide) ?_
  exact loop 16 0 (by omega) rfl
set_option maxHeartbeats 4000000 in
set_option maxRecDepth 100000 in
theorem c_Mod_leastGray {l : Launch} {D : va_G} {u : Nat → ClassId} {ad : Nat → Nat} {M : CS}  : Cm l D u ad y_Mod_leastGray b_Mod_leastGray 2 (some .int) { frames := 0, cells := 0, slots := 0, locals := 0 } [.ref (ad 0)] (M) (some (.int (enc (mgray M)))) (M) := by
  refine ct_of (by decide) (Nat.le_of_ble_eq_true rfl) ?_
  intro Γ _ _ hN h r
  have loop : ∀ (c i : Nat), i + c = 16 → lst (fun n => !(M.1 4 n == 0) && M.1 5 n == 1) c i = mgray M → G Γ 0 0 18 ad (mob ad u M) 2 [some (.ref (ad 0)), some (.int (nI i))] [] := by
    intro c
    induction c with
    | zero =>
      intro i hi he
      refine g_iload_n h d_Mod_leastGray_2 rfl rfl ?_
      refine g_bipush (v := 16) h d_Mod_leastGray_3 (by decide) ?_
      refine g_icmp_ge (tgt := 35) h d_Mod_leastGray_5 (by decide) (fun c_5 => ?_) (fun c_5 => ?_)
      · refine g_iconst (v := -1) h d_Mod_leastGray_35 (by decide) ?_
        exact g_iret h r d_Mod_leastGray_36 (⟨by rw [← he]; rfl, rfl⟩)
      · exact absurd (nI_le (a := 16) (b := i) (by omega) (by omega)) c_5
    | succ c ih =>
      intro i hi he
      refine g_iload_n h d_Mod_leastGray_2 rfl rfl ?_
      refine g_bipush (v := 16) h d_Mod_leastGray_3 (by decide) ?_
      refine g_icmp_ge (tgt := 35) h d_Mod_leastGray_5 (by decide) (fun c_5 => ?_) (fun c_5 => ?_)
      · exact absurd c_5 (nI_ge (b := 16) (by omega) (by decide))
      · refine g_aload_n h d_Mod_leastGray_8 rfl rfl ?_
        refine gf_Mod_kind h f_Mod_26 d_Mod_leastGray_9 ?_
        refine g_iload_n h d_Mod_leastGray_12 rfl rfl ?_
        refine gi_kind h rfl (by omega) d_Mod_leastGray_13 ?_
        refine g_if_eq (tgt := 29) h d_Mod_leastGray_14 (by decide) (fun c_14 => ?_) (fun c_14 => ?_)
        · refine g_iinc (v := nI (i + 1)) h d_Mod_leastGray_29 rfl (by rw [nI_succ]; rfl) rfl (by rw [hN]; decide) ?_
          refine g_goto (tgt := 2) h d_Mod_leastGray_32 (by decide) ?_
          exact ih (i + 1) (by omega) (by rw [← he]; first | (simp [lst, c_14]; done) | (simp [lst, c_14, c_24]; done))
        · refine g_aload_n h d_Mod_leastGray_17 rfl rfl ?_
          refine gf_Mod_colour h f_Mod_29 d_Mod_leastGray_18 ?_
          refine g_iload_n h d_Mod_leastGray_21 rfl rfl ?_
          refine gi_colour h rfl (by omega) d_Mod_leastGray_22 ?_
          refine g_iconst (v := 1) h d_Mod_leastGray_23 (by decide) ?_
          refine g_icmp_ne (tgt := 29) h d_Mod_leastGray_24 (by decide) (fun c_24 => ?_) (fun c_24 => ?_)
          · refine g_iinc (v := nI (i + 1)) h d_Mod_leastGray_29 rfl (by rw [nI_succ]; rfl) rfl (by rw [hN]; decide) ?_
            refine g_goto (tgt := 2) h d_Mod_leastGray_32 (by decide) ?_
            exact ih (i + 1) (by omega) (by rw [← he]; first | (simp [lst, c_14]; done) | (simp [lst, c_14, c_24]; done))
          · refine g_iload_n h d_Mod_leastGray_27 rfl rfl ?_
            exact g_iret h r d_Mod_leastGray_28 (⟨by rw [← he]; simp [lst, c_14, c_24, enc], rfl⟩)
  refine g_at (L' := [some (.ref (ad 0)), none]) rfl rfl rfl ?_
  refine g_iconst (v := 0) h d_Mod_leastGray_0 (by decide) ?_
  refine g_istore_n h d_Mod_leastGray_1 rfl rfl (by rw [hN]; decide) ?_
  exact loop 16 0 (by omega) rfl
set_option maxHeartbeats 4000000 in
set_option maxRecDepth 100000 in
theorem c_Mod_pairOf {l : Launch} {D : va_G} {u : Nat → ClassId} {ad : Nat → Nat} {M : CS} {n P : Nat} {key : Int64} (hn : n < 16) (hp : M.1 6 n = nI P) (hP : P ≤ 6) : Cm l D u ad y_Mod_pairOf b_Mod_pairOf 5 (some .int) { frames := 0, cells := 0, slots := 0, locals := 0 } [.ref (ad 0), .int (nI n), .long key] (M) (some (.int (enc (mpair M n key)))) (M) := by
  refine ct_of (by decide) (Nat.le_of_ble_eq_true rfl) ?_
  intro Γ _ _ hN h r
  have hc : mSize M n = P := mSize_eq hp hP
  have loop : ∀ (c i : Nat), i + c = P → lst (fun j => M.2.1 1 0 (n * 6 + j) == key) c i = mpair M n key → G Γ 0 0 18 ad (mob ad u M) 3 [some (.ref (ad 0)), some (.int (nI n)), some (.long key), none, some (.int (nI i))] [] := by
    intro c
    induction c with
    | zero =>
      intro i hi he
      refine g_iload h d_Mod_pairOf_3 rfl ?_
      refine g_aload_n h d_Mod_pairOf_5 rfl rfl ?_
      refine gf_Mod_size h f_Mod_32 d_Mod_pairOf_6 ?_
      refine g_iload_n h d_Mod_pairOf_9 rfl rfl ?_
      refine gi_size h rfl hn d_Mod_pairOf_10 ?_
      rw [hp]
      refine g_icmp_ge (tgt := 40) h d_Mod_pairOf_11 (by decide) (fun c_11 => ?_) (fun c_11 => ?_)
      · refine g_iconst (v := -1) h d_Mod_pairOf_40 (by decide) ?_
        exact g_iret h r d_Mod_pairOf_41 (⟨by rw [← he]; rfl, rfl⟩)
      · exact absurd (nI_le (by omega) (by omega)) c_11
    | succ c ih =>
      intro i hi he
      refine g_iload h d_Mod_pairOf_3 rfl ?_
      refine g_aload_n h d_Mod_pairOf_5 rfl rfl ?_
      refine gf_Mod_size h f_Mod_32 d_Mod_pairOf_6 ?_
      refine g_iload_n h d_Mod_pairOf_9 rfl rfl ?_
      refine gi_size h rfl hn d_Mod_pairOf_10 ?_
      rw [hp]
      refine g_icmp_ge (tgt := 40) h d_Mod_pairOf_11 (by decide) (fun c_11 => ?_) (fun c_11 => ?_)
      · exact absurd c_11 (nI_ge (by omega) (by omega))
      · refine g_aload_n h d_Mod_pairOf_14 rfl rfl ?_
        refine gf_Mod_keys h f_Mod_38 d_Mod_pairOf_15 ?_
        refine g_iload_n h d_Mod_pairOf_18 rfl rfl ?_
        refine g_bipush (v := 6) h d_Mod_pairOf_19 (by decide) ?_
        refine g_imul h d_Mod_pairOf_21 ?_
        refine g_iload h d_Mod_pairOf_22 rfl ?_
        refine g_iadd h d_Mod_pairOf_24 ?_
        refine gj_keys h (nI_at6 n i) (by omega) d_Mod_pairOf_25 ?_
        refine g_lload_n h d_Mod_pairOf_26 rfl rfl ?_
        refine g_lc_ne (tgt := 34) h d_Mod_pairOf_27 d_Mod_pairOf_28 (by decide) (fun c_28 => ?_) (fun c_28 => ?_)
        · refine g_iinc (v := nI (i + 1)) h d_Mod_pairOf_34 rfl (by rw [nI_succ]; rfl) rfl (by rw [hN]; decide) ?_
          refine g_goto (tgt := 3) h d_Mod_pairOf_37 (by decide) ?_
          exact ih (i + 1) (by omega) (by rw [← he]; simp [lst, c_28])
        · refine g_iload h d_Mod_pairOf_31 rfl ?_
          exact g_iret h r d_Mod_pairOf_33 (⟨by rw [← he]; simp [lst, c_28, enc], rfl⟩)
  refine g_at (L' := [some (.ref (ad 0)), some (.int (nI n)), some (.long key), none, none]) rfl rfl rfl ?_
  refine g_iconst (v := 0) h d_Mod_pairOf_0 (by decide) ?_
  refine g_istore h d_Mod_pairOf_1 rfl (by rw [hN]; decide) ?_
  exact loop P 0 (by omega) (by unfold mpair; rw [hc])
set_option maxHeartbeats 4000000 in
set_option maxRecDepth 100000 in
theorem c_Mod_next {l : Launch} {D : va_G} {u : Nat → ClassId} {ad : Nat → Nat} {M : CS} {n : Nat} {key : Int64} (hok : okM M) (hn : n < 16) : Cm l D u ad y_Mod_next b_Mod_next 6 (some .int) { frames := 2, cells := 0, slots := 0, locals := 45 } [.ref (ad 0), .int (nI n), .long key] (M) (some (.int (enc (mnext M n key)))) (M) := by
  refine ct_of (by decide) (Nat.le_of_ble_eq_true rfl) ?_
  intro Γ _ _ hN h r
  rcases (hok.1 n hn).2.1 with hm | ⟨j, hj, hm⟩
  · refine g_at (L' := [some (.ref (ad 0)), some (.int (nI n)), some (.long key), none, none, none]) rfl rfl rfl ?_
    refine g_aload_n h d_Mod_next_0 rfl rfl ?_
    refine gf_Mod_metaOf h f_Mod_35 d_Mod_next_1 ?_
    refine g_iload_n h d_Mod_next_4 rfl rfl ?_
    refine gi_metaOf h rfl hn d_Mod_next_5 ?_
    rw [hm]
    refine g_istore h d_Mod_next_6 rfl (by rw [hN]; decide) ?_
    refine g_iload h d_Mod_next_8 rfl ?_
    refine g_if_ge (tgt := 15) h d_Mod_next_10 (by decide) (fun c_10 => ?_) (fun c_10 => ?_)
    · exact absurd c_10 (by decide)
    · refine g_iconst (v := -1) h d_Mod_next_13 (by decide) ?_
      exact g_iret h r d_Mod_next_14 (⟨by simp [mnext, hm, enc], rfl⟩)
  · obtain ⟨⟨P, hP, hp⟩, -⟩ := hok.1 j hj
    refine g_at (L' := [some (.ref (ad 0)), some (.int (nI n)), some (.long key), none, none, none]) rfl rfl rfl ?_
    refine g_aload_n h d_Mod_next_0 rfl rfl ?_
    refine gf_Mod_metaOf h f_Mod_35 d_Mod_next_1 ?_
    refine g_iload_n h d_Mod_next_4 rfl rfl ?_
    refine gi_metaOf h rfl hn d_Mod_next_5 ?_
    rw [hm]
    refine g_istore h d_Mod_next_6 rfl (by rw [hN]; decide) ?_
    refine g_iload h d_Mod_next_8 rfl ?_
    refine g_if_ge (tgt := 15) h d_Mod_next_10 (by decide) (fun c_10 => ?_) (fun c_10 => ?_)
    · refine g_aload_n h d_Mod_next_15 rfl rfl ?_
      refine g_iload h d_Mod_next_16 rfl ?_
      refine g_lload_n h d_Mod_next_18 rfl rfl ?_
      refine g_dVi h tb_good (c_Mod_pairOf hj hp hP) (q := 0) (by decide) rfl rfl v_Mod_131 nm_Mod_pairOf rfl ⟨rfl, rfl, Nat.le_of_ble_eq_true rfl, Nat.le_of_ble_eq_true rfl, Nat.zero_le _, Nat.zero_le _⟩ rfl (Nat.le_of_ble_eq_true rfl) d_Mod_next_19 ?_
      rcases hf : mpair M j key with _ | q <;> simp only [enc]
      · refine g_istore h d_Mod_next_22 rfl (by rw [hN]; decide) ?_
        refine g_iload h d_Mod_next_24 rfl ?_
        refine g_if_ge (tgt := 33) h d_Mod_next_26 (by decide) (fun c_26 => ?_) (fun c_26 => ?_)
        · exact absurd c_26 (by decide)
        · refine g_iconst (v := -1) h d_Mod_next_29 (by decide) ?_
          refine g_goto (tgt := 50) h d_Mod_next_30 (by decide) ?_
          exact g_iret h r d_Mod_next_50 (⟨by simp [mnext, hm, nI_pos (show j < 2 ^ 31 by omega), nI_clamp (show j < 2 ^ 31 by omega), hf, enc], rfl⟩)
      · have hq := mpair_lt hp hP hf
        refine g_istore h d_Mod_next_22 rfl (by rw [hN]; decide) ?_
        refine g_iload h d_Mod_next_24 rfl ?_
        refine g_if_ge (tgt := 33) h d_Mod_next_26 (by decide) (fun c_26 => ?_) (fun c_26 => ?_)
        · refine g_aload_n h d_Mod_next_33 rfl rfl ?_
          refine g_aload_n h d_Mod_next_34 rfl rfl ?_
          refine gf_Mod_values h f_Mod_41 d_Mod_next_35 ?_
          refine g_iload h d_Mod_next_38 rfl ?_
          refine g_bipush (v := 6) h d_Mod_next_40 (by decide) ?_
          refine g_imul h d_Mod_next_42 ?_
          refine g_iload h d_Mod_next_43 rfl ?_
          refine g_iadd h d_Mod_next_45 ?_
          refine gj_values h (nI_at6 j q) (by omega) d_Mod_next_46 ?_
          refine g_dVi h tb_good (c_Mod_tableOf (hok.2.1 2 _)) (q := 0) (by decide) rfl rfl v_Mod_135 nm_Mod_tableOf rfl ⟨rfl, rfl, Nat.le_of_ble_eq_true rfl, Nat.le_of_ble_eq_true rfl, Nat.zero_le _, Nat.zero_le _⟩ rfl (Nat.le_of_ble_eq_true rfl) d_Mod_next_47 ?_
          exact g_iret h r d_Mod_next_50 (⟨by simp [mnext, hm, nI_pos (show j < 2 ^ 31 by omega), nI_clamp (show j < 2 ^ 31 by omega), hf, enc], rfl⟩)
        · exact absurd (nI_pos' (by omega)) c_26
    · exact absurd (nI_pos' (by omega)) c_10
