set_option maxHeartbeats 4000000 in
set_option maxRecDepth 100000 in
theorem c_Mod_count {l : Launch} {D : va_G} {u : Nat → ClassId} {ad : Nat → Nat} {M : CS} {w : Int32} : Cm l D u ad y_Mod_count b_Mod_count 5 (some .int) { frames := 0, cells := 0, slots := 0, locals := 0 } [.ref (ad 0), .int w] (M) (some (.int (mcount (sI M 21 0 0) w))) (sI M 21 0 0) := by
  refine ct_of (by decide) (Nat.le_of_ble_eq_true rfl) ?_
  intro Γ _ _ hN h r
  have tail : ∀ x : Int32, G Γ 0 0 18 ad (mob ad u (sI M 21 0 0)) 62 [some (.ref (ad 0)), some (.int w), some (.int (mcnt (sI M 21 0 0) 16 0 0 0).1), some (.int (mcnt (sI M 21 0 0) 16 0 0 0).2), some (.int x)] [] := by
    intro x
    by_cases hw : w.toInt < 0 ∨ 8 < w.toInt
    · refine g_iload_n h d_Mod_count_62 rfl rfl ?_
      refine g_tableOut (tgt := 151) h d_Mod_count_63 hw (by decide) ?_
      refine g_iconst (v := -1) h d_Mod_count_151 (by decide) ?_
      exact g_iret h r d_Mod_count_152 (⟨by unfold mcount; rw [if_pos hw], rfl⟩)
    · rcases i32_cases hw with rfl | rfl | rfl | rfl | rfl | rfl | rfl | rfl | rfl
      · refine g_iload_n h d_Mod_count_62 rfl rfl ?_
        refine g_tableIn (off := 49) (tgt := 112) h d_Mod_count_63 (by decide) (by decide) (by decide) (by decide) ?_
        refine g_iload_n h d_Mod_count_112 rfl rfl ?_
        exact g_iret h r d_Mod_count_113 (⟨rfl, rfl⟩)
      · refine g_iload_n h d_Mod_count_62 rfl rfl ?_
        refine g_tableIn (off := 51) (tgt := 114) h d_Mod_count_63 (by decide) (by decide) (by decide) (by decide) ?_
        refine g_aload_n h d_Mod_count_114 rfl rfl ?_
        refine gf_Mod_phase h f_Mod_92 d_Mod_count_115 ?_
        exact g_iret h r d_Mod_count_118 (⟨rfl, rfl⟩)
      · refine g_iload_n h d_Mod_count_62 rfl rfl ?_
        refine g_tableIn (off := 56) (tgt := 119) h d_Mod_count_63 (by decide) (by decide) (by decide) (by decide) ?_
        refine g_aload_n h d_Mod_count_119 rfl rfl ?_
        refine gf_Mod_sweep h f_Mod_106 d_Mod_count_120 ?_
        exact g_iret h r d_Mod_count_123 (⟨rfl, rfl⟩)
      · refine g_iload_n h d_Mod_count_62 rfl rfl ?_
        refine g_tableIn (off := 61) (tgt := 124) h d_Mod_count_63 (by decide) (by decide) (by decide) (by decide) ?_
        refine g_aload_n h d_Mod_count_124 rfl rfl ?_
        refine gf_Mod_made h f_Mod_124 d_Mod_count_125 ?_
        exact g_iret h r d_Mod_count_128 (⟨rfl, rfl⟩)
      · refine g_iload_n h d_Mod_count_62 rfl rfl ?_
        refine g_tableIn (off := 66) (tgt := 129) h d_Mod_count_63 (by decide) (by decide) (by decide) (by decide) ?_
        refine g_aload_n h d_Mod_count_129 rfl rfl ?_
        refine gf_Mod_gone h f_Mod_109 d_Mod_count_130 ?_
        exact g_iret h r d_Mod_count_133 (⟨rfl, rfl⟩)
      · refine g_iload_n h d_Mod_count_62 rfl rfl ?_
        refine g_tableIn (off := 71) (tgt := 134) h d_Mod_count_63 (by decide) (by decide) (by decide) (by decide) ?_
        refine g_aload_n h d_Mod_count_134 rfl rfl ?_
        refine gf_Mod_done h f_Mod_170 d_Mod_count_135 ?_
        exact g_iret h r d_Mod_count_138 (⟨rfl, rfl⟩)
      · refine g_iload_n h d_Mod_count_62 rfl rfl ?_
        refine g_tableIn (off := 76) (tgt := 139) h d_Mod_count_63 (by decide) (by decide) (by decide) (by decide) ?_
        refine g_iload_n h d_Mod_count_139 rfl rfl ?_
        exact g_iret h r d_Mod_count_140 (⟨rfl, rfl⟩)
      · refine g_iload_n h d_Mod_count_62 rfl rfl ?_
        refine g_tableIn (off := 78) (tgt := 141) h d_Mod_count_63 (by decide) (by decide) (by decide) (by decide) ?_
        refine g_aload_n h d_Mod_count_141 rfl rfl ?_
        refine gf_Mod_units h f_Mod_89 d_Mod_count_142 ?_
        exact g_iret h r d_Mod_count_145 (⟨rfl, rfl⟩)
      · refine g_iload_n h d_Mod_count_62 rfl rfl ?_
        refine g_tableIn (off := 83) (tgt := 146) h d_Mod_count_63 (by decide) (by decide) (by decide) (by decide) ?_
        refine g_aload_n h d_Mod_count_146 rfl rfl ?_
        refine gf_Mod_fulls h f_Mod_112 d_Mod_count_147 ?_
        exact g_iret h r d_Mod_count_150 (⟨rfl, rfl⟩)
  have loop : ∀ (c i : Nat) (a g : Int32), i + c = 16 → mcnt (sI M 21 0 0) c i a g = mcnt (sI M 21 0 0) 16 0 0 0 → G Γ 0 0 18 ad (mob ad u (sI M 21 0 0)) 12 [some (.ref (ad 0)), some (.int w), some (.int a), some (.int g), some (.int (nI i))] [] := by
    intro c
    induction c with
    | zero =>
      intro i a g hi he
      refine g_iload h d_Mod_count_12 rfl ?_
      refine g_bipush (v := 16) h d_Mod_count_14 (by decide) ?_
      refine g_icmp_ge (tgt := 62) h d_Mod_count_16 (by decide) (fun c_16 => ?_) (fun c_16 => ?_)
      · rw [show a = (mcnt (sI M 21 0 0) 16 0 0 0).1 by rw [← he]; rfl, show g = (mcnt (sI M 21 0 0) 16 0 0 0).2 by rw [← he]; rfl]
        exact tail _
      · exact absurd (nI_le (a := 16) (b := i) (by omega) (by omega)) c_16
    | succ c ih =>
      intro i a g hi he
      refine g_iload h d_Mod_count_12 rfl ?_
      refine g_bipush (v := 16) h d_Mod_count_14 (by decide) ?_
      refine g_icmp_ge (tgt := 62) h d_Mod_count_16 (by decide) (fun c_16 => ?_) (fun c_16 => ?_)
      · exact absurd c_16 (nI_ge (b := 16) (by omega) (by decide))
      · refine g_aload_n h d_Mod_count_19 rfl rfl ?_
        refine gf_Mod_kind h f_Mod_26 d_Mod_count_20 ?_
        refine g_iload h d_Mod_count_23 rfl ?_
        refine gi_kind h rfl (by omega) d_Mod_count_25 ?_
        refine g_if_eq (tgt := 32) h d_Mod_count_26 (by decide) (fun c_26 => ?_) (fun c_26 => ?_)
        · skip
          · refine g_aload_n h d_Mod_count_32 rfl rfl ?_
            refine gf_Mod_kind h f_Mod_26 d_Mod_count_33 ?_
            refine g_iload h d_Mod_count_36 rfl ?_
            refine gi_kind h rfl (by omega) d_Mod_count_38 ?_
            refine g_if_eq (tgt := 56) h d_Mod_count_39 (by decide) (fun c_39 => ?_) (fun c_39 => ?_)
            · refine g_iinc (v := nI (i + 1)) h d_Mod_count_56 rfl (by rw [nI_succ]; rfl) rfl (by rw [hN]; decide) ?_
              refine g_goto (tgt := 12) h d_Mod_count_59 (by decide) ?_
              exact ih (i + 1) _ _ (by omega) (by rw [← he]; first | (simp [mcnt, c_26, c_39]; done) | (simp [mcnt, c_26, c_50]; done))
            · exact absurd c_26 c_39
        · skip
          · refine g_iinc (v := a + 1) h d_Mod_count_29 rfl rfl rfl (by rw [hN]; decide) ?_
            skip
            · refine g_aload_n h d_Mod_count_32 rfl rfl ?_
              refine gf_Mod_kind h f_Mod_26 d_Mod_count_33 ?_
              refine g_iload h d_Mod_count_36 rfl ?_
              refine gi_kind h rfl (by omega) d_Mod_count_38 ?_
              refine g_if_eq (tgt := 56) h d_Mod_count_39 (by decide) (fun c_39 => ?_) (fun c_39 => ?_)
              · exact absurd c_39 c_26
              · refine g_aload_n h d_Mod_count_42 rfl rfl ?_
                refine gf_Mod_colour h f_Mod_29 d_Mod_count_43 ?_
                refine g_iload h d_Mod_count_46 rfl ?_
                refine gi_colour h rfl (by omega) d_Mod_count_48 ?_
                refine g_iconst (v := 1) h d_Mod_count_49 (by decide) ?_
                refine g_icmp_ne (tgt := 56) h d_Mod_count_50 (by decide) (fun c_50 => ?_) (fun c_50 => ?_)
                · refine g_iinc (v := nI (i + 1)) h d_Mod_count_56 rfl (by rw [nI_succ]; rfl) rfl (by rw [hN]; decide) ?_
                  refine g_goto (tgt := 12) h d_Mod_count_59 (by decide) ?_
                  exact ih (i + 1) _ _ (by omega) (by rw [← he]; first | (simp [mcnt, c_26, c_39]; done) | (simp [mcnt, c_26, c_50]; done))
                · refine g_iinc (v := g + 1) h d_Mod_count_53 rfl rfl rfl (by rw [hN]; decide) ?_
                  refine g_iinc (v := nI (i + 1)) h d_Mod_count_56 rfl (by rw [nI_succ]; rfl) rfl (by rw [hN]; decide) ?_
                  refine g_goto (tgt := 12) h d_Mod_count_59 (by decide) ?_
                  exact ih (i + 1) _ _ (by omega) (by rw [← he]; first | (simp [mcnt, c_26, c_39]; done) | (simp [mcnt, c_26, c_50]; done))
  refine g_at (L' := [some (.ref (ad 0)), some (.int w), none, none, none]) rfl rfl rfl ?_
  refine g_aload_n h d_Mod_count_0 rfl rfl ?_
  refine g_iconst (v := 0) h d_Mod_count_1 (by decide) ?_
  refine pf_Mod_thrown h f_Mod_64 d_Mod_count_2 ?_
  refine g_iconst (v := 0) h d_Mod_count_5 (by decide) ?_
  refine g_istore_n h d_Mod_count_6 rfl rfl (by rw [hN]; decide) ?_
  refine g_iconst (v := 0) h d_Mod_count_7 (by decide) ?_
  refine g_istore_n h d_Mod_count_8 rfl rfl (by rw [hN]; decide) ?_
  refine g_iconst (v := 0) h d_Mod_count_9 (by decide) ?_
  refine g_istore h d_Mod_count_10 rfl (by rw [hN]; decide) ?_
  exact loop 16 0 0 0 (by omega) rfl
