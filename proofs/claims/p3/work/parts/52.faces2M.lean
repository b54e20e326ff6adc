set_option maxHeartbeats 4000000 in
set_option maxRecDepth 100000 in
theorem c_Mod_set {l : Launch} {D : va_G} {u : Nat → ClassId} {ad : Nat → Nat} {M : CS} {t k v : Int32} (hok : okM M) : Cm l D u ad y_Mod_set b_Mod_set 4 none { frames := 4, cells := 0, slots := 0, locals := 99 } [.ref (ad 0), .int t, .int k, .int v] (M) (none) (mset M t k v) := by
  refine ct_of (by decide) (Nat.le_of_ble_eq_true rfl) ?_
  intro Γ _ _ hN h r
  refine g_at (L' := [some (.ref (ad 0)), some (.int t), some (.int k), some (.int v)]) rfl rfl rfl ?_
  refine g_aload_n h d_Mod_set_0 rfl rfl ?_
  refine g_aload_n h d_Mod_set_1 rfl rfl ?_
  refine g_iload_n h d_Mod_set_2 rfl rfl ?_
  refine g_dVi h tb_good (c_Mod_badGlobal) (q := 0) (by decide) rfl rfl v_Mod_78 nm_Mod_badGlobal rfl ⟨rfl, rfl, Nat.le_of_ble_eq_true rfl, Nat.le_of_ble_eq_true rfl, Nat.zero_le _, Nat.zero_le _⟩ rfl (Nat.le_of_ble_eq_true rfl) d_Mod_set_3 ?_
  by_cases hb : t < 0 ∨ 5 < t
  · rw [if_pos hb]
    refine g_if_ne (tgt := 25) h d_Mod_set_6 (by decide) (fun c_6 => ?_) (fun c_6 => ?_)
    · skip
      · refine g_iconst (v := 1) h d_Mod_set_25 (by decide) ?_
        refine g_goto (tgt := 47) h d_Mod_set_26 (by decide) ?_
        refine pf_Mod_thrown h f_Mod_64 d_Mod_set_47 ?_
        refine g_aload_n h d_Mod_set_50 rfl rfl ?_
        refine gf_Mod_thrown h f_Mod_64 d_Mod_set_51 ?_
        simp only [sI_1, sI_2, sJ_1, sJ_2, sJ_3, sR_1, sR_2, sR_3, Nat.reduceEqDiff, Nat.zero_ne_one, Nat.one_ne_zero, Nat.succ_ne_zero, reduceCtorEq, false_and, if_false, true_and, and_self, if_true, and_true, and_false, reduceIte]
        refine g_if_eq (tgt := 58) h d_Mod_set_54 (by decide) (fun c_54 => ?_) (fun c_54 => ?_)
        · exact absurd c_54 (by decide)
        · exact g_vret h r d_Mod_set_57 (⟨rfl, by unfold mset; first | (rw [if_pos (Or.inl hb)]; done) | (rw [if_pos (Or.inr (Or.inl hb2))]; done) | (rw [if_pos (Or.inr (Or.inr hb3))]; done) | (unfold mgl; rw [if_neg (fun z => z.elim hb (fun z => z.elim hb2 hb3)), hf]; done)⟩)
    · exact absurd c_6 (by decide)
  · rw [if_neg hb]
    obtain ⟨hj, hje⟩ := gl_num hb
    refine g_if_ne (tgt := 25) h d_Mod_set_6 (by decide) (fun c_6 => ?_) (fun c_6 => ?_)
    · exact absurd rfl c_6
    · refine g_aload_n h d_Mod_set_9 rfl rfl ?_
      refine g_iload_n h d_Mod_set_10 rfl rfl ?_
      refine g_dVi h tb_good (c_Mod_badGlobal) (q := 0) (by decide) rfl rfl v_Mod_78 nm_Mod_badGlobal rfl ⟨rfl, rfl, Nat.le_of_ble_eq_true rfl, Nat.le_of_ble_eq_true rfl, Nat.zero_le _, Nat.zero_le _⟩ rfl (Nat.le_of_ble_eq_true rfl) d_Mod_set_11 ?_
      by_cases hb2 : k < 0 ∨ 5 < k
      · rw [if_pos hb2]
        refine g_if_ne (tgt := 25) h d_Mod_set_14 (by decide) (fun c_14 => ?_) (fun c_14 => ?_)
        · skip
          · refine g_iconst (v := 1) h d_Mod_set_25 (by decide) ?_
            refine g_goto (tgt := 47) h d_Mod_set_26 (by decide) ?_
            refine pf_Mod_thrown h f_Mod_64 d_Mod_set_47 ?_
            refine g_aload_n h d_Mod_set_50 rfl rfl ?_
            refine gf_Mod_thrown h f_Mod_64 d_Mod_set_51 ?_
            simp only [sI_1, sI_2, sJ_1, sJ_2, sJ_3, sR_1, sR_2, sR_3, Nat.reduceEqDiff, Nat.zero_ne_one, Nat.one_ne_zero, Nat.succ_ne_zero, reduceCtorEq, false_and, if_false, true_and, and_self, if_true, and_true, and_false, reduceIte]
            refine g_if_eq (tgt := 58) h d_Mod_set_54 (by decide) (fun c_54 => ?_) (fun c_54 => ?_)
            · exact absurd c_54 (by decide)
            · exact g_vret h r d_Mod_set_57 (⟨rfl, by unfold mset; first | (rw [if_pos (Or.inl hb)]; done) | (rw [if_pos (Or.inr (Or.inl hb2))]; done) | (rw [if_pos (Or.inr (Or.inr hb3))]; done) | (unfold mgl; rw [if_neg (fun z => z.elim hb (fun z => z.elim hb2 hb3)), hf]; done)⟩)
        · exact absurd c_14 (by decide)
      · rw [if_neg hb2]
        obtain ⟨hk, hke⟩ := gl_num hb2
        refine g_if_ne (tgt := 25) h d_Mod_set_14 (by decide) (fun c_14 => ?_) (fun c_14 => ?_)
        · exact absurd rfl c_14
        · refine g_aload_n h d_Mod_set_17 rfl rfl ?_
          refine g_iload_n h d_Mod_set_18 rfl rfl ?_
          refine g_dVi h tb_good (c_Mod_badGlobal) (q := 0) (by decide) rfl rfl v_Mod_78 nm_Mod_badGlobal rfl ⟨rfl, rfl, Nat.le_of_ble_eq_true rfl, Nat.le_of_ble_eq_true rfl, Nat.zero_le _, Nat.zero_le _⟩ rfl (Nat.le_of_ble_eq_true rfl) d_Mod_set_19 ?_
          by_cases hb3 : v < 0 ∨ 5 < v
          · rw [if_pos hb3]
            refine g_if_eq (tgt := 29) h d_Mod_set_22 (by decide) (fun c_22 => ?_) (fun c_22 => ?_)
            · exact absurd c_22 (by decide)
            · skip
              · refine g_iconst (v := 1) h d_Mod_set_25 (by decide) ?_
                refine g_goto (tgt := 47) h d_Mod_set_26 (by decide) ?_
                refine pf_Mod_thrown h f_Mod_64 d_Mod_set_47 ?_
                refine g_aload_n h d_Mod_set_50 rfl rfl ?_
                refine gf_Mod_thrown h f_Mod_64 d_Mod_set_51 ?_
                simp only [sI_1, sI_2, sJ_1, sJ_2, sJ_3, sR_1, sR_2, sR_3, Nat.reduceEqDiff, Nat.zero_ne_one, Nat.one_ne_zero, Nat.succ_ne_zero, reduceCtorEq, false_and, if_false, true_and, and_self, if_true, and_true, and_false, reduceIte]
                refine g_if_eq (tgt := 58) h d_Mod_set_54 (by decide) (fun c_54 => ?_) (fun c_54 => ?_)
                · exact absurd c_54 (by decide)
                · exact g_vret h r d_Mod_set_57 (⟨rfl, by unfold mset; first | (rw [if_pos (Or.inl hb)]; done) | (rw [if_pos (Or.inr (Or.inl hb2))]; done) | (rw [if_pos (Or.inr (Or.inr hb3))]; done) | (unfold mgl; rw [if_neg (fun z => z.elim hb (fun z => z.elim hb2 hb3)), hf]; done)⟩)
          · rw [if_neg hb3]
            obtain ⟨hv, hve⟩ := gl_num hb3
            refine g_if_eq (tgt := 29) h d_Mod_set_22 (by decide) (fun c_22 => ?_) (fun c_22 => ?_)
            · refine g_aload_n h d_Mod_set_29 rfl rfl ?_
              refine g_aload_n h d_Mod_set_30 rfl rfl ?_
              refine gf_Mod_globals h f_Mod_22 d_Mod_set_31 ?_
              refine g_iload_n h d_Mod_set_34 rfl rfl ?_
              refine gj_globals h hje hj d_Mod_set_35 ?_
              refine g_dVi h tb_good (c_Mod_tableOf (hok.2.1 0 _)) (q := 0) (by decide) rfl rfl v_Mod_135 nm_Mod_tableOf rfl ⟨rfl, rfl, Nat.le_of_ble_eq_true rfl, Nat.le_of_ble_eq_true rfl, Nat.zero_le _, Nat.zero_le _⟩ rfl (Nat.le_of_ble_eq_true rfl) d_Mod_set_36 ?_
              rcases hf : mOf M 1 (M.2.1 0 0 t.toNatClampNeg) with _ | q <;> simp only [enc]
              · refine g_if_ge (tgt := 46) h d_Mod_set_39 (by decide) (fun c_39 => ?_) (fun c_39 => ?_)
                · exact absurd c_39 (by decide)
                · skip
                  · refine g_iconst (v := 3) h d_Mod_set_42 (by decide) ?_
                    refine g_goto (tgt := 47) h d_Mod_set_43 (by decide) ?_
                    refine pf_Mod_thrown h f_Mod_64 d_Mod_set_47 ?_
                    refine g_aload_n h d_Mod_set_50 rfl rfl ?_
                    refine gf_Mod_thrown h f_Mod_64 d_Mod_set_51 ?_
                    simp only [sI_1, sI_2, sJ_1, sJ_2, sJ_3, sR_1, sR_2, sR_3, Nat.reduceEqDiff, Nat.zero_ne_one, Nat.one_ne_zero, Nat.succ_ne_zero, reduceCtorEq, false_and, if_false, true_and, and_self, if_true, and_true, and_false, reduceIte]
                    refine g_if_eq (tgt := 58) h d_Mod_set_54 (by decide) (fun c_54 => ?_) (fun c_54 => ?_)
                    · exact absurd c_54 (by decide)
                    · exact g_vret h r d_Mod_set_57 (⟨rfl, by unfold mset; first | (rw [if_pos (Or.inl hb)]; done) | (rw [if_pos (Or.inr (Or.inl hb2))]; done) | (rw [if_pos (Or.inr (Or.inr hb3))]; done) | (unfold mgl; rw [if_neg (fun z => z.elim hb (fun z => z.elim hb2 hb3)), hf]; done)⟩)
              · have hq := mOf_lt (hok.2.1 0 _) hf
                refine g_if_ge (tgt := 46) h d_Mod_set_39 (by decide) (fun c_39 => ?_) (fun c_39 => ?_)
                · skip
                  · refine g_iconst (v := 0) h d_Mod_set_46 (by decide) ?_
                    refine pf_Mod_thrown h f_Mod_64 d_Mod_set_47 ?_
                    refine g_aload_n h d_Mod_set_50 rfl rfl ?_
                    refine gf_Mod_thrown h f_Mod_64 d_Mod_set_51 ?_
                    simp only [sI_1, sI_2, sJ_1, sJ_2, sJ_3, sR_1, sR_2, sR_3, Nat.reduceEqDiff, Nat.zero_ne_one, Nat.one_ne_zero, Nat.succ_ne_zero, reduceCtorEq, false_and, if_false, true_and, and_self, if_true, and_true, and_false, reduceIte]
                    refine g_if_eq (tgt := 58) h d_Mod_set_54 (by decide) (fun c_54 => ?_) (fun c_54 => ?_)
                    · refine g_aload_n h d_Mod_set_58 rfl rfl ?_
                      refine g_iconst (v := 0) h d_Mod_set_59 (by decide) ?_
                      refine pf_Mod_trouble h f_Mod_141 d_Mod_set_60 ?_
                      refine g_aload_n h d_Mod_set_63 rfl rfl ?_
                      refine g_aload_n h d_Mod_set_64 rfl rfl ?_
                      refine g_aload_n h d_Mod_set_65 rfl rfl ?_
                      refine gf_Mod_globals h f_Mod_22 d_Mod_set_66 ?_
                      refine g_iload_n h d_Mod_set_69 rfl rfl ?_
                      refine gj_globals h hje hj d_Mod_set_70 ?_
                      refine g_dVi h tb_good (c_Mod_tableOf (hok.2.1 0 _)) (q := 0) (by decide) rfl rfl v_Mod_135 nm_Mod_tableOf rfl ⟨rfl, rfl, Nat.le_of_ble_eq_true rfl, Nat.le_of_ble_eq_true rfl, Nat.zero_le _, Nat.zero_le _⟩ rfl (Nat.le_of_ble_eq_true rfl) d_Mod_set_71 ?_
                      try simp only [sI_1, sI_2, sJ_1, sJ_2, sJ_3, sR_1, sR_2, sR_3, Nat.reduceEqDiff, Nat.zero_ne_one, Nat.one_ne_zero, Nat.succ_ne_zero, reduceCtorEq, false_and, if_false, true_and, and_self, if_true, and_true, and_false, reduceIte]
                      rw [mOf_sI (by decide), mOf_sI (by decide), hf]
                      simp only [enc]
                      refine g_aload_n h d_Mod_set_74 rfl rfl ?_
                      refine gf_Mod_globals h f_Mod_22 d_Mod_set_75 ?_
                      refine g_iload_n h d_Mod_set_78 rfl rfl ?_
                      refine gj_globals h hke hk d_Mod_set_79 ?_
                      refine g_aload_n h d_Mod_set_80 rfl rfl ?_
                      refine gf_Mod_globals h f_Mod_22 d_Mod_set_81 ?_
                      refine g_iload_n h d_Mod_set_84 rfl rfl ?_
                      refine gj_globals h hve hv d_Mod_set_85 ?_
                      try simp only [sI_1, sI_2, sJ_1, sJ_2, sJ_3, sR_1, sR_2, sR_3, Nat.reduceEqDiff, Nat.zero_ne_one, Nat.one_ne_zero, Nat.succ_ne_zero, reduceCtorEq, false_and, if_false, true_and, and_self, if_true, and_true, and_false, reduceIte]
                      refine g_dVv h tb_good (c_Mod_setting (n0 := q) (okM_keep (by decide) (okM_keep (by decide) hok)) hq) (q := 0) (by decide) rfl rfl v_Mod_147 nm_Mod_setting rfl ⟨rfl, rfl, Nat.le_of_ble_eq_true rfl, Nat.le_of_ble_eq_true rfl, Nat.zero_le _, Nat.zero_le _⟩ rfl (Nat.le_of_ble_eq_true rfl) d_Mod_set_86 ?_
                      refine g_aload_n h d_Mod_set_89 rfl rfl ?_
                      refine g_aload_n h d_Mod_set_90 rfl rfl ?_
                      refine gf_Mod_trouble h f_Mod_141 d_Mod_set_91 ?_
                      refine pf_Mod_thrown h f_Mod_64 d_Mod_set_94 ?_
                      exact g_vret h r d_Mod_set_97 (⟨rfl, by unfold mset mgl; rw [if_neg (fun z => z.elim hb (fun z => z.elim hb2 hb3)), hf]; first | done | rfl⟩)
                    · exact absurd rfl c_54
                · exact absurd (nI_pos' (by omega)) c_39
            · exact absurd rfl c_22
set_option maxHeartbeats 4000000 in
set_option maxRecDepth 100000 in
theorem c_Mod_get {l : Launch} {D : va_G} {u : Nat → ClassId} {ad : Nat → Nat} {M : CS} {t k v : Int32} (hok : okM M) : Cm l D u ad y_Mod_get b_Mod_get 6 (some .long) { frames := 4, cells := 0, slots := 0, locals := 96 } [.ref (ad 0), .int t, .int k, .int v] (M) (some (.long (mget M t k v).1)) ((mget M t k v).2) := by
  refine ct_of (by decide) (Nat.le_of_ble_eq_true rfl) ?_
  intro Γ _ _ hN h r
  refine g_at (L' := [some (.ref (ad 0)), some (.int t), some (.int k), some (.int v), none, none]) rfl rfl rfl ?_
  refine g_aload_n h d_Mod_get_0 rfl rfl ?_
  refine g_aload_n h d_Mod_get_1 rfl rfl ?_
  refine g_iload_n h d_Mod_get_2 rfl rfl ?_
  refine g_dVi h tb_good (c_Mod_badGlobal) (q := 0) (by decide) rfl rfl v_Mod_78 nm_Mod_badGlobal rfl ⟨rfl, rfl, Nat.le_of_ble_eq_true rfl, Nat.le_of_ble_eq_true rfl, Nat.zero_le _, Nat.zero_le _⟩ rfl (Nat.le_of_ble_eq_true rfl) d_Mod_get_3 ?_
  by_cases hb : t < 0 ∨ 5 < t
  · rw [if_pos hb]
    refine g_if_ne (tgt := 25) h d_Mod_get_6 (by decide) (fun c_6 => ?_) (fun c_6 => ?_)
    · skip
      · refine g_iconst (v := 1) h d_Mod_get_25 (by decide) ?_
        refine g_goto (tgt := 47) h d_Mod_get_26 (by decide) ?_
        refine pf_Mod_thrown h f_Mod_64 d_Mod_get_47 ?_
        refine g_aload_n h d_Mod_get_50 rfl rfl ?_
        refine gf_Mod_thrown h f_Mod_64 d_Mod_get_51 ?_
        simp only [sI_1, sI_2, sJ_1, sJ_2, sJ_3, sR_1, sR_2, sR_3, Nat.reduceEqDiff, Nat.zero_ne_one, Nat.one_ne_zero, Nat.succ_ne_zero, reduceCtorEq, false_and, if_false, true_and, and_self, if_true, and_true, and_false, reduceIte]
        refine g_if_eq (tgt := 59) h d_Mod_get_54 (by decide) (fun c_54 => ?_) (fun c_54 => ?_)
        · exact absurd c_54 (by decide)
        · refine g_lconst (v := 0) h d_Mod_get_57 (by decide) ?_
          exact g_lret h r d_Mod_get_58 (⟨by unfold mget; first | (rw [if_pos (Or.inl hb)]; done) | (rw [if_pos (Or.inr (Or.inl hb2))]; done) | (rw [if_pos (Or.inr (Or.inr hb3))]; done) | (unfold mgl; rw [if_neg (fun z => z.elim hb (fun z => z.elim hb2 hb3)), hf]; done), by unfold mget; first | (rw [if_pos (Or.inl hb)]; done) | (rw [if_pos (Or.inr (Or.inl hb2))]; done) | (rw [if_pos (Or.inr (Or.inr hb3))]; done) | (unfold mgl; rw [if_neg (fun z => z.elim hb (fun z => z.elim hb2 hb3)), hf]; done)⟩)
    · exact absurd c_6 (by decide)
  · rw [if_neg hb]
    obtain ⟨hj, hje⟩ := gl_num hb
    refine g_if_ne (tgt := 25) h d_Mod_get_6 (by decide) (fun c_6 => ?_) (fun c_6 => ?_)
    · exact absurd rfl c_6
    · refine g_aload_n h d_Mod_get_9 rfl rfl ?_
      refine g_iload_n h d_Mod_get_10 rfl rfl ?_
      refine g_dVi h tb_good (c_Mod_badGlobal) (q := 0) (by decide) rfl rfl v_Mod_78 nm_Mod_badGlobal rfl ⟨rfl, rfl, Nat.le_of_ble_eq_true rfl, Nat.le_of_ble_eq_true rfl, Nat.zero_le _, Nat.zero_le _⟩ rfl (Nat.le_of_ble_eq_true rfl) d_Mod_get_11 ?_
      by_cases hb2 : k < 0 ∨ 5 < k
      · rw [if_pos hb2]
        refine g_if_ne (tgt := 25) h d_Mod_get_14 (by decide) (fun c_14 => ?_) (fun c_14 => ?_)
        · skip
          · refine g_iconst (v := 1) h d_Mod_get_25 (by decide) ?_
            refine g_goto (tgt := 47) h d_Mod_get_26 (by decide) ?_
            refine pf_Mod_thrown h f_Mod_64 d_Mod_get_47 ?_
            refine g_aload_n h d_Mod_get_50 rfl rfl ?_
            refine gf_Mod_thrown h f_Mod_64 d_Mod_get_51 ?_
            simp only [sI_1, sI_2, sJ_1, sJ_2, sJ_3, sR_1, sR_2, sR_3, Nat.reduceEqDiff, Nat.zero_ne_one, Nat.one_ne_zero, Nat.succ_ne_zero, reduceCtorEq, false_and, if_false, true_and, and_self, if_true, and_true, and_false, reduceIte]
            refine g_if_eq (tgt := 59) h d_Mod_get_54 (by decide) (fun c_54 => ?_) (fun c_54 => ?_)
            · exact absurd c_54 (by decide)
            · refine g_lconst (v := 0) h d_Mod_get_57 (by decide) ?_
              exact g_lret h r d_Mod_get_58 (⟨by unfold mget; first | (rw [if_pos (Or.inl hb)]; done) | (rw [if_pos (Or.inr (Or.inl hb2))]; done) | (rw [if_pos (Or.inr (Or.inr hb3))]; done) | (unfold mgl; rw [if_neg (fun z => z.elim hb (fun z => z.elim hb2 hb3)), hf]; done), by unfold mget; first | (rw [if_pos (Or.inl hb)]; done) | (rw [if_pos (Or.inr (Or.inl hb2))]; done) | (rw [if_pos (Or.inr (Or.inr hb3))]; done) | (unfold mgl; rw [if_neg (fun z => z.elim hb (fun z => z.elim hb2 hb3)), hf]; done)⟩)
        · exact absurd c_14 (by decide)
      · rw [if_neg hb2]
        obtain ⟨hk, hke⟩ := gl_num hb2
        refine g_if_ne (tgt := 25) h d_Mod_get_14 (by decide) (fun c_14 => ?_) (fun c_14 => ?_)
        · exact absurd rfl c_14
        · refine g_aload_n h d_Mod_get_17 rfl rfl ?_
          refine g_iload_n h d_Mod_get_18 rfl rfl ?_
          refine g_dVi h tb_good (c_Mod_badGlobal) (q := 0) (by decide) rfl rfl v_Mod_78 nm_Mod_badGlobal rfl ⟨rfl, rfl, Nat.le_of_ble_eq_true rfl, Nat.le_of_ble_eq_true rfl, Nat.zero_le _, Nat.zero_le _⟩ rfl (Nat.le_of_ble_eq_true rfl) d_Mod_get_19 ?_
          by_cases hb3 : v < 0 ∨ 5 < v
          · rw [if_pos hb3]
            refine g_if_eq (tgt := 29) h d_Mod_get_22 (by decide) (fun c_22 => ?_) (fun c_22 => ?_)
            · exact absurd c_22 (by decide)
            · skip
              · refine g_iconst (v := 1) h d_Mod_get_25 (by decide) ?_
                refine g_goto (tgt := 47) h d_Mod_get_26 (by decide) ?_
                refine pf_Mod_thrown h f_Mod_64 d_Mod_get_47 ?_
                refine g_aload_n h d_Mod_get_50 rfl rfl ?_
                refine gf_Mod_thrown h f_Mod_64 d_Mod_get_51 ?_
                simp only [sI_1, sI_2, sJ_1, sJ_2, sJ_3, sR_1, sR_2, sR_3, Nat.reduceEqDiff, Nat.zero_ne_one, Nat.one_ne_zero, Nat.succ_ne_zero, reduceCtorEq, false_and, if_false, true_and, and_self, if_true, and_true, and_false, reduceIte]
                refine g_if_eq (tgt := 59) h d_Mod_get_54 (by decide) (fun c_54 => ?_) (fun c_54 => ?_)
                · exact absurd c_54 (by decide)
                · refine g_lconst (v := 0) h d_Mod_get_57 (by decide) ?_
                  exact g_lret h r d_Mod_get_58 (⟨by unfold mget; first | (rw [if_pos (Or.inl hb)]; done) | (rw [if_pos (Or.inr (Or.inl hb2))]; done) | (rw [if_pos (Or.inr (Or.inr hb3))]; done) | (unfold mgl; rw [if_neg (fun z => z.elim hb (fun z => z.elim hb2 hb3)), hf]; done), by unfold mget; first | (rw [if_pos (Or.inl hb)]; done) | (rw [if_pos (Or.inr (Or.inl hb2))]; done) | (rw [if_pos (Or.inr (Or.inr hb3))]; done) | (unfold mgl; rw [if_neg (fun z => z.elim hb (fun z => z.elim hb2 hb3)), hf]; done)⟩)
          · rw [if_neg hb3]
            obtain ⟨hv, hve⟩ := gl_num hb3
            refine g_if_eq (tgt := 29) h d_Mod_get_22 (by decide) (fun c_22 => ?_) (fun c_22 => ?_)
            · refine g_aload_n h d_Mod_get_29 rfl rfl ?_
              refine g_aload_n h d_Mod_get_30 rfl rfl ?_
              refine gf_Mod_globals h f_Mod_22 d_Mod_get_31 ?_
              refine g_iload_n h d_Mod_get_34 rfl rfl ?_
              refine gj_globals h hje hj d_Mod_get_35 ?_
              refine g_dVi h tb_good (c_Mod_tableOf (hok.2.1 0 _)) (q := 0) (by decide) rfl rfl v_Mod_135 nm_Mod_tableOf rfl ⟨rfl, rfl, Nat.le_of_ble_eq_true rfl, Nat.le_of_ble_eq_true rfl, Nat.zero_le _, Nat.zero_le _⟩ rfl (Nat.le_of_ble_eq_true rfl) d_Mod_get_36 ?_
              rcases hf : mOf M 1 (M.2.1 0 0 t.toNatClampNeg) with _ | q <;> simp only [enc]
              · refine g_if_ge (tgt := 46) h d_Mod_get_39 (by decide) (fun c_39 => ?_) (fun c_39 => ?_)
                · exact absurd c_39 (by decide)
                · skip
                  · refine g_iconst (v := 3) h d_Mod_get_42 (by decide) ?_
                    refine g_goto (tgt := 47) h d_Mod_get_43 (by decide) ?_
                    refine pf_Mod_thrown h f_Mod_64 d_Mod_get_47 ?_
                    refine g_aload_n h d_Mod_get_50 rfl rfl ?_
                    refine gf_Mod_thrown h f_Mod_64 d_Mod_get_51 ?_
                    simp only [sI_1, sI_2, sJ_1, sJ_2, sJ_3, sR_1, sR_2, sR_3, Nat.reduceEqDiff, Nat.zero_ne_one, Nat.one_ne_zero, Nat.succ_ne_zero, reduceCtorEq, false_and, if_false, true_and, and_self, if_true, and_true, and_false, reduceIte]
                    refine g_if_eq (tgt := 59) h d_Mod_get_54 (by decide) (fun c_54 => ?_) (fun c_54 => ?_)
                    · exact absurd c_54 (by decide)
                    · refine g_lconst (v := 0) h d_Mod_get_57 (by decide) ?_
                      exact g_lret h r d_Mod_get_58 (⟨by unfold mget; first | (rw [if_pos (Or.inl hb)]; done) | (rw [if_pos (Or.inr (Or.inl hb2))]; done) | (rw [if_pos (Or.inr (Or.inr hb3))]; done) | (unfold mgl; rw [if_neg (fun z => z.elim hb (fun z => z.elim hb2 hb3)), hf]; done), by unfold mget; first | (rw [if_pos (Or.inl hb)]; done) | (rw [if_pos (Or.inr (Or.inl hb2))]; done) | (rw [if_pos (Or.inr (Or.inr hb3))]; done) | (unfold mgl; rw [if_neg (fun z => z.elim hb (fun z => z.elim hb2 hb3)), hf]; done)⟩)
              · have hq := mOf_lt (hok.2.1 0 _) hf
                refine g_if_ge (tgt := 46) h d_Mod_get_39 (by decide) (fun c_39 => ?_) (fun c_39 => ?_)
                · skip
                  · refine g_iconst (v := 0) h d_Mod_get_46 (by decide) ?_
                    refine pf_Mod_thrown h f_Mod_64 d_Mod_get_47 ?_
                    refine g_aload_n h d_Mod_get_50 rfl rfl ?_
                    refine gf_Mod_thrown h f_Mod_64 d_Mod_get_51 ?_
                    simp only [sI_1, sI_2, sJ_1, sJ_2, sJ_3, sR_1, sR_2, sR_3, Nat.reduceEqDiff, Nat.zero_ne_one, Nat.one_ne_zero, Nat.succ_ne_zero, reduceCtorEq, false_and, if_false, true_and, and_self, if_true, and_true, and_false, reduceIte]
                    refine g_if_eq (tgt := 59) h d_Mod_get_54 (by decide) (fun c_54 => ?_) (fun c_54 => ?_)
                    · refine g_aload_n h d_Mod_get_59 rfl rfl ?_
                      refine g_iconst (v := 0) h d_Mod_get_60 (by decide) ?_
                      refine pf_Mod_trouble h f_Mod_141 d_Mod_get_61 ?_
                      refine g_aload_n h d_Mod_get_64 rfl rfl ?_
                      refine g_aload_n h d_Mod_get_65 rfl rfl ?_
                      refine g_aload_n h d_Mod_get_66 rfl rfl ?_
                      refine gf_Mod_globals h f_Mod_22 d_Mod_get_67 ?_
                      refine g_iload_n h d_Mod_get_70 rfl rfl ?_
                      refine gj_globals h hje hj d_Mod_get_71 ?_
                      refine g_dVi h tb_good (c_Mod_tableOf (hok.2.1 0 _)) (q := 0) (by decide) rfl rfl v_Mod_135 nm_Mod_tableOf rfl ⟨rfl, rfl, Nat.le_of_ble_eq_true rfl, Nat.le_of_ble_eq_true rfl, Nat.zero_le _, Nat.zero_le _⟩ rfl (Nat.le_of_ble_eq_true rfl) d_Mod_get_72 ?_
                      try simp only [sI_1, sI_2, sJ_1, sJ_2, sJ_3, sR_1, sR_2, sR_3, Nat.reduceEqDiff, Nat.zero_ne_one, Nat.one_ne_zero, Nat.succ_ne_zero, reduceCtorEq, false_and, if_false, true_and, and_self, if_true, and_true, and_false, reduceIte]
                      rw [mOf_sI (by decide), mOf_sI (by decide), hf]
                      simp only [enc]
                      refine g_aload_n h d_Mod_get_75 rfl rfl ?_
                      refine gf_Mod_globals h f_Mod_22 d_Mod_get_76 ?_
                      refine g_iload_n h d_Mod_get_79 rfl rfl ?_
                      refine gj_globals h hke hk d_Mod_get_80 ?_
                      try simp only [sI_1, sI_2, sJ_1, sJ_2, sJ_3, sR_1, sR_2, sR_3, Nat.reduceEqDiff, Nat.zero_ne_one, Nat.one_ne_zero, Nat.succ_ne_zero, reduceCtorEq, false_and, if_false, true_and, and_self, if_true, and_true, and_false, reduceIte]
                      refine g_dVl h tb_good (c_Mod_getting (n0 := q) (okM_keep (by decide) (okM_keep (by decide) hok)) hq) (q := 0) (by decide) rfl rfl v_Mod_151 nm_Mod_getting rfl ⟨rfl, rfl, Nat.le_of_ble_eq_true rfl, Nat.le_of_ble_eq_true rfl, Nat.zero_le _, Nat.zero_le _⟩ rfl (Nat.le_of_ble_eq_true rfl) d_Mod_get_81 ?_
                      refine g_lstore h d_Mod_get_84 rfl (by rw [hN]; decide) ?_
                      refine g_aload_n h d_Mod_get_86 rfl rfl ?_
                      refine g_aload_n h d_Mod_get_87 rfl rfl ?_
                      refine gf_Mod_trouble h f_Mod_141 d_Mod_get_88 ?_
                      refine pf_Mod_thrown h f_Mod_64 d_Mod_get_91 ?_
                      refine g_aload_n h d_Mod_get_94 rfl rfl ?_
                      refine gf_Mod_thrown h f_Mod_64 d_Mod_get_95 ?_
                      rw [sI_self]
                      refine g_if_eq (tgt := 103) h d_Mod_get_98 (by decide) (fun c_98 => ?_) (fun c_98 => ?_)
                      · refine g_aload_n h d_Mod_get_103 rfl rfl ?_
                        refine gf_Mod_globals h f_Mod_22 d_Mod_get_104 ?_
                        refine g_iload_n h d_Mod_get_107 rfl rfl ?_
                        refine g_lload h d_Mod_get_108 rfl ?_
                        refine pj_globals h hve hv d_Mod_get_110 ?_
                        refine g_lload h d_Mod_get_111 rfl ?_
                        exact g_lret h r d_Mod_get_113 (⟨by unfold mget mgl; rw [if_neg (fun z => z.elim hb (fun z => z.elim hb2 hb3)), hf]; simp only []; first | (rw [if_pos c_98]; first | done | rfl) | (rw [if_neg c_98]; first | done | rfl), by unfold mget mgl; rw [if_neg (fun z => z.elim hb (fun z => z.elim hb2 hb3)), hf]; simp only []; first | (rw [if_pos c_98]; first | done | rfl) | (rw [if_neg c_98]; first | done | rfl)⟩)
                      · refine g_lconst (v := 0) h d_Mod_get_101 (by decide) ?_
                        exact g_lret h r d_Mod_get_102 (⟨by unfold mget mgl; rw [if_neg (fun z => z.elim hb (fun z => z.elim hb2 hb3)), hf]; simp only []; first | (rw [if_pos c_98]; first | done | rfl) | (rw [if_neg c_98]; first | done | rfl), by unfold mget mgl; rw [if_neg (fun z => z.elim hb (fun z => z.elim hb2 hb3)), hf]; simp only []; first | (rw [if_pos c_98]; first | done | rfl) | (rw [if_neg c_98]; first | done | rfl)⟩)
                    · exact absurd rfl c_54
                · exact absurd (nI_pos' (by omega)) c_39
            · exact absurd rfl c_22
set_option maxHeartbeats 4000000 in
set_option maxRecDepth 100000 in
theorem c_Mod_meta {l : Launch} {D : va_G} {u : Nat → ClassId} {ad : Nat → Nat} {M : CS} {t k : Int32} (hok : okM M) : Cm l D u ad y_Mod_meta b_Mod_meta 3 none { frames := 3, cells := 0, slots := 0, locals := 70 } [.ref (ad 0), .int t, .int k] (M) (none) (mmeta M t k) := by
  refine ct_of (by decide) (Nat.le_of_ble_eq_true rfl) ?_
  intro Γ _ _ hN h r
  refine g_at (L' := [some (.ref (ad 0)), some (.int t), some (.int k)]) rfl rfl rfl ?_
  refine g_aload_n h d_Mod_meta_0 rfl rfl ?_
  refine g_aload_n h d_Mod_meta_1 rfl rfl ?_
  refine g_iload_n h d_Mod_meta_2 rfl rfl ?_
  refine g_dVi h tb_good (c_Mod_badGlobal) (q := 0) (by decide) rfl rfl v_Mod_78 nm_Mod_badGlobal rfl ⟨rfl, rfl, Nat.le_of_ble_eq_true rfl, Nat.le_of_ble_eq_true rfl, Nat.zero_le _, Nat.zero_le _⟩ rfl (Nat.le_of_ble_eq_true rfl) d_Mod_meta_3 ?_
  by_cases hb : t < 0 ∨ 5 < t
  · rw [if_pos hb]
    refine g_if_ne (tgt := 17) h d_Mod_meta_6 (by decide) (fun c_6 => ?_) (fun c_6 => ?_)
    · skip
      · refine g_iconst (v := 1) h d_Mod_meta_17 (by decide) ?_
        refine g_goto (tgt := 22) h d_Mod_meta_18 (by decide) ?_
        refine pf_Mod_thrown h f_Mod_64 d_Mod_meta_22 ?_
        refine g_aload_n h d_Mod_meta_25 rfl rfl ?_
        refine gf_Mod_thrown h f_Mod_64 d_Mod_meta_26 ?_
        simp only [sI_1, sI_2, sJ_1, sJ_2, sJ_3, sR_1, sR_2, sR_3, Nat.reduceEqDiff, Nat.zero_ne_one, Nat.one_ne_zero, Nat.succ_ne_zero, reduceCtorEq, false_and, if_false, true_and, and_self, if_true, and_true, and_false, reduceIte]
        refine g_if_eq (tgt := 33) h d_Mod_meta_29 (by decide) (fun c_29 => ?_) (fun c_29 => ?_)
        · exact absurd c_29 (by decide)
        · exact g_vret h r d_Mod_meta_32 (⟨rfl, by unfold mmeta; first | (rw [if_pos (Or.inl hb)]; done) | (rw [if_pos (Or.inr hb2)]; done)⟩)
    · exact absurd c_6 (by decide)
  · rw [if_neg hb]
    obtain ⟨hj, hje⟩ := gl_num hb
    refine g_if_ne (tgt := 17) h d_Mod_meta_6 (by decide) (fun c_6 => ?_) (fun c_6 => ?_)
    · exact absurd rfl c_6
    · refine g_aload_n h d_Mod_meta_9 rfl rfl ?_
      refine g_iload_n h d_Mod_meta_10 rfl rfl ?_
      refine g_dVi h tb_good (c_Mod_badGlobal) (q := 0) (by decide) rfl rfl v_Mod_78 nm_Mod_badGlobal rfl ⟨rfl, rfl, Nat.le_of_ble_eq_true rfl, Nat.le_of_ble_eq_true rfl, Nat.zero_le _, Nat.zero_le _⟩ rfl (Nat.le_of_ble_eq_true rfl) d_Mod_meta_11 ?_
      by_cases hb2 : k < 0 ∨ 5 < k
      · rw [if_pos hb2]
        refine g_if_eq (tgt := 21) h d_Mod_meta_14 (by decide) (fun c_14 => ?_) (fun c_14 => ?_)
        · exact absurd c_14 (by decide)
        · skip
          · refine g_iconst (v := 1) h d_Mod_meta_17 (by decide) ?_
            refine g_goto (tgt := 22) h d_Mod_meta_18 (by decide) ?_
            refine pf_Mod_thrown h f_Mod_64 d_Mod_meta_22 ?_
            refine g_aload_n h d_Mod_meta_25 rfl rfl ?_
            refine gf_Mod_thrown h f_Mod_64 d_Mod_meta_26 ?_
            simp only [sI_1, sI_2, sJ_1, sJ_2, sJ_3, sR_1, sR_2, sR_3, Nat.reduceEqDiff, Nat.zero_ne_one, Nat.one_ne_zero, Nat.succ_ne_zero, reduceCtorEq, false_and, if_false, true_and, and_self, if_true, and_true, and_false, reduceIte]
            refine g_if_eq (tgt := 33) h d_Mod_meta_29 (by decide) (fun c_29 => ?_) (fun c_29 => ?_)
            · exact absurd c_29 (by decide)
            · exact g_vret h r d_Mod_meta_32 (⟨rfl, by unfold mmeta; first | (rw [if_pos (Or.inl hb)]; done) | (rw [if_pos (Or.inr hb2)]; done)⟩)
      · rw [if_neg hb2]
        obtain ⟨hk, hke⟩ := gl_num hb2
        refine g_if_eq (tgt := 21) h d_Mod_meta_14 (by decide) (fun c_14 => ?_) (fun c_14 => ?_)
        · skip
          · refine g_iconst (v := 0) h d_Mod_meta_21 (by decide) ?_
            refine pf_Mod_thrown h f_Mod_64 d_Mod_meta_22 ?_
            refine g_aload_n h d_Mod_meta_25 rfl rfl ?_
            refine gf_Mod_thrown h f_Mod_64 d_Mod_meta_26 ?_
            simp only [sI_1, sI_2, sJ_1, sJ_2, sJ_3, sR_1, sR_2, sR_3, Nat.reduceEqDiff, Nat.zero_ne_one, Nat.one_ne_zero, Nat.succ_ne_zero, reduceCtorEq, false_and, if_false, true_and, and_self, if_true, and_true, and_false, reduceIte]
            refine g_if_eq (tgt := 33) h d_Mod_meta_29 (by decide) (fun c_29 => ?_) (fun c_29 => ?_)
            · refine g_aload_n h d_Mod_meta_33 rfl rfl ?_
              refine g_iconst (v := 0) h d_Mod_meta_34 (by decide) ?_
              refine pf_Mod_trouble h f_Mod_141 d_Mod_meta_35 ?_
              refine g_aload_n h d_Mod_meta_38 rfl rfl ?_
              refine g_aload_n h d_Mod_meta_39 rfl rfl ?_
              refine gf_Mod_globals h f_Mod_22 d_Mod_meta_40 ?_
              refine g_iload_n h d_Mod_meta_43 rfl rfl ?_
              refine gj_globals h hje hj d_Mod_meta_44 ?_
              refine g_aload_n h d_Mod_meta_45 rfl rfl ?_
              refine gf_Mod_globals h f_Mod_22 d_Mod_meta_46 ?_
              refine g_iload_n h d_Mod_meta_49 rfl rfl ?_
              refine gj_globals h hke hk d_Mod_meta_50 ?_
              try simp only [sI_1, sI_2, sJ_1, sJ_2, sJ_3, sR_1, sR_2, sR_3, Nat.reduceEqDiff, Nat.zero_ne_one, Nat.one_ne_zero, Nat.succ_ne_zero, reduceCtorEq, false_and, if_false, true_and, and_self, if_true, and_true, and_false, reduceIte]
              refine g_dVv h tb_good (c_Mod_join (hok.2.1 0 _) (hok.2.1 0 _)) (q := 0) (by decide) rfl rfl v_Mod_155 nm_Mod_join rfl ⟨rfl, rfl, Nat.le_of_ble_eq_true rfl, Nat.le_of_ble_eq_true rfl, Nat.zero_le _, Nat.zero_le _⟩ rfl (Nat.le_of_ble_eq_true rfl) d_Mod_meta_51 ?_
              refine g_aload_n h d_Mod_meta_54 rfl rfl ?_
              refine g_aload_n h d_Mod_meta_55 rfl rfl ?_
              refine gf_Mod_trouble h f_Mod_141 d_Mod_meta_56 ?_
              refine g_if_ne (tgt := 66) h d_Mod_meta_59 (by decide) (fun c_59 => ?_) (fun c_59 => ?_)
              · refine g_iconst (v := 2) h d_Mod_meta_66 (by decide) ?_
                refine pf_Mod_thrown h f_Mod_64 d_Mod_meta_67 ?_
                exact g_vret h r d_Mod_meta_70 (⟨rfl, by unfold mmeta mgl; rw [if_neg (fun z => z.elim hb hb2)]; first | (rw [if_pos c_59]; first | done | rfl) | (rw [if_neg c_59]; first | done | rfl)⟩)
              · refine g_iconst (v := 0) h d_Mod_meta_62 (by decide) ?_
                refine g_goto (tgt := 67) h d_Mod_meta_63 (by decide) ?_
                refine pf_Mod_thrown h f_Mod_64 d_Mod_meta_67 ?_
                exact g_vret h r d_Mod_meta_70 (⟨rfl, by unfold mmeta mgl; rw [if_neg (fun z => z.elim hb hb2)]; first | (rw [if_pos c_59]; first | done | rfl) | (rw [if_neg c_59]; first | done | rfl)⟩)
            · exact absurd rfl c_29
        · exact absurd rfl c_14
