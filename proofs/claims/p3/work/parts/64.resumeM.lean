set_option maxHeartbeats 4000000 in
set_option maxRecDepth 100000 in
theorem c_Mod_resume {l : Launch} {D : va_G} {u : Nat → ClassId} {ad : Nat → Nat} {M : CS} {g v w : Int32} {I : CS → Prop} (hok : okM M) (hI : ∀ X, I X → okM X) (hpre : ∀ X, I X → X.1 22 0 = 0 → ¬ X.1 13 0 ≤ 0 → mpre X) (hst : ∀ X, I X → X.1 22 0 = 0 → ¬ X.1 13 0 ≤ 0 → I (mstep X)) (h0 : I (mres0 M g v)) : Cm l D u ad y_Mod_resume b_Mod_resume 6 (some .long) { frames := 7, cells := 0, slots := 0, locals := 168 } [.ref (ad 0), .int g, .int v, .int w] (M) (some (.long (mresume M g v w).1)) ((mresume M g v w).2) := by
  refine ct_of (by decide) (Nat.le_of_ble_eq_true rfl) ?_
  intro Γ _ _ hN h r
  have hokA : okM (mrun 200 (mres0 M g v)) := okM_run hI hst 200 _ h0
  generalize hA : (mrun 200 (mres0 M g v)) = A at hokA
  obtain ⟨D, hD5, hD⟩ := hokA.2.2.2.1
  have hDD : mDepth A = D := by unfold mDepth; rw [hD]; exact nI_clamp (by omega)
  have tail : ¬ ((g < 0 ∨ 5 < g) ∨ (v < 0 ∨ 5 < v) ∨ (w < 0 ∨ 5 < w)) → ∀ t : Int32, G Γ 0 0 18 ad (mob ad u A) 111 [some (.ref (ad 0)), some (.int g), some (.int v), some (.int w), some (.int t), none] [] := by
    intro hgood t
    obtain ⟨hv, hve⟩ := gl_num (g := w) (fun z => hgood (.inr (.inr z)))
    have hres : mresume M g v w = if A.1 22 0 = 0 then ((mresE A).2.1 4 0 0, sJ (mresE A) 0 0 w.toNatClampNeg ((mresE A).2.1 4 0 0)) else (0, mresE A) := by unfold mresume; rw [if_neg hgood, hA]
    have loopK : ∀ (c k : Nat) (X : CS), k + c = D → X.1 13 0 = nI D → (∀ b, X.1 12 b = A.1 12 b) → X.1 21 0 = A.1 22 0 → mend c k X = mend D 0 (sI A 21 0 (A.1 22 0)) → G Γ 0 0 18 ad (mob ad u X) 122 [some (.ref (ad 0)), some (.int g), some (.int v), some (.int w), some (.int t), some (.int (nI k))] [] := by
      intro c
      induction c with
      | zero =>
        intro k X hk h13 h12 h21 he
        refine g_iload h d_Mod_resume_122 rfl ?_
        refine g_aload_n h d_Mod_resume_124 rfl rfl ?_
        refine gf_Mod_depth h f_Mod_86 d_Mod_resume_125 ?_
        rw [h13]
        refine g_icmp_ge (tgt := 150) h d_Mod_resume_128 (by decide) (fun c_128 => ?_) (fun c_128 => ?_)
        · refine g_aload_n h d_Mod_resume_150 rfl rfl ?_
          refine g_iconst (v := 0) h d_Mod_resume_151 (by decide) ?_
          refine pf_Mod_depth h f_Mod_86 d_Mod_resume_152 ?_
          refine g_aload_n h d_Mod_resume_155 rfl rfl ?_
          refine gf_Mod_thrown h f_Mod_64 d_Mod_resume_156 ?_
          rw [sI_e (by decide), h21]
          refine g_if_eq (tgt := 164) h d_Mod_resume_159 (by decide) (fun c_159 => ?_) (fun c_159 => ?_)
          · refine g_aload_n h d_Mod_resume_164 rfl rfl ?_
            refine gf_Mod_globals h f_Mod_22 d_Mod_resume_165 ?_
            refine g_iload_n h d_Mod_resume_168 rfl rfl ?_
            refine g_aload_n h d_Mod_resume_169 rfl rfl ?_
            refine gf_Mod_outcome h f_Mod_162 d_Mod_resume_170 ?_
            refine pj_globals h hve hv d_Mod_resume_173 ?_
            refine g_aload_n h d_Mod_resume_174 rfl rfl ?_
            refine gf_Mod_outcome h f_Mod_162 d_Mod_resume_175 ?_
            exact g_lret h r d_Mod_resume_178 (⟨by rw [hres, if_pos c_159]; unfold mresE; rw [hDD, ← he]; rfl, by rw [hres, if_pos c_159]; unfold mresE; rw [hDD, ← he]; rfl⟩)
          · refine g_lconst (v := 0) h d_Mod_resume_162 (by decide) ?_
            exact g_lret h r d_Mod_resume_163 (⟨by rw [hres, if_neg c_159], by rw [hres, if_neg c_159]; unfold mresE; rw [hDD, ← he]; rfl⟩)
        · exact absurd (nI_le (by omega) (by omega)) c_128
      | succ c ih =>
        intro k X hk h13 h12 h21 he
        obtain ⟨m, hm, hm2⟩ := hokA.2.2.2.2 k (by omega)
        refine g_iload h d_Mod_resume_122 rfl ?_
        refine g_aload_n h d_Mod_resume_124 rfl rfl ?_
        refine gf_Mod_depth h f_Mod_86 d_Mod_resume_125 ?_
        rw [h13]
        refine g_icmp_ge (tgt := 150) h d_Mod_resume_128 (by decide) (fun c_128 => ?_) (fun c_128 => ?_)
        · exact absurd c_128 (nI_ge (by omega) (by omega))
        · refine g_aload_n h d_Mod_resume_131 rfl rfl ?_
          refine gf_Mod_state h f_Mod_53 d_Mod_resume_132 ?_
          refine g_aload_n h d_Mod_resume_135 rfl rfl ?_
          refine gf_Mod_active h f_Mod_59 d_Mod_resume_136 ?_
          refine g_iload h d_Mod_resume_139 rfl ?_
          refine gi_active h rfl (show k < 6 by omega) d_Mod_resume_141 ?_
          rw [h12, hm2]
          refine g_iconst (v := 3) h d_Mod_resume_142 (by decide) ?_
          refine pi_state h rfl hm d_Mod_resume_143 ?_
          refine g_iinc (v := nI (k + 1)) h d_Mod_resume_144 rfl (by rw [nI_succ]; rfl) rfl (by rw [hN]; decide) ?_
          refine g_goto (tgt := 122) h d_Mod_resume_147 (by decide) ?_
          refine ih (k + 1) _ (by omega) (by rw [sI_e (by decide)]; exact h13) (fun b => by rw [sI_e (by decide)]; exact h12 b) (by rw [sI_e (by decide)]; exact h21) ?_
          rw [← he]
          show _ = mend c (k + 1) (sI X 10 (mAct X k) 3)
          unfold mAct
          rw [h12, hm2, nI_clamp (show m < 2 ^ 31 by omega)]
    refine g_aload_n h d_Mod_resume_111 rfl rfl ?_
    refine g_aload_n h d_Mod_resume_112 rfl rfl ?_
    refine gf_Mod_trouble h f_Mod_141 d_Mod_resume_113 ?_
    refine pf_Mod_thrown h f_Mod_64 d_Mod_resume_116 ?_
    refine g_iconst (v := 0) h d_Mod_resume_119 (by decide) ?_
    refine g_istore h d_Mod_resume_120 rfl (by rw [hN]; decide) ?_
    exact loopK D 0 _ (by omega) (by rw [sI_e (by decide)]; exact hD) (fun b => sI_e (by decide)) sI_self rfl
  have last : ¬ ((g < 0 ∨ 5 < g) ∨ (v < 0 ∨ 5 < v) ∨ (w < 0 ∨ 5 < w)) → ∀ (X : CS) (t : Int32), ¬ X.1 22 0 = 0 → X = A → G Γ 0 0 18 ad (mob ad u X) 71 [some (.ref (ad 0)), some (.int g), some (.int v), some (.int w), some (.int t), none] [] := by
    intro hgood X t hx hXA
    refine g_aload_n h d_Mod_resume_71 rfl rfl ?_
    refine gf_Mod_trouble h f_Mod_141 d_Mod_resume_72 ?_
    refine g_if_ne (tgt := 111) h d_Mod_resume_75 (by decide) (fun c_75 => ?_) (fun c_75 => ?_)
    · rw [hXA]
      exact tail hgood t
    · exact absurd c_75 hx
  have loop : ∀ (c t : Nat) (X : CS), t + c = 200 → I X → mrun c X = A → ¬ ((g < 0 ∨ 5 < g) ∨ (v < 0 ∨ 5 < v) ∨ (w < 0 ∨ 5 < w)) → G Γ 0 0 18 ad (mob ad u X) 71 [some (.ref (ad 0)), some (.int g), some (.int v), some (.int w), some (.int (nI t)), none] [] := by
    intro c
    induction c with
    | zero =>
      intro t X ht hX he hgood
      refine g_aload_n h d_Mod_resume_71 rfl rfl ?_
      refine gf_Mod_trouble h f_Mod_141 d_Mod_resume_72 ?_
      refine g_if_ne (tgt := 111) h d_Mod_resume_75 (by decide) (fun c_75 => ?_) (fun c_75 => ?_)
      · have hXA : X = A := by rw [← he]; unfold mrun; first | rw [if_neg (fun z => c_75 z.1)] | rw [if_neg (fun z => z.2 c_82)]
        rw [hXA]
        exact tail hgood _
      · refine g_aload_n h d_Mod_resume_78 rfl rfl ?_
        refine gf_Mod_depth h f_Mod_86 d_Mod_resume_79 ?_
        refine g_if_le (tgt := 111) h d_Mod_resume_82 (by decide) (fun c_82 => ?_) (fun c_82 => ?_)
        · have hXA : X = A := by rw [← he]; unfold mrun; first | rw [if_neg (fun z => c_75 z.1)] | rw [if_neg (fun z => z.2 c_82)]
          rw [hXA]
          exact tail hgood _
        · refine g_iload h d_Mod_resume_85 rfl ?_
          refine g_sipush (v := 200) h d_Mod_resume_87 (by decide) ?_
          refine g_icmp_ne (tgt := 101) h d_Mod_resume_90 (by decide) (fun c_90 => ?_) (fun c_90 => ?_)
          · exact absurd (show nI t = 200 by rw [show t = 200 by omega]; rfl) c_90
          · refine g_aload_n h d_Mod_resume_93 rfl rfl ?_
            refine g_iconst (v := 2) h d_Mod_resume_94 (by decide) ?_
            refine pf_Mod_trouble h f_Mod_141 d_Mod_resume_95 ?_
            refine g_goto (tgt := 105) h d_Mod_resume_98 (by decide) ?_
            refine g_iinc (v := nI (t + 1)) h d_Mod_resume_105 rfl (by rw [nI_succ]; rfl) rfl (by rw [hN]; decide) ?_
            refine g_goto (tgt := 71) h d_Mod_resume_108 (by decide) ?_
            exact last hgood _ _ (by rw [sI_self]; decide) (by rw [← he]; unfold mrun; rw [if_pos ⟨c_75, c_82⟩])
    | succ c ih =>
      intro t X ht hX he hgood
      refine g_aload_n h d_Mod_resume_71 rfl rfl ?_
      refine gf_Mod_trouble h f_Mod_141 d_Mod_resume_72 ?_
      refine g_if_ne (tgt := 111) h d_Mod_resume_75 (by decide) (fun c_75 => ?_) (fun c_75 => ?_)
      · have hXA : X = A := by rw [← he]; unfold mrun; first | rw [if_neg (fun z => c_75 z.1)] | rw [if_neg (fun z => z.2 c_82)]
        rw [hXA]
        exact tail hgood _
      · refine g_aload_n h d_Mod_resume_78 rfl rfl ?_
        refine gf_Mod_depth h f_Mod_86 d_Mod_resume_79 ?_
        refine g_if_le (tgt := 111) h d_Mod_resume_82 (by decide) (fun c_82 => ?_) (fun c_82 => ?_)
        · have hXA : X = A := by rw [← he]; unfold mrun; first | rw [if_neg (fun z => c_75 z.1)] | rw [if_neg (fun z => z.2 c_82)]
          rw [hXA]
          exact tail hgood _
        · refine g_iload h d_Mod_resume_85 rfl ?_
          refine g_sipush (v := 200) h d_Mod_resume_87 (by decide) ?_
          refine g_icmp_ne (tgt := 101) h d_Mod_resume_90 (by decide) (fun c_90 => ?_) (fun c_90 => ?_)
          · refine g_aload_n h d_Mod_resume_101 rfl rfl ?_
            obtain ⟨d, f, p1, p2, p3, p4, p5, p6, p7⟩ := hpre X hX c_75 c_82
            refine g_dVv h tb_good (c_Mod_step (hI X hX) p1 p2 p3 p4 p5 p6 p7) (q := 0) (by decide) rfl rfl v_Mod_191 nm_Mod_step rfl ⟨rfl, rfl, Nat.le_of_ble_eq_true rfl, Nat.le_of_ble_eq_true rfl, Nat.zero_le _, Nat.zero_le _⟩ rfl (Nat.le_of_ble_eq_true rfl) d_Mod_resume_102 ?_
            refine g_iinc (v := nI (t + 1)) h d_Mod_resume_105 rfl (by rw [nI_succ]; rfl) rfl (by rw [hN]; decide) ?_
            refine g_goto (tgt := 71) h d_Mod_resume_108 (by decide) ?_
            exact ih (t + 1) _ (by omega) (hst X hX c_75 c_82) (by rw [← he]; show _ = if X.1 22 0 = 0 ∧ ¬ X.1 13 0 ≤ 0 then mrun c (mstep X) else X; rw [if_pos ⟨c_75, c_82⟩]) hgood
          · exact absurd c_90 (fun z => absurd ((nI_eq (a := t) (b := 200) (by omega) (by decide)).mp z) (by omega))
  refine g_at (L' := [some (.ref (ad 0)), some (.int g), some (.int v), some (.int w), none, none]) rfl rfl rfl ?_
  refine g_aload_n h d_Mod_resume_0 rfl rfl ?_
  refine g_aload_n h d_Mod_resume_1 rfl rfl ?_
  refine g_iload_n h d_Mod_resume_2 rfl rfl ?_
  refine g_dVi h tb_good (c_Mod_badGlobal) (q := 0) (by decide) rfl rfl v_Mod_78 nm_Mod_badGlobal rfl ⟨rfl, rfl, Nat.le_of_ble_eq_true rfl, Nat.le_of_ble_eq_true rfl, Nat.zero_le _, Nat.zero_le _⟩ rfl (Nat.le_of_ble_eq_true rfl) d_Mod_resume_3 ?_
  by_cases hb : g < 0 ∨ 5 < g
  · rw [if_pos hb]
    refine g_if_ne (tgt := 25) h d_Mod_resume_6 (by decide) (fun c_6 => ?_) (fun c_6 => ?_)
    · skip
      · refine g_iconst (v := 1) h d_Mod_resume_25 (by decide) ?_
        refine g_goto (tgt := 30) h d_Mod_resume_26 (by decide) ?_
        refine pf_Mod_thrown h f_Mod_64 d_Mod_resume_30 ?_
        refine g_aload_n h d_Mod_resume_33 rfl rfl ?_
        refine gf_Mod_thrown h f_Mod_64 d_Mod_resume_34 ?_
        simp only [sI_1, sI_2, sJ_1, sJ_2, sJ_3, sR_1, sR_2, sR_3, Nat.reduceEqDiff, Nat.zero_ne_one, Nat.one_ne_zero, Nat.succ_ne_zero, reduceCtorEq, false_and, if_false, true_and, and_self, if_true, and_true, and_false, reduceIte]
        refine g_if_eq (tgt := 42) h d_Mod_resume_37 (by decide) (fun c_37 => ?_) (fun c_37 => ?_)
        · exact absurd c_37 (by decide)
        · refine g_lconst (v := 0) h d_Mod_resume_40 (by decide) ?_
          exact g_lret h r d_Mod_resume_41 (⟨by unfold mresume; first | (rw [if_pos (Or.inl hb)]; done) | (rw [if_pos (Or.inr (Or.inl hb2))]; done) | (rw [if_pos (Or.inr (Or.inr hb3))]; done), by unfold mresume; first | (rw [if_pos (Or.inl hb)]; done) | (rw [if_pos (Or.inr (Or.inl hb2))]; done) | (rw [if_pos (Or.inr (Or.inr hb3))]; done)⟩)
    · exact absurd c_6 (by decide)
  · rw [if_neg hb]
    obtain ⟨hj, hje⟩ := gl_num hb
    refine g_if_ne (tgt := 25) h d_Mod_resume_6 (by decide) (fun c_6 => ?_) (fun c_6 => ?_)
    · exact absurd rfl c_6
    · refine g_aload_n h d_Mod_resume_9 rfl rfl ?_
      refine g_iload_n h d_Mod_resume_10 rfl rfl ?_
      refine g_dVi h tb_good (c_Mod_badGlobal) (q := 0) (by decide) rfl rfl v_Mod_78 nm_Mod_badGlobal rfl ⟨rfl, rfl, Nat.le_of_ble_eq_true rfl, Nat.le_of_ble_eq_true rfl, Nat.zero_le _, Nat.zero_le _⟩ rfl (Nat.le_of_ble_eq_true rfl) d_Mod_resume_11 ?_
      by_cases hb2 : v < 0 ∨ 5 < v
      · rw [if_pos hb2]
        refine g_if_ne (tgt := 25) h d_Mod_resume_14 (by decide) (fun c_14 => ?_) (fun c_14 => ?_)
        · skip
          · refine g_iconst (v := 1) h d_Mod_resume_25 (by decide) ?_
            refine g_goto (tgt := 30) h d_Mod_resume_26 (by decide) ?_
            refine pf_Mod_thrown h f_Mod_64 d_Mod_resume_30 ?_
            refine g_aload_n h d_Mod_resume_33 rfl rfl ?_
            refine gf_Mod_thrown h f_Mod_64 d_Mod_resume_34 ?_
            simp only [sI_1, sI_2, sJ_1, sJ_2, sJ_3, sR_1, sR_2, sR_3, Nat.reduceEqDiff, Nat.zero_ne_one, Nat.one_ne_zero, Nat.succ_ne_zero, reduceCtorEq, false_and, if_false, true_and, and_self, if_true, and_true, and_false, reduceIte]
            refine g_if_eq (tgt := 42) h d_Mod_resume_37 (by decide) (fun c_37 => ?_) (fun c_37 => ?_)
            · exact absurd c_37 (by decide)
            · refine g_lconst (v := 0) h d_Mod_resume_40 (by decide) ?_
              exact g_lret h r d_Mod_resume_41 (⟨by unfold mresume; first | (rw [if_pos (Or.inl hb)]; done) | (rw [if_pos (Or.inr (Or.inl hb2))]; done) | (rw [if_pos (Or.inr (Or.inr hb3))]; done), by unfold mresume; first | (rw [if_pos (Or.inl hb)]; done) | (rw [if_pos (Or.inr (Or.inl hb2))]; done) | (rw [if_pos (Or.inr (Or.inr hb3))]; done)⟩)
        · exact absurd c_14 (by decide)
      · rw [if_neg hb2]
        obtain ⟨hk, hke⟩ := gl_num hb2
        refine g_if_ne (tgt := 25) h d_Mod_resume_14 (by decide) (fun c_14 => ?_) (fun c_14 => ?_)
        · exact absurd rfl c_14
        · refine g_aload_n h d_Mod_resume_17 rfl rfl ?_
          refine g_iload_n h d_Mod_resume_18 rfl rfl ?_
          refine g_dVi h tb_good (c_Mod_badGlobal) (q := 0) (by decide) rfl rfl v_Mod_78 nm_Mod_badGlobal rfl ⟨rfl, rfl, Nat.le_of_ble_eq_true rfl, Nat.le_of_ble_eq_true rfl, Nat.zero_le _, Nat.zero_le _⟩ rfl (Nat.le_of_ble_eq_true rfl) d_Mod_resume_19 ?_
          by_cases hb3 : w < 0 ∨ 5 < w
          · rw [if_pos hb3]
            refine g_if_eq (tgt := 29) h d_Mod_resume_22 (by decide) (fun c_22 => ?_) (fun c_22 => ?_)
            · exact absurd c_22 (by decide)
            · skip
              · refine g_iconst (v := 1) h d_Mod_resume_25 (by decide) ?_
                refine g_goto (tgt := 30) h d_Mod_resume_26 (by decide) ?_
                refine pf_Mod_thrown h f_Mod_64 d_Mod_resume_30 ?_
                refine g_aload_n h d_Mod_resume_33 rfl rfl ?_
                refine gf_Mod_thrown h f_Mod_64 d_Mod_resume_34 ?_
                simp only [sI_1, sI_2, sJ_1, sJ_2, sJ_3, sR_1, sR_2, sR_3, Nat.reduceEqDiff, Nat.zero_ne_one, Nat.one_ne_zero, Nat.succ_ne_zero, reduceCtorEq, false_and, if_false, true_and, and_self, if_true, and_true, and_false, reduceIte]
                refine g_if_eq (tgt := 42) h d_Mod_resume_37 (by decide) (fun c_37 => ?_) (fun c_37 => ?_)
                · exact absurd c_37 (by decide)
                · refine g_lconst (v := 0) h d_Mod_resume_40 (by decide) ?_
                  exact g_lret h r d_Mod_resume_41 (⟨by unfold mresume; first | (rw [if_pos (Or.inl hb)]; done) | (rw [if_pos (Or.inr (Or.inl hb2))]; done) | (rw [if_pos (Or.inr (Or.inr hb3))]; done), by unfold mresume; first | (rw [if_pos (Or.inl hb)]; done) | (rw [if_pos (Or.inr (Or.inl hb2))]; done) | (rw [if_pos (Or.inr (Or.inr hb3))]; done)⟩)
          · rw [if_neg hb3]
            obtain ⟨hv, hve⟩ := gl_num hb3
            refine g_if_eq (tgt := 29) h d_Mod_resume_22 (by decide) (fun c_22 => ?_) (fun c_22 => ?_)
            · skip
              · refine g_iconst (v := 0) h d_Mod_resume_29 (by decide) ?_
                refine pf_Mod_thrown h f_Mod_64 d_Mod_resume_30 ?_
                refine g_aload_n h d_Mod_resume_33 rfl rfl ?_
                refine gf_Mod_thrown h f_Mod_64 d_Mod_resume_34 ?_
                simp only [sI_1, sI_2, sJ_1, sJ_2, sJ_3, sR_1, sR_2, sR_3, Nat.reduceEqDiff, Nat.zero_ne_one, Nat.one_ne_zero, Nat.succ_ne_zero, reduceCtorEq, false_and, if_false, true_and, and_self, if_true, and_true, and_false, reduceIte]
                refine g_if_eq (tgt := 42) h d_Mod_resume_37 (by decide) (fun c_37 => ?_) (fun c_37 => ?_)
                · refine g_aload_n h d_Mod_resume_42 rfl rfl ?_
                  refine g_iconst (v := 0) h d_Mod_resume_43 (by decide) ?_
                  refine pf_Mod_trouble h f_Mod_141 d_Mod_resume_44 ?_
                  refine g_aload_n h d_Mod_resume_47 rfl rfl ?_
                  refine g_iconst (v := 0) h d_Mod_resume_48 (by decide) ?_
                  refine pf_Mod_depth h f_Mod_86 d_Mod_resume_49 ?_
                  have hok3 : okM (sI (sI (sI M 21 0 0) 22 0 0) 13 0 0) := okM_13 (p := 0) (by decide) (okM_keep (by decide) (okM_keep (by decide) hok))
                  refine g_aload_n h d_Mod_resume_52 rfl rfl ?_
                  refine g_aload_n h d_Mod_resume_53 rfl rfl ?_
                  refine gf_Mod_globals h f_Mod_22 d_Mod_resume_54 ?_
                  refine g_iload_n h d_Mod_resume_57 rfl rfl ?_
                  refine gj_globals h hje hj d_Mod_resume_58 ?_
                  refine g_aload_n h d_Mod_resume_59 rfl rfl ?_
                  refine gf_Mod_globals h f_Mod_22 d_Mod_resume_60 ?_
                  refine g_iload_n h d_Mod_resume_63 rfl rfl ?_
                  refine gj_globals h hke hk d_Mod_resume_64 ?_
                  try simp only [sI_1, sI_2, sJ_1, sJ_2, sJ_3, sR_1, sR_2, sR_3, Nat.reduceEqDiff, Nat.zero_ne_one, Nat.one_ne_zero, Nat.succ_ne_zero, reduceCtorEq, false_and, if_false, true_and, and_self, if_true, and_true, and_false, reduceIte]
                  refine g_dVv h tb_good (c_Mod_enter hok3 (hok.2.1 0 _)) (q := 0) (by decide) rfl rfl v_Mod_173 nm_Mod_enter rfl ⟨rfl, rfl, Nat.le_of_ble_eq_true rfl, Nat.le_of_ble_eq_true rfl, Nat.zero_le _, Nat.zero_le _⟩ rfl (Nat.le_of_ble_eq_true rfl) d_Mod_resume_65 ?_
                  refine g_iconst (v := 0) h d_Mod_resume_68 (by decide) ?_
                  refine g_istore h d_Mod_resume_69 rfl (by rw [hN]; decide) ?_
                  exact loop 200 0 _ (by omega) h0 hA (fun z => z.elim hb (fun z => z.elim hb2 hb3))
                · exact absurd rfl c_37
            · exact absurd rfl c_22
