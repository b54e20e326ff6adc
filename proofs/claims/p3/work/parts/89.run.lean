set_option maxHeartbeats 4000000 in
set_option maxRecDepth 100000 in
theorem c_Pro_run {l : Launch} {D : va_G} {t : Nat → ClassId} {ad : Nat → Nat} {C : CS} {v x : Int64} {I : Int32 → CS → Prop} (hok : okC C) (hv : okV v) (hI : ∀ tr X, I tr X → okC X) (hpre : ∀ X, I 0 X → 0 < X.1 19 0 → cpre X) (hst : ∀ X, I 0 X → 0 < X.1 19 0 → I (cstep X).1 (cstep X).2) (h0 : I (center C v x).1 (center C v x).2) : Cd l D t ad y_Pro_run b_Pro_run 8 (some .int) { frames := 6, cells := 0, slots := 0, locals := 153 } [.ref (ad (ix 10 0)), .long v, .long x] (C) (some (.int (crunT C v x).1)) ((crunT C v x).2) := by
  refine ct_of (by decide) (Nat.le_of_ble_eq_true rfl) ?_
  intro Γ _ _ hN h r
  have hres : crunT C v x = (if (crun 200 (center C v x).1 (center C v x).2).1 = 0 ∧ 0 < (crun 200 (center C v x).1 (center C v x).2).2.1 19 0 then 2 else (crun 200 (center C v x).1 (center C v x).2).1, cend (cDepth (crun 200 (center C v x).1 (center C v x).2).2) 0 (crun 200 (center C v x).1 (center C v x).2).2) := rfl
  have hA := okC_run hst 200 _ _ h0
  generalize hAA : (crun 200 (center C v x).1 (center C v x).2) = A at hres hA
  obtain ⟨D, hD5, hD, hDa⟩ := (hI _ _ hA).2.2.2
  have hDD : cDepth A.2 = D := cDepth_eq hD hD5
  have tail : ∀ (s : Nat), G Γ 0 0 171 ad (wc ad t A.2) 86 [some (.ref (ad (ix 10 0))), some (.long v), none, some (.long x), none, some (.int A.1), some (.int (nI s)), none] [] := by
    intro s
    refine g_iload h d_Pro_run_86 rfl ?_
    refine g_if_ne (tgt := 101) h d_Pro_run_88 (by decide) (fun c_88 => ?_) (fun c_88 => ?_)
    · refine g_aload_n h d_Pro_run_101 rfl rfl ?_
      refine g_dVv h tb_good (c_Pro_endActive hD5 hD hDa) (ix_lt 10 (by decide) _ (by decide)) (wc_at (by decide) (by decide)) rfl v_Pro_62 nm_Pro_endActive rfl ⟨rfl, rfl, Nat.le_of_ble_eq_true rfl, Nat.le_of_ble_eq_true rfl, Nat.zero_le _, Nat.zero_le _⟩ rfl (Nat.le_of_ble_eq_true rfl) d_Pro_run_102 ?_
      refine g_iload h d_Pro_run_105 rfl ?_
      exact g_iret h r d_Pro_run_107 (⟨by rw [hres]; first | exact run_e3 c_88 c_95 | exact run_e1 c_88 | exact run_e2 c_95, by rw [hres, hDD]⟩)
    · refine g_aload_n h d_Pro_run_91 rfl rfl ?_
      refine gf_Pro_depth h f_Pro_23 d_Pro_run_92 ?_
      refine g_if_le (tgt := 101) h d_Pro_run_95 (by decide) (fun c_95 => ?_) (fun c_95 => ?_)
      · refine g_aload_n h d_Pro_run_101 rfl rfl ?_
        refine g_dVv h tb_good (c_Pro_endActive hD5 hD hDa) (ix_lt 10 (by decide) _ (by decide)) (wc_at (by decide) (by decide)) rfl v_Pro_62 nm_Pro_endActive rfl ⟨rfl, rfl, Nat.le_of_ble_eq_true rfl, Nat.le_of_ble_eq_true rfl, Nat.zero_le _, Nat.zero_le _⟩ rfl (Nat.le_of_ble_eq_true rfl) d_Pro_run_102 ?_
        refine g_iload h d_Pro_run_105 rfl ?_
        exact g_iret h r d_Pro_run_107 (⟨by rw [hres]; first | exact run_e3 c_88 c_95 | exact run_e1 c_88 | exact run_e2 c_95, by rw [hres, hDD]⟩)
      · refine g_iconst (v := 2) h d_Pro_run_98 (by decide) ?_
        refine g_istore h d_Pro_run_99 rfl (by rw [hN]; decide) ?_
        refine g_aload_n h d_Pro_run_101 rfl rfl ?_
        refine g_dVv h tb_good (c_Pro_endActive hD5 hD hDa) (ix_lt 10 (by decide) _ (by decide)) (wc_at (by decide) (by decide)) rfl v_Pro_62 nm_Pro_endActive rfl ⟨rfl, rfl, Nat.le_of_ble_eq_true rfl, Nat.le_of_ble_eq_true rfl, Nat.zero_le _, Nat.zero_le _⟩ rfl (Nat.le_of_ble_eq_true rfl) d_Pro_run_102 ?_
        refine g_iload h d_Pro_run_105 rfl ?_
        exact g_iret h r d_Pro_run_107 (⟨by rw [hres]; first | exact run_e3 c_88 c_95 | exact run_e1 c_88 | exact run_e2 c_95, by rw [hres, hDD]⟩)
  have loop : ∀ (c s : Nat) (tr : Int32) (X : CS), s + c = 200 → I tr X → crun c tr X = A → G Γ 0 0 171 ad (wc ad t X) 11 [some (.ref (ad (ix 10 0))), some (.long v), none, some (.long x), none, some (.int tr), some (.int (nI s)), none] [] := by
    intro c
    induction c with
    | zero =>
      intro s tr X hs hX he
      refine g_iload h d_Pro_run_11 rfl ?_
      refine g_sipush (v := 200) h d_Pro_run_13 (by decide) ?_
      refine g_icmp_ge (tgt := 86) h d_Pro_run_16 (by decide) (fun c_16 => ?_) (fun c_16 => ?_)
      · have hXA : (tr, X) = A := by
          rw [← he]
          rfl
        rw [show tr = A.1 from congrArg Prod.fst hXA, show X = A.2 from congrArg Prod.snd hXA]
        exact tail _
      · exact absurd (nI_le (a := 200) (b := s) (by omega) (by omega)) c_16
    | succ c ih =>
      intro s tr X hs hX he
      refine g_iload h d_Pro_run_11 rfl ?_
      refine g_sipush (v := 200) h d_Pro_run_13 (by decide) ?_
      refine g_icmp_ge (tgt := 86) h d_Pro_run_16 (by decide) (fun c_16 => ?_) (fun c_16 => ?_)
      · exact absurd c_16 (nI_ge (b := 200) (by omega) (by decide))
      · refine g_iload h d_Pro_run_19 rfl ?_
        refine g_if_ne (tgt := 86) h d_Pro_run_21 (by decide) (fun c_21 => ?_) (fun c_21 => ?_)
        · have hXA : (tr, X) = A := by
            rw [← he]
            first | exact (if_neg (fun z => c_21 z.1)).symm | exact (if_neg (fun z => absurd c_28 (i32_nle.2 z.2))).symm
          rw [show tr = A.1 from congrArg Prod.fst hXA, show X = A.2 from congrArg Prod.snd hXA]
          exact tail _
        · refine g_aload_n h d_Pro_run_24 rfl rfl ?_
          refine gf_Pro_depth h f_Pro_23 d_Pro_run_25 ?_
          refine g_if_le (tgt := 86) h d_Pro_run_28 (by decide) (fun c_28 => ?_) (fun c_28 => ?_)
          · have hXA : (tr, X) = A := by
              rw [← he]
              first | exact (if_neg (fun z => c_21 z.1)).symm | exact (if_neg (fun z => absurd c_28 (i32_nle.2 z.2))).symm
            rw [show tr = A.1 from congrArg Prod.fst hXA, show X = A.2 from congrArg Prod.snd hXA]
            exact tail _
          · obtain rfl : tr = 0 := c_21
            have hlt := i32_nle.1 c_28
            obtain ⟨e, n, f, p, e5, hd, hact, hm, hn, hf, hp, h4, h5, hops⟩ := hpre X hX hlt
            have es := cself_eq hd e5 hm
            have ei := cidx_eq h4 h5 hf hp
            have hk : f * 17 + p < 68 := by omega
            have hstN := hst X hX hlt
            refine g_aload_n h d_Pro_run_31 rfl rfl ?_
            refine gf_Pro_active h f_Pro_19 d_Pro_run_32 ?_
            refine g_aload_n h d_Pro_run_35 rfl rfl ?_
            refine gf_Pro_depth h f_Pro_23 d_Pro_run_36 ?_
            refine g_iconst (v := 1) h d_Pro_run_39 (by decide) ?_
            rw [hd]
            refine g_isub h d_Pro_run_40 ?_
            refine ga_act h (nI_pred e) e5 hm d_Pro_run_41 ?_
            refine g_astore h d_Pro_run_42 rfl (by rw [hN]; decide) ?_
            refine g_aload_n h d_Pro_run_44 rfl rfl ?_
            refine g_aload h d_Pro_run_45 rfl ?_
            refine g_aload_n h d_Pro_run_47 rfl rfl ?_
            refine g_aload h d_Pro_run_48 rfl ?_
            refine gf_Cor_function h f_Pro_48 (by first | assumption | omega | (show _ < 16; omega) | (show _ < 68; omega)) d_Pro_run_50 ?_
            rw [h4]
            refine g_aload h d_Pro_run_53 rfl ?_
            refine gf_Cor_place h f_Pro_51 (by first | assumption | omega | (show _ < 16; omega) | (show _ < 68; omega)) d_Pro_run_55 ?_
            rw [h5]
            refine g_dVr h tb_good (c_Pro_instructionAt hf hp) (ix_lt 10 (by decide) _ (by decide)) (wc_at (by decide) (by decide)) rfl v_Pro_54 nm_Pro_instructionAt rfl ⟨rfl, rfl, Nat.le_of_ble_eq_true rfl, Nat.le_of_ble_eq_true rfl, Nat.zero_le _, Nat.zero_le _⟩ rfl (Nat.le_of_ble_eq_true rfl) d_Pro_run_58 ?_
            rcases hops with hop | ⟨o, ho, hop⟩
            · have hcs : cstep X = (1, X) := by
                unfold cstep cperf
                rw [es, ei, if_pos hop]
                rfl
              rw [hcs] at hstN
              refine g_dVi h tb_good (c_Pro_performN hn hk hop) (ix_lt 10 (by decide) _ (by decide)) (wc_at (by decide) (by decide)) rfl v_Pro_58 nm_Pro_perform rfl ⟨rfl, rfl, Nat.le_of_ble_eq_true rfl, Nat.le_of_ble_eq_true rfl, Nat.zero_le _, Nat.zero_le _⟩ rfl (Nat.le_of_ble_eq_true rfl) d_Pro_run_61 ?_
              refine g_istore h d_Pro_run_64 rfl (by rw [hN]; decide) ?_
              refine g_iload h d_Pro_run_66 rfl ?_
              refine g_if_ne (tgt := 80) h d_Pro_run_68 (by decide) (fun c_68 => ?_) (fun c_68 => ?_)
              · refine g_iinc (v := nI (s + 1)) h d_Pro_run_80 rfl (by rw [nI_succ]; rfl) rfl (by rw [hN]; decide) ?_
                refine g_goto (tgt := 11) h d_Pro_run_83 (by decide) ?_
                refine g_lessL (L' := [some (.ref (ad (ix 10 0))), some (.long v), none, some (.long x), none, some (.int 1), some (.int (nI (s + 1))), none]) (by simp [leL]) ?_
                exact ih (s + 1) 1 X (by omega) hstN (by rw [← he, crun_s hlt, hcs])
              · exact absurd c_68 (by decide)
            · have nop : ¬ X.1 9 (f * 17 + p) = -1 := by
                rw [hop]
                intro z
                exact absurd (by rw [z]; decide) (nI_pos (n := o) (by omega))
              have hcs : cstep X = ((cperfO X n (f * 17 + p) o).1, if (cperfO X n (f * 17 + p) o).1 = 0 then sI (cperfO X n (f * 17 + p) o).2 5 n ((cperfO X n (f * 17 + p) o).2.1 21 0) else (cperfO X n (f * 17 + p) o).2) := by
                unfold cstep cperf
                rw [es, ei, if_neg nop, hop, nI_clamp (by omega)]
              rw [hcs] at hstN
              refine g_dVi h tb_good (c_Pro_perform (hI 0 X hX) hn hk hop ho e5 hd hact) (ix_lt 10 (by decide) _ (by decide)) (wc_at (by decide) (by decide)) rfl v_Pro_58 nm_Pro_perform rfl ⟨rfl, rfl, Nat.le_of_ble_eq_true rfl, Nat.le_of_ble_eq_true rfl, Nat.zero_le _, Nat.zero_le _⟩ rfl (Nat.le_of_ble_eq_true rfl) d_Pro_run_61 ?_
              refine g_istore h d_Pro_run_64 rfl (by rw [hN]; decide) ?_
              refine g_iload h d_Pro_run_66 rfl ?_
              refine g_if_ne (tgt := 80) h d_Pro_run_68 (by decide) (fun c_68 => ?_) (fun c_68 => ?_)
              · refine g_iinc (v := nI (s + 1)) h d_Pro_run_80 rfl (by rw [nI_succ]; rfl) rfl (by rw [hN]; decide) ?_
                refine g_goto (tgt := 11) h d_Pro_run_83 (by decide) ?_
                refine g_lessL (L' := [some (.ref (ad (ix 10 0))), some (.long v), none, some (.long x), none, some (.int (cperfO X n (f * 17 + p) o).1), some (.int (nI (s + 1))), none]) (by simp [leL]) ?_
                first
                | (rw [if_neg c_68] at hstN hcs; exact ih (s + 1) _ _ (by omega) hstN (by rw [← he, crun_s hlt, hcs]))
                | (rw [if_pos c_68] at hstN hcs; exact ih (s + 1) _ _ (by omega) hstN (by rw [← he, crun_s hlt, hcs]))
              · refine g_aload h d_Pro_run_71 rfl ?_
                refine g_aload_n h d_Pro_run_73 rfl rfl ?_
                refine gf_Pro_nextPlace h f_Pro_30 d_Pro_run_74 ?_
                refine pf_Cor_place h f_Pro_51 (by first | assumption | omega | (show _ < 16; omega) | (show _ < 68; omega)) d_Pro_run_77 ?_
                refine g_iinc (v := nI (s + 1)) h d_Pro_run_80 rfl (by rw [nI_succ]; rfl) rfl (by rw [hN]; decide) ?_
                refine g_goto (tgt := 11) h d_Pro_run_83 (by decide) ?_
                refine g_lessL (L' := [some (.ref (ad (ix 10 0))), some (.long v), none, some (.long x), none, some (.int (cperfO X n (f * 17 + p) o).1), some (.int (nI (s + 1))), none]) (by simp [leL]) ?_
                first
                | (rw [if_neg c_68] at hstN hcs; exact ih (s + 1) _ _ (by omega) hstN (by rw [← he, crun_s hlt, hcs]))
                | (rw [if_pos c_68] at hstN hcs; exact ih (s + 1) _ _ (by omega) hstN (by rw [← he, crun_s hlt, hcs]))
  refine g_at (L' := [some (.ref (ad (ix 10 0))), some (.long v), none, some (.long x), none, none, none, none]) rfl rfl rfl ?_
  refine g_aload_n h d_Pro_run_0 rfl rfl ?_
  refine g_lload_n h d_Pro_run_1 rfl rfl ?_
  refine g_lload_n h d_Pro_run_2 rfl rfl ?_
  refine g_dVi h tb_good (c_Pro_enter hok hv) (ix_lt 10 (by decide) _ (by decide)) (wc_at (by decide) (by decide)) rfl v_Pro_44 nm_Pro_enter rfl ⟨rfl, rfl, Nat.le_of_ble_eq_true rfl, Nat.le_of_ble_eq_true rfl, Nat.zero_le _, Nat.zero_le _⟩ rfl (Nat.le_of_ble_eq_true rfl) d_Pro_run_3 ?_
  refine g_istore h d_Pro_run_6 rfl (by rw [hN]; decide) ?_
  refine g_iconst (v := 0) h d_Pro_run_8 (by decide) ?_
  refine g_istore h d_Pro_run_9 rfl (by rw [hN]; decide) ?_
  exact loop 200 0 _ _ (by omega) h0 hAA
