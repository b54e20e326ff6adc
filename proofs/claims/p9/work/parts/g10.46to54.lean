-- part 46.specM3
section
theorem mu_0 {M : CS} (h : okM M) (e : mu M = 0) : M.1 14 0 = 0 := by
  obtain ⟨i, hi, hk⟩ := h.2.2.1
  unfold mu at e
  rw [hk, nI_clamp (show i < 2 ^ 31 by omega)] at e
  by_cases h0 : M.1 14 0 = 0
  · exact h0
  · rw [if_neg h0] at e
    split at e <;> omega
def mfill (n : Nat) : Nat → Nat → CS → CS
  | 0, _, M => M
  | c + 1, k, M => mfill n c (k + 1) (sJ M 3 0 (n * 4 + k) (-1000000000000))
theorem mfill_1 {n : Nat} : ∀ (c k : Nat) (M : CS), (mfill n c k M).1 = M.1
  | 0, _, _ => rfl
  | c + 1, k, M => mfill_1 c (k + 1) (sJ M 3 0 (n * 4 + k) (-1000000000000))
def mborn (M : CS) (n : Nat) (k f : Int32) : CS :=
  let A := mfill n 4 0 (sI (sI (sI (sI (sI (sI (sI M 4 n k) 5 n (if M.1 14 0 = 1 ∨ (M.1 14 0 = 2 ∧ ¬ nI n < M.1 15 0) then 2 else 0)) 6 n 0) 7 n (-1)) 8 n f) 9 n 0) 10 n 0)
  sI A 16 0 (A.1 16 0 + 1)
def mcreate (M : CS) (k f : Int32) : Option Nat × CS :=
  let M0 := if (mfree M).isSome = true then M else (mwhole M).2
  match mfree M0 with
  | none => (none, M0)
  | some n => (some n, mborn M0 n k f)
end

-- part 47.wholeM
section
set_option maxHeartbeats 4000000 in
set_option maxRecDepth 100000 in
theorem c_Mod_whole {l : Launch} {D : va_G} {u : Nat → ClassId} {ad : Nat → Nat} {M : CS} (hok : okM M) : Cm l D u ad y_Mod_whole b_Mod_whole 2 (some .int) { frames := 4, cells := 0, slots := 0, locals := 89 } [.ref (ad 0)] (M) (some (.int (mwhole M).1)) ((mwhole M).2) := by
  refine ct_of (by decide) (Nat.le_of_ble_eq_true rfl) ?_
  intro Γ _ _ hN h r
  have hok0 : okM (sI M 20 0 (M.1 20 0 + 1)) := okM_keep (by decide) hok
  have loop2 : ∀ (c : Nat) (a : Int32) (M2 : CS), okM M2 → mu M2 ≤ c → mwhile c a M2 = mwhole M → G Γ 0 0 18 ad (mob ad u M2) 36 [some (.ref (ad 0)), some (.int a)] [] := by
    intro c
    induction c with
    | zero =>
      intro a M2 hM hmu he
      refine g_aload_n h d_Mod_whole_36 rfl rfl ?_
      refine gf_Mod_phase h f_Mod_92 d_Mod_whole_37 ?_
      refine g_if_eq (tgt := 53) h d_Mod_whole_40 (by decide) (fun c_40 => ?_) (fun c_40 => ?_)
      · refine g_iload_n h d_Mod_whole_53 rfl rfl ?_
        exact g_iret h r d_Mod_whole_54 (⟨by rw [← he]; simp [mwhile, c_40], by rw [← he]; simp [mwhile, c_40]⟩)
      · exact absurd (mu_0 hM (by omega)) c_40
    | succ c ih =>
      intro a M2 hM hmu he
      refine g_aload_n h d_Mod_whole_36 rfl rfl ?_
      refine gf_Mod_phase h f_Mod_92 d_Mod_whole_37 ?_
      refine g_if_eq (tgt := 53) h d_Mod_whole_40 (by decide) (fun c_40 => ?_) (fun c_40 => ?_)
      · refine g_iload_n h d_Mod_whole_53 rfl rfl ?_
        exact g_iret h r d_Mod_whole_54 (⟨by rw [← he]; simp [mwhile, c_40], by rw [← he]; simp [mwhile, c_40]⟩)
      · refine g_iload_n h d_Mod_whole_43 rfl rfl ?_
        refine g_aload_n h d_Mod_whole_44 rfl rfl ?_
        refine g_dVi h tb_good (c_Mod_unit hM) (q := 0) (by decide) rfl rfl v_Mod_115 nm_Mod_unit rfl ⟨rfl, rfl, Nat.le_of_ble_eq_true rfl, Nat.le_of_ble_eq_true rfl, Nat.zero_le _, Nat.zero_le _⟩ rfl (Nat.le_of_ble_eq_true rfl) d_Mod_whole_45 ?_
        refine g_iadd h d_Mod_whole_48 ?_
        refine g_istore_n h d_Mod_whole_49 rfl rfl (by rw [hN]; decide) ?_
        refine g_goto (tgt := 36) h d_Mod_whole_50 (by decide) ?_
        exact ih _ _ (okM_unit hM) (by have := mu_unit hM c_40; omega) (by rw [← he]; simp [mwhile, c_40])
  have hA : okM (mwhile 1000 0 (sI M 20 0 (M.1 20 0 + 1))).2 := okM_while _ _ hok0
  have mid : G Γ 0 0 18 ad (mob ad u (mwhile 1000 0 (sI M 20 0 (M.1 20 0 + 1))).2) 29 [some (.ref (ad 0)), some (.int (mwhile 1000 0 (sI M 20 0 (M.1 20 0 + 1))).1)] [] := by
    refine g_iload_n h d_Mod_whole_29 rfl rfl ?_
    refine g_aload_n h d_Mod_whole_30 rfl rfl ?_
    refine g_dVi h tb_good (c_Mod_unit hA) (q := 0) (by decide) rfl rfl v_Mod_115 nm_Mod_unit rfl ⟨rfl, rfl, Nat.le_of_ble_eq_true rfl, Nat.le_of_ble_eq_true rfl, Nat.zero_le _, Nat.zero_le _⟩ rfl (Nat.le_of_ble_eq_true rfl) d_Mod_whole_31 ?_
    refine g_iadd h d_Mod_whole_34 ?_
    refine g_istore_n h d_Mod_whole_35 rfl rfl (by rw [hN]; decide) ?_
    exact loop2 1000 _ _ (okM_unit hA) (Nat.le_trans (mu_50 _) (by decide)) rfl
  have loop1 : ∀ (c : Nat) (a : Int32) (M2 : CS), okM M2 → mu M2 ≤ c → mwhile c a M2 = (mwhile 1000 0 (sI M 20 0 (M.1 20 0 + 1))) → G Γ 0 0 18 ad (mob ad u M2) 12 [some (.ref (ad 0)), some (.int a)] [] := by
    intro c
    induction c with
    | zero =>
      intro a M2 hM hmu he
      refine g_aload_n h d_Mod_whole_12 rfl rfl ?_
      refine gf_Mod_phase h f_Mod_92 d_Mod_whole_13 ?_
      refine g_if_eq (tgt := 29) h d_Mod_whole_16 (by decide) (fun c_16 => ?_) (fun c_16 => ?_)
      · have e1 : a = (mwhile 1000 0 (sI M 20 0 (M.1 20 0 + 1))).1 := by rw [← he]; simp [mwhile, c_16]
        have e2 : M2 = (mwhile 1000 0 (sI M 20 0 (M.1 20 0 + 1))).2 := by rw [← he]; simp [mwhile, c_16]
        rw [e1, e2]
        exact mid
      · exact absurd (mu_0 hM (by omega)) c_16
    | succ c ih =>
      intro a M2 hM hmu he
      refine g_aload_n h d_Mod_whole_12 rfl rfl ?_
      refine gf_Mod_phase h f_Mod_92 d_Mod_whole_13 ?_
      refine g_if_eq (tgt := 29) h d_Mod_whole_16 (by decide) (fun c_16 => ?_) (fun c_16 => ?_)
      · have e1 : a = (mwhile 1000 0 (sI M 20 0 (M.1 20 0 + 1))).1 := by rw [← he]; simp [mwhile, c_16]
        have e2 : M2 = (mwhile 1000 0 (sI M 20 0 (M.1 20 0 + 1))).2 := by rw [← he]; simp [mwhile, c_16]
        rw [e1, e2]
        exact mid
      · refine g_iload_n h d_Mod_whole_19 rfl rfl ?_
        refine g_aload_n h d_Mod_whole_20 rfl rfl ?_
        refine g_dVi h tb_good (c_Mod_unit hM) (q := 0) (by decide) rfl rfl v_Mod_115 nm_Mod_unit rfl ⟨rfl, rfl, Nat.le_of_ble_eq_true rfl, Nat.le_of_ble_eq_true rfl, Nat.zero_le _, Nat.zero_le _⟩ rfl (Nat.le_of_ble_eq_true rfl) d_Mod_whole_21 ?_
        refine g_iadd h d_Mod_whole_24 ?_
        refine g_istore_n h d_Mod_whole_25 rfl rfl (by rw [hN]; decide) ?_
        refine g_goto (tgt := 12) h d_Mod_whole_26 (by decide) ?_
        exact ih _ _ (okM_unit hM) (by have := mu_unit hM c_16; omega) (by rw [← he]; simp [mwhile, c_16])
  refine g_at (L' := [some (.ref (ad 0)), none]) rfl rfl rfl ?_
  refine g_aload_n h d_Mod_whole_0 rfl rfl ?_
  refine g_dup h d_Mod_whole_1 rfl ?_
  refine gf_Mod_fulls h f_Mod_112 d_Mod_whole_2 ?_
  refine g_iconst (v := 1) h d_Mod_whole_5 (by decide) ?_
  refine g_iadd h d_Mod_whole_6 ?_
  refine pf_Mod_fulls h f_Mod_112 d_Mod_whole_7 ?_
  refine g_iconst (v := 0) h d_Mod_whole_10 (by decide) ?_
  refine g_istore_n h d_Mod_whole_11 rfl rfl (by rw [hN]; decide) ?_
  exact loop1 1000 0 _ hok0 (Nat.le_trans (mu_50 _) (by decide)) rfl
end

-- part 48.createM
section
set_option maxHeartbeats 4000000 in
set_option maxRecDepth 100000 in
theorem c_Mod_create {l : Launch} {D : va_G} {u : Nat → ClassId} {ad : Nat → Nat} {M : CS} {k f : Int32} (hok : okM M) : Cm l D u ad y_Mod_create b_Mod_create 5 (some .int) { frames := 5, cells := 0, slots := 0, locals := 110 } [.ref (ad 0), .int k, .int f] (M) (some (.int (enc (mcreate M k f).1))) ((mcreate M k f).2) := by
  refine ct_of (by decide) (Nat.le_of_ble_eq_true rfl) ?_
  intro Γ _ _ hN h r
  have loop : ∀ n, n < 16 → (mcreate M k f).1 = some n → ∀ M9 : CS, sI (mfill n 4 0 M9) 16 0 ((mfill n 4 0 M9).1 16 0 + 1) = (mcreate M k f).2 → G Γ 0 0 18 ad (mob ad u M9) 106 [some (.ref (ad 0)), some (.int k), some (.int f), some (.int (nI n)), some (.int (nI 0))] [] := by
    intro n hn hres M9 he9
    have loopI : ∀ (c i : Nat) (M2 : CS), i + c = 4 → sI (mfill n c i M2) 16 0 ((mfill n c i M2).1 16 0 + 1) = (mcreate M k f).2 → G Γ 0 0 18 ad (mob ad u M2) 106 [some (.ref (ad 0)), some (.int k), some (.int f), some (.int (nI n)), some (.int (nI i))] [] := by
      intro c
      induction c with
      | zero =>
        intro i M2 hi he
        refine g_iload h d_Mod_create_106 rfl ?_
        refine g_iconst (v := 4) h d_Mod_create_108 (by decide) ?_
        refine g_icmp_ge (tgt := 132) h d_Mod_create_109 (by decide) (fun c_109 => ?_) (fun c_109 => ?_)
        · refine g_aload_n h d_Mod_create_132 rfl rfl ?_
          refine g_dup h d_Mod_create_133 rfl ?_
          refine gf_Mod_made h f_Mod_124 d_Mod_create_134 ?_
          refine g_iconst (v := 1) h d_Mod_create_137 (by decide) ?_
          refine g_iadd h d_Mod_create_138 ?_
          refine pf_Mod_made h f_Mod_124 d_Mod_create_139 ?_
          refine g_iload_n h d_Mod_create_142 rfl rfl ?_
          exact g_iret h r d_Mod_create_143 (⟨by rw [hres]; rfl, by rw [← he]; rfl⟩)
        · exact absurd (nI_le (a := 4) (b := i) (by omega) (by omega)) c_109
      | succ c ih =>
        intro i M2 hi he
        refine g_iload h d_Mod_create_106 rfl ?_
        refine g_iconst (v := 4) h d_Mod_create_108 (by decide) ?_
        refine g_icmp_ge (tgt := 132) h d_Mod_create_109 (by decide) (fun c_109 => ?_) (fun c_109 => ?_)
        · exact absurd c_109 (nI_ge (b := 4) (by omega) (by decide))
        · refine g_aload_n h d_Mod_create_112 rfl rfl ?_
          refine gf_Mod_registers h f_Mod_44 d_Mod_create_113 ?_
          refine g_iload_n h d_Mod_create_116 rfl rfl ?_
          refine g_iconst (v := 4) h d_Mod_create_117 (by decide) ?_
          refine g_imul h d_Mod_create_118 ?_
          refine g_iload h d_Mod_create_119 rfl ?_
          refine g_iadd h d_Mod_create_121 ?_
          refine g_ldc2 (v := -1000000000000) h d_Mod_create_122 k_Mod_62 ?_
          refine pj_registers h (nI_at4 n i) (by omega) d_Mod_create_125 ?_
          refine g_iinc (v := nI (i + 1)) h d_Mod_create_126 rfl (by rw [nI_succ]; rfl) rfl (by rw [hN]; decide) ?_
          refine g_goto (tgt := 106) h d_Mod_create_129 (by decide) ?_
          exact ih (i + 1) _ (by omega) he
    exact loopI 4 0 M9 (by omega) he9
  refine g_at (L' := [some (.ref (ad 0)), some (.int k), some (.int f), none, none]) rfl rfl rfl ?_
  refine g_aload_n h d_Mod_create_0 rfl rfl ?_
  refine g_dVi h tb_good (c_Mod_free) (q := 0) (by decide) rfl rfl v_Mod_118 nm_Mod_free rfl ⟨rfl, rfl, Nat.le_of_ble_eq_true rfl, Nat.le_of_ble_eq_true rfl, Nat.zero_le _, Nat.zero_le _⟩ rfl (Nat.le_of_ble_eq_true rfl) d_Mod_create_1 ?_
  rcases hf : mfree M with _ | q <;> simp only [enc]
  · refine g_istore_n h d_Mod_create_4 rfl rfl (by rw [hN]; decide) ?_
    refine g_iload_n h d_Mod_create_5 rfl rfl ?_
    refine g_if_ge (tgt := 20) h d_Mod_create_6 (by decide) (fun c_6 => ?_) (fun c_6 => ?_)
    · exact absurd c_6 (by decide)
    · refine g_aload_n h d_Mod_create_9 rfl rfl ?_
      refine g_dVi h tb_good (c_Mod_whole hok) (q := 0) (by decide) rfl rfl v_Mod_121 nm_Mod_whole rfl ⟨rfl, rfl, Nat.le_of_ble_eq_true rfl, Nat.le_of_ble_eq_true rfl, Nat.zero_le _, Nat.zero_le _⟩ rfl (Nat.le_of_ble_eq_true rfl) d_Mod_create_10 ?_
      refine g_istore h d_Mod_create_13 rfl (by rw [hN]; decide) ?_
      refine g_aload_n h d_Mod_create_15 rfl rfl ?_
      refine g_dVi h tb_good (c_Mod_free) (q := 0) (by decide) rfl rfl v_Mod_118 nm_Mod_free rfl ⟨rfl, rfl, Nat.le_of_ble_eq_true rfl, Nat.le_of_ble_eq_true rfl, Nat.zero_le _, Nat.zero_le _⟩ rfl (Nat.le_of_ble_eq_true rfl) d_Mod_create_16 ?_
      rcases hf2 : mfree (mwhole M).2 with _ | q <;> simp only [enc]
      · refine g_istore_n h d_Mod_create_19 rfl rfl (by rw [hN]; decide) ?_
        refine g_iload_n h d_Mod_create_20 rfl rfl ?_
        refine g_if_ge (tgt := 26) h d_Mod_create_21 (by decide) (fun c_21 => ?_) (fun c_21 => ?_)
        · exact absurd c_21 (by decide)
        · refine g_iconst (v := -1) h d_Mod_create_24 (by decide) ?_
          exact g_iret h r d_Mod_create_25 (⟨by simp [mcreate, hf, hf2, enc], by simp [mcreate, hf, hf2]⟩)
      · have hq := mfree_lt hf2
        refine g_istore_n h d_Mod_create_19 rfl rfl (by rw [hN]; decide) ?_
        refine g_iload_n h d_Mod_create_20 rfl rfl ?_
        refine g_if_ge (tgt := 26) h d_Mod_create_21 (by decide) (fun c_21 => ?_) (fun c_21 => ?_)
        · refine g_aload_n h d_Mod_create_26 rfl rfl ?_
          refine gf_Mod_kind h f_Mod_26 d_Mod_create_27 ?_
          refine g_iload_n h d_Mod_create_30 rfl rfl ?_
          refine g_iload_n h d_Mod_create_31 rfl rfl ?_
          refine pi_kind h rfl hq d_Mod_create_32 ?_
          refine g_aload_n h d_Mod_create_33 rfl rfl ?_
          refine gf_Mod_colour h f_Mod_29 d_Mod_create_34 ?_
          refine g_iload_n h d_Mod_create_37 rfl rfl ?_
          refine g_aload_n h d_Mod_create_38 rfl rfl ?_
          refine gf_Mod_phase h f_Mod_92 d_Mod_create_39 ?_
          refine g_iconst (v := 1) h d_Mod_create_42 (by decide) ?_
          simp only [sI_1, sI_2, sJ_1, sJ_2, sJ_3, sR_1, sR_2, sR_3, Nat.reduceEqDiff, Nat.zero_ne_one, Nat.one_ne_zero, Nat.succ_ne_zero, reduceCtorEq, false_and, if_false, true_and, and_self, if_true, and_true, and_false, reduceIte]
          refine g_icmp_eq (tgt := 62) h d_Mod_create_43 (by decide) (fun c_43 => ?_) (fun c_43 => ?_)
          · refine g_iconst (v := 2) h d_Mod_create_62 (by decide) ?_
            refine g_goto (tgt := 67) h d_Mod_create_63 (by decide) ?_
            refine pi_colour h rfl hq d_Mod_create_67 ?_
            refine g_aload_n h d_Mod_create_68 rfl rfl ?_
            refine gf_Mod_size h f_Mod_32 d_Mod_create_69 ?_
            refine g_iload_n h d_Mod_create_72 rfl rfl ?_
            refine g_iconst (v := 0) h d_Mod_create_73 (by decide) ?_
            refine pi_size h rfl hq d_Mod_create_74 ?_
            refine g_aload_n h d_Mod_create_75 rfl rfl ?_
            refine gf_Mod_metaOf h f_Mod_35 d_Mod_create_76 ?_
            refine g_iload_n h d_Mod_create_79 rfl rfl ?_
            refine g_iconst (v := -1) h d_Mod_create_80 (by decide) ?_
            refine pi_metaOf h rfl hq d_Mod_create_81 ?_
            refine g_aload_n h d_Mod_create_82 rfl rfl ?_
            refine gf_Mod_function h f_Mod_47 d_Mod_create_83 ?_
            refine g_iload_n h d_Mod_create_86 rfl rfl ?_
            refine g_iload_n h d_Mod_create_87 rfl rfl ?_
            refine pi_function h rfl hq d_Mod_create_88 ?_
            refine g_aload_n h d_Mod_create_89 rfl rfl ?_
            refine gf_Mod_place h f_Mod_50 d_Mod_create_90 ?_
            refine g_iload_n h d_Mod_create_93 rfl rfl ?_
            refine g_iconst (v := 0) h d_Mod_create_94 (by decide) ?_
            refine pi_place h rfl hq d_Mod_create_95 ?_
            refine g_aload_n h d_Mod_create_96 rfl rfl ?_
            refine gf_Mod_state h f_Mod_53 d_Mod_create_97 ?_
            refine g_iload_n h d_Mod_create_100 rfl rfl ?_
            refine g_iconst (v := 0) h d_Mod_create_101 (by decide) ?_
            refine pi_state h rfl hq d_Mod_create_102 ?_
            refine g_iconst (v := 0) h d_Mod_create_103 (by decide) ?_
            refine g_istore h d_Mod_create_104 rfl (by rw [hN]; decide) ?_
            exact loop q hq (by simp [mcreate, hf, hf2]) _ (by first | (simp [mcreate, mborn, hf, hf2, c_43]; done) | (simp [mcreate, mborn, hf, hf2, c_43, c_51]; done) | (simp [mcreate, mborn, hf, hf2, c_43, c_51, c_59]; done))
          · refine g_aload_n h d_Mod_create_46 rfl rfl ?_
            refine gf_Mod_phase h f_Mod_92 d_Mod_create_47 ?_
            refine g_iconst (v := 2) h d_Mod_create_50 (by decide) ?_
            simp only [sI_1, sI_2, sJ_1, sJ_2, sJ_3, sR_1, sR_2, sR_3, Nat.reduceEqDiff, Nat.zero_ne_one, Nat.one_ne_zero, Nat.succ_ne_zero, reduceCtorEq, false_and, if_false, true_and, and_self, if_true, and_true, and_false, reduceIte]
            refine g_icmp_ne (tgt := 66) h d_Mod_create_51 (by decide) (fun c_51 => ?_) (fun c_51 => ?_)
            · refine g_iconst (v := 0) h d_Mod_create_66 (by decide) ?_
              refine pi_colour h rfl hq d_Mod_create_67 ?_
              refine g_aload_n h d_Mod_create_68 rfl rfl ?_
              refine gf_Mod_size h f_Mod_32 d_Mod_create_69 ?_
              refine g_iload_n h d_Mod_create_72 rfl rfl ?_
              refine g_iconst (v := 0) h d_Mod_create_73 (by decide) ?_
              refine pi_size h rfl hq d_Mod_create_74 ?_
              refine g_aload_n h d_Mod_create_75 rfl rfl ?_
              refine gf_Mod_metaOf h f_Mod_35 d_Mod_create_76 ?_
              refine g_iload_n h d_Mod_create_79 rfl rfl ?_
              refine g_iconst (v := -1) h d_Mod_create_80 (by decide) ?_
              refine pi_metaOf h rfl hq d_Mod_create_81 ?_
              refine g_aload_n h d_Mod_create_82 rfl rfl ?_
              refine gf_Mod_function h f_Mod_47 d_Mod_create_83 ?_
              refine g_iload_n h d_Mod_create_86 rfl rfl ?_
              refine g_iload_n h d_Mod_create_87 rfl rfl ?_
              refine pi_function h rfl hq d_Mod_create_88 ?_
              refine g_aload_n h d_Mod_create_89 rfl rfl ?_
              refine gf_Mod_place h f_Mod_50 d_Mod_create_90 ?_
              refine g_iload_n h d_Mod_create_93 rfl rfl ?_
              refine g_iconst (v := 0) h d_Mod_create_94 (by decide) ?_
              refine pi_place h rfl hq d_Mod_create_95 ?_
              refine g_aload_n h d_Mod_create_96 rfl rfl ?_
              refine gf_Mod_state h f_Mod_53 d_Mod_create_97 ?_
              refine g_iload_n h d_Mod_create_100 rfl rfl ?_
              refine g_iconst (v := 0) h d_Mod_create_101 (by decide) ?_
              refine pi_state h rfl hq d_Mod_create_102 ?_
              refine g_iconst (v := 0) h d_Mod_create_103 (by decide) ?_
              refine g_istore h d_Mod_create_104 rfl (by rw [hN]; decide) ?_
              exact loop q hq (by simp [mcreate, hf, hf2]) _ (by first | (simp [mcreate, mborn, hf, hf2, c_43]; done) | (simp [mcreate, mborn, hf, hf2, c_43, c_51]; done) | (simp [mcreate, mborn, hf, hf2, c_43, c_51, c_59]; done))
            · refine g_iload_n h d_Mod_create_54 rfl rfl ?_
              refine g_aload_n h d_Mod_create_55 rfl rfl ?_
              refine gf_Mod_sweep h f_Mod_106 d_Mod_create_56 ?_
              simp only [sI_1, sI_2, sJ_1, sJ_2, sJ_3, sR_1, sR_2, sR_3, Nat.reduceEqDiff, Nat.zero_ne_one, Nat.one_ne_zero, Nat.succ_ne_zero, reduceCtorEq, false_and, if_false, true_and, and_self, if_true, and_true, and_false, reduceIte]
              refine g_icmp_lt (tgt := 66) h d_Mod_create_59 (by decide) (fun c_59 => ?_) (fun c_59 => ?_)
              · refine g_iconst (v := 0) h d_Mod_create_66 (by decide) ?_
                refine pi_colour h rfl hq d_Mod_create_67 ?_
                refine g_aload_n h d_Mod_create_68 rfl rfl ?_
                refine gf_Mod_size h f_Mod_32 d_Mod_create_69 ?_
                refine g_iload_n h d_Mod_create_72 rfl rfl ?_
                refine g_iconst (v := 0) h d_Mod_create_73 (by decide) ?_
                refine pi_size h rfl hq d_Mod_create_74 ?_
                refine g_aload_n h d_Mod_create_75 rfl rfl ?_
                refine gf_Mod_metaOf h f_Mod_35 d_Mod_create_76 ?_
                refine g_iload_n h d_Mod_create_79 rfl rfl ?_
                refine g_iconst (v := -1) h d_Mod_create_80 (by decide) ?_
                refine pi_metaOf h rfl hq d_Mod_create_81 ?_
                refine g_aload_n h d_Mod_create_82 rfl rfl ?_
                refine gf_Mod_function h f_Mod_47 d_Mod_create_83 ?_
                refine g_iload_n h d_Mod_create_86 rfl rfl ?_
                refine g_iload_n h d_Mod_create_87 rfl rfl ?_
                refine pi_function h rfl hq d_Mod_create_88 ?_
                refine g_aload_n h d_Mod_create_89 rfl rfl ?_
                refine gf_Mod_place h f_Mod_50 d_Mod_create_90 ?_
                refine g_iload_n h d_Mod_create_93 rfl rfl ?_
                refine g_iconst (v := 0) h d_Mod_create_94 (by decide) ?_
                refine pi_place h rfl hq d_Mod_create_95 ?_
                refine g_aload_n h d_Mod_create_96 rfl rfl ?_
                refine gf_Mod_state h f_Mod_53 d_Mod_create_97 ?_
                refine g_iload_n h d_Mod_create_100 rfl rfl ?_
                refine g_iconst (v := 0) h d_Mod_create_101 (by decide) ?_
                refine pi_state h rfl hq d_Mod_create_102 ?_
                refine g_iconst (v := 0) h d_Mod_create_103 (by decide) ?_
                refine g_istore h d_Mod_create_104 rfl (by rw [hN]; decide) ?_
                exact loop q hq (by simp [mcreate, hf, hf2]) _ (by first | (simp [mcreate, mborn, hf, hf2, c_43]; done) | (simp [mcreate, mborn, hf, hf2, c_43, c_51]; done) | (simp [mcreate, mborn, hf, hf2, c_43, c_51, c_59]; done))
              · refine g_iconst (v := 2) h d_Mod_create_62 (by decide) ?_
                refine g_goto (tgt := 67) h d_Mod_create_63 (by decide) ?_
                refine pi_colour h rfl hq d_Mod_create_67 ?_
                refine g_aload_n h d_Mod_create_68 rfl rfl ?_
                refine gf_Mod_size h f_Mod_32 d_Mod_create_69 ?_
                refine g_iload_n h d_Mod_create_72 rfl rfl ?_
                refine g_iconst (v := 0) h d_Mod_create_73 (by decide) ?_
                refine pi_size h rfl hq d_Mod_create_74 ?_
                refine g_aload_n h d_Mod_create_75 rfl rfl ?_
                refine gf_Mod_metaOf h f_Mod_35 d_Mod_create_76 ?_
                refine g_iload_n h d_Mod_create_79 rfl rfl ?_
                refine g_iconst (v := -1) h d_Mod_create_80 (by decide) ?_
                refine pi_metaOf h rfl hq d_Mod_create_81 ?_
                refine g_aload_n h d_Mod_create_82 rfl rfl ?_
                refine gf_Mod_function h f_Mod_47 d_Mod_create_83 ?_
                refine g_iload_n h d_Mod_create_86 rfl rfl ?_
                refine g_iload_n h d_Mod_create_87 rfl rfl ?_
                refine pi_function h rfl hq d_Mod_create_88 ?_
                refine g_aload_n h d_Mod_create_89 rfl rfl ?_
                refine gf_Mod_place h f_Mod_50 d_Mod_create_90 ?_
                refine g_iload_n h d_Mod_create_93 rfl rfl ?_
                refine g_iconst (v := 0) h d_Mod_create_94 (by decide) ?_
                refine pi_place h rfl hq d_Mod_create_95 ?_
                refine g_aload_n h d_Mod_create_96 rfl rfl ?_
                refine gf_Mod_state h f_Mod_53 d_Mod_create_97 ?_
                refine g_iload_n h d_Mod_create_100 rfl rfl ?_
                refine g_iconst (v := 0) h d_Mod_create_101 (by decide) ?_
                refine pi_state h rfl hq d_Mod_create_102 ?_
                refine g_iconst (v := 0) h d_Mod_create_103 (by decide) ?_
                refine g_istore h d_Mod_create_104 rfl (by rw [hN]; decide) ?_
                exact loop q hq (by simp [mcreate, hf, hf2]) _ (by first | (simp [mcreate, mborn, hf, hf2, c_43]; done) | (simp [mcreate, mborn, hf, hf2, c_43, c_51]; done) | (simp [mcreate, mborn, hf, hf2, c_43, c_51, c_59]; done))
        · exact absurd (nI_pos' (by omega)) c_21
  · have hq := mfree_lt hf
    refine g_istore_n h d_Mod_create_4 rfl rfl (by rw [hN]; decide) ?_
    refine g_iload_n h d_Mod_create_5 rfl rfl ?_
    refine g_if_ge (tgt := 20) h d_Mod_create_6 (by decide) (fun c_6 => ?_) (fun c_6 => ?_)
    · refine g_iload_n h d_Mod_create_20 rfl rfl ?_
      refine g_if_ge (tgt := 26) h d_Mod_create_21 (by decide) (fun c_21 => ?_) (fun c_21 => ?_)
      · refine g_aload_n h d_Mod_create_26 rfl rfl ?_
        refine gf_Mod_kind h f_Mod_26 d_Mod_create_27 ?_
        refine g_iload_n h d_Mod_create_30 rfl rfl ?_
        refine g_iload_n h d_Mod_create_31 rfl rfl ?_
        refine pi_kind h rfl hq d_Mod_create_32 ?_
        refine g_aload_n h d_Mod_create_33 rfl rfl ?_
        refine gf_Mod_colour h f_Mod_29 d_Mod_create_34 ?_
        refine g_iload_n h d_Mod_create_37 rfl rfl ?_
        refine g_aload_n h d_Mod_create_38 rfl rfl ?_
        refine gf_Mod_phase h f_Mod_92 d_Mod_create_39 ?_
        refine g_iconst (v := 1) h d_Mod_create_42 (by decide) ?_
        simp only [sI_1, sI_2, sJ_1, sJ_2, sJ_3, sR_1, sR_2, sR_3, Nat.reduceEqDiff, Nat.zero_ne_one, Nat.one_ne_zero, Nat.succ_ne_zero, reduceCtorEq, false_and, if_false, true_and, and_self, if_true, and_true, and_false, reduceIte]
        refine g_icmp_eq (tgt := 62) h d_Mod_create_43 (by decide) (fun c_43 => ?_) (fun c_43 => ?_)
        · refine g_iconst (v := 2) h d_Mod_create_62 (by decide) ?_
          refine g_goto (tgt := 67) h d_Mod_create_63 (by decide) ?_
          refine pi_colour h rfl hq d_Mod_create_67 ?_
          refine g_aload_n h d_Mod_create_68 rfl rfl ?_
          refine gf_Mod_size h f_Mod_32 d_Mod_create_69 ?_
          refine g_iload_n h d_Mod_create_72 rfl rfl ?_
          refine g_iconst (v := 0) h d_Mod_create_73 (by decide) ?_
          refine pi_size h rfl hq d_Mod_create_74 ?_
          refine g_aload_n h d_Mod_create_75 rfl rfl ?_
          refine gf_Mod_metaOf h f_Mod_35 d_Mod_create_76 ?_
          refine g_iload_n h d_Mod_create_79 rfl rfl ?_
          refine g_iconst (v := -1) h d_Mod_create_80 (by decide) ?_
          refine pi_metaOf h rfl hq d_Mod_create_81 ?_
          refine g_aload_n h d_Mod_create_82 rfl rfl ?_
          refine gf_Mod_function h f_Mod_47 d_Mod_create_83 ?_
          refine g_iload_n h d_Mod_create_86 rfl rfl ?_
          refine g_iload_n h d_Mod_create_87 rfl rfl ?_
          refine pi_function h rfl hq d_Mod_create_88 ?_
          refine g_aload_n h d_Mod_create_89 rfl rfl ?_
          refine gf_Mod_place h f_Mod_50 d_Mod_create_90 ?_
          refine g_iload_n h d_Mod_create_93 rfl rfl ?_
          refine g_iconst (v := 0) h d_Mod_create_94 (by decide) ?_
          refine pi_place h rfl hq d_Mod_create_95 ?_
          refine g_aload_n h d_Mod_create_96 rfl rfl ?_
          refine gf_Mod_state h f_Mod_53 d_Mod_create_97 ?_
          refine g_iload_n h d_Mod_create_100 rfl rfl ?_
          refine g_iconst (v := 0) h d_Mod_create_101 (by decide) ?_
          refine pi_state h rfl hq d_Mod_create_102 ?_
          refine g_iconst (v := 0) h d_Mod_create_103 (by decide) ?_
          refine g_istore h d_Mod_create_104 rfl (by rw [hN]; decide) ?_
          exact loop q hq (by simp [mcreate, hf]) _ (by first | (simp [mcreate, mborn, hf, c_43]; done) | (simp [mcreate, mborn, hf, c_43, c_51]; done) | (simp [mcreate, mborn, hf, c_43, c_51, c_59]; done))
        · refine g_aload_n h d_Mod_create_46 rfl rfl ?_
          refine gf_Mod_phase h f_Mod_92 d_Mod_create_47 ?_
          refine g_iconst (v := 2) h d_Mod_create_50 (by decide) ?_
          simp only [sI_1, sI_2, sJ_1, sJ_2, sJ_3, sR_1, sR_2, sR_3, Nat.reduceEqDiff, Nat.zero_ne_one, Nat.one_ne_zero, Nat.succ_ne_zero, reduceCtorEq, false_and, if_false, true_and, and_self, if_true, and_true, and_false, reduceIte]
          refine g_icmp_ne (tgt := 66) h d_Mod_create_51 (by decide) (fun c_51 => ?_) (fun c_51 => ?_)
          · refine g_iconst (v := 0) h d_Mod_create_66 (by decide) ?_
            refine pi_colour h rfl hq d_Mod_create_67 ?_
            refine g_aload_n h d_Mod_create_68 rfl rfl ?_
            refine gf_Mod_size h f_Mod_32 d_Mod_create_69 ?_
            refine g_iload_n h d_Mod_create_72 rfl rfl ?_
            refine g_iconst (v := 0) h d_Mod_create_73 (by decide) ?_
            refine pi_size h rfl hq d_Mod_create_74 ?_
            refine g_aload_n h d_Mod_create_75 rfl rfl ?_
            refine gf_Mod_metaOf h f_Mod_35 d_Mod_create_76 ?_
            refine g_iload_n h d_Mod_create_79 rfl rfl ?_
            refine g_iconst (v := -1) h d_Mod_create_80 (by decide) ?_
            refine pi_metaOf h rfl hq d_Mod_create_81 ?_
            refine g_aload_n h d_Mod_create_82 rfl rfl ?_
            refine gf_Mod_function h f_Mod_47 d_Mod_create_83 ?_
            refine g_iload_n h d_Mod_create_86 rfl rfl ?_
            refine g_iload_n h d_Mod_create_87 rfl rfl ?_
            refine pi_function h rfl hq d_Mod_create_88 ?_
            refine g_aload_n h d_Mod_create_89 rfl rfl ?_
            refine gf_Mod_place h f_Mod_50 d_Mod_create_90 ?_
            refine g_iload_n h d_Mod_create_93 rfl rfl ?_
            refine g_iconst (v := 0) h d_Mod_create_94 (by decide) ?_
            refine pi_place h rfl hq d_Mod_create_95 ?_
            refine g_aload_n h d_Mod_create_96 rfl rfl ?_
            refine gf_Mod_state h f_Mod_53 d_Mod_create_97 ?_
            refine g_iload_n h d_Mod_create_100 rfl rfl ?_
            refine g_iconst (v := 0) h d_Mod_create_101 (by decide) ?_
            refine pi_state h rfl hq d_Mod_create_102 ?_
            refine g_iconst (v := 0) h d_Mod_create_103 (by decide) ?_
            refine g_istore h d_Mod_create_104 rfl (by rw [hN]; decide) ?_
            exact loop q hq (by simp [mcreate, hf]) _ (by first | (simp [mcreate, mborn, hf, c_43]; done) | (simp [mcreate, mborn, hf, c_43, c_51]; done) | (simp [mcreate, mborn, hf, c_43, c_51, c_59]; done))
          · refine g_iload_n h d_Mod_create_54 rfl rfl ?_
            refine g_aload_n h d_Mod_create_55 rfl rfl ?_
            refine gf_Mod_sweep h f_Mod_106 d_Mod_create_56 ?_
            simp only [sI_1, sI_2, sJ_1, sJ_2, sJ_3, sR_1, sR_2, sR_3, Nat.reduceEqDiff, Nat.zero_ne_one, Nat.one_ne_zero, Nat.succ_ne_zero, reduceCtorEq, false_and, if_false, true_and, and_self, if_true, and_true, and_false, reduceIte]
            refine g_icmp_lt (tgt := 66) h d_Mod_create_59 (by decide) (fun c_59 => ?_) (fun c_59 => ?_)
            · refine g_iconst (v := 0) h d_Mod_create_66 (by decide) ?_
              refine pi_colour h rfl hq d_Mod_create_67 ?_
              refine g_aload_n h d_Mod_create_68 rfl rfl ?_
              refine gf_Mod_size h f_Mod_32 d_Mod_create_69 ?_
              refine g_iload_n h d_Mod_create_72 rfl rfl ?_
              refine g_iconst (v := 0) h d_Mod_create_73 (by decide) ?_
              refine pi_size h rfl hq d_Mod_create_74 ?_
              refine g_aload_n h d_Mod_create_75 rfl rfl ?_
              refine gf_Mod_metaOf h f_Mod_35 d_Mod_create_76 ?_
              refine g_iload_n h d_Mod_create_79 rfl rfl ?_
              refine g_iconst (v := -1) h d_Mod_create_80 (by decide) ?_
              refine pi_metaOf h rfl hq d_Mod_create_81 ?_
              refine g_aload_n h d_Mod_create_82 rfl rfl ?_
              refine gf_Mod_function h f_Mod_47 d_Mod_create_83 ?_
              refine g_iload_n h d_Mod_create_86 rfl rfl ?_
              refine g_iload_n h d_Mod_create_87 rfl rfl ?_
              refine pi_function h rfl hq d_Mod_create_88 ?_
              refine g_aload_n h d_Mod_create_89 rfl rfl ?_
              refine gf_Mod_place h f_Mod_50 d_Mod_create_90 ?_
              refine g_iload_n h d_Mod_create_93 rfl rfl ?_
              refine g_iconst (v := 0) h d_Mod_create_94 (by decide) ?_
              refine pi_place h rfl hq d_Mod_create_95 ?_
              refine g_aload_n h d_Mod_create_96 rfl rfl ?_
              refine gf_Mod_state h f_Mod_53 d_Mod_create_97 ?_
              refine g_iload_n h d_Mod_create_100 rfl rfl ?_
              refine g_iconst (v := 0) h d_Mod_create_101 (by decide) ?_
              refine pi_state h rfl hq d_Mod_create_102 ?_
              refine g_iconst (v := 0) h d_Mod_create_103 (by decide) ?_
              refine g_istore h d_Mod_create_104 rfl (by rw [hN]; decide) ?_
              exact loop q hq (by simp [mcreate, hf]) _ (by first | (simp [mcreate, mborn, hf, c_43]; done) | (simp [mcreate, mborn, hf, c_43, c_51]; done) | (simp [mcreate, mborn, hf, c_43, c_51, c_59]; done))
            · refine g_iconst (v := 2) h d_Mod_create_62 (by decide) ?_
              refine g_goto (tgt := 67) h d_Mod_create_63 (by decide) ?_
              refine pi_colour h rfl hq d_Mod_create_67 ?_
              refine g_aload_n h d_Mod_create_68 rfl rfl ?_
              refine gf_Mod_size h f_Mod_32 d_Mod_create_69 ?_
              refine g_iload_n h d_Mod_create_72 rfl rfl ?_
              refine g_iconst (v := 0) h d_Mod_create_73 (by decide) ?_
              refine pi_size h rfl hq d_Mod_create_74 ?_
              refine g_aload_n h d_Mod_create_75 rfl rfl ?_
              refine gf_Mod_metaOf h f_Mod_35 d_Mod_create_76 ?_
              refine g_iload_n h d_Mod_create_79 rfl rfl ?_
              refine g_iconst (v := -1) h d_Mod_create_80 (by decide) ?_
              refine pi_metaOf h rfl hq d_Mod_create_81 ?_
              refine g_aload_n h d_Mod_create_82 rfl rfl ?_
              refine gf_Mod_function h f_Mod_47 d_Mod_create_83 ?_
              refine g_iload_n h d_Mod_create_86 rfl rfl ?_
              refine g_iload_n h d_Mod_create_87 rfl rfl ?_
              refine pi_function h rfl hq d_Mod_create_88 ?_
              refine g_aload_n h d_Mod_create_89 rfl rfl ?_
              refine gf_Mod_place h f_Mod_50 d_Mod_create_90 ?_
              refine g_iload_n h d_Mod_create_93 rfl rfl ?_
              refine g_iconst (v := 0) h d_Mod_create_94 (by decide) ?_
              refine pi_place h rfl hq d_Mod_create_95 ?_
              refine g_aload_n h d_Mod_create_96 rfl rfl ?_
              refine gf_Mod_state h f_Mod_53 d_Mod_create_97 ?_
              refine g_iload_n h d_Mod_create_100 rfl rfl ?_
              refine g_iconst (v := 0) h d_Mod_create_101 (by decide) ?_
              refine pi_state h rfl hq d_Mod_create_102 ?_
              refine g_iconst (v := 0) h d_Mod_create_103 (by decide) ?_
              refine g_istore h d_Mod_create_104 rfl (by rw [hN]; decide) ?_
              exact loop q hq (by simp [mcreate, hf]) _ (by first | (simp [mcreate, mborn, hf, c_43]; done) | (simp [mcreate, mborn, hf, c_43, c_51]; done) | (simp [mcreate, mborn, hf, c_43, c_51, c_59]; done))
      · exact absurd (nI_pos' (by omega)) c_21
    · exact absurd (nI_pos' (by omega)) c_6
end

-- part 49.specM4
section
theorem i32_num {g : Int32} {m : Nat} (hm : m < 2 ^ 31) (h1 : ¬ g < 0) (h2 : ¬ nI m < g) : g.toNatClampNeg ≤ m ∧ g = nI g.toNatClampNeg := by
  have a : 0 ≤ g.toInt := by
    have := mt Int32.lt_iff_toInt_lt.mpr h1
    rw [Int32.toInt_zero] at this
    omega
  have b : g.toInt ≤ m := by
    have := mt Int32.lt_iff_toInt_lt.mpr h2
    rw [nI_toInt hm] at this
    omega
  have e : g.toNatClampNeg = g.toInt.toNat := rfl
  refine ⟨by omega, Int32.toInt_inj.mp ?_⟩
  rw [nI_toInt (by omega), e]
  omega
theorem gl_num {g : Int32} (h : ¬ (g < 0 ∨ 5 < g)) : g.toNatClampNeg < 6 ∧ g = nI g.toNatClampNeg := by
  obtain ⟨a, b⟩ := i32_num (m := 5) (by decide) (fun z => h (.inl z)) (fun z => h (.inr z))
  exact ⟨by omega, b⟩
theorem munit_e {M : CS} {g b : Nat} (hg : g ≠ 4 ∧ g ≠ 5 ∧ g ≠ 14 ∧ g ≠ 15 ∧ g ≠ 17 ∧ g ≠ 19) : (munit M).2.1 g b = M.1 g b := by
  obtain ⟨g4, g5, g14, g15, g17, g19⟩ := hg
  have e1 : (sI M 19 0 (M.1 19 0 + 1)).1 g b = M.1 g b := sI_e g19
  have er : (mshadeRoots (sI M 19 0 (M.1 19 0 + 1))).1 g b = M.1 g b := ((eq5_shadeRoots (eq5_refl _)).2 g g5 b).trans e1
  simp only [munit]
  split
  · exact (sI_e g14).trans er
  · split
    · split
      · exact ((eq5_blacken (eq5_refl _)).2 g g5 b).trans e1
      · split
        · exact er
        · exact (sI_e g15).trans ((sI_e g14).trans er)
    · have e2 : (if ¬ M.1 4 (M.1 15 0).toNatClampNeg = 0 ∧ M.1 5 (M.1 15 0).toNatClampNeg = 0 then sI (sI (sI M 19 0 (M.1 19 0 + 1)) 4 (M.1 15 0).toNatClampNeg 0) 17 0 (M.1 17 0 + 1) else sI M 19 0 (M.1 19 0 + 1)).1 g b = M.1 g b := by
        split
        · exact (sI_e g17).trans ((sI_e g4).trans e1)
        · exact e1
      by_cases hs : M.1 15 0 + 1 = 16
      · rw [if_pos hs]
        exact (sI_e g14).trans ((sI_e g15).trans ((sI_e g15).trans ((sI_e g5).trans e2)))
      · rw [if_neg hs]
        exact (sI_e g15).trans ((sI_e g5).trans e2)
def mnumber (M : CS) (g v : Int32) : CS := if g < 0 ∨ 5 < g then sI M 21 0 1 else sJ (sI M 21 0 0) 0 0 g.toNatClampNeg v.toInt64
def mmove (M : CS) (g h : Int32) : CS := if (g < 0 ∨ 5 < g) ∨ h < -1 ∨ 5 < h then sI M 21 0 1 else sJ (sI M 21 0 0) 0 0 g.toNatClampNeg (if h < 0 then -1000000000000 else M.2.1 0 0 h.toNatClampNeg)
def mglobal (M : CS) (g : Int32) : Int64 × CS := if g < 0 ∨ 5 < g then (0, sI M 21 0 1) else (M.2.1 0 0 g.toNatClampNeg, sI M 21 0 0)
def mcodeBad (f i op : Int32) : Prop := f < 0 ∨ 3 < f ∨ i < 0 ∨ 15 < i ∨ op < -1 ∨ 21 < op
def mcodeAt (f i : Int32) : Nat := f.toNatClampNeg * 16 + i.toNatClampNeg
def mcode (M : CS) (f i op a b c : Int32) : CS := if f < 0 ∨ 3 < f ∨ i < 0 ∨ 15 < i ∨ op < -1 ∨ 21 < op then sI M 21 0 1 else sI (sI (sI (sI (sI M 21 0 0) 0 (mcodeAt f i) op) 1 (mcodeAt f i) a) 2 (mcodeAt f i) b) 3 (mcodeAt f i) c
def mmake (M : CS) (g f : Int32) : Int32 × CS := if (g < 0 ∨ 5 < g) ∨ f < -1 ∨ 3 < f then (0, sI M 21 0 1) else
  match (mcreate (sI M 21 0 0) (if f < 0 then 1 else 2) f).1 with
  | none => (0, sI (mcreate (sI M 21 0 0) (if f < 0 then 1 else 2) f).2 21 0 2)
  | some n => (nI n, sJ (sI (mcreate (sI M 21 0 0) (if f < 0 then 1 else 2) f).2 21 0 0) 0 0 g.toNatClampNeg (10000000000 + (nI n).toInt64))
theorem mcreate_lt {M : CS} {k f : Int32} {n : Nat} (h : (mcreate M k f).1 = some n) : n < 16 := by
  simp only [mcreate] at h
  split at h
  · cases h
  · rename_i j hj
    cases h
    exact mfree_lt hj
def mcoll : Nat → Int32 → CS → Int32 × CS
  | 0, a, M => (a, M)
  | c + 1, a, M => mcoll c (a + (munit M).1) (munit M).2
def mcollect (M : CS) (n : Int32) : Int32 × CS := if n < 1 ∨ 100 < n then (0, sI M 21 0 1) else mcoll n.toNatClampNeg 0 (sI M 21 0 0)
end

-- part 50.facesM
section
set_option maxHeartbeats 4000000 in
set_option maxRecDepth 100000 in
theorem c_Mod_thrown {l : Launch} {D : va_G} {u : Nat → ClassId} {ad : Nat → Nat} {M : CS}  : Cm l D u ad y_Mod_thrown b_Mod_thrown 1 (some .int) { frames := 0, cells := 0, slots := 0, locals := 0 } [.ref (ad 0)] (M) (some (.int (M.1 21 0))) (M) := by
  refine ct_of (by decide) (Nat.le_of_ble_eq_true rfl) ?_
  intro Γ _ _ hN h r
  refine g_at (L' := [some (.ref (ad 0))]) rfl rfl rfl ?_
  refine g_aload_n h d_Mod_thrown_0 rfl rfl ?_
  refine gf_Mod_thrown h f_Mod_64 d_Mod_thrown_1 ?_
  exact g_iret h r d_Mod_thrown_4 (⟨rfl, rfl⟩)
set_option maxHeartbeats 4000000 in
set_option maxRecDepth 100000 in
theorem c_Mod_number {l : Launch} {D : va_G} {u : Nat → ClassId} {ad : Nat → Nat} {M : CS} {g v : Int32} : Cm l D u ad y_Mod_number b_Mod_number 3 none { frames := 1, cells := 0, slots := 0, locals := 21 } [.ref (ad 0), .int g, .int v] (M) (none) (mnumber M g v) := by
  refine ct_of (by decide) (Nat.le_of_ble_eq_true rfl) ?_
  intro Γ _ _ hN h r
  refine g_at (L' := [some (.ref (ad 0)), some (.int g), some (.int v)]) rfl rfl rfl ?_
  refine g_aload_n h d_Mod_number_0 rfl rfl ?_
  refine g_aload_n h d_Mod_number_1 rfl rfl ?_
  refine g_iload_n h d_Mod_number_2 rfl rfl ?_
  refine g_dVi h tb_good (c_Mod_badGlobal) (q := 0) (by decide) rfl rfl v_Mod_78 nm_Mod_badGlobal rfl ⟨rfl, rfl, Nat.le_of_ble_eq_true rfl, Nat.le_of_ble_eq_true rfl, Nat.zero_le _, Nat.zero_le _⟩ rfl (Nat.le_of_ble_eq_true rfl) d_Mod_number_3 ?_
  by_cases hb : g < 0 ∨ 5 < g
  · rw [if_pos hb]
    refine g_if_eq (tgt := 13) h d_Mod_number_6 (by decide) (fun c_6 => ?_) (fun c_6 => ?_)
    · exact absurd c_6 (by decide)
    · skip
      · refine g_iconst (v := 1) h d_Mod_number_9 (by decide) ?_
        refine g_goto (tgt := 14) h d_Mod_number_10 (by decide) ?_
        refine pf_Mod_thrown h f_Mod_64 d_Mod_number_14 ?_
        refine g_aload_n h d_Mod_number_17 rfl rfl ?_
        refine gf_Mod_thrown h f_Mod_64 d_Mod_number_18 ?_
        simp only [sI_1, sI_2, sJ_1, sJ_2, sJ_3, sR_1, sR_2, sR_3, Nat.reduceEqDiff, Nat.zero_ne_one, Nat.one_ne_zero, Nat.succ_ne_zero, reduceCtorEq, false_and, if_false, true_and, and_self, if_true, and_true, and_false, reduceIte]
        refine g_if_ne (tgt := 32) h d_Mod_number_21 (by decide) (fun c_21 => ?_) (fun c_21 => ?_)
        · exact g_vret h r d_Mod_number_32 (⟨rfl, by simp [mnumber, hb]⟩)
        · exact absurd c_21 (by decide)
  · rw [if_neg hb]
    obtain ⟨hj, hje⟩ := gl_num hb
    refine g_if_eq (tgt := 13) h d_Mod_number_6 (by decide) (fun c_6 => ?_) (fun c_6 => ?_)
    · skip
      · refine g_iconst (v := 0) h d_Mod_number_13 (by decide) ?_
        refine pf_Mod_thrown h f_Mod_64 d_Mod_number_14 ?_
        refine g_aload_n h d_Mod_number_17 rfl rfl ?_
        refine gf_Mod_thrown h f_Mod_64 d_Mod_number_18 ?_
        simp only [sI_1, sI_2, sJ_1, sJ_2, sJ_3, sR_1, sR_2, sR_3, Nat.reduceEqDiff, Nat.zero_ne_one, Nat.one_ne_zero, Nat.succ_ne_zero, reduceCtorEq, false_and, if_false, true_and, and_self, if_true, and_true, and_false, reduceIte]
        refine g_if_ne (tgt := 32) h d_Mod_number_21 (by decide) (fun c_21 => ?_) (fun c_21 => ?_)
        · exact absurd rfl c_21
        · refine g_aload_n h d_Mod_number_24 rfl rfl ?_
          refine gf_Mod_globals h f_Mod_22 d_Mod_number_25 ?_
          refine g_iload_n h d_Mod_number_28 rfl rfl ?_
          refine g_iload_n h d_Mod_number_29 rfl rfl ?_
          refine g_i2l h d_Mod_number_30 ?_
          refine pj_globals h hje hj d_Mod_number_31 ?_
          exact g_vret h r d_Mod_number_32 (⟨rfl, by simp [mnumber, hb]⟩)
    · exact absurd rfl c_6
set_option maxHeartbeats 4000000 in
set_option maxRecDepth 100000 in
theorem c_Mod_global {l : Launch} {D : va_G} {u : Nat → ClassId} {ad : Nat → Nat} {M : CS} {g : Int32} : Cm l D u ad y_Mod_global b_Mod_global 2 (some .long) { frames := 1, cells := 0, slots := 0, locals := 21 } [.ref (ad 0), .int g] (M) (some (.long (mglobal M g).1)) ((mglobal M g).2) := by
  refine ct_of (by decide) (Nat.le_of_ble_eq_true rfl) ?_
  intro Γ _ _ hN h r
  refine g_at (L' := [some (.ref (ad 0)), some (.int g)]) rfl rfl rfl ?_
  refine g_aload_n h d_Mod_global_0 rfl rfl ?_
  refine g_aload_n h d_Mod_global_1 rfl rfl ?_
  refine g_iload_n h d_Mod_global_2 rfl rfl ?_
  refine g_dVi h tb_good (c_Mod_badGlobal) (q := 0) (by decide) rfl rfl v_Mod_78 nm_Mod_badGlobal rfl ⟨rfl, rfl, Nat.le_of_ble_eq_true rfl, Nat.le_of_ble_eq_true rfl, Nat.zero_le _, Nat.zero_le _⟩ rfl (Nat.le_of_ble_eq_true rfl) d_Mod_global_3 ?_
  by_cases hb : g < 0 ∨ 5 < g
  · rw [if_pos hb]
    refine g_if_eq (tgt := 13) h d_Mod_global_6 (by decide) (fun c_6 => ?_) (fun c_6 => ?_)
    · exact absurd c_6 (by decide)
    · skip
      · refine g_iconst (v := 1) h d_Mod_global_9 (by decide) ?_
        refine g_goto (tgt := 14) h d_Mod_global_10 (by decide) ?_
        refine pf_Mod_thrown h f_Mod_64 d_Mod_global_14 ?_
        refine g_aload_n h d_Mod_global_17 rfl rfl ?_
        refine gf_Mod_thrown h f_Mod_64 d_Mod_global_18 ?_
        simp only [sI_1, sI_2, sJ_1, sJ_2, sJ_3, sR_1, sR_2, sR_3, Nat.reduceEqDiff, Nat.zero_ne_one, Nat.one_ne_zero, Nat.succ_ne_zero, reduceCtorEq, false_and, if_false, true_and, and_self, if_true, and_true, and_false, reduceIte]
        refine g_if_ne (tgt := 33) h d_Mod_global_21 (by decide) (fun c_21 => ?_) (fun c_21 => ?_)
        · refine g_lconst (v := 0) h d_Mod_global_33 (by decide) ?_
          exact g_lret h r d_Mod_global_34 (⟨by first | (simp [mglobal, hb]; done) | (simp only [mglobal, if_neg hb]; rfl), by simp [mglobal, hb]⟩)
        · exact absurd c_21 (by decide)
  · rw [if_neg hb]
    obtain ⟨hj, hje⟩ := gl_num hb
    refine g_if_eq (tgt := 13) h d_Mod_global_6 (by decide) (fun c_6 => ?_) (fun c_6 => ?_)
    · skip
      · refine g_iconst (v := 0) h d_Mod_global_13 (by decide) ?_
        refine pf_Mod_thrown h f_Mod_64 d_Mod_global_14 ?_
        refine g_aload_n h d_Mod_global_17 rfl rfl ?_
        refine gf_Mod_thrown h f_Mod_64 d_Mod_global_18 ?_
        simp only [sI_1, sI_2, sJ_1, sJ_2, sJ_3, sR_1, sR_2, sR_3, Nat.reduceEqDiff, Nat.zero_ne_one, Nat.one_ne_zero, Nat.succ_ne_zero, reduceCtorEq, false_and, if_false, true_and, and_self, if_true, and_true, and_false, reduceIte]
        refine g_if_ne (tgt := 33) h d_Mod_global_21 (by decide) (fun c_21 => ?_) (fun c_21 => ?_)
        · exact absurd rfl c_21
        · refine g_aload_n h d_Mod_global_24 rfl rfl ?_
          refine gf_Mod_globals h f_Mod_22 d_Mod_global_25 ?_
          refine g_iload_n h d_Mod_global_28 rfl rfl ?_
          refine gj_globals h hje hj d_Mod_global_29 ?_
          refine g_goto (tgt := 34) h d_Mod_global_30 (by decide) ?_
          exact g_lret h r d_Mod_global_34 (⟨by first | (simp [mglobal, hb]; done) | (simp only [mglobal, if_neg hb]; rfl), by simp [mglobal, hb]⟩)
    · exact absurd rfl c_6
set_option maxHeartbeats 4000000 in
set_option maxRecDepth 100000 in
theorem c_Mod_move {l : Launch} {D : va_G} {u : Nat → ClassId} {ad : Nat → Nat} {M : CS} {g k : Int32} : Cm l D u ad y_Mod_move b_Mod_move 3 none { frames := 1, cells := 0, slots := 0, locals := 21 } [.ref (ad 0), .int g, .int k] (M) (none) (mmove M g k) := by
  refine ct_of (by decide) (Nat.le_of_ble_eq_true rfl) ?_
  intro Γ _ _ hN h r
  refine g_at (L' := [some (.ref (ad 0)), some (.int g), some (.int k)]) rfl rfl rfl ?_
  refine g_aload_n h d_Mod_move_0 rfl rfl ?_
  refine g_aload_n h d_Mod_move_1 rfl rfl ?_
  refine g_iload_n h d_Mod_move_2 rfl rfl ?_
  refine g_dVi h tb_good (c_Mod_badGlobal) (q := 0) (by decide) rfl rfl v_Mod_78 nm_Mod_badGlobal rfl ⟨rfl, rfl, Nat.le_of_ble_eq_true rfl, Nat.le_of_ble_eq_true rfl, Nat.zero_le _, Nat.zero_le _⟩ rfl (Nat.le_of_ble_eq_true rfl) d_Mod_move_3 ?_
  by_cases hb : g < 0 ∨ 5 < g
  · rw [if_pos hb]
    refine g_if_ne (tgt := 19) h d_Mod_move_6 (by decide) (fun c_6 => ?_) (fun c_6 => ?_)
    · skip
      · refine g_iconst (v := 1) h d_Mod_move_19 (by decide) ?_
        refine g_goto (tgt := 24) h d_Mod_move_20 (by decide) ?_
        refine pf_Mod_thrown h f_Mod_64 d_Mod_move_24 ?_
        refine g_aload_n h d_Mod_move_27 rfl rfl ?_
        refine gf_Mod_thrown h f_Mod_64 d_Mod_move_28 ?_
        simp only [sI_1, sI_2, sJ_1, sJ_2, sJ_3, sR_1, sR_2, sR_3, Nat.reduceEqDiff, Nat.zero_ne_one, Nat.one_ne_zero, Nat.succ_ne_zero, reduceCtorEq, false_and, if_false, true_and, and_self, if_true, and_true, and_false, reduceIte]
        refine g_if_ne (tgt := 56) h d_Mod_move_31 (by decide) (fun c_31 => ?_) (fun c_31 => ?_)
        · exact g_vret h r d_Mod_move_56 (⟨rfl, by unfold mmove; first | (rw [if_pos (Or.inl hb)]; done) | (rw [if_pos (Or.inr (Or.inl c_11))]; done) | (rw [if_pos (Or.inr (Or.inr (Int32.not_le.mp c_16)))]; done) | (rw [if_neg (fun z => z.elim hb (fun z => z.elim c_11 (Int32.not_lt.mpr c_16))), if_pos (Int32.not_le.mp c_40)]; done) | (rw [if_neg (fun z => z.elim hb (fun z => z.elim c_11 (Int32.not_lt.mpr c_16))), if_neg (Int32.not_lt.mpr c_40)]; rfl)⟩)
        · exact absurd c_31 (by decide)
    · exact absurd c_6 (by decide)
  · rw [if_neg hb]
    obtain ⟨hj, hje⟩ := gl_num hb
    refine g_if_ne (tgt := 19) h d_Mod_move_6 (by decide) (fun c_6 => ?_) (fun c_6 => ?_)
    · exact absurd rfl c_6
    · refine g_iload_n h d_Mod_move_9 rfl rfl ?_
      refine g_iconst (v := -1) h d_Mod_move_10 (by decide) ?_
      refine g_icmp_lt (tgt := 19) h d_Mod_move_11 (by decide) (fun c_11 => ?_) (fun c_11 => ?_)
      · skip
        · refine g_iconst (v := 1) h d_Mod_move_19 (by decide) ?_
          refine g_goto (tgt := 24) h d_Mod_move_20 (by decide) ?_
          refine pf_Mod_thrown h f_Mod_64 d_Mod_move_24 ?_
          refine g_aload_n h d_Mod_move_27 rfl rfl ?_
          refine gf_Mod_thrown h f_Mod_64 d_Mod_move_28 ?_
          simp only [sI_1, sI_2, sJ_1, sJ_2, sJ_3, sR_1, sR_2, sR_3, Nat.reduceEqDiff, Nat.zero_ne_one, Nat.one_ne_zero, Nat.succ_ne_zero, reduceCtorEq, false_and, if_false, true_and, and_self, if_true, and_true, and_false, reduceIte]
          refine g_if_ne (tgt := 56) h d_Mod_move_31 (by decide) (fun c_31 => ?_) (fun c_31 => ?_)
          · exact g_vret h r d_Mod_move_56 (⟨rfl, by unfold mmove; first | (rw [if_pos (Or.inl hb)]; done) | (rw [if_pos (Or.inr (Or.inl c_11))]; done) | (rw [if_pos (Or.inr (Or.inr (Int32.not_le.mp c_16)))]; done) | (rw [if_neg (fun z => z.elim hb (fun z => z.elim c_11 (Int32.not_lt.mpr c_16))), if_pos (Int32.not_le.mp c_40)]; done) | (rw [if_neg (fun z => z.elim hb (fun z => z.elim c_11 (Int32.not_lt.mpr c_16))), if_neg (Int32.not_lt.mpr c_40)]; rfl)⟩)
          · exact absurd c_31 (by decide)
      · refine g_iload_n h d_Mod_move_14 rfl rfl ?_
        refine g_iconst (v := 5) h d_Mod_move_15 (by decide) ?_
        refine g_icmp_le (tgt := 23) h d_Mod_move_16 (by decide) (fun c_16 => ?_) (fun c_16 => ?_)
        · skip
          · refine g_iconst (v := 0) h d_Mod_move_23 (by decide) ?_
            refine pf_Mod_thrown h f_Mod_64 d_Mod_move_24 ?_
            refine g_aload_n h d_Mod_move_27 rfl rfl ?_
            refine gf_Mod_thrown h f_Mod_64 d_Mod_move_28 ?_
            simp only [sI_1, sI_2, sJ_1, sJ_2, sJ_3, sR_1, sR_2, sR_3, Nat.reduceEqDiff, Nat.zero_ne_one, Nat.one_ne_zero, Nat.succ_ne_zero, reduceCtorEq, false_and, if_false, true_and, and_self, if_true, and_true, and_false, reduceIte]
            refine g_if_ne (tgt := 56) h d_Mod_move_31 (by decide) (fun c_31 => ?_) (fun c_31 => ?_)
            · exact absurd rfl c_31
            · refine g_aload_n h d_Mod_move_34 rfl rfl ?_
              refine gf_Mod_globals h f_Mod_22 d_Mod_move_35 ?_
              refine g_iload_n h d_Mod_move_38 rfl rfl ?_
              refine g_iload_n h d_Mod_move_39 rfl rfl ?_
              refine g_if_ge (tgt := 49) h d_Mod_move_40 (by decide) (fun c_40 => ?_) (fun c_40 => ?_)
              · obtain ⟨hk, hke⟩ := i32_num (m := 5) (by decide) (Int32.not_lt.mpr c_40) (Int32.not_lt.mpr c_16)
                refine g_aload_n h d_Mod_move_49 rfl rfl ?_
                refine gf_Mod_globals h f_Mod_22 d_Mod_move_50 ?_
                refine g_iload_n h d_Mod_move_53 rfl rfl ?_
                refine gj_globals h hke (by omega) d_Mod_move_54 ?_
                refine pj_globals h hje hj d_Mod_move_55 ?_
                exact g_vret h r d_Mod_move_56 (⟨rfl, by unfold mmove; first | (rw [if_pos (Or.inl hb)]; done) | (rw [if_pos (Or.inr (Or.inl c_11))]; done) | (rw [if_pos (Or.inr (Or.inr (Int32.not_le.mp c_16)))]; done) | (rw [if_neg (fun z => z.elim hb (fun z => z.elim c_11 (Int32.not_lt.mpr c_16))), if_pos (Int32.not_le.mp c_40)]; done) | (rw [if_neg (fun z => z.elim hb (fun z => z.elim c_11 (Int32.not_lt.mpr c_16))), if_neg (Int32.not_lt.mpr c_40)]; rfl)⟩)
              · refine g_ldc2 (v := -1000000000000) h d_Mod_move_43 k_Mod_62 ?_
                refine g_goto (tgt := 55) h d_Mod_move_46 (by decide) ?_
                refine pj_globals h hje hj d_Mod_move_55 ?_
                exact g_vret h r d_Mod_move_56 (⟨rfl, by unfold mmove; first | (rw [if_pos (Or.inl hb)]; done) | (rw [if_pos (Or.inr (Or.inl c_11))]; done) | (rw [if_pos (Or.inr (Or.inr (Int32.not_le.mp c_16)))]; done) | (rw [if_neg (fun z => z.elim hb (fun z => z.elim c_11 (Int32.not_lt.mpr c_16))), if_pos (Int32.not_le.mp c_40)]; done) | (rw [if_neg (fun z => z.elim hb (fun z => z.elim c_11 (Int32.not_lt.mpr c_16))), if_neg (Int32.not_lt.mpr c_40)]; rfl)⟩)
        · skip
          · refine g_iconst (v := 1) h d_Mod_move_19 (by decide) ?_
            refine g_goto (tgt := 24) h d_Mod_move_20 (by decide) ?_
            refine pf_Mod_thrown h f_Mod_64 d_Mod_move_24 ?_
            refine g_aload_n h d_Mod_move_27 rfl rfl ?_
            refine gf_Mod_thrown h f_Mod_64 d_Mod_move_28 ?_
            simp only [sI_1, sI_2, sJ_1, sJ_2, sJ_3, sR_1, sR_2, sR_3, Nat.reduceEqDiff, Nat.zero_ne_one, Nat.one_ne_zero, Nat.succ_ne_zero, reduceCtorEq, false_and, if_false, true_and, and_self, if_true, and_true, and_false, reduceIte]
            refine g_if_ne (tgt := 56) h d_Mod_move_31 (by decide) (fun c_31 => ?_) (fun c_31 => ?_)
            · exact g_vret h r d_Mod_move_56 (⟨rfl, by unfold mmove; first | (rw [if_pos (Or.inl hb)]; done) | (rw [if_pos (Or.inr (Or.inl c_11))]; done) | (rw [if_pos (Or.inr (Or.inr (Int32.not_le.mp c_16)))]; done) | (rw [if_neg (fun z => z.elim hb (fun z => z.elim c_11 (Int32.not_lt.mpr c_16))), if_pos (Int32.not_le.mp c_40)]; done) | (rw [if_neg (fun z => z.elim hb (fun z => z.elim c_11 (Int32.not_lt.mpr c_16))), if_neg (Int32.not_lt.mpr c_40)]; rfl)⟩)
            · exact absurd c_31 (by decide)
set_option maxHeartbeats 4000000 in
set_option maxRecDepth 100000 in
theorem c_Mod_code {l : Launch} {D : va_G} {u : Nat → ClassId} {ad : Nat → Nat} {M : CS} {f i op a b c : Int32} : Cm l D u ad y_Mod_code b_Mod_code 8 none { frames := 0, cells := 0, slots := 0, locals := 0 } [.ref (ad 0), .int f, .int i, .int op, .int a, .int b, .int c] (M) (none) (mcode M f i op a b c) := by
  refine ct_of (by decide) (Nat.le_of_ble_eq_true rfl) ?_
  intro Γ _ _ hN h r
  refine g_at (L' := [some (.ref (ad 0)), some (.int f), some (.int i), some (.int op), some (.int a), some (.int b), some (.int c), none]) rfl rfl rfl ?_
  refine g_aload_n h d_Mod_code_0 rfl rfl ?_
  refine g_iload_n h d_Mod_code_1 rfl rfl ?_
  refine g_if_lt (tgt := 31) h d_Mod_code_2 (by decide) (fun c_2 => ?_) (fun c_2 => ?_)
  · skip
    · refine g_iconst (v := 1) h d_Mod_code_31 (by decide) ?_
      refine g_goto (tgt := 36) h d_Mod_code_32 (by decide) ?_
      refine pf_Mod_thrown h f_Mod_64 d_Mod_code_36 ?_
      refine g_aload_n h d_Mod_code_39 rfl rfl ?_
      refine gf_Mod_thrown h f_Mod_64 d_Mod_code_40 ?_
      simp only [sI_1, sI_2, sJ_1, sJ_2, sJ_3, sR_1, sR_2, sR_3, Nat.reduceEqDiff, Nat.zero_ne_one, Nat.one_ne_zero, Nat.succ_ne_zero, reduceCtorEq, false_and, if_false, true_and, and_self, if_true, and_true, and_false, reduceIte]
      refine g_if_eq (tgt := 47) h d_Mod_code_43 (by decide) (fun c_43 => ?_) (fun c_43 => ?_)
      · exact absurd c_43 (by decide)
      · exact g_vret h r d_Mod_code_46 (⟨rfl, by unfold mcode; rw [if_pos (by first | exact .inl c_2 | exact .inr (.inl c_7) | exact .inr (.inr (.inl c_11)) | exact .inr (.inr (.inr (.inl c_17))) | exact .inr (.inr (.inr (.inr (.inl c_22)))) | exact .inr (.inr (.inr (.inr (.inr (Int32.not_le.mp c_28))))))]⟩)
  · refine g_iload_n h d_Mod_code_5 rfl rfl ?_
    refine g_iconst (v := 3) h d_Mod_code_6 (by decide) ?_
    refine g_icmp_gt (tgt := 31) h d_Mod_code_7 (by decide) (fun c_7 => ?_) (fun c_7 => ?_)
    · skip
      · refine g_iconst (v := 1) h d_Mod_code_31 (by decide) ?_
        refine g_goto (tgt := 36) h d_Mod_code_32 (by decide) ?_
        refine pf_Mod_thrown h f_Mod_64 d_Mod_code_36 ?_
        refine g_aload_n h d_Mod_code_39 rfl rfl ?_
        refine gf_Mod_thrown h f_Mod_64 d_Mod_code_40 ?_
        simp only [sI_1, sI_2, sJ_1, sJ_2, sJ_3, sR_1, sR_2, sR_3, Nat.reduceEqDiff, Nat.zero_ne_one, Nat.one_ne_zero, Nat.succ_ne_zero, reduceCtorEq, false_and, if_false, true_and, and_self, if_true, and_true, and_false, reduceIte]
        refine g_if_eq (tgt := 47) h d_Mod_code_43 (by decide) (fun c_43 => ?_) (fun c_43 => ?_)
        · exact absurd c_43 (by decide)
        · exact g_vret h r d_Mod_code_46 (⟨rfl, by unfold mcode; rw [if_pos (by first | exact .inl c_2 | exact .inr (.inl c_7) | exact .inr (.inr (.inl c_11)) | exact .inr (.inr (.inr (.inl c_17))) | exact .inr (.inr (.inr (.inr (.inl c_22)))) | exact .inr (.inr (.inr (.inr (.inr (Int32.not_le.mp c_28))))))]⟩)
    · refine g_iload_n h d_Mod_code_10 rfl rfl ?_
      refine g_if_lt (tgt := 31) h d_Mod_code_11 (by decide) (fun c_11 => ?_) (fun c_11 => ?_)
      · skip
        · refine g_iconst (v := 1) h d_Mod_code_31 (by decide) ?_
          refine g_goto (tgt := 36) h d_Mod_code_32 (by decide) ?_
          refine pf_Mod_thrown h f_Mod_64 d_Mod_code_36 ?_
          refine g_aload_n h d_Mod_code_39 rfl rfl ?_
          refine gf_Mod_thrown h f_Mod_64 d_Mod_code_40 ?_
          simp only [sI_1, sI_2, sJ_1, sJ_2, sJ_3, sR_1, sR_2, sR_3, Nat.reduceEqDiff, Nat.zero_ne_one, Nat.one_ne_zero, Nat.succ_ne_zero, reduceCtorEq, false_and, if_false, true_and, and_self, if_true, and_true, and_false, reduceIte]
          refine g_if_eq (tgt := 47) h d_Mod_code_43 (by decide) (fun c_43 => ?_) (fun c_43 => ?_)
          · exact absurd c_43 (by decide)
          · exact g_vret h r d_Mod_code_46 (⟨rfl, by unfold mcode; rw [if_pos (by first | exact .inl c_2 | exact .inr (.inl c_7) | exact .inr (.inr (.inl c_11)) | exact .inr (.inr (.inr (.inl c_17))) | exact .inr (.inr (.inr (.inr (.inl c_22)))) | exact .inr (.inr (.inr (.inr (.inr (Int32.not_le.mp c_28))))))]⟩)
      · refine g_iload_n h d_Mod_code_14 rfl rfl ?_
        refine g_bipush (v := 15) h d_Mod_code_15 (by decide) ?_
        refine g_icmp_gt (tgt := 31) h d_Mod_code_17 (by decide) (fun c_17 => ?_) (fun c_17 => ?_)
        · skip
          · refine g_iconst (v := 1) h d_Mod_code_31 (by decide) ?_
            refine g_goto (tgt := 36) h d_Mod_code_32 (by decide) ?_
            refine pf_Mod_thrown h f_Mod_64 d_Mod_code_36 ?_
            refine g_aload_n h d_Mod_code_39 rfl rfl ?_
            refine gf_Mod_thrown h f_Mod_64 d_Mod_code_40 ?_
            simp only [sI_1, sI_2, sJ_1, sJ_2, sJ_3, sR_1, sR_2, sR_3, Nat.reduceEqDiff, Nat.zero_ne_one, Nat.one_ne_zero, Nat.succ_ne_zero, reduceCtorEq, false_and, if_false, true_and, and_self, if_true, and_true, and_false, reduceIte]
            refine g_if_eq (tgt := 47) h d_Mod_code_43 (by decide) (fun c_43 => ?_) (fun c_43 => ?_)
            · exact absurd c_43 (by decide)
            · exact g_vret h r d_Mod_code_46 (⟨rfl, by unfold mcode; rw [if_pos (by first | exact .inl c_2 | exact .inr (.inl c_7) | exact .inr (.inr (.inl c_11)) | exact .inr (.inr (.inr (.inl c_17))) | exact .inr (.inr (.inr (.inr (.inl c_22)))) | exact .inr (.inr (.inr (.inr (.inr (Int32.not_le.mp c_28))))))]⟩)
        · refine g_iload_n h d_Mod_code_20 rfl rfl ?_
          refine g_iconst (v := -1) h d_Mod_code_21 (by decide) ?_
          refine g_icmp_lt (tgt := 31) h d_Mod_code_22 (by decide) (fun c_22 => ?_) (fun c_22 => ?_)
          · skip
            · refine g_iconst (v := 1) h d_Mod_code_31 (by decide) ?_
              refine g_goto (tgt := 36) h d_Mod_code_32 (by decide) ?_
              refine pf_Mod_thrown h f_Mod_64 d_Mod_code_36 ?_
              refine g_aload_n h d_Mod_code_39 rfl rfl ?_
              refine gf_Mod_thrown h f_Mod_64 d_Mod_code_40 ?_
              simp only [sI_1, sI_2, sJ_1, sJ_2, sJ_3, sR_1, sR_2, sR_3, Nat.reduceEqDiff, Nat.zero_ne_one, Nat.one_ne_zero, Nat.succ_ne_zero, reduceCtorEq, false_and, if_false, true_and, and_self, if_true, and_true, and_false, reduceIte]
              refine g_if_eq (tgt := 47) h d_Mod_code_43 (by decide) (fun c_43 => ?_) (fun c_43 => ?_)
              · exact absurd c_43 (by decide)
              · exact g_vret h r d_Mod_code_46 (⟨rfl, by unfold mcode; rw [if_pos (by first | exact .inl c_2 | exact .inr (.inl c_7) | exact .inr (.inr (.inl c_11)) | exact .inr (.inr (.inr (.inl c_17))) | exact .inr (.inr (.inr (.inr (.inl c_22)))) | exact .inr (.inr (.inr (.inr (.inr (Int32.not_le.mp c_28))))))]⟩)
          · refine g_iload_n h d_Mod_code_25 rfl rfl ?_
            refine g_bipush (v := 21) h d_Mod_code_26 (by decide) ?_
            refine g_icmp_le (tgt := 35) h d_Mod_code_28 (by decide) (fun c_28 => ?_) (fun c_28 => ?_)
            · skip
              · refine g_iconst (v := 0) h d_Mod_code_35 (by decide) ?_
                refine pf_Mod_thrown h f_Mod_64 d_Mod_code_36 ?_
                refine g_aload_n h d_Mod_code_39 rfl rfl ?_
                refine gf_Mod_thrown h f_Mod_64 d_Mod_code_40 ?_
                simp only [sI_1, sI_2, sJ_1, sJ_2, sJ_3, sR_1, sR_2, sR_3, Nat.reduceEqDiff, Nat.zero_ne_one, Nat.one_ne_zero, Nat.succ_ne_zero, reduceCtorEq, false_and, if_false, true_and, and_self, if_true, and_true, and_false, reduceIte]
                refine g_if_eq (tgt := 47) h d_Mod_code_43 (by decide) (fun c_43 => ?_) (fun c_43 => ?_)
                · obtain ⟨h1, h1e⟩ := i32_num (m := 3) (by decide) c_2 (Int32.not_lt.mpr (Int32.not_lt.mp c_7))
                  obtain ⟨h2, h2e⟩ := i32_num (m := 15) (by decide) c_11 (Int32.not_lt.mpr (Int32.not_lt.mp c_17))
                  have hx : f * 16 + i = nI (mcodeAt f i) := by
                    unfold mcodeAt
                    rw [← nI_at16, ← h1e, ← h2e]
                  have hx2 : mcodeAt f i < 64 := by unfold mcodeAt; omega
                  refine g_iload_n h d_Mod_code_47 rfl rfl ?_
                  refine g_bipush (v := 16) h d_Mod_code_48 (by decide) ?_
                  refine g_imul h d_Mod_code_50 ?_
                  refine g_iload_n h d_Mod_code_51 rfl rfl ?_
                  refine g_iadd h d_Mod_code_52 ?_
                  refine g_istore h d_Mod_code_53 rfl (by rw [hN]; decide) ?_
                  refine g_aload_n h d_Mod_code_55 rfl rfl ?_
                  refine gf_Mod_ops h f_Mod_7 d_Mod_code_56 ?_
                  refine g_iload h d_Mod_code_59 rfl ?_
                  refine g_iload_n h d_Mod_code_61 rfl rfl ?_
                  refine pi_ops h hx hx2 d_Mod_code_62 ?_
                  refine g_aload_n h d_Mod_code_63 rfl rfl ?_
                  refine gf_Mod_as h f_Mod_13 d_Mod_code_64 ?_
                  refine g_iload h d_Mod_code_67 rfl ?_
                  refine g_iload h d_Mod_code_69 rfl ?_
                  refine pi_as h hx hx2 d_Mod_code_71 ?_
                  refine g_aload_n h d_Mod_code_72 rfl rfl ?_
                  refine gf_Mod_bs h f_Mod_16 d_Mod_code_73 ?_
                  refine g_iload h d_Mod_code_76 rfl ?_
                  refine g_iload h d_Mod_code_78 rfl ?_
                  refine pi_bs h hx hx2 d_Mod_code_80 ?_
                  refine g_aload_n h d_Mod_code_81 rfl rfl ?_
                  refine gf_Mod_cs h f_Mod_19 d_Mod_code_82 ?_
                  refine g_iload h d_Mod_code_85 rfl ?_
                  refine g_iload h d_Mod_code_87 rfl ?_
                  refine pi_cs h hx hx2 d_Mod_code_89 ?_
                  exact g_vret h r d_Mod_code_90 (⟨rfl, by unfold mcode; rw [if_neg (fun z => by rcases z with z | z | z | z | z | z <;> first | exact c_2 z | exact c_7 z | exact c_11 z | exact c_17 z | exact c_22 z | exact Int32.not_lt.mpr c_28 z)]⟩)
                · exact absurd rfl c_43
            · skip
              · refine g_iconst (v := 1) h d_Mod_code_31 (by decide) ?_
                refine g_goto (tgt := 36) h d_Mod_code_32 (by decide) ?_
                refine pf_Mod_thrown h f_Mod_64 d_Mod_code_36 ?_
                refine g_aload_n h d_Mod_code_39 rfl rfl ?_
                refine gf_Mod_thrown h f_Mod_64 d_Mod_code_40 ?_
                simp only [sI_1, sI_2, sJ_1, sJ_2, sJ_3, sR_1, sR_2, sR_3, Nat.reduceEqDiff, Nat.zero_ne_one, Nat.one_ne_zero, Nat.succ_ne_zero, reduceCtorEq, false_and, if_false, true_and, and_self, if_true, and_true, and_false, reduceIte]
                refine g_if_eq (tgt := 47) h d_Mod_code_43 (by decide) (fun c_43 => ?_) (fun c_43 => ?_)
                · exact absurd c_43 (by decide)
                · exact g_vret h r d_Mod_code_46 (⟨rfl, by unfold mcode; rw [if_pos (by first | exact .inl c_2 | exact .inr (.inl c_7) | exact .inr (.inr (.inl c_11)) | exact .inr (.inr (.inr (.inl c_17))) | exact .inr (.inr (.inr (.inr (.inl c_22)))) | exact .inr (.inr (.inr (.inr (.inr (Int32.not_le.mp c_28))))))]⟩)
set_option maxHeartbeats 4000000 in
set_option maxRecDepth 100000 in
theorem c_Mod_full {l : Launch} {D : va_G} {u : Nat → ClassId} {ad : Nat → Nat} {M : CS} (hok : okM M) : Cm l D u ad y_Mod_full b_Mod_full 1 (some .int) { frames := 5, cells := 0, slots := 0, locals := 110 } [.ref (ad 0)] (M) (some (.int (mwhole (sI M 21 0 0)).1)) ((mwhole (sI M 21 0 0)).2) := by
  refine ct_of (by decide) (Nat.le_of_ble_eq_true rfl) ?_
  intro Γ _ _ hN h r
  refine g_at (L' := [some (.ref (ad 0))]) rfl rfl rfl ?_
  refine g_aload_n h d_Mod_full_0 rfl rfl ?_
  refine g_iconst (v := 0) h d_Mod_full_1 (by decide) ?_
  refine pf_Mod_thrown h f_Mod_64 d_Mod_full_2 ?_
  refine g_aload_n h d_Mod_full_5 rfl rfl ?_
  refine g_dVi h tb_good (c_Mod_whole (okM_keep (by decide) hok)) (q := 0) (by decide) rfl rfl v_Mod_121 nm_Mod_whole rfl ⟨rfl, rfl, Nat.le_of_ble_eq_true rfl, Nat.le_of_ble_eq_true rfl, Nat.zero_le _, Nat.zero_le _⟩ rfl (Nat.le_of_ble_eq_true rfl) d_Mod_full_6 ?_
  exact g_iret h r d_Mod_full_9 (⟨rfl, rfl⟩)
set_option maxHeartbeats 4000000 in
set_option maxRecDepth 100000 in
theorem c_Mod_make {l : Launch} {D : va_G} {u : Nat → ClassId} {ad : Nat → Nat} {M : CS} {g f : Int32} (hok : okM M) : Cm l D u ad y_Mod_make b_Mod_make 4 (some .int) { frames := 6, cells := 0, slots := 0, locals := 134 } [.ref (ad 0), .int g, .int f] (M) (some (.int (mmake M g f).1)) ((mmake M g f).2) := by
  refine ct_of (by decide) (Nat.le_of_ble_eq_true rfl) ?_
  intro Γ _ _ hN h r
  refine g_at (L' := [some (.ref (ad 0)), some (.int g), some (.int f), none]) rfl rfl rfl ?_
  refine g_aload_n h d_Mod_make_0 rfl rfl ?_
  refine g_aload_n h d_Mod_make_1 rfl rfl ?_
  refine g_iload_n h d_Mod_make_2 rfl rfl ?_
  refine g_dVi h tb_good (c_Mod_badGlobal) (q := 0) (by decide) rfl rfl v_Mod_78 nm_Mod_badGlobal rfl ⟨rfl, rfl, Nat.le_of_ble_eq_true rfl, Nat.le_of_ble_eq_true rfl, Nat.zero_le _, Nat.zero_le _⟩ rfl (Nat.le_of_ble_eq_true rfl) d_Mod_make_3 ?_
  by_cases hb : g < 0 ∨ 5 < g
  · rw [if_pos hb]
    refine g_if_ne (tgt := 19) h d_Mod_make_6 (by decide) (fun c_6 => ?_) (fun c_6 => ?_)
    · skip
      · refine g_iconst (v := 1) h d_Mod_make_19 (by decide) ?_
        refine g_goto (tgt := 24) h d_Mod_make_20 (by decide) ?_
        refine pf_Mod_thrown h f_Mod_64 d_Mod_make_24 ?_
        refine g_aload_n h d_Mod_make_27 rfl rfl ?_
        refine gf_Mod_thrown h f_Mod_64 d_Mod_make_28 ?_
        simp only [sI_1, sI_2, sJ_1, sJ_2, sJ_3, sR_1, sR_2, sR_3, Nat.reduceEqDiff, Nat.zero_ne_one, Nat.one_ne_zero, Nat.succ_ne_zero, reduceCtorEq, false_and, if_false, true_and, and_self, if_true, and_true, and_false, reduceIte]
        refine g_if_eq (tgt := 36) h d_Mod_make_31 (by decide) (fun c_31 => ?_) (fun c_31 => ?_)
        · exact absurd c_31 (by decide)
        · refine g_iconst (v := 0) h d_Mod_make_34 (by decide) ?_
          exact g_iret h r d_Mod_make_35 (⟨(by unfold mmake; first | (rw [if_pos (Or.inl hb)]; done) | (rw [if_pos (Or.inr (Or.inl c_11))]; done) | (rw [if_pos (Or.inr (Or.inr (Int32.not_le.mp c_16)))]; done)), (by unfold mmake; first | (rw [if_pos (Or.inl hb)]; done) | (rw [if_pos (Or.inr (Or.inl c_11))]; done) | (rw [if_pos (Or.inr (Or.inr (Int32.not_le.mp c_16)))]; done))⟩)
    · exact absurd c_6 (by decide)
  · rw [if_neg hb]
    obtain ⟨hj, hje⟩ := gl_num hb
    refine g_if_ne (tgt := 19) h d_Mod_make_6 (by decide) (fun c_6 => ?_) (fun c_6 => ?_)
    · exact absurd rfl c_6
    · refine g_iload_n h d_Mod_make_9 rfl rfl ?_
      refine g_iconst (v := -1) h d_Mod_make_10 (by decide) ?_
      refine g_icmp_lt (tgt := 19) h d_Mod_make_11 (by decide) (fun c_11 => ?_) (fun c_11 => ?_)
      · skip
        · refine g_iconst (v := 1) h d_Mod_make_19 (by decide) ?_
          refine g_goto (tgt := 24) h d_Mod_make_20 (by decide) ?_
          refine pf_Mod_thrown h f_Mod_64 d_Mod_make_24 ?_
          refine g_aload_n h d_Mod_make_27 rfl rfl ?_
          refine gf_Mod_thrown h f_Mod_64 d_Mod_make_28 ?_
          simp only [sI_1, sI_2, sJ_1, sJ_2, sJ_3, sR_1, sR_2, sR_3, Nat.reduceEqDiff, Nat.zero_ne_one, Nat.one_ne_zero, Nat.succ_ne_zero, reduceCtorEq, false_and, if_false, true_and, and_self, if_true, and_true, and_false, reduceIte]
          refine g_if_eq (tgt := 36) h d_Mod_make_31 (by decide) (fun c_31 => ?_) (fun c_31 => ?_)
          · exact absurd c_31 (by decide)
          · refine g_iconst (v := 0) h d_Mod_make_34 (by decide) ?_
            exact g_iret h r d_Mod_make_35 (⟨(by unfold mmake; first | (rw [if_pos (Or.inl hb)]; done) | (rw [if_pos (Or.inr (Or.inl c_11))]; done) | (rw [if_pos (Or.inr (Or.inr (Int32.not_le.mp c_16)))]; done)), (by unfold mmake; first | (rw [if_pos (Or.inl hb)]; done) | (rw [if_pos (Or.inr (Or.inl c_11))]; done) | (rw [if_pos (Or.inr (Or.inr (Int32.not_le.mp c_16)))]; done))⟩)
      · refine g_iload_n h d_Mod_make_14 rfl rfl ?_
        refine g_iconst (v := 3) h d_Mod_make_15 (by decide) ?_
        refine g_icmp_le (tgt := 23) h d_Mod_make_16 (by decide) (fun c_16 => ?_) (fun c_16 => ?_)
        · skip
          · refine g_iconst (v := 0) h d_Mod_make_23 (by decide) ?_
            refine pf_Mod_thrown h f_Mod_64 d_Mod_make_24 ?_
            refine g_aload_n h d_Mod_make_27 rfl rfl ?_
            refine gf_Mod_thrown h f_Mod_64 d_Mod_make_28 ?_
            simp only [sI_1, sI_2, sJ_1, sJ_2, sJ_3, sR_1, sR_2, sR_3, Nat.reduceEqDiff, Nat.zero_ne_one, Nat.one_ne_zero, Nat.succ_ne_zero, reduceCtorEq, false_and, if_false, true_and, and_self, if_true, and_true, and_false, reduceIte]
            refine g_if_eq (tgt := 36) h d_Mod_make_31 (by decide) (fun c_31 => ?_) (fun c_31 => ?_)
            · refine g_aload_n h d_Mod_make_36 rfl rfl ?_
              refine g_iload_n h d_Mod_make_37 rfl rfl ?_
              refine g_if_ge (tgt := 45) h d_Mod_make_38 (by decide) (fun c_38 => ?_) (fun c_38 => ?_)
              · skip
                · refine g_iconst (v := 2) h d_Mod_make_45 (by decide) ?_
                  refine g_iload_n h d_Mod_make_46 rfl rfl ?_
                  refine g_dVi h tb_good (c_Mod_create (okM_keep (by decide) hok)) (q := 0) (by decide) rfl rfl v_Mod_127 nm_Mod_create rfl ⟨rfl, rfl, Nat.le_of_ble_eq_true rfl, Nat.le_of_ble_eq_true rfl, Nat.zero_le _, Nat.zero_le _⟩ rfl (Nat.le_of_ble_eq_true rfl) d_Mod_make_47 ?_
                  rcases hf : (mcreate (sI M 21 0 0) 2 f).1 with _ | q <;> simp only [enc]
                  · refine g_istore_n h d_Mod_make_50 rfl rfl (by rw [hN]; decide) ?_
                    refine g_aload_n h d_Mod_make_51 rfl rfl ?_
                    refine g_iload_n h d_Mod_make_52 rfl rfl ?_
                    refine g_if_ge (tgt := 60) h d_Mod_make_53 (by decide) (fun c_53 => ?_) (fun c_53 => ?_)
                    · exact absurd c_53 (by decide)
                    · refine g_iconst (v := 2) h d_Mod_make_56 (by decide) ?_
                      refine g_goto (tgt := 61) h d_Mod_make_57 (by decide) ?_
                      refine pf_Mod_thrown h f_Mod_64 d_Mod_make_61 ?_
                      refine g_iload_n h d_Mod_make_64 rfl rfl ?_
                      refine g_if_ge (tgt := 70) h d_Mod_make_65 (by decide) (fun c_65 => ?_) (fun c_65 => ?_)
                      · exact absurd c_65 (by decide)
                      · refine g_iconst (v := 0) h d_Mod_make_68 (by decide) ?_
                        exact g_iret h r d_Mod_make_69 (⟨by unfold mmake; rw [if_neg (fun z => z.elim hb (fun z => z.elim c_11 (Int32.not_lt.mpr c_16))), if_neg (Int32.not_lt.mpr c_38), hf], by unfold mmake; rw [if_neg (fun z => z.elim hb (fun z => z.elim c_11 (Int32.not_lt.mpr c_16))), if_neg (Int32.not_lt.mpr c_38), hf]⟩)
                  · have hq := mcreate_lt hf
                    refine g_istore_n h d_Mod_make_50 rfl rfl (by rw [hN]; decide) ?_
                    refine g_aload_n h d_Mod_make_51 rfl rfl ?_
                    refine g_iload_n h d_Mod_make_52 rfl rfl ?_
                    refine g_if_ge (tgt := 60) h d_Mod_make_53 (by decide) (fun c_53 => ?_) (fun c_53 => ?_)
                    · refine g_iconst (v := 0) h d_Mod_make_60 (by decide) ?_
                      refine pf_Mod_thrown h f_Mod_64 d_Mod_make_61 ?_
                      refine g_iload_n h d_Mod_make_64 rfl rfl ?_
                      refine g_if_ge (tgt := 70) h d_Mod_make_65 (by decide) (fun c_65 => ?_) (fun c_65 => ?_)
                      · refine g_aload_n h d_Mod_make_70 rfl rfl ?_
                        refine gf_Mod_globals h f_Mod_22 d_Mod_make_71 ?_
                        refine g_iload_n h d_Mod_make_74 rfl rfl ?_
                        refine g_ldc2 (v := 10000000000) h d_Mod_make_75 k_Mod_72 ?_
                        refine g_iload_n h d_Mod_make_78 rfl rfl ?_
                        refine g_i2l h d_Mod_make_79 ?_
                        refine g_ladd h d_Mod_make_80 ?_
                        refine pj_globals h hje hj d_Mod_make_81 ?_
                        refine g_iload_n h d_Mod_make_82 rfl rfl ?_
                        exact g_iret h r d_Mod_make_83 (⟨by unfold mmake; rw [if_neg (fun z => z.elim hb (fun z => z.elim c_11 (Int32.not_lt.mpr c_16))), if_neg (Int32.not_lt.mpr c_38), hf], by unfold mmake; rw [if_neg (fun z => z.elim hb (fun z => z.elim c_11 (Int32.not_lt.mpr c_16))), if_neg (Int32.not_lt.mpr c_38), hf]⟩)
                      · exact absurd (nI_pos' (by omega)) c_65
                    · exact absurd (nI_pos' (by omega)) c_53
              · skip
                · refine g_iconst (v := 1) h d_Mod_make_41 (by decide) ?_
                  refine g_goto (tgt := 46) h d_Mod_make_42 (by decide) ?_
                  refine g_iload_n h d_Mod_make_46 rfl rfl ?_
                  refine g_dVi h tb_good (c_Mod_create (okM_keep (by decide) hok)) (q := 0) (by decide) rfl rfl v_Mod_127 nm_Mod_create rfl ⟨rfl, rfl, Nat.le_of_ble_eq_true rfl, Nat.le_of_ble_eq_true rfl, Nat.zero_le _, Nat.zero_le _⟩ rfl (Nat.le_of_ble_eq_true rfl) d_Mod_make_47 ?_
                  rcases hf : (mcreate (sI M 21 0 0) 1 f).1 with _ | q <;> simp only [enc]
                  · refine g_istore_n h d_Mod_make_50 rfl rfl (by rw [hN]; decide) ?_
                    refine g_aload_n h d_Mod_make_51 rfl rfl ?_
                    refine g_iload_n h d_Mod_make_52 rfl rfl ?_
                    refine g_if_ge (tgt := 60) h d_Mod_make_53 (by decide) (fun c_53 => ?_) (fun c_53 => ?_)
                    · exact absurd c_53 (by decide)
                    · refine g_iconst (v := 2) h d_Mod_make_56 (by decide) ?_
                      refine g_goto (tgt := 61) h d_Mod_make_57 (by decide) ?_
                      refine pf_Mod_thrown h f_Mod_64 d_Mod_make_61 ?_
                      refine g_iload_n h d_Mod_make_64 rfl rfl ?_
                      refine g_if_ge (tgt := 70) h d_Mod_make_65 (by decide) (fun c_65 => ?_) (fun c_65 => ?_)
                      · exact absurd c_65 (by decide)
                      · refine g_iconst (v := 0) h d_Mod_make_68 (by decide) ?_
                        exact g_iret h r d_Mod_make_69 (⟨by unfold mmake; rw [if_neg (fun z => z.elim hb (fun z => z.elim c_11 (Int32.not_lt.mpr c_16))), if_pos (Int32.not_le.mp c_38), hf], by unfold mmake; rw [if_neg (fun z => z.elim hb (fun z => z.elim c_11 (Int32.not_lt.mpr c_16))), if_pos (Int32.not_le.mp c_38), hf]⟩)
                  · have hq := mcreate_lt hf
                    refine g_istore_n h d_Mod_make_50 rfl rfl (by rw [hN]; decide) ?_
                    refine g_aload_n h d_Mod_make_51 rfl rfl ?_
                    refine g_iload_n h d_Mod_make_52 rfl rfl ?_
                    refine g_if_ge (tgt := 60) h d_Mod_make_53 (by decide) (fun c_53 => ?_) (fun c_53 => ?_)
                    · refine g_iconst (v := 0) h d_Mod_make_60 (by decide) ?_
                      refine pf_Mod_thrown h f_Mod_64 d_Mod_make_61 ?_
                      refine g_iload_n h d_Mod_make_64 rfl rfl ?_
                      refine g_if_ge (tgt := 70) h d_Mod_make_65 (by decide) (fun c_65 => ?_) (fun c_65 => ?_)
                      · refine g_aload_n h d_Mod_make_70 rfl rfl ?_
                        refine gf_Mod_globals h f_Mod_22 d_Mod_make_71 ?_
                        refine g_iload_n h d_Mod_make_74 rfl rfl ?_
                        refine g_ldc2 (v := 10000000000) h d_Mod_make_75 k_Mod_72 ?_
                        refine g_iload_n h d_Mod_make_78 rfl rfl ?_
                        refine g_i2l h d_Mod_make_79 ?_
                        refine g_ladd h d_Mod_make_80 ?_
                        refine pj_globals h hje hj d_Mod_make_81 ?_
                        refine g_iload_n h d_Mod_make_82 rfl rfl ?_
                        exact g_iret h r d_Mod_make_83 (⟨by unfold mmake; rw [if_neg (fun z => z.elim hb (fun z => z.elim c_11 (Int32.not_lt.mpr c_16))), if_pos (Int32.not_le.mp c_38), hf], by unfold mmake; rw [if_neg (fun z => z.elim hb (fun z => z.elim c_11 (Int32.not_lt.mpr c_16))), if_pos (Int32.not_le.mp c_38), hf]⟩)
                      · exact absurd (nI_pos' (by omega)) c_65
                    · exact absurd (nI_pos' (by omega)) c_53
            · exact absurd rfl c_31
        · skip
          · refine g_iconst (v := 1) h d_Mod_make_19 (by decide) ?_
            refine g_goto (tgt := 24) h d_Mod_make_20 (by decide) ?_
            refine pf_Mod_thrown h f_Mod_64 d_Mod_make_24 ?_
            refine g_aload_n h d_Mod_make_27 rfl rfl ?_
            refine gf_Mod_thrown h f_Mod_64 d_Mod_make_28 ?_
            simp only [sI_1, sI_2, sJ_1, sJ_2, sJ_3, sR_1, sR_2, sR_3, Nat.reduceEqDiff, Nat.zero_ne_one, Nat.one_ne_zero, Nat.succ_ne_zero, reduceCtorEq, false_and, if_false, true_and, and_self, if_true, and_true, and_false, reduceIte]
            refine g_if_eq (tgt := 36) h d_Mod_make_31 (by decide) (fun c_31 => ?_) (fun c_31 => ?_)
            · exact absurd c_31 (by decide)
            · refine g_iconst (v := 0) h d_Mod_make_34 (by decide) ?_
              exact g_iret h r d_Mod_make_35 (⟨(by unfold mmake; first | (rw [if_pos (Or.inl hb)]; done) | (rw [if_pos (Or.inr (Or.inl c_11))]; done) | (rw [if_pos (Or.inr (Or.inr (Int32.not_le.mp c_16)))]; done)), (by unfold mmake; first | (rw [if_pos (Or.inl hb)]; done) | (rw [if_pos (Or.inr (Or.inl c_11))]; done) | (rw [if_pos (Or.inr (Or.inr (Int32.not_le.mp c_16)))]; done))⟩)
set_option maxHeartbeats 4000000 in
set_option maxRecDepth 100000 in
theorem c_Mod_collect {l : Launch} {D : va_G} {u : Nat → ClassId} {ad : Nat → Nat} {M : CS} {n : Int32} (hok : okM M) : Cm l D u ad y_Mod_collect b_Mod_collect 4 (some .int) { frames := 4, cells := 0, slots := 0, locals := 89 } [.ref (ad 0), .int n] (M) (some (.int (mcollect M n).1)) ((mcollect M n).2) := by
  refine ct_of (by decide) (Nat.le_of_ble_eq_true rfl) ?_
  intro Γ _ _ hN h r
  have loop : ∀ (c k : Nat) (a : Int32) (M2 : CS), n = nI n.toNatClampNeg ∧ n.toNatClampNeg ≤ 100 ∧ k + c = n.toNatClampNeg → okM M2 → M2.1 21 0 = 0 → mcoll c a M2 = mcollect M n → G Γ 0 0 18 ad (mob ad u M2) 24 [some (.ref (ad 0)), some (.int n), some (.int a), some (.int (nI k))] [] := by
    intro c
    induction c with
    | zero =>
      intro k a M2 hk hM ht he
      obtain ⟨hne, hn1, hk⟩ := hk
      refine g_iload_n h d_Mod_collect_24 rfl rfl ?_
      refine g_iload_n h d_Mod_collect_25 rfl rfl ?_
      refine g_icmp_ge (tgt := 49) h d_Mod_collect_26 (by decide) (fun c_26 => ?_) (fun c_26 => ?_)
      · refine g_iload_n h d_Mod_collect_49 rfl rfl ?_
        exact g_iret h r d_Mod_collect_50 (⟨by rw [← he]; rfl, by rw [← he]; rfl⟩)
      · exact absurd (hne ▸ nI_le (by omega) (by omega)) c_26
    | succ c ih =>
      intro k a M2 hk hM ht he
      obtain ⟨hne, hn1, hk⟩ := hk
      refine g_iload_n h d_Mod_collect_24 rfl rfl ?_
      refine g_iload_n h d_Mod_collect_25 rfl rfl ?_
      refine g_icmp_ge (tgt := 49) h d_Mod_collect_26 (by decide) (fun c_26 => ?_) (fun c_26 => ?_)
      · exact absurd (hne ▸ c_26) (nI_ge (by omega) (by omega))
      · refine g_aload_n h d_Mod_collect_29 rfl rfl ?_
        refine gf_Mod_thrown h f_Mod_64 d_Mod_collect_30 ?_
        rw [ht]
        refine g_if_ne (tgt := 49) h d_Mod_collect_33 (by decide) (fun c_33 => ?_) (fun c_33 => ?_)
        · exact absurd rfl c_33
        · refine g_iload_n h d_Mod_collect_36 rfl rfl ?_
          refine g_aload_n h d_Mod_collect_37 rfl rfl ?_
          refine g_dVi h tb_good (c_Mod_unit hM) (q := 0) (by decide) rfl rfl v_Mod_115 nm_Mod_unit rfl ⟨rfl, rfl, Nat.le_of_ble_eq_true rfl, Nat.le_of_ble_eq_true rfl, Nat.zero_le _, Nat.zero_le _⟩ rfl (Nat.le_of_ble_eq_true rfl) d_Mod_collect_38 ?_
          refine g_iadd h d_Mod_collect_41 ?_
          refine g_istore_n h d_Mod_collect_42 rfl rfl (by rw [hN]; decide) ?_
          refine g_iinc (v := nI (k + 1)) h d_Mod_collect_43 rfl (by rw [nI_succ]; rfl) rfl (by rw [hN]; decide) ?_
          refine g_goto (tgt := 24) h d_Mod_collect_46 (by decide) ?_
          exact ih (k + 1) _ _ ⟨hne, hn1, by omega⟩ (okM_unit hM) (by rw [munit_e (by decide)]; exact ht) he
  refine g_at (L' := [some (.ref (ad 0)), some (.int n), none, none]) rfl rfl rfl ?_
  refine g_aload_n h d_Mod_collect_0 rfl rfl ?_
  refine g_iload_n h d_Mod_collect_1 rfl rfl ?_
  refine g_iconst (v := 1) h d_Mod_collect_2 (by decide) ?_
  refine g_icmp_lt (tgt := 12) h d_Mod_collect_3 (by decide) (fun c_3 => ?_) (fun c_3 => ?_)
  · skip
    · refine g_iconst (v := 1) h d_Mod_collect_12 (by decide) ?_
      refine g_goto (tgt := 17) h d_Mod_collect_13 (by decide) ?_
      refine pf_Mod_thrown h f_Mod_64 d_Mod_collect_17 ?_
      refine g_iconst (v := 0) h d_Mod_collect_20 (by decide) ?_
      refine g_istore_n h d_Mod_collect_21 rfl rfl (by rw [hN]; decide) ?_
      refine g_iconst (v := 0) h d_Mod_collect_22 (by decide) ?_
      refine g_istore_n h d_Mod_collect_23 rfl rfl (by rw [hN]; decide) ?_
      refine g_iload_n h d_Mod_collect_24 rfl rfl ?_
      refine g_iload_n h d_Mod_collect_25 rfl rfl ?_
      refine g_icmp_ge (tgt := 49) h d_Mod_collect_26 (by decide) (fun c_26 => ?_) (fun c_26 => ?_)
      · refine g_iload_n h d_Mod_collect_49 rfl rfl ?_
        exact g_iret h r d_Mod_collect_50 (⟨by unfold mcollect; rw [if_pos (by first | exact .inl c_3 | exact .inr (Int32.not_le.mp c_9))], by unfold mcollect; rw [if_pos (by first | exact .inl c_3 | exact .inr (Int32.not_le.mp c_9))]⟩)
      · refine g_aload_n h d_Mod_collect_29 rfl rfl ?_
        refine gf_Mod_thrown h f_Mod_64 d_Mod_collect_30 ?_
        simp only [sI_1, sI_2, sJ_1, sJ_2, sJ_3, sR_1, sR_2, sR_3, Nat.reduceEqDiff, Nat.zero_ne_one, Nat.one_ne_zero, Nat.succ_ne_zero, reduceCtorEq, false_and, if_false, true_and, and_self, if_true, and_true, and_false, reduceIte]
        refine g_if_ne (tgt := 49) h d_Mod_collect_33 (by decide) (fun c_33 => ?_) (fun c_33 => ?_)
        · refine g_iload_n h d_Mod_collect_49 rfl rfl ?_
          exact g_iret h r d_Mod_collect_50 (⟨by unfold mcollect; rw [if_pos (by first | exact .inl c_3 | exact .inr (Int32.not_le.mp c_9))], by unfold mcollect; rw [if_pos (by first | exact .inl c_3 | exact .inr (Int32.not_le.mp c_9))]⟩)
        · exact absurd c_33 (by decide)
  · refine g_iload_n h d_Mod_collect_6 rfl rfl ?_
    refine g_bipush (v := 100) h d_Mod_collect_7 (by decide) ?_
    refine g_icmp_le (tgt := 16) h d_Mod_collect_9 (by decide) (fun c_9 => ?_) (fun c_9 => ?_)
    · refine g_iconst (v := 0) h d_Mod_collect_16 (by decide) ?_
      refine pf_Mod_thrown h f_Mod_64 d_Mod_collect_17 ?_
      refine g_iconst (v := 0) h d_Mod_collect_20 (by decide) ?_
      refine g_istore_n h d_Mod_collect_21 rfl rfl (by rw [hN]; decide) ?_
      refine g_iconst (v := 0) h d_Mod_collect_22 (by decide) ?_
      refine g_istore_n h d_Mod_collect_23 rfl rfl (by rw [hN]; decide) ?_
      obtain ⟨hn1, hne⟩ := i32_num (g := n) (m := 100) (by decide) (fun z => c_3 (Int32.lt_of_lt_of_le z (by decide))) (Int32.not_lt.mpr c_9)
      exact loop n.toNatClampNeg 0 0 _ ⟨hne, hn1, by omega⟩ (okM_keep (by decide) hok) sI_self (by unfold mcollect; rw [if_neg (fun z => z.elim c_3 (Int32.not_lt.mpr c_9))])
    · skip
      · refine g_iconst (v := 1) h d_Mod_collect_12 (by decide) ?_
        refine g_goto (tgt := 17) h d_Mod_collect_13 (by decide) ?_
        refine pf_Mod_thrown h f_Mod_64 d_Mod_collect_17 ?_
        refine g_iconst (v := 0) h d_Mod_collect_20 (by decide) ?_
        refine g_istore_n h d_Mod_collect_21 rfl rfl (by rw [hN]; decide) ?_
        refine g_iconst (v := 0) h d_Mod_collect_22 (by decide) ?_
        refine g_istore_n h d_Mod_collect_23 rfl rfl (by rw [hN]; decide) ?_
        refine g_iload_n h d_Mod_collect_24 rfl rfl ?_
        refine g_iload_n h d_Mod_collect_25 rfl rfl ?_
        refine g_icmp_ge (tgt := 49) h d_Mod_collect_26 (by decide) (fun c_26 => ?_) (fun c_26 => ?_)
        · refine g_iload_n h d_Mod_collect_49 rfl rfl ?_
          exact g_iret h r d_Mod_collect_50 (⟨by unfold mcollect; rw [if_pos (by first | exact .inl c_3 | exact .inr (Int32.not_le.mp c_9))], by unfold mcollect; rw [if_pos (by first | exact .inl c_3 | exact .inr (Int32.not_le.mp c_9))]⟩)
        · refine g_aload_n h d_Mod_collect_29 rfl rfl ?_
          refine gf_Mod_thrown h f_Mod_64 d_Mod_collect_30 ?_
          simp only [sI_1, sI_2, sJ_1, sJ_2, sJ_3, sR_1, sR_2, sR_3, Nat.reduceEqDiff, Nat.zero_ne_one, Nat.one_ne_zero, Nat.succ_ne_zero, reduceCtorEq, false_and, if_false, true_and, and_self, if_true, and_true, and_false, reduceIte]
          refine g_if_ne (tgt := 49) h d_Mod_collect_33 (by decide) (fun c_33 => ?_) (fun c_33 => ?_)
          · refine g_iload_n h d_Mod_collect_49 rfl rfl ?_
            exact g_iret h r d_Mod_collect_50 (⟨by unfold mcollect; rw [if_pos (by first | exact .inl c_3 | exact .inr (Int32.not_le.mp c_9))], by unfold mcollect; rw [if_pos (by first | exact .inl c_3 | exact .inr (Int32.not_le.mp c_9))]⟩)
          · exact absurd c_33 (by decide)
end

-- part 51.specM5
section
theorem mOf_sI {M : CS} {f n : Nat} {x k : Int32} {v : Int64} (h : 4 ≠ f) : mOf (sI M f n x) k v = mOf M k v := by
  unfold mOf
  rw [sI_e h]
theorem i32_lt {g : Int32} {m : Nat} (hm : m < 2 ^ 31) (h1 : ¬ g < 0) (h2 : g < nI m) : g.toNatClampNeg < m ∧ g = nI g.toNatClampNeg := by
  obtain ⟨a, b⟩ := i32_num hm h1 (fun z => Int32.lt_irrefl (Int32.lt_trans h2 z))
  refine ⟨?_, b⟩
  rcases Nat.lt_or_eq_of_le a with a | a
  · exact a
  · rw [b, a] at h2
    exact (Int32.lt_irrefl h2).elim
def mgl (M : CS) (g : Int32) : Int64 := M.2.1 0 0 g.toNatClampNeg
def mset (M : CS) (t k v : Int32) : CS := if (t < 0 ∨ 5 < t) ∨ (k < 0 ∨ 5 < k) ∨ (v < 0 ∨ 5 < v) then sI M 21 0 1 else
  match mOf M 1 (mgl M t) with
  | none => sI M 21 0 3
  | some n => sI (msetting (sI (sI M 21 0 0) 22 0 0) n (mgl M k) (mgl M v)) 21 0 ((msetting (sI (sI M 21 0 0) 22 0 0) n (mgl M k) (mgl M v)).1 22 0)
def mget (M : CS) (t k v : Int32) : Int64 × CS := if (t < 0 ∨ 5 < t) ∨ (k < 0 ∨ 5 < k) ∨ (v < 0 ∨ 5 < v) then (0, sI M 21 0 1) else
  match mOf M 1 (mgl M t) with
  | none => (0, sI M 21 0 3)
  | some n =>
    let A := mgetting (sI (sI M 21 0 0) 22 0 0) (mgl M k) 5 n
    if A.2.1 22 0 = 0 then (A.1, sJ (sI A.2 21 0 (A.2.1 22 0)) 0 0 v.toNatClampNeg A.1) else (0, sI A.2 21 0 (A.2.1 22 0))
def mmeta (M : CS) (t m : Int32) : CS := if (t < 0 ∨ 5 < t) ∨ (m < 0 ∨ 5 < m) then sI M 21 0 1 else
  sI (mjoin (sI (sI M 21 0 0) 22 0 0) (mgl M t) (mgl M m)) 21 0 (if (mjoin (sI (sI M 21 0 0) 22 0 0) (mgl M t) (mgl M m)).1 22 0 = 0 then 0 else 2)
def mobject (M : CS) (n w : Int32) : Int32 × CS := if n < 0 ∨ 15 < n ∨ w < 0 ∨ 3 < w then (0, sI M 21 0 1) else
  if 0 < w ∧ M.1 4 n.toNatClampNeg = 0 then (0, sI M 21 0 2) else
  (if w = 0 then M.1 4 n.toNatClampNeg else if w = 1 then M.1 5 n.toNatClampNeg else if w = 2 then (if M.1 4 n.toNatClampNeg = 1 then M.1 6 n.toNatClampNeg else M.1 9 n.toNatClampNeg) else if M.1 4 n.toNatClampNeg = 1 then M.1 7 n.toNatClampNeg else M.1 10 n.toNatClampNeg, sI M 21 0 0)
def mrows (M : CS) (n : Nat) (b : Int32) : Int32 := if M.1 4 n = 0 then 0 else if M.1 4 n = 1 then M.1 6 n else if b = 0 then 4 else 0
def minside (M : CS) (n i b : Int32) : Int64 × CS := if n < 0 ∨ 15 < n then (0, sI M 21 0 1) else
  if i < 0 ∨ ¬ i < mrows M n.toNatClampNeg b then (0, sI M 21 0 2) else
  (if M.1 4 n.toNatClampNeg = 2 then M.2.1 3 0 (n.toNatClampNeg * 4 + i.toNatClampNeg) else if b = 0 then M.2.1 1 0 (n.toNatClampNeg * 6 + i.toNatClampNeg) else M.2.1 2 0 (n.toNatClampNeg * 6 + i.toNatClampNeg), sI M 21 0 0)
end

-- part 52.faces2M
section
set_option maxHeartbeats 4000000 in
set_option maxRecDepth 100000 in
theorem c_Mod_set {l : Launch} {D : va_G} {u : Nat → ClassId} {ad : Nat → Nat} {M : CS} {t k v : Int32} (hok : okM M) : Cm l D u ad y_Mod_set b_Mod_set 4 none { frames := 4, cells := 0, slots := 0, locals := 99 } [.ref (ad 0), .int t, .int k, .int v] (M) (none) (mset M t k v) := by
  refine ct_of (by decide) (Nat.le_of_ble_eq_true rfl) ?_
  intro Γ _ _ hN h r
  refine g_at (L' := [some (.ref (ad 0)), some (.int t), some (.int k), some (.int v)]) rfl rfl rfl ?_
  refine g_aload_n h d_Mod_set_0 rfl rfl ?_
  refine g_aload_n h d_Mod_set_1 rfl rfl ?_
  refine g_iload_n h d_Mod_set_2 rfl rfl ?_
  refine g_dVi h tb_good (c_Mod_badGlobal) (q := 0) (by decide) rfl rfl v_Mod_78 nm_Mod_badGlobal rfl ⟨rfl, rfl, Nat.le_of_ble_eq_true rfl, Nat.le_of_ble_eq_true rfl, Nat.zero_le _, Nat.zero_le _⟩ rfl (Nat.le_of_ble_eq_true rfl) d_Mod_set_3 ?_
  by_cases hb : t < 0 ∨ 5 < t
  · rw [if_pos hb]
    refine g_if_ne (tgt := 25) h d_Mod_set_6 (by decide) (fun c_6 => ?_) (fun c_6 => ?_)
    · skip
      · refine g_iconst (v := 1) h d_Mod_set_25 (by decide) ?_
        refine g_goto (tgt := 47) h d_Mod_set_26 (by decide) ?_
        refine pf_Mod_thrown h f_Mod_64 d_Mod_set_47 ?_
        refine g_aload_n h d_Mod_set_50 rfl rfl ?_
        refine gf_Mod_thrown h f_Mod_64 d_Mod_set_51 ?_
        simp only [sI_1, sI_2, sJ_1, sJ_2, sJ_3, sR_1, sR_2, sR_3, Nat.reduceEqDiff, Nat.zero_ne_one, Nat.one_ne_zero, Nat.succ_ne_zero, reduceCtorEq, false_and, if_false, true_and, and_self, if_true, and_true, and_false, reduceIte]
        refine g_if_eq (tgt := 58) h d_Mod_set_54 (by decide) (fun c_54 => ?_) (fun c_54 => ?_)
        · exact absurd c_54 (by decide)
        · exact g_vret h r d_Mod_set_57 (⟨rfl, by unfold mset; first | (rw [if_pos (Or.inl hb)]; done) | (rw [if_pos (Or.inr (Or.inl hb2))]; done) | (rw [if_pos (Or.inr (Or.inr hb3))]; done) | (unfold mgl; rw [if_neg (fun z => z.elim hb (fun z => z.elim hb2 hb3)), hf]; done)⟩)
    · exact absurd c_6 (by decide)
  · rw [if_neg hb]
    obtain ⟨hj, hje⟩ := gl_num hb
    refine g_if_ne (tgt := 25) h d_Mod_set_6 (by decide) (fun c_6 => ?_) (fun c_6 => ?_)
    · exact absurd rfl c_6
    · refine g_aload_n h d_Mod_set_9 rfl rfl ?_
      refine g_iload_n h d_Mod_set_10 rfl rfl ?_
      refine g_dVi h tb_good (c_Mod_badGlobal) (q := 0) (by decide) rfl rfl v_Mod_78 nm_Mod_badGlobal rfl ⟨rfl, rfl, Nat.le_of_ble_eq_true rfl, Nat.le_of_ble_eq_true rfl, Nat.zero_le _, Nat.zero_le _⟩ rfl (Nat.le_of_ble_eq_true rfl) d_Mod_set_11 ?_
      by_cases hb2 : k < 0 ∨ 5 < k
      · rw [if_pos hb2]
        refine g_if_ne (tgt := 25) h d_Mod_set_14 (by decide) (fun c_14 => ?_) (fun c_14 => ?_)
        · skip
          · refine g_iconst (v := 1) h d_Mod_set_25 (by decide) ?_
            refine g_goto (tgt := 47) h d_Mod_set_26 (by decide) ?_
            refine pf_Mod_thrown h f_Mod_64 d_Mod_set_47 ?_
            refine g_aload_n h d_Mod_set_50 rfl rfl ?_
            refine gf_Mod_thrown h f_Mod_64 d_Mod_set_51 ?_
            simp only [sI_1, sI_2, sJ_1, sJ_2, sJ_3, sR_1, sR_2, sR_3, Nat.reduceEqDiff, Nat.zero_ne_one, Nat.one_ne_zero, Nat.succ_ne_zero, reduceCtorEq, false_and, if_false, true_and, and_self, if_true, and_true, and_false, reduceIte]
            refine g_if_eq (tgt := 58) h d_Mod_set_54 (by decide) (fun c_54 => ?_) (fun c_54 => ?_)
            · exact absurd c_54 (by decide)
            · exact g_vret h r d_Mod_set_57 (⟨rfl, by unfold mset; first | (rw [if_pos (Or.inl hb)]; done) | (rw [if_pos (Or.inr (Or.inl hb2))]; done) | (rw [if_pos (Or.inr (Or.inr hb3))]; done) | (unfold mgl; rw [if_neg (fun z => z.elim hb (fun z => z.elim hb2 hb3)), hf]; done)⟩)
        · exact absurd c_14 (by decide)
      · rw [if_neg hb2]
        obtain ⟨hk, hke⟩ := gl_num hb2
        refine g_if_ne (tgt := 25) h d_Mod_set_14 (by decide) (fun c_14 => ?_) (fun c_14 => ?_)
        · exact absurd rfl c_14
        · refine g_aload_n h d_Mod_set_17 rfl rfl ?_
          refine g_iload_n h d_Mod_set_18 rfl rfl ?_
          refine g_dVi h tb_good (c_Mod_badGlobal) (q := 0) (by decide) rfl rfl v_Mod_78 nm_Mod_badGlobal rfl ⟨rfl, rfl, Nat.le_of_ble_eq_true rfl, Nat.le_of_ble_eq_true rfl, Nat.zero_le _, Nat.zero_le _⟩ rfl (Nat.le_of_ble_eq_true rfl) d_Mod_set_19 ?_
          by_cases hb3 : v < 0 ∨ 5 < v
          · rw [if_pos hb3]
            refine g_if_eq (tgt := 29) h d_Mod_set_22 (by decide) (fun c_22 => ?_) (fun c_22 => ?_)
            · exact absurd c_22 (by decide)
            · skip
              · refine g_iconst (v := 1) h d_Mod_set_25 (by decide) ?_
                refine g_goto (tgt := 47) h d_Mod_set_26 (by decide) ?_
                refine pf_Mod_thrown h f_Mod_64 d_Mod_set_47 ?_
                refine g_aload_n h d_Mod_set_50 rfl rfl ?_
                refine gf_Mod_thrown h f_Mod_64 d_Mod_set_51 ?_
                simp only [sI_1, sI_2, sJ_1, sJ_2, sJ_3, sR_1, sR_2, sR_3, Nat.reduceEqDiff, Nat.zero_ne_one, Nat.one_ne_zero, Nat.succ_ne_zero, reduceCtorEq, false_and, if_false, true_and, and_self, if_true, and_true, and_false, reduceIte]
                refine g_if_eq (tgt := 58) h d_Mod_set_54 (by decide) (fun c_54 => ?_) (fun c_54 => ?_)
                · exact absurd c_54 (by decide)
                · exact g_vret h r d_Mod_set_57 (⟨rfl, by unfold mset; first | (rw [if_pos (Or.inl hb)]; done) | (rw [if_pos (Or.inr (Or.inl hb2))]; done) | (rw [if_pos (Or.inr (Or.inr hb3))]; done) | (unfold mgl; rw [if_neg (fun z => z.elim hb (fun z => z.elim hb2 hb3)), hf]; done)⟩)
          · rw [if_neg hb3]
            obtain ⟨hv, hve⟩ := gl_num hb3
            refine g_if_eq (tgt := 29) h d_Mod_set_22 (by decide) (fun c_22 => ?_) (fun c_22 => ?_)
            · refine g_aload_n h d_Mod_set_29 rfl rfl ?_
              refine g_aload_n h d_Mod_set_30 rfl rfl ?_
              refine gf_Mod_globals h f_Mod_22 d_Mod_set_31 ?_
              refine g_iload_n h d_Mod_set_34 rfl rfl ?_
              refine gj_globals h hje hj d_Mod_set_35 ?_
              refine g_dVi h tb_good (c_Mod_tableOf (hok.2.1 0 _)) (q := 0) (by decide) rfl rfl v_Mod_135 nm_Mod_tableOf rfl ⟨rfl, rfl, Nat.le_of_ble_eq_true rfl, Nat.le_of_ble_eq_true rfl, Nat.zero_le _, Nat.zero_le _⟩ rfl (Nat.le_of_ble_eq_true rfl) d_Mod_set_36 ?_
              rcases hf : mOf M 1 (M.2.1 0 0 t.toNatClampNeg) with _ | q <;> simp only [enc]
              · refine g_if_ge (tgt := 46) h d_Mod_set_39 (by decide) (fun c_39 => ?_) (fun c_39 => ?_)
                · exact absurd c_39 (by decide)
                · skip
                  · refine g_iconst (v := 3) h d_Mod_set_42 (by decide) ?_
                    refine g_goto (tgt := 47) h d_Mod_set_43 (by decide) ?_
                    refine pf_Mod_thrown h f_Mod_64 d_Mod_set_47 ?_
                    refine g_aload_n h d_Mod_set_50 rfl rfl ?_
                    refine gf_Mod_thrown h f_Mod_64 d_Mod_set_51 ?_
                    simp only [sI_1, sI_2, sJ_1, sJ_2, sJ_3, sR_1, sR_2, sR_3, Nat.reduceEqDiff, Nat.zero_ne_one, Nat.one_ne_zero, Nat.succ_ne_zero, reduceCtorEq, false_and, if_false, true_and, and_self, if_true, and_true, and_false, reduceIte]
                    refine g_if_eq (tgt := 58) h d_Mod_set_54 (by decide) (fun c_54 => ?_) (fun c_54 => ?_)
                    · exact absurd c_54 (by decide)
                    · exact g_vret h r d_Mod_set_57 (⟨rfl, by unfold mset; first | (rw [if_pos (Or.inl hb)]; done) | (rw [if_pos (Or.inr (Or.inl hb2))]; done) | (rw [if_pos (Or.inr (Or.inr hb3))]; done) | (unfold mgl; rw [if_neg (fun z => z.elim hb (fun z => z.elim hb2 hb3)), hf]; done)⟩)
              · have hq := mOf_lt (hok.2.1 0 _) hf
                refine g_if_ge (tgt := 46) h d_Mod_set_39 (by decide) (fun c_39 => ?_) (fun c_39 => ?_)
                · skip
                  · refine g_iconst (v := 0) h d_Mod_set_46 (by decide) ?_
                    refine pf_Mod_thrown h f_Mod_64 d_Mod_set_47 ?_
                    refine g_aload_n h d_Mod_set_50 rfl rfl ?_
                    refine gf_Mod_thrown h f_Mod_64 d_Mod_set_51 ?_
                    simp only [sI_1, sI_2, sJ_1, sJ_2, sJ_3, sR_1, sR_2, sR_3, Nat.reduceEqDiff, Nat.zero_ne_one, Nat.one_ne_zero, Nat.succ_ne_zero, reduceCtorEq, false_and, if_false, true_and, and_self, if_true, and_true, and_false, reduceIte]
                    refine g_if_eq (tgt := 58) h d_Mod_set_54 (by decide) (fun c_54 => ?_) (fun c_54 => ?_)
                    · refine g_aload_n h d_Mod_set_58 rfl rfl ?_
                      refine g_iconst (v := 0) h d_Mod_set_59 (by decide) ?_
                      refine pf_Mod_trouble h f_Mod_141 d_Mod_set_60 ?_
                      refine g_aload_n h d_Mod_set_63 rfl rfl ?_
                      refine g_aload_n h d_Mod_set_64 rfl rfl ?_
                      refine g_aload_n h d_Mod_set_65 rfl rfl ?_
                      refine gf_Mod_globals h f_Mod_22 d_Mod_set_66 ?_
                      refine g_iload_n h d_Mod_set_69 rfl rfl ?_
                      refine gj_globals h hje hj d_Mod_set_70 ?_
                      refine g_dVi h tb_good (c_Mod_tableOf (hok.2.1 0 _)) (q := 0) (by decide) rfl rfl v_Mod_135 nm_Mod_tableOf rfl ⟨rfl, rfl, Nat.le_of_ble_eq_true rfl, Nat.le_of_ble_eq_true rfl, Nat.zero_le _, Nat.zero_le _⟩ rfl (Nat.le_of_ble_eq_true rfl) d_Mod_set_71 ?_
                      try simp only [sI_1, sI_2, sJ_1, sJ_2, sJ_3, sR_1, sR_2, sR_3, Nat.reduceEqDiff, Nat.zero_ne_one, Nat.one_ne_zero, Nat.succ_ne_zero, reduceCtorEq, false_and, if_false, true_and, and_self, if_true, and_true, and_false, reduceIte]
                      rw [mOf_sI (by decide), mOf_sI (by decide), hf]
                      simp only [enc]
                      refine g_aload_n h d_Mod_set_74 rfl rfl ?_
                      refine gf_Mod_globals h f_Mod_22 d_Mod_set_75 ?_
                      refine g_iload_n h d_Mod_set_78 rfl rfl ?_
                      refine gj_globals h hke hk d_Mod_set_79 ?_
                      refine g_aload_n h d_Mod_set_80 rfl rfl ?_
                      refine gf_Mod_globals h f_Mod_22 d_Mod_set_81 ?_
                      refine g_iload_n h d_Mod_set_84 rfl rfl ?_
                      refine gj_globals h hve hv d_Mod_set_85 ?_
                      try simp only [sI_1, sI_2, sJ_1, sJ_2, sJ_3, sR_1, sR_2, sR_3, Nat.reduceEqDiff, Nat.zero_ne_one, Nat.one_ne_zero, Nat.succ_ne_zero, reduceCtorEq, false_and, if_false, true_and, and_self, if_true, and_true, and_false, reduceIte]
                      refine g_dVv h tb_good (c_Mod_setting (n0 := q) (okM_keep (by decide) (okM_keep (by decide) hok)) hq) (q := 0) (by decide) rfl rfl v_Mod_147 nm_Mod_setting rfl ⟨rfl, rfl, Nat.le_of_ble_eq_true rfl, Nat.le_of_ble_eq_true rfl, Nat.zero_le _, Nat.zero_le _⟩ rfl (Nat.le_of_ble_eq_true rfl) d_Mod_set_86 ?_
                      refine g_aload_n h d_Mod_set_89 rfl rfl ?_
                      refine g_aload_n h d_Mod_set_90 rfl rfl ?_
                      refine gf_Mod_trouble h f_Mod_141 d_Mod_set_91 ?_
                      refine pf_Mod_thrown h f_Mod_64 d_Mod_set_94 ?_
                      exact g_vret h r d_Mod_set_97 (⟨rfl, by unfold mset mgl; rw [if_neg (fun z => z.elim hb (fun z => z.elim hb2 hb3)), hf]; first | done | rfl⟩)
                    · exact absurd rfl c_54
                · exact absurd (nI_pos' (by omega)) c_39
            · exact absurd rfl c_22
set_option maxHeartbeats 4000000 in
set_option maxRecDepth 100000 in
theorem c_Mod_get {l : Launch} {D : va_G} {u : Nat → ClassId} {ad : Nat → Nat} {M : CS} {t k v : Int32} (hok : okM M) : Cm l D u ad y_Mod_get b_Mod_get 6 (some .long) { frames := 4, cells := 0, slots := 0, locals := 96 } [.ref (ad 0), .int t, .int k, .int v] (M) (some (.long (mget M t k v).1)) ((mget M t k v).2) := by
  refine ct_of (by decide) (Nat.le_of_ble_eq_true rfl) ?_
  intro Γ _ _ hN h r
  refine g_at (L' := [some (.ref (ad 0)), some (.int t), some (.int k), some (.int v), none, none]) rfl rfl rfl ?_
  refine g_aload_n h d_Mod_get_0 rfl rfl ?_
  refine g_aload_n h d_Mod_get_1 rfl rfl ?_
  refine g_iload_n h d_Mod_get_2 rfl rfl ?_
  refine g_dVi h tb_good (c_Mod_badGlobal) (q := 0) (by decide) rfl rfl v_Mod_78 nm_Mod_badGlobal rfl ⟨rfl, rfl, Nat.le_of_ble_eq_true rfl, Nat.le_of_ble_eq_true rfl, Nat.zero_le _, Nat.zero_le _⟩ rfl (Nat.le_of_ble_eq_true rfl) d_Mod_get_3 ?_
  by_cases hb : t < 0 ∨ 5 < t
  · rw [if_pos hb]
    refine g_if_ne (tgt := 25) h d_Mod_get_6 (by decide) (fun c_6 => ?_) (fun c_6 => ?_)
    · skip
      · refine g_iconst (v := 1) h d_Mod_get_25 (by decide) ?_
        refine g_goto (tgt := 47) h d_Mod_get_26 (by decide) ?_
        refine pf_Mod_thrown h f_Mod_64 d_Mod_get_47 ?_
        refine g_aload_n h d_Mod_get_50 rfl rfl ?_
        refine gf_Mod_thrown h f_Mod_64 d_Mod_get_51 ?_
        simp only [sI_1, sI_2, sJ_1, sJ_2, sJ_3, sR_1, sR_2, sR_3, Nat.reduceEqDiff, Nat.zero_ne_one, Nat.one_ne_zero, Nat.succ_ne_zero, reduceCtorEq, false_and, if_false, true_and, and_self, if_true, and_true, and_false, reduceIte]
        refine g_if_eq (tgt := 59) h d_Mod_get_54 (by decide) (fun c_54 => ?_) (fun c_54 => ?_)
        · exact absurd c_54 (by decide)
        · refine g_lconst (v := 0) h d_Mod_get_57 (by decide) ?_
          exact g_lret h r d_Mod_get_58 (⟨by unfold mget; first | (rw [if_pos (Or.inl hb)]; done) | (rw [if_pos (Or.inr (Or.inl hb2))]; done) | (rw [if_pos (Or.inr (Or.inr hb3))]; done) | (unfold mgl; rw [if_neg (fun z => z.elim hb (fun z => z.elim hb2 hb3)), hf]; done), by unfold mget; first | (rw [if_pos (Or.inl hb)]; done) | (rw [if_pos (Or.inr (Or.inl hb2))]; done) | (rw [if_pos (Or.inr (Or.inr hb3))]; done) | (unfold mgl; rw [if_neg (fun z => z.elim hb (fun z => z.elim hb2 hb3)), hf]; done)⟩)
    · exact absurd c_6 (by decide)
  · rw [if_neg hb]
    obtain ⟨hj, hje⟩ := gl_num hb
    refine g_if_ne (tgt := 25) h d_Mod_get_6 (by decide) (fun c_6 => ?_) (fun c_6 => ?_)
    · exact absurd rfl c_6
    · refine g_aload_n h d_Mod_get_9 rfl rfl ?_
      refine g_iload_n h d_Mod_get_10 rfl rfl ?_
      refine g_dVi h tb_good (c_Mod_badGlobal) (q := 0) (by decide) rfl rfl v_Mod_78 nm_Mod_badGlobal rfl ⟨rfl, rfl, Nat.le_of_ble_eq_true rfl, Nat.le_of_ble_eq_true rfl, Nat.zero_le _, Nat.zero_le _⟩ rfl (Nat.le_of_ble_eq_true rfl) d_Mod_get_11 ?_
      by_cases hb2 : k < 0 ∨ 5 < k
      · rw [if_pos hb2]
        refine g_if_ne (tgt := 25) h d_Mod_get_14 (by decide) (fun c_14 => ?_) (fun c_14 => ?_)
        · skip
          · refine g_iconst (v := 1) h d_Mod_get_25 (by decide) ?_
            refine g_goto (tgt := 47) h d_Mod_get_26 (by decide) ?_
            refine pf_Mod_thrown h f_Mod_64 d_Mod_get_47 ?_
            refine g_aload_n h d_Mod_get_50 rfl rfl ?_
            refine gf_Mod_thrown h f_Mod_64 d_Mod_get_51 ?_
            simp only [sI_1, sI_2, sJ_1, sJ_2, sJ_3, sR_1, sR_2, sR_3, Nat.reduceEqDiff, Nat.zero_ne_one, Nat.one_ne_zero, Nat.succ_ne_zero, reduceCtorEq, false_and, if_false, true_and, and_self, if_true, and_true, and_false, reduceIte]
            refine g_if_eq (tgt := 59) h d_Mod_get_54 (by decide) (fun c_54 => ?_) (fun c_54 => ?_)
            · exact absurd c_54 (by decide)
            · refine g_lconst (v := 0) h d_Mod_get_57 (by decide) ?_
              exact g_lret h r d_Mod_get_58 (⟨by unfold mget; first | (rw [if_pos (Or.inl hb)]; done) | (rw [if_pos (Or.inr (Or.inl hb2))]; done) | (rw [if_pos (Or.inr (Or.inr hb3))]; done) | (unfold mgl; rw [if_neg (fun z => z.elim hb (fun z => z.elim hb2 hb3)), hf]; done), by unfold mget; first | (rw [if_pos (Or.inl hb)]; done) | (rw [if_pos (Or.inr (Or.inl hb2))]; done) | (rw [if_pos (Or.inr (Or.inr hb3))]; done) | (unfold mgl; rw [if_neg (fun z => z.elim hb (fun z => z.elim hb2 hb3)), hf]; done)⟩)
        · exact absurd c_14 (by decide)
      · rw [if_neg hb2]
        obtain ⟨hk, hke⟩ := gl_num hb2
        refine g_if_ne (tgt := 25) h d_Mod_get_14 (by decide) (fun c_14 => ?_) (fun c_14 => ?_)
        · exact absurd rfl c_14
        · refine g_aload_n h d_Mod_get_17 rfl rfl ?_
          refine g_iload_n h d_Mod_get_18 rfl rfl ?_
          refine g_dVi h tb_good (c_Mod_badGlobal) (q := 0) (by decide) rfl rfl v_Mod_78 nm_Mod_badGlobal rfl ⟨rfl, rfl, Nat.le_of_ble_eq_true rfl, Nat.le_of_ble_eq_true rfl, Nat.zero_le _, Nat.zero_le _⟩ rfl (Nat.le_of_ble_eq_true rfl) d_Mod_get_19 ?_
          by_cases hb3 : v < 0 ∨ 5 < v
          · rw [if_pos hb3]
            refine g_if_eq (tgt := 29) h d_Mod_get_22 (by decide) (fun c_22 => ?_) (fun c_22 => ?_)
            · exact absurd c_22 (by decide)
            · skip
              · refine g_iconst (v := 1) h d_Mod_get_25 (by decide) ?_
                refine g_goto (tgt := 47) h d_Mod_get_26 (by decide) ?_
                refine pf_Mod_thrown h f_Mod_64 d_Mod_get_47 ?_
                refine g_aload_n h d_Mod_get_50 rfl rfl ?_
                refine gf_Mod_thrown h f_Mod_64 d_Mod_get_51 ?_
                simp only [sI_1, sI_2, sJ_1, sJ_2, sJ_3, sR_1, sR_2, sR_3, Nat.reduceEqDiff, Nat.zero_ne_one, Nat.one_ne_zero, Nat.succ_ne_zero, reduceCtorEq, false_and, if_false, true_and, and_self, if_true, and_true, and_false, reduceIte]
                refine g_if_eq (tgt := 59) h d_Mod_get_54 (by decide) (fun c_54 => ?_) (fun c_54 => ?_)
                · exact absurd c_54 (by decide)
                · refine g_lconst (v := 0) h d_Mod_get_57 (by decide) ?_
                  exact g_lret h r d_Mod_get_58 (⟨by unfold mget; first | (rw [if_pos (Or.inl hb)]; done) | (rw [if_pos (Or.inr (Or.inl hb2))]; done) | (rw [if_pos (Or.inr (Or.inr hb3))]; done) | (unfold mgl; rw [if_neg (fun z => z.elim hb (fun z => z.elim hb2 hb3)), hf]; done), by unfold mget; first | (rw [if_pos (Or.inl hb)]; done) | (rw [if_pos (Or.inr (Or.inl hb2))]; done) | (rw [if_pos (Or.inr (Or.inr hb3))]; done) | (unfold mgl; rw [if_neg (fun z => z.elim hb (fun z => z.elim hb2 hb3)), hf]; done)⟩)
          · rw [if_neg hb3]
            obtain ⟨hv, hve⟩ := gl_num hb3
            refine g_if_eq (tgt := 29) h d_Mod_get_22 (by decide) (fun c_22 => ?_) (fun c_22 => ?_)
            · refine g_aload_n h d_Mod_get_29 rfl rfl ?_
              refine g_aload_n h d_Mod_get_30 rfl rfl ?_
              refine gf_Mod_globals h f_Mod_22 d_Mod_get_31 ?_
              refine g_iload_n h d_Mod_get_34 rfl rfl ?_
              refine gj_globals h hje hj d_Mod_get_35 ?_
              refine g_dVi h tb_good (c_Mod_tableOf (hok.2.1 0 _)) (q := 0) (by decide) rfl rfl v_Mod_135 nm_Mod_tableOf rfl ⟨rfl, rfl, Nat.le_of_ble_eq_true rfl, Nat.le_of_ble_eq_true rfl, Nat.zero_le _, Nat.zero_le _⟩ rfl (Nat.le_of_ble_eq_true rfl) d_Mod_get_36 ?_
              rcases hf : mOf M 1 (M.2.1 0 0 t.toNatClampNeg) with _ | q <;> simp only [enc]
              · refine g_if_ge (tgt := 46) h d_Mod_get_39 (by decide) (fun c_39 => ?_) (fun c_39 => ?_)
                · exact absurd c_39 (by decide)
                · skip
                  · refine g_iconst (v := 3) h d_Mod_get_42 (by decide) ?_
                    refine g_goto (tgt := 47) h d_Mod_get_43 (by decide) ?_
                    refine pf_Mod_thrown h f_Mod_64 d_Mod_get_47 ?_
                    refine g_aload_n h d_Mod_get_50 rfl rfl ?_
                    refine gf_Mod_thrown h f_Mod_64 d_Mod_get_51 ?_
                    simp only [sI_1, sI_2, sJ_1, sJ_2, sJ_3, sR_1, sR_2, sR_3, Nat.reduceEqDiff, Nat.zero_ne_one, Nat.one_ne_zero, Nat.succ_ne_zero, reduceCtorEq, false_and, if_false, true_and, and_self, if_true, and_true, and_false, reduceIte]
                    refine g_if_eq (tgt := 59) h d_Mod_get_54 (by decide) (fun c_54 => ?_) (fun c_54 => ?_)
                    · exact absurd c_54 (by decide)
                    · refine g_lconst (v := 0) h d_Mod_get_57 (by decide) ?_
                      exact g_lret h r d_Mod_get_58 (⟨by unfold mget; first | (rw [if_pos (Or.inl hb)]; done) | (rw [if_pos (Or.inr (Or.inl hb2))]; done) | (rw [if_pos (Or.inr (Or.inr hb3))]; done) | (unfold mgl; rw [if_neg (fun z => z.elim hb (fun z => z.elim hb2 hb3)), hf]; done), by unfold mget; first | (rw [if_pos (Or.inl hb)]; done) | (rw [if_pos (Or.inr (Or.inl hb2))]; done) | (rw [if_pos (Or.inr (Or.inr hb3))]; done) | (unfold mgl; rw [if_neg (fun z => z.elim hb (fun z => z.elim hb2 hb3)), hf]; done)⟩)
              · have hq := mOf_lt (hok.2.1 0 _) hf
                refine g_if_ge (tgt := 46) h d_Mod_get_39 (by decide) (fun c_39 => ?_) (fun c_39 => ?_)
                · skip
                  · refine g_iconst (v := 0) h d_Mod_get_46 (by decide) ?_
                    refine pf_Mod_thrown h f_Mod_64 d_Mod_get_47 ?_
                    refine g_aload_n h d_Mod_get_50 rfl rfl ?_
                    refine gf_Mod_thrown h f_Mod_64 d_Mod_get_51 ?_
                    simp only [sI_1, sI_2, sJ_1, sJ_2, sJ_3, sR_1, sR_2, sR_3, Nat.reduceEqDiff, Nat.zero_ne_one, Nat.one_ne_zero, Nat.succ_ne_zero, reduceCtorEq, false_and, if_false, true_and, and_self, if_true, and_true, and_false, reduceIte]
                    refine g_if_eq (tgt := 59) h d_Mod_get_54 (by decide) (fun c_54 => ?_) (fun c_54 => ?_)
                    · refine g_aload_n h d_Mod_get_59 rfl rfl ?_
                      refine g_iconst (v := 0) h d_Mod_get_60 (by decide) ?_
                      refine pf_Mod_trouble h f_Mod_141 d_Mod_get_61 ?_
                      refine g_aload_n h d_Mod_get_64 rfl rfl ?_
                      refine g_aload_n h d_Mod_get_65 rfl rfl ?_
                      refine g_aload_n h d_Mod_get_66 rfl rfl ?_
                      refine gf_Mod_globals h f_Mod_22 d_Mod_get_67 ?_
                      refine g_iload_n h d_Mod_get_70 rfl rfl ?_
                      refine gj_globals h hje hj d_Mod_get_71 ?_
                      refine g_dVi h tb_good (c_Mod_tableOf (hok.2.1 0 _)) (q := 0) (by decide) rfl rfl v_Mod_135 nm_Mod_tableOf rfl ⟨rfl, rfl, Nat.le_of_ble_eq_true rfl, Nat.le_of_ble_eq_true rfl, Nat.zero_le _, Nat.zero_le _⟩ rfl (Nat.le_of_ble_eq_true rfl) d_Mod_get_72 ?_
                      try simp only [sI_1, sI_2, sJ_1, sJ_2, sJ_3, sR_1, sR_2, sR_3, Nat.reduceEqDiff, Nat.zero_ne_one, Nat.one_ne_zero, Nat.succ_ne_zero, reduceCtorEq, false_and, if_false, true_and, and_self, if_true, and_true, and_false, reduceIte]
                      rw [mOf_sI (by decide), mOf_sI (by decide), hf]
                      simp only [enc]
                      refine g_aload_n h d_Mod_get_75 rfl rfl ?_
                      refine gf_Mod_globals h f_Mod_22 d_Mod_get_76 ?_
                      refine g_iload_n h d_Mod_get_79 rfl rfl ?_
                      refine gj_globals h hke hk d_Mod_get_80 ?_
                      try simp only [sI_1, sI_2, sJ_1, sJ_2, sJ_3, sR_1, sR_2, sR_3, Nat.reduceEqDiff, Nat.zero_ne_one, Nat.one_ne_zero, Nat.succ_ne_zero, reduceCtorEq, false_and, if_false, true_and, and_self, if_true, and_true, and_false, reduceIte]
                      refine g_dVl h tb_good (c_Mod_getting (n0 := q) (okM_keep (by decide) (okM_keep (by decide) hok)) hq) (q := 0) (by decide) rfl rfl v_Mod_151 nm_Mod_getting rfl ⟨rfl, rfl, Nat.le_of_ble_eq_true rfl, Nat.le_of_ble_eq_true rfl, Nat.zero_le _, Nat.zero_le _⟩ rfl (Nat.le_of_ble_eq_true rfl) d_Mod_get_81 ?_
                      refine g_lstore h d_Mod_get_84 rfl (by rw [hN]; decide) ?_
                      refine g_aload_n h d_Mod_get_86 rfl rfl ?_
                      refine g_aload_n h d_Mod_get_87 rfl rfl ?_
                      refine gf_Mod_trouble h f_Mod_141 d_Mod_get_88 ?_
                      refine pf_Mod_thrown h f_Mod_64 d_Mod_get_91 ?_
                      refine g_aload_n h d_Mod_get_94 rfl rfl ?_
                      refine gf_Mod_thrown h f_Mod_64 d_Mod_get_95 ?_
                      rw [sI_self]
                      refine g_if_eq (tgt := 103) h d_Mod_get_98 (by decide) (fun c_98 => ?_) (fun c_98 => ?_)
                      · refine g_aload_n h d_Mod_get_103 rfl rfl ?_
                        refine gf_Mod_globals h f_Mod_22 d_Mod_get_104 ?_
                        refine g_iload_n h d_Mod_get_107 rfl rfl ?_
                        refine g_lload h d_Mod_get_108 rfl ?_
                        refine pj_globals h hve hv d_Mod_get_110 ?_
                        refine g_lload h d_Mod_get_111 rfl ?_
                        exact g_lret h r d_Mod_get_113 (⟨by unfold mget mgl; rw [if_neg (fun z => z.elim hb (fun z => z.elim hb2 hb3)), hf]; simp only []; first | (rw [if_pos c_98]; first | done | rfl) | (rw [if_neg c_98]; first | done | rfl), by unfold mget mgl; rw [if_neg (fun z => z.elim hb (fun z => z.elim hb2 hb3)), hf]; simp only []; first | (rw [if_pos c_98]; first | done | rfl) | (rw [if_neg c_98]; first | done | rfl)⟩)
                      · refine g_lconst (v := 0) h d_Mod_get_101 (by decide) ?_
                        exact g_lret h r d_Mod_get_102 (⟨by unfold mget mgl; rw [if_neg (fun z => z.elim hb (fun z => z.elim hb2 hb3)), hf]; simp only []; first | (rw [if_pos c_98]; first | done | rfl) | (rw [if_neg c_98]; first | done | rfl), by unfold mget mgl; rw [if_neg (fun z => z.elim hb (fun z => z.elim hb2 hb3)), hf]; simp only []; first | (rw [if_pos c_98]; first | done | rfl) | (rw [if_neg c_98]; first | done | rfl)⟩)
                    · exact absurd rfl c_54
                · exact absurd (nI_pos' (by omega)) c_39
            · exact absurd rfl c_22
set_option maxHeartbeats 4000000 in
set_option maxRecDepth 100000 in
theorem c_Mod_meta {l : Launch} {D : va_G} {u : Nat → ClassId} {ad : Nat → Nat} {M : CS} {t k : Int32} (hok : okM M) : Cm l D u ad y_Mod_meta b_Mod_meta 3 none { frames := 3, cells := 0, slots := 0, locals := 70 } [.ref (ad 0), .int t, .int k] (M) (none) (mmeta M t k) := by
  refine ct_of (by decide) (Nat.le_of_ble_eq_true rfl) ?_
  intro Γ _ _ hN h r
  refine g_at (L' := [some (.ref (ad 0)), some (.int t), some (.int k)]) rfl rfl rfl ?_
  refine g_aload_n h d_Mod_meta_0 rfl rfl ?_
  refine g_aload_n h d_Mod_meta_1 rfl rfl ?_
  refine g_iload_n h d_Mod_meta_2 rfl rfl ?_
  refine g_dVi h tb_good (c_Mod_badGlobal) (q := 0) (by decide) rfl rfl v_Mod_78 nm_Mod_badGlobal rfl ⟨rfl, rfl, Nat.le_of_ble_eq_true rfl, Nat.le_of_ble_eq_true rfl, Nat.zero_le _, Nat.zero_le _⟩ rfl (Nat.le_of_ble_eq_true rfl) d_Mod_meta_3 ?_
  by_cases hb : t < 0 ∨ 5 < t
  · rw [if_pos hb]
    refine g_if_ne (tgt := 17) h d_Mod_meta_6 (by decide) (fun c_6 => ?_) (fun c_6 => ?_)
    · skip
      · refine g_iconst (v := 1) h d_Mod_meta_17 (by decide) ?_
        refine g_goto (tgt := 22) h d_Mod_meta_18 (by decide) ?_
        refine pf_Mod_thrown h f_Mod_64 d_Mod_meta_22 ?_
        refine g_aload_n h d_Mod_meta_25 rfl rfl ?_
        refine gf_Mod_thrown h f_Mod_64 d_Mod_meta_26 ?_
        simp only [sI_1, sI_2, sJ_1, sJ_2, sJ_3, sR_1, sR_2, sR_3, Nat.reduceEqDiff, Nat.zero_ne_one, Nat.one_ne_zero, Nat.succ_ne_zero, reduceCtorEq, false_and, if_false, true_and, and_self, if_true, and_true, and_false, reduceIte]
        refine g_if_eq (tgt := 33) h d_Mod_meta_29 (by decide) (fun c_29 => ?_) (fun c_29 => ?_)
        · exact absurd c_29 (by decide)
        · exact g_vret h r d_Mod_meta_32 (⟨rfl, by unfold mmeta; first | (rw [if_pos (Or.inl hb)]; done) | (rw [if_pos (Or.inr hb2)]; done)⟩)
    · exact absurd c_6 (by decide)
  · rw [if_neg hb]
    obtain ⟨hj, hje⟩ := gl_num hb
    refine g_if_ne (tgt := 17) h d_Mod_meta_6 (by decide) (fun c_6 => ?_) (fun c_6 => ?_)
    · exact absurd rfl c_6
    · refine g_aload_n h d_Mod_meta_9 rfl rfl ?_
      refine g_iload_n h d_Mod_meta_10 rfl rfl ?_
      refine g_dVi h tb_good (c_Mod_badGlobal) (q := 0) (by decide) rfl rfl v_Mod_78 nm_Mod_badGlobal rfl ⟨rfl, rfl, Nat.le_of_ble_eq_true rfl, Nat.le_of_ble_eq_true rfl, Nat.zero_le _, Nat.zero_le _⟩ rfl (Nat.le_of_ble_eq_true rfl) d_Mod_meta_11 ?_
      by_cases hb2 : k < 0 ∨ 5 < k
      · rw [if_pos hb2]
        refine g_if_eq (tgt := 21) h d_Mod_meta_14 (by decide) (fun c_14 => ?_) (fun c_14 => ?_)
        · exact absurd c_14 (by decide)
        · skip
          · refine g_iconst (v := 1) h d_Mod_meta_17 (by decide) ?_
            refine g_goto (tgt := 22) h d_Mod_meta_18 (by decide) ?_
            refine pf_Mod_thrown h f_Mod_64 d_Mod_meta_22 ?_
            refine g_aload_n h d_Mod_meta_25 rfl rfl ?_
            refine gf_Mod_thrown h f_Mod_64 d_Mod_meta_26 ?_
            simp only [sI_1, sI_2, sJ_1, sJ_2, sJ_3, sR_1, sR_2, sR_3, Nat.reduceEqDiff, Nat.zero_ne_one, Nat.one_ne_zero, Nat.succ_ne_zero, reduceCtorEq, false_and, if_false, true_and, and_self, if_true, and_true, and_false, reduceIte]
            refine g_if_eq (tgt := 33) h d_Mod_meta_29 (by decide) (fun c_29 => ?_) (fun c_29 => ?_)
            · exact absurd c_29 (by decide)
            · exact g_vret h r d_Mod_meta_32 (⟨rfl, by unfold mmeta; first | (rw [if_pos (Or.inl hb)]; done) | (rw [if_pos (Or.inr hb2)]; done)⟩)
      · rw [if_neg hb2]
        obtain ⟨hk, hke⟩ := gl_num hb2
        refine g_if_eq (tgt := 21) h d_Mod_meta_14 (by decide) (fun c_14 => ?_) (fun c_14 => ?_)
        · skip
          · refine g_iconst (v := 0) h d_Mod_meta_21 (by decide) ?_
            refine pf_Mod_thrown h f_Mod_64 d_Mod_meta_22 ?_
            refine g_aload_n h d_Mod_meta_25 rfl rfl ?_
            refine gf_Mod_thrown h f_Mod_64 d_Mod_meta_26 ?_
            simp only [sI_1, sI_2, sJ_1, sJ_2, sJ_3, sR_1, sR_2, sR_3, Nat.reduceEqDiff, Nat.zero_ne_one, Nat.one_ne_zero, Nat.succ_ne_zero, reduceCtorEq, false_and, if_false, true_and, and_self, if_true, and_true, and_false, reduceIte]
            refine g_if_eq (tgt := 33) h d_Mod_meta_29 (by decide) (fun c_29 => ?_) (fun c_29 => ?_)
            · refine g_aload_n h d_Mod_meta_33 rfl rfl ?_
              refine g_iconst (v := 0) h d_Mod_meta_34 (by decide) ?_
              refine pf_Mod_trouble h f_Mod_141 d_Mod_meta_35 ?_
              refine g_aload_n h d_Mod_meta_38 rfl rfl ?_
              refine g_aload_n h d_Mod_meta_39 rfl rfl ?_
              refine gf_Mod_globals h f_Mod_22 d_Mod_meta_40 ?_
              refine g_iload_n h d_Mod_meta_43 rfl rfl ?_
              refine gj_globals h hje hj d_Mod_meta_44 ?_
              refine g_aload_n h d_Mod_meta_45 rfl rfl ?_
              refine gf_Mod_globals h f_Mod_22 d_Mod_meta_46 ?_
              refine g_iload_n h d_Mod_meta_49 rfl rfl ?_
              refine gj_globals h hke hk d_Mod_meta_50 ?_
              try simp only [sI_1, sI_2, sJ_1, sJ_2, sJ_3, sR_1, sR_2, sR_3, Nat.reduceEqDiff, Nat.zero_ne_one, Nat.one_ne_zero, Nat.succ_ne_zero, reduceCtorEq, false_and, if_false, true_and, and_self, if_true, and_true, and_false, reduceIte]
              refine g_dVv h tb_good (c_Mod_join (hok.2.1 0 _) (hok.2.1 0 _)) (q := 0) (by decide) rfl rfl v_Mod_155 nm_Mod_join rfl ⟨rfl, rfl, Nat.le_of_ble_eq_true rfl, Nat.le_of_ble_eq_true rfl, Nat.zero_le _, Nat.zero_le _⟩ rfl (Nat.le_of_ble_eq_true rfl) d_Mod_meta_51 ?_
              refine g_aload_n h d_Mod_meta_54 rfl rfl ?_
              refine g_aload_n h d_Mod_meta_55 rfl rfl ?_
              refine gf_Mod_trouble h f_Mod_141 d_Mod_meta_56 ?_
              refine g_if_ne (tgt := 66) h d_Mod_meta_59 (by decide) (fun c_59 => ?_) (fun c_59 => ?_)
              · refine g_iconst (v := 2) h d_Mod_meta_66 (by decide) ?_
                refine pf_Mod_thrown h f_Mod_64 d_Mod_meta_67 ?_
                exact g_vret h r d_Mod_meta_70 (⟨rfl, by unfold mmeta mgl; rw [if_neg (fun z => z.elim hb hb2)]; first | (rw [if_pos c_59]; first | done | rfl) | (rw [if_neg c_59]; first | done | rfl)⟩)
              · refine g_iconst (v := 0) h d_Mod_meta_62 (by decide) ?_
                refine g_goto (tgt := 67) h d_Mod_meta_63 (by decide) ?_
                refine pf_Mod_thrown h f_Mod_64 d_Mod_meta_67 ?_
                exact g_vret h r d_Mod_meta_70 (⟨rfl, by unfold mmeta mgl; rw [if_neg (fun z => z.elim hb hb2)]; first | (rw [if_pos c_59]; first | done | rfl) | (rw [if_neg c_59]; first | done | rfl)⟩)
            · exact absurd rfl c_29
        · exact absurd rfl c_14
end

-- part 53.objectM
section
set_option maxHeartbeats 4000000 in
set_option maxRecDepth 100000 in
theorem c_Mod_object {l : Launch} {D : va_G} {u : Nat → ClassId} {ad : Nat → Nat} {M : CS} {n w : Int32} : Cm l D u ad y_Mod_object b_Mod_object 3 (some .int) { frames := 0, cells := 0, slots := 0, locals := 0 } [.ref (ad 0), .int n, .int w] (M) (some (.int (mobject M n w).1)) ((mobject M n w).2) := by
  refine ct_of (by decide) (Nat.le_of_ble_eq_true rfl) ?_
  intro Γ _ _ hN h r
  refine g_at (L' := [some (.ref (ad 0)), some (.int n), some (.int w)]) rfl rfl rfl ?_
  refine g_aload_n h d_Mod_object_0 rfl rfl ?_
  refine g_iload_n h d_Mod_object_1 rfl rfl ?_
  refine g_if_lt (tgt := 20) h d_Mod_object_2 (by decide) (fun c_2 => ?_) (fun c_2 => ?_)
  · skip
    · refine g_iconst (v := 1) h d_Mod_object_20 (by decide) ?_
      refine g_goto (tgt := 42) h d_Mod_object_21 (by decide) ?_
      refine pf_Mod_thrown h f_Mod_64 d_Mod_object_42 ?_
      refine g_aload_n h d_Mod_object_45 rfl rfl ?_
      refine gf_Mod_thrown h f_Mod_64 d_Mod_object_46 ?_
      simp only [sI_1, sI_2, sJ_1, sJ_2, sJ_3, sR_1, sR_2, sR_3, Nat.reduceEqDiff, Nat.zero_ne_one, Nat.one_ne_zero, Nat.succ_ne_zero, reduceCtorEq, false_and, if_false, true_and, and_self, if_true, and_true, and_false, reduceIte]
      refine g_if_eq (tgt := 54) h d_Mod_object_49 (by decide) (fun c_49 => ?_) (fun c_49 => ?_)
      · exact absurd c_49 (by decide)
      · refine g_iconst (v := 0) h d_Mod_object_52 (by decide) ?_
        exact g_iret h r d_Mod_object_53 (⟨by unfold mobject; first | (rw [if_pos (by first | exact .inl c_2 | exact .inr (.inl c_8) | exact .inr (.inr (.inl c_12)) | exact .inr (.inr (.inr (Int32.not_le.mp c_17))))]; done) | (rw [if_neg (fun z => by rcases z with z | z | z | z <;> first | exact c_2 z | exact c_8 z | exact c_12 z | exact Int32.not_lt.mpr c_17 z), if_pos ⟨Int32.not_le.mp c_25, c_34⟩]; done), by unfold mobject; first | (rw [if_pos (by first | exact .inl c_2 | exact .inr (.inl c_8) | exact .inr (.inr (.inl c_12)) | exact .inr (.inr (.inr (Int32.not_le.mp c_17))))]; done) | (rw [if_neg (fun z => by rcases z with z | z | z | z <;> first | exact c_2 z | exact c_8 z | exact c_12 z | exact Int32.not_lt.mpr c_17 z), if_pos ⟨Int32.not_le.mp c_25, c_34⟩]; done)⟩)
  · refine g_iload_n h d_Mod_object_5 rfl rfl ?_
    refine g_bipush (v := 15) h d_Mod_object_6 (by decide) ?_
    refine g_icmp_gt (tgt := 20) h d_Mod_object_8 (by decide) (fun c_8 => ?_) (fun c_8 => ?_)
    · skip
      · refine g_iconst (v := 1) h d_Mod_object_20 (by decide) ?_
        refine g_goto (tgt := 42) h d_Mod_object_21 (by decide) ?_
        refine pf_Mod_thrown h f_Mod_64 d_Mod_object_42 ?_
        refine g_aload_n h d_Mod_object_45 rfl rfl ?_
        refine gf_Mod_thrown h f_Mod_64 d_Mod_object_46 ?_
        simp only [sI_1, sI_2, sJ_1, sJ_2, sJ_3, sR_1, sR_2, sR_3, Nat.reduceEqDiff, Nat.zero_ne_one, Nat.one_ne_zero, Nat.succ_ne_zero, reduceCtorEq, false_and, if_false, true_and, and_self, if_true, and_true, and_false, reduceIte]
        refine g_if_eq (tgt := 54) h d_Mod_object_49 (by decide) (fun c_49 => ?_) (fun c_49 => ?_)
        · exact absurd c_49 (by decide)
        · refine g_iconst (v := 0) h d_Mod_object_52 (by decide) ?_
          exact g_iret h r d_Mod_object_53 (⟨by unfold mobject; first | (rw [if_pos (by first | exact .inl c_2 | exact .inr (.inl c_8) | exact .inr (.inr (.inl c_12)) | exact .inr (.inr (.inr (Int32.not_le.mp c_17))))]; done) | (rw [if_neg (fun z => by rcases z with z | z | z | z <;> first | exact c_2 z | exact c_8 z | exact c_12 z | exact Int32.not_lt.mpr c_17 z), if_pos ⟨Int32.not_le.mp c_25, c_34⟩]; done), by unfold mobject; first | (rw [if_pos (by first | exact .inl c_2 | exact .inr (.inl c_8) | exact .inr (.inr (.inl c_12)) | exact .inr (.inr (.inr (Int32.not_le.mp c_17))))]; done) | (rw [if_neg (fun z => by rcases z with z | z | z | z <;> first | exact c_2 z | exact c_8 z | exact c_12 z | exact Int32.not_lt.mpr c_17 z), if_pos ⟨Int32.not_le.mp c_25, c_34⟩]; done)⟩)
    · refine g_iload_n h d_Mod_object_11 rfl rfl ?_
      refine g_if_lt (tgt := 20) h d_Mod_object_12 (by decide) (fun c_12 => ?_) (fun c_12 => ?_)
      · skip
        · refine g_iconst (v := 1) h d_Mod_object_20 (by decide) ?_
          refine g_goto (tgt := 42) h d_Mod_object_21 (by decide) ?_
          refine pf_Mod_thrown h f_Mod_64 d_Mod_object_42 ?_
          refine g_aload_n h d_Mod_object_45 rfl rfl ?_
          refine gf_Mod_thrown h f_Mod_64 d_Mod_object_46 ?_
          simp only [sI_1, sI_2, sJ_1, sJ_2, sJ_3, sR_1, sR_2, sR_3, Nat.reduceEqDiff, Nat.zero_ne_one, Nat.one_ne_zero, Nat.succ_ne_zero, reduceCtorEq, false_and, if_false, true_and, and_self, if_true, and_true, and_false, reduceIte]
          refine g_if_eq (tgt := 54) h d_Mod_object_49 (by decide) (fun c_49 => ?_) (fun c_49 => ?_)
          · exact absurd c_49 (by decide)
          · refine g_iconst (v := 0) h d_Mod_object_52 (by decide) ?_
            exact g_iret h r d_Mod_object_53 (⟨by unfold mobject; first | (rw [if_pos (by first | exact .inl c_2 | exact .inr (.inl c_8) | exact .inr (.inr (.inl c_12)) | exact .inr (.inr (.inr (Int32.not_le.mp c_17))))]; done) | (rw [if_neg (fun z => by rcases z with z | z | z | z <;> first | exact c_2 z | exact c_8 z | exact c_12 z | exact Int32.not_lt.mpr c_17 z), if_pos ⟨Int32.not_le.mp c_25, c_34⟩]; done), by unfold mobject; first | (rw [if_pos (by first | exact .inl c_2 | exact .inr (.inl c_8) | exact .inr (.inr (.inl c_12)) | exact .inr (.inr (.inr (Int32.not_le.mp c_17))))]; done) | (rw [if_neg (fun z => by rcases z with z | z | z | z <;> first | exact c_2 z | exact c_8 z | exact c_12 z | exact Int32.not_lt.mpr c_17 z), if_pos ⟨Int32.not_le.mp c_25, c_34⟩]; done)⟩)
      · refine g_iload_n h d_Mod_object_15 rfl rfl ?_
        refine g_iconst (v := 3) h d_Mod_object_16 (by decide) ?_
        refine g_icmp_le (tgt := 24) h d_Mod_object_17 (by decide) (fun c_17 => ?_) (fun c_17 => ?_)
        · obtain ⟨hn, hne⟩ := i32_num (m := 15) (by decide) c_2 c_8
          refine g_iload_n h d_Mod_object_24 rfl rfl ?_
          refine g_if_le (tgt := 41) h d_Mod_object_25 (by decide) (fun c_25 => ?_) (fun c_25 => ?_)
          · skip
            · refine g_iconst (v := 0) h d_Mod_object_41 (by decide) ?_
              refine pf_Mod_thrown h f_Mod_64 d_Mod_object_42 ?_
              refine g_aload_n h d_Mod_object_45 rfl rfl ?_
              refine gf_Mod_thrown h f_Mod_64 d_Mod_object_46 ?_
              simp only [sI_1, sI_2, sJ_1, sJ_2, sJ_3, sR_1, sR_2, sR_3, Nat.reduceEqDiff, Nat.zero_ne_one, Nat.one_ne_zero, Nat.succ_ne_zero, reduceCtorEq, false_and, if_false, true_and, and_self, if_true, and_true, and_false, reduceIte]
              refine g_if_eq (tgt := 54) h d_Mod_object_49 (by decide) (fun c_49 => ?_) (fun c_49 => ?_)
              · refine g_iload_n h d_Mod_object_54 rfl rfl ?_
                refine g_if_ne (tgt := 65) h d_Mod_object_55 (by decide) (fun c_55 => ?_) (fun c_55 => ?_)
                · refine g_iload_n h d_Mod_object_65 rfl rfl ?_
                  refine g_iconst (v := 1) h d_Mod_object_66 (by decide) ?_
                  refine g_icmp_ne (tgt := 77) h d_Mod_object_67 (by decide) (fun c_67 => ?_) (fun c_67 => ?_)
                  · refine g_iload_n h d_Mod_object_77 rfl rfl ?_
                    refine g_iconst (v := 2) h d_Mod_object_78 (by decide) ?_
                    refine g_icmp_ne (tgt := 108) h d_Mod_object_79 (by decide) (fun c_79 => ?_) (fun c_79 => ?_)
                    · refine g_aload_n h d_Mod_object_108 rfl rfl ?_
                      refine gf_Mod_kind h f_Mod_26 d_Mod_object_109 ?_
                      refine g_iload_n h d_Mod_object_112 rfl rfl ?_
                      refine gi_kind h hne (show n.toNatClampNeg < 16 by omega) d_Mod_object_113 ?_
                      simp only [sI_1, sI_2, sJ_1, sJ_2, sJ_3, sR_1, sR_2, sR_3, Nat.reduceEqDiff, Nat.zero_ne_one, Nat.one_ne_zero, Nat.succ_ne_zero, reduceCtorEq, false_and, if_false, true_and, and_self, if_true, and_true, and_false, reduceIte]
                      refine g_iconst (v := 1) h d_Mod_object_114 (by decide) ?_
                      refine g_icmp_ne (tgt := 127) h d_Mod_object_115 (by decide) (fun c_115 => ?_) (fun c_115 => ?_)
                      · refine g_aload_n h d_Mod_object_127 rfl rfl ?_
                        refine gf_Mod_state h f_Mod_53 d_Mod_object_128 ?_
                        refine g_iload_n h d_Mod_object_131 rfl rfl ?_
                        refine gi_state h hne (show n.toNatClampNeg < 16 by omega) d_Mod_object_132 ?_
                        exact g_iret h r d_Mod_object_133 (⟨by unfold mobject; rw [if_neg (fun z => by rcases z with z | z | z | z <;> first | exact c_2 z | exact c_8 z | exact c_12 z | exact Int32.not_lt.mpr c_17 z), if_neg (fun z => by first | exact absurd z.1 (Int32.not_lt.mpr c_25) | exact c_34 z.2)]; first | (simp only [if_neg c_55, if_neg c_67, if_neg c_79, if_pos c_115]; first | done | rfl) | (simp only [if_neg c_55, if_neg c_67, if_neg c_79, if_neg c_115]; first | done | rfl), by unfold mobject; rw [if_neg (fun z => by rcases z with z | z | z | z <;> first | exact c_2 z | exact c_8 z | exact c_12 z | exact Int32.not_lt.mpr c_17 z), if_neg (fun z => by first | exact absurd z.1 (Int32.not_lt.mpr c_25) | exact c_34 z.2)]⟩)
                      · refine g_aload_n h d_Mod_object_118 rfl rfl ?_
                        refine gf_Mod_metaOf h f_Mod_35 d_Mod_object_119 ?_
                        refine g_iload_n h d_Mod_object_122 rfl rfl ?_
                        refine gi_metaOf h hne (show n.toNatClampNeg < 16 by omega) d_Mod_object_123 ?_
                        refine g_goto (tgt := 133) h d_Mod_object_124 (by decide) ?_
                        exact g_iret h r d_Mod_object_133 (⟨by unfold mobject; rw [if_neg (fun z => by rcases z with z | z | z | z <;> first | exact c_2 z | exact c_8 z | exact c_12 z | exact Int32.not_lt.mpr c_17 z), if_neg (fun z => by first | exact absurd z.1 (Int32.not_lt.mpr c_25) | exact c_34 z.2)]; first | (simp only [if_neg c_55, if_neg c_67, if_neg c_79, if_pos c_115]; first | done | rfl) | (simp only [if_neg c_55, if_neg c_67, if_neg c_79, if_neg c_115]; first | done | rfl), by unfold mobject; rw [if_neg (fun z => by rcases z with z | z | z | z <;> first | exact c_2 z | exact c_8 z | exact c_12 z | exact Int32.not_lt.mpr c_17 z), if_neg (fun z => by first | exact absurd z.1 (Int32.not_lt.mpr c_25) | exact c_34 z.2)]⟩)
                    · refine g_aload_n h d_Mod_object_82 rfl rfl ?_
                      refine gf_Mod_kind h f_Mod_26 d_Mod_object_83 ?_
                      refine g_iload_n h d_Mod_object_86 rfl rfl ?_
                      refine gi_kind h hne (show n.toNatClampNeg < 16 by omega) d_Mod_object_87 ?_
                      simp only [sI_1, sI_2, sJ_1, sJ_2, sJ_3, sR_1, sR_2, sR_3, Nat.reduceEqDiff, Nat.zero_ne_one, Nat.one_ne_zero, Nat.succ_ne_zero, reduceCtorEq, false_and, if_false, true_and, and_self, if_true, and_true, and_false, reduceIte]
                      refine g_iconst (v := 1) h d_Mod_object_88 (by decide) ?_
                      refine g_icmp_ne (tgt := 101) h d_Mod_object_89 (by decide) (fun c_89 => ?_) (fun c_89 => ?_)
                      · refine g_aload_n h d_Mod_object_101 rfl rfl ?_
                        refine gf_Mod_place h f_Mod_50 d_Mod_object_102 ?_
                        refine g_iload_n h d_Mod_object_105 rfl rfl ?_
                        refine gi_place h hne (show n.toNatClampNeg < 16 by omega) d_Mod_object_106 ?_
                        exact g_iret h r d_Mod_object_107 (⟨by unfold mobject; rw [if_neg (fun z => by rcases z with z | z | z | z <;> first | exact c_2 z | exact c_8 z | exact c_12 z | exact Int32.not_lt.mpr c_17 z), if_neg (fun z => by first | exact absurd z.1 (Int32.not_lt.mpr c_25) | exact c_34 z.2)]; first | (simp only [if_neg c_55, if_neg c_67, if_pos c_79, if_pos c_89]; first | done | rfl) | (simp only [if_neg c_55, if_neg c_67, if_pos c_79, if_neg c_89]; first | done | rfl), by unfold mobject; rw [if_neg (fun z => by rcases z with z | z | z | z <;> first | exact c_2 z | exact c_8 z | exact c_12 z | exact Int32.not_lt.mpr c_17 z), if_neg (fun z => by first | exact absurd z.1 (Int32.not_lt.mpr c_25) | exact c_34 z.2)]⟩)
                      · refine g_aload_n h d_Mod_object_92 rfl rfl ?_
                        refine gf_Mod_size h f_Mod_32 d_Mod_object_93 ?_
                        refine g_iload_n h d_Mod_object_96 rfl rfl ?_
                        refine gi_size h hne (show n.toNatClampNeg < 16 by omega) d_Mod_object_97 ?_
                        refine g_goto (tgt := 107) h d_Mod_object_98 (by decide) ?_
                        exact g_iret h r d_Mod_object_107 (⟨by unfold mobject; rw [if_neg (fun z => by rcases z with z | z | z | z <;> first | exact c_2 z | exact c_8 z | exact c_12 z | exact Int32.not_lt.mpr c_17 z), if_neg (fun z => by first | exact absurd z.1 (Int32.not_lt.mpr c_25) | exact c_34 z.2)]; first | (simp only [if_neg c_55, if_neg c_67, if_pos c_79, if_pos c_89]; first | done | rfl) | (simp only [if_neg c_55, if_neg c_67, if_pos c_79, if_neg c_89]; first | done | rfl), by unfold mobject; rw [if_neg (fun z => by rcases z with z | z | z | z <;> first | exact c_2 z | exact c_8 z | exact c_12 z | exact Int32.not_lt.mpr c_17 z), if_neg (fun z => by first | exact absurd z.1 (Int32.not_lt.mpr c_25) | exact c_34 z.2)]⟩)
                  · refine g_aload_n h d_Mod_object_70 rfl rfl ?_
                    refine gf_Mod_colour h f_Mod_29 d_Mod_object_71 ?_
                    refine g_iload_n h d_Mod_object_74 rfl rfl ?_
                    refine gi_colour h hne (show n.toNatClampNeg < 16 by omega) d_Mod_object_75 ?_
                    exact g_iret h r d_Mod_object_76 (⟨by unfold mobject; rw [if_neg (fun z => by rcases z with z | z | z | z <;> first | exact c_2 z | exact c_8 z | exact c_12 z | exact Int32.not_lt.mpr c_17 z), if_neg (fun z => by first | exact absurd z.1 (Int32.not_lt.mpr c_25) | exact c_34 z.2)]; first | (simp only [if_neg c_55, if_pos c_67]; first | done | rfl), by unfold mobject; rw [if_neg (fun z => by rcases z with z | z | z | z <;> first | exact c_2 z | exact c_8 z | exact c_12 z | exact Int32.not_lt.mpr c_17 z), if_neg (fun z => by first | exact absurd z.1 (Int32.not_lt.mpr c_25) | exact c_34 z.2)]⟩)
                · refine g_aload_n h d_Mod_object_58 rfl rfl ?_
                  refine gf_Mod_kind h f_Mod_26 d_Mod_object_59 ?_
                  refine g_iload_n h d_Mod_object_62 rfl rfl ?_
                  refine gi_kind h hne (show n.toNatClampNeg < 16 by omega) d_Mod_object_63 ?_
                  exact g_iret h r d_Mod_object_64 (⟨by unfold mobject; rw [if_neg (fun z => by rcases z with z | z | z | z <;> first | exact c_2 z | exact c_8 z | exact c_12 z | exact Int32.not_lt.mpr c_17 z), if_neg (fun z => by first | exact absurd z.1 (Int32.not_lt.mpr c_25) | exact c_34 z.2)]; first | (simp only [if_pos c_55]; first | done | rfl), by unfold mobject; rw [if_neg (fun z => by rcases z with z | z | z | z <;> first | exact c_2 z | exact c_8 z | exact c_12 z | exact Int32.not_lt.mpr c_17 z), if_neg (fun z => by first | exact absurd z.1 (Int32.not_lt.mpr c_25) | exact c_34 z.2)]⟩)
              · exact absurd rfl c_49
          · refine g_aload_n h d_Mod_object_28 rfl rfl ?_
            refine gf_Mod_kind h f_Mod_26 d_Mod_object_29 ?_
            refine g_iload_n h d_Mod_object_32 rfl rfl ?_
            refine gi_kind h hne (show n.toNatClampNeg < 16 by omega) d_Mod_object_33 ?_
            refine g_if_ne (tgt := 41) h d_Mod_object_34 (by decide) (fun c_34 => ?_) (fun c_34 => ?_)
            · skip
              · refine g_iconst (v := 0) h d_Mod_object_41 (by decide) ?_
                refine pf_Mod_thrown h f_Mod_64 d_Mod_object_42 ?_
                refine g_aload_n h d_Mod_object_45 rfl rfl ?_
                refine gf_Mod_thrown h f_Mod_64 d_Mod_object_46 ?_
                simp only [sI_1, sI_2, sJ_1, sJ_2, sJ_3, sR_1, sR_2, sR_3, Nat.reduceEqDiff, Nat.zero_ne_one, Nat.one_ne_zero, Nat.succ_ne_zero, reduceCtorEq, false_and, if_false, true_and, and_self, if_true, and_true, and_false, reduceIte]
                refine g_if_eq (tgt := 54) h d_Mod_object_49 (by decide) (fun c_49 => ?_) (fun c_49 => ?_)
                · refine g_iload_n h d_Mod_object_54 rfl rfl ?_
                  refine g_if_ne (tgt := 65) h d_Mod_object_55 (by decide) (fun c_55 => ?_) (fun c_55 => ?_)
                  · refine g_iload_n h d_Mod_object_65 rfl rfl ?_
                    refine g_iconst (v := 1) h d_Mod_object_66 (by decide) ?_
                    refine g_icmp_ne (tgt := 77) h d_Mod_object_67 (by decide) (fun c_67 => ?_) (fun c_67 => ?_)
                    · refine g_iload_n h d_Mod_object_77 rfl rfl ?_
                      refine g_iconst (v := 2) h d_Mod_object_78 (by decide) ?_
                      refine g_icmp_ne (tgt := 108) h d_Mod_object_79 (by decide) (fun c_79 => ?_) (fun c_79 => ?_)
                      · refine g_aload_n h d_Mod_object_108 rfl rfl ?_
                        refine gf_Mod_kind h f_Mod_26 d_Mod_object_109 ?_
                        refine g_iload_n h d_Mod_object_112 rfl rfl ?_
                        refine gi_kind h hne (show n.toNatClampNeg < 16 by omega) d_Mod_object_113 ?_
                        simp only [sI_1, sI_2, sJ_1, sJ_2, sJ_3, sR_1, sR_2, sR_3, Nat.reduceEqDiff, Nat.zero_ne_one, Nat.one_ne_zero, Nat.succ_ne_zero, reduceCtorEq, false_and, if_false, true_and, and_self, if_true, and_true, and_false, reduceIte]
                        refine g_iconst (v := 1) h d_Mod_object_114 (by decide) ?_
                        refine g_icmp_ne (tgt := 127) h d_Mod_object_115 (by decide) (fun c_115 => ?_) (fun c_115 => ?_)
                        · refine g_aload_n h d_Mod_object_127 rfl rfl ?_
                          refine gf_Mod_state h f_Mod_53 d_Mod_object_128 ?_
                          refine g_iload_n h d_Mod_object_131 rfl rfl ?_
                          refine gi_state h hne (show n.toNatClampNeg < 16 by omega) d_Mod_object_132 ?_
                          exact g_iret h r d_Mod_object_133 (⟨by unfold mobject; rw [if_neg (fun z => by rcases z with z | z | z | z <;> first | exact c_2 z | exact c_8 z | exact c_12 z | exact Int32.not_lt.mpr c_17 z), if_neg (fun z => by first | exact absurd z.1 (Int32.not_lt.mpr c_25) | exact c_34 z.2)]; first | (simp only [if_neg c_55, if_neg c_67, if_neg c_79, if_pos c_115]; first | done | rfl) | (simp only [if_neg c_55, if_neg c_67, if_neg c_79, if_neg c_115]; first | done | rfl), by unfold mobject; rw [if_neg (fun z => by rcases z with z | z | z | z <;> first | exact c_2 z | exact c_8 z | exact c_12 z | exact Int32.not_lt.mpr c_17 z), if_neg (fun z => by first | exact absurd z.1 (Int32.not_lt.mpr c_25) | exact c_34 z.2)]⟩)
                        · refine g_aload_n h d_Mod_object_118 rfl rfl ?_
                          refine gf_Mod_metaOf h f_Mod_35 d_Mod_object_119 ?_
                          refine g_iload_n h d_Mod_object_122 rfl rfl ?_
                          refine gi_metaOf h hne (show n.toNatClampNeg < 16 by omega) d_Mod_object_123 ?_
                          refine g_goto (tgt := 133) h d_Mod_object_124 (by decide) ?_
                          exact g_iret h r d_Mod_object_133 (⟨by unfold mobject; rw [if_neg (fun z => by rcases z with z | z | z | z <;> first | exact c_2 z | exact c_8 z | exact c_12 z | exact Int32.not_lt.mpr c_17 z), if_neg (fun z => by first | exact absurd z.1 (Int32.not_lt.mpr c_25) | exact c_34 z.2)]; first | (simp only [if_neg c_55, if_neg c_67, if_neg c_79, if_pos c_115]; first | done | rfl) | (simp only [if_neg c_55, if_neg c_67, if_neg c_79, if_neg c_115]; first | done | rfl), by unfold mobject; rw [if_neg (fun z => by rcases z with z | z | z | z <;> first | exact c_2 z | exact c_8 z | exact c_12 z | exact Int32.not_lt.mpr c_17 z), if_neg (fun z => by first | exact absurd z.1 (Int32.not_lt.mpr c_25) | exact c_34 z.2)]⟩)
                      · refine g_aload_n h d_Mod_object_82 rfl rfl ?_
                        refine gf_Mod_kind h f_Mod_26 d_Mod_object_83 ?_
                        refine g_iload_n h d_Mod_object_86 rfl rfl ?_
                        refine gi_kind h hne (show n.toNatClampNeg < 16 by omega) d_Mod_object_87 ?_
                        simp only [sI_1, sI_2, sJ_1, sJ_2, sJ_3, sR_1, sR_2, sR_3, Nat.reduceEqDiff, Nat.zero_ne_one, Nat.one_ne_zero, Nat.succ_ne_zero, reduceCtorEq, false_and, if_false, true_and, and_self, if_true, and_true, and_false, reduceIte]
                        refine g_iconst (v := 1) h d_Mod_object_88 (by decide) ?_
                        refine g_icmp_ne (tgt := 101) h d_Mod_object_89 (by decide) (fun c_89 => ?_) (fun c_89 => ?_)
                        · refine g_aload_n h d_Mod_object_101 rfl rfl ?_
                          refine gf_Mod_place h f_Mod_50 d_Mod_object_102 ?_
                          refine g_iload_n h d_Mod_object_105 rfl rfl ?_
                          refine gi_place h hne (show n.toNatClampNeg < 16 by omega) d_Mod_object_106 ?_
                          exact g_iret h r d_Mod_object_107 (⟨by unfold mobject; rw [if_neg (fun z => by rcases z with z | z | z | z <;> first | exact c_2 z | exact c_8 z | exact c_12 z | exact Int32.not_lt.mpr c_17 z), if_neg (fun z => by first | exact absurd z.1 (Int32.not_lt.mpr c_25) | exact c_34 z.2)]; first | (simp only [if_neg c_55, if_neg c_67, if_pos c_79, if_pos c_89]; first | done | rfl) | (simp only [if_neg c_55, if_neg c_67, if_pos c_79, if_neg c_89]; first | done | rfl), by unfold mobject; rw [if_neg (fun z => by rcases z with z | z | z | z <;> first | exact c_2 z | exact c_8 z | exact c_12 z | exact Int32.not_lt.mpr c_17 z), if_neg (fun z => by first | exact absurd z.1 (Int32.not_lt.mpr c_25) | exact c_34 z.2)]⟩)
                        · refine g_aload_n h d_Mod_object_92 rfl rfl ?_
                          refine gf_Mod_size h f_Mod_32 d_Mod_object_93 ?_
                          refine g_iload_n h d_Mod_object_96 rfl rfl ?_
                          refine gi_size h hne (show n.toNatClampNeg < 16 by omega) d_Mod_object_97 ?_
                          refine g_goto (tgt := 107) h d_Mod_object_98 (by decide) ?_
                          exact g_iret h r d_Mod_object_107 (⟨by unfold mobject; rw [if_neg (fun z => by rcases z with z | z | z | z <;> first | exact c_2 z | exact c_8 z | exact c_12 z | exact Int32.not_lt.mpr c_17 z), if_neg (fun z => by first | exact absurd z.1 (Int32.not_lt.mpr c_25) | exact c_34 z.2)]; first | (simp only [if_neg c_55, if_neg c_67, if_pos c_79, if_pos c_89]; first | done | rfl) | (simp only [if_neg c_55, if_neg c_67, if_pos c_79, if_neg c_89]; first | done | rfl), by unfold mobject; rw [if_neg (fun z => by rcases z with z | z | z | z <;> first | exact c_2 z | exact c_8 z | exact c_12 z | exact Int32.not_lt.mpr c_17 z), if_neg (fun z => by first | exact absurd z.1 (Int32.not_lt.mpr c_25) | exact c_34 z.2)]⟩)
                    · refine g_aload_n h d_Mod_object_70 rfl rfl ?_
                      refine gf_Mod_colour h f_Mod_29 d_Mod_object_71 ?_
                      refine g_iload_n h d_Mod_object_74 rfl rfl ?_
                      refine gi_colour h hne (show n.toNatClampNeg < 16 by omega) d_Mod_object_75 ?_
                      exact g_iret h r d_Mod_object_76 (⟨by unfold mobject; rw [if_neg (fun z => by rcases z with z | z | z | z <;> first | exact c_2 z | exact c_8 z | exact c_12 z | exact Int32.not_lt.mpr c_17 z), if_neg (fun z => by first | exact absurd z.1 (Int32.not_lt.mpr c_25) | exact c_34 z.2)]; first | (simp only [if_neg c_55, if_pos c_67]; first | done | rfl), by unfold mobject; rw [if_neg (fun z => by rcases z with z | z | z | z <;> first | exact c_2 z | exact c_8 z | exact c_12 z | exact Int32.not_lt.mpr c_17 z), if_neg (fun z => by first | exact absurd z.1 (Int32.not_lt.mpr c_25) | exact c_34 z.2)]⟩)
                  · refine g_aload_n h d_Mod_object_58 rfl rfl ?_
                    refine gf_Mod_kind h f_Mod_26 d_Mod_object_59 ?_
                    refine g_iload_n h d_Mod_object_62 rfl rfl ?_
                    refine gi_kind h hne (show n.toNatClampNeg < 16 by omega) d_Mod_object_63 ?_
                    exact g_iret h r d_Mod_object_64 (⟨by unfold mobject; rw [if_neg (fun z => by rcases z with z | z | z | z <;> first | exact c_2 z | exact c_8 z | exact c_12 z | exact Int32.not_lt.mpr c_17 z), if_neg (fun z => by first | exact absurd z.1 (Int32.not_lt.mpr c_25) | exact c_34 z.2)]; first | (simp only [if_pos c_55]; first | done | rfl), by unfold mobject; rw [if_neg (fun z => by rcases z with z | z | z | z <;> first | exact c_2 z | exact c_8 z | exact c_12 z | exact Int32.not_lt.mpr c_17 z), if_neg (fun z => by first | exact absurd z.1 (Int32.not_lt.mpr c_25) | exact c_34 z.2)]⟩)
                · exact absurd rfl c_49
            · skip
              · refine g_iconst (v := 2) h d_Mod_object_37 (by decide) ?_
                refine g_goto (tgt := 42) h d_Mod_object_38 (by decide) ?_
                refine pf_Mod_thrown h f_Mod_64 d_Mod_object_42 ?_
                refine g_aload_n h d_Mod_object_45 rfl rfl ?_
                refine gf_Mod_thrown h f_Mod_64 d_Mod_object_46 ?_
                simp only [sI_1, sI_2, sJ_1, sJ_2, sJ_3, sR_1, sR_2, sR_3, Nat.reduceEqDiff, Nat.zero_ne_one, Nat.one_ne_zero, Nat.succ_ne_zero, reduceCtorEq, false_and, if_false, true_and, and_self, if_true, and_true, and_false, reduceIte]
                refine g_if_eq (tgt := 54) h d_Mod_object_49 (by decide) (fun c_49 => ?_) (fun c_49 => ?_)
                · exact absurd c_49 (by decide)
                · refine g_iconst (v := 0) h d_Mod_object_52 (by decide) ?_
                  exact g_iret h r d_Mod_object_53 (⟨by unfold mobject; first | (rw [if_pos (by first | exact .inl c_2 | exact .inr (.inl c_8) | exact .inr (.inr (.inl c_12)) | exact .inr (.inr (.inr (Int32.not_le.mp c_17))))]; done) | (rw [if_neg (fun z => by rcases z with z | z | z | z <;> first | exact c_2 z | exact c_8 z | exact c_12 z | exact Int32.not_lt.mpr c_17 z), if_pos ⟨Int32.not_le.mp c_25, c_34⟩]; done), by unfold mobject; first | (rw [if_pos (by first | exact .inl c_2 | exact .inr (.inl c_8) | exact .inr (.inr (.inl c_12)) | exact .inr (.inr (.inr (Int32.not_le.mp c_17))))]; done) | (rw [if_neg (fun z => by rcases z with z | z | z | z <;> first | exact c_2 z | exact c_8 z | exact c_12 z | exact Int32.not_lt.mpr c_17 z), if_pos ⟨Int32.not_le.mp c_25, c_34⟩]; done)⟩)
        · skip
          · refine g_iconst (v := 1) h d_Mod_object_20 (by decide) ?_
            refine g_goto (tgt := 42) h d_Mod_object_21 (by decide) ?_
            refine pf_Mod_thrown h f_Mod_64 d_Mod_object_42 ?_
            refine g_aload_n h d_Mod_object_45 rfl rfl ?_
            refine gf_Mod_thrown h f_Mod_64 d_Mod_object_46 ?_
            simp only [sI_1, sI_2, sJ_1, sJ_2, sJ_3, sR_1, sR_2, sR_3, Nat.reduceEqDiff, Nat.zero_ne_one, Nat.one_ne_zero, Nat.succ_ne_zero, reduceCtorEq, false_and, if_false, true_and, and_self, if_true, and_true, and_false, reduceIte]
            refine g_if_eq (tgt := 54) h d_Mod_object_49 (by decide) (fun c_49 => ?_) (fun c_49 => ?_)
            · exact absurd c_49 (by decide)
            · refine g_iconst (v := 0) h d_Mod_object_52 (by decide) ?_
              exact g_iret h r d_Mod_object_53 (⟨by unfold mobject; first | (rw [if_pos (by first | exact .inl c_2 | exact .inr (.inl c_8) | exact .inr (.inr (.inl c_12)) | exact .inr (.inr (.inr (Int32.not_le.mp c_17))))]; done) | (rw [if_neg (fun z => by rcases z with z | z | z | z <;> first | exact c_2 z | exact c_8 z | exact c_12 z | exact Int32.not_lt.mpr c_17 z), if_pos ⟨Int32.not_le.mp c_25, c_34⟩]; done), by unfold mobject; first | (rw [if_pos (by first | exact .inl c_2 | exact .inr (.inl c_8) | exact .inr (.inr (.inl c_12)) | exact .inr (.inr (.inr (Int32.not_le.mp c_17))))]; done) | (rw [if_neg (fun z => by rcases z with z | z | z | z <;> first | exact c_2 z | exact c_8 z | exact c_12 z | exact Int32.not_lt.mpr c_17 z), if_pos ⟨Int32.not_le.mp c_25, c_34⟩]; done)⟩)
end

-- part 54.specM6
section
def mcnt (M : CS) : Nat → Nat → Int32 → Int32 → Int32 × Int32
  | 0, _, a, g => (a, g)
  | c + 1, i, a, g => mcnt M c (i + 1) (if M.1 4 i = 0 then a else a + 1) (if ¬ M.1 4 i = 0 ∧ M.1 5 i = 1 then g + 1 else g)
def mcountO (M : CS) : Nat → Int32
  | 0 => (mcnt M 16 0 0 0).1
  | 1 => M.1 14 0
  | 2 => M.1 15 0
  | 3 => M.1 16 0
  | 4 => M.1 17 0
  | 5 => M.1 18 0
  | 6 => (mcnt M 16 0 0 0).2
  | 7 => M.1 19 0
  | 8 => M.1 20 0
  | _ => -1
def mcount (M : CS) (w : Int32) : Int32 := if w.toInt < 0 ∨ 8 < w.toInt then -1 else mcountO M w.toInt.toNat
theorem i32_cases {w : Int32} (h : ¬ (w.toInt < 0 ∨ 8 < w.toInt)) : w = 0 ∨ w = 1 ∨ w = 2 ∨ w = 3 ∨ w = 4 ∨ w = 5 ∨ w = 6 ∨ w = 7 ∨ w = 8 := by
  have e : ∀ k : Int32, w.toInt = k.toInt → w = k := fun k z => Int32.toInt_inj.mp z
  have h1 : w.toInt = 0 ∨ w.toInt = 1 ∨ w.toInt = 2 ∨ w.toInt = 3 ∨ w.toInt = 4 ∨ w.toInt = 5 ∨ w.toInt = 6 ∨ w.toInt = 7 ∨ w.toInt = 8 := by omega
  rcases h1 with z | z | z | z | z | z | z | z | z
  · exact .inl (e 0 z)
  · exact .inr (.inl (e 1 z))
  · exact .inr (.inr (.inl (e 2 z)))
  · exact .inr (.inr (.inr (.inl (e 3 z))))
  · exact .inr (.inr (.inr (.inr (.inl (e 4 z)))))
  · exact .inr (.inr (.inr (.inr (.inr (.inl (e 5 z))))))
  · exact .inr (.inr (.inr (.inr (.inr (.inr (.inl (e 6 z)))))))
  · exact .inr (.inr (.inr (.inr (.inr (.inr (.inr (.inl (e 7 z))))))))
  · exact .inr (.inr (.inr (.inr (.inr (.inr (.inr (.inr (e 8 z))))))))
end
