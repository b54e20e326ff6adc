set_option maxHeartbeats 4000000 in
set_option maxRecDepth 100000 in
theorem c_Mod_setting {l : Launch} {D : va_G} {u : Nat → ClassId} {ad : Nat → Nat} {M : CS} {n0 : Nat} {key v : Int64} (hok : okM M) (hn0 : n0 < 16) : Cm l D u ad y_Mod_setting b_Mod_setting 10 none { frames := 3, cells := 0, slots := 0, locals := 70 } [.ref (ad 0), .int (nI n0), .long key, .long v] (M) (none) (msetting M n0 key v) := by
  refine ct_of (by decide) (Nat.le_of_ble_eq_true rfl) ?_
  intro Γ _ _ hN h r
  by_cases hkey : key = -1000000000000
  · refine g_at (L' := [some (.ref (ad 0)), some (.int (nI n0)), some (.long key), none, some (.long v), none, none, none, none, none]) rfl rfl rfl ?_
    refine g_lload_n h d_Mod_setting_0 rfl rfl ?_
    refine g_ldc2 (v := -1000000000000) h d_Mod_setting_1 k_Mod_62 ?_
    refine g_lc_ne (tgt := 14) h d_Mod_setting_4 d_Mod_setting_5 (by decide) (fun c_5 => ?_) (fun c_5 => ?_)
    · exact absurd hkey c_5
    · refine g_aload_n h d_Mod_setting_8 rfl rfl ?_
      refine g_iconst (v := 3) h d_Mod_setting_9 (by decide) ?_
      refine pf_Mod_trouble h f_Mod_141 d_Mod_setting_10 ?_
      exact g_vret h r d_Mod_setting_13 (⟨rfl, by simp [msetting, hkey]⟩)
  have one : ∀ n, n < 16 → msetAt M key 5 n0 = some n → ∀ tu : Int32, G Γ 0 0 18 ad (mob ad u M) 64 [some (.ref (ad 0)), none, some (.long key), none, some (.long v), none, some (.int (nI n)), some (.int tu), none, none] [] := by
    intro n hn hat tu
    have hres : msetting M n0 key v = mset1 M n key v := by simp [msetting, hkey, hat]
    rw [hres] at r
    obtain ⟨⟨P, hP, hp⟩, -⟩ := hok.1 n hn
    have hc := mSize_eq hp hP
    have loopS : ∀ (c k : Nat) (M2 : CS), k + c + 1 = P → M2.1 6 n = nI (P - 1) → mtouch (mshift n c k M2) n = mset1 M n key v → G Γ 0 0 18 ad (mob ad u M2) 103 [some (.ref (ad 0)), none, some (.long key), none, some (.long v), none, some (.int (nI n)), none, none, some (.int (nI k))] [] := by
      intro c
      induction c with
      | zero =>
        intro k M2 hk hs2 he
        refine g_iload h d_Mod_setting_103 rfl ?_
        refine g_aload_n h d_Mod_setting_105 rfl rfl ?_
        refine gf_Mod_size h f_Mod_32 d_Mod_setting_106 ?_
        refine g_iload h d_Mod_setting_109 rfl ?_
        refine gi_size h rfl hn d_Mod_setting_111 ?_
        rw [hs2]
        refine g_icmp_ge (tgt := 177) h d_Mod_setting_112 (by decide) (fun c_112 => ?_) (fun c_112 => ?_)
        · refine g_goto (tgt := 271) h d_Mod_setting_177 (by decide) ?_
          refine g_aload_n h d_Mod_setting_271 rfl rfl ?_
          refine g_iload h d_Mod_setting_272 rfl ?_
          refine g_dVv h tb_good (c_Mod_touch hn) (q := 0) (by decide) rfl rfl v_Mod_144 nm_Mod_touch rfl ⟨rfl, rfl, Nat.le_of_ble_eq_true rfl, Nat.le_of_ble_eq_true rfl, Nat.zero_le _, Nat.zero_le _⟩ rfl (Nat.le_of_ble_eq_true rfl) d_Mod_setting_274 ?_
          exact g_vret h r d_Mod_setting_277 (⟨rfl, by rw [← he]; rfl⟩)
        · exact absurd (nI_le (by omega) (by omega)) c_112
      | succ c ih =>
        intro k M2 hk hs2 he
        refine g_iload h d_Mod_setting_103 rfl ?_
        refine g_aload_n h d_Mod_setting_105 rfl rfl ?_
        refine gf_Mod_size h f_Mod_32 d_Mod_setting_106 ?_
        refine g_iload h d_Mod_setting_109 rfl ?_
        refine gi_size h rfl hn d_Mod_setting_111 ?_
        rw [hs2]
        refine g_icmp_ge (tgt := 177) h d_Mod_setting_112 (by decide) (fun c_112 => ?_) (fun c_112 => ?_)
        · exact absurd c_112 (nI_ge (by omega) (by omega))
        · refine g_aload_n h d_Mod_setting_115 rfl rfl ?_
          refine gf_Mod_keys h f_Mod_38 d_Mod_setting_116 ?_
          refine g_iload h d_Mod_setting_119 rfl ?_
          refine g_bipush (v := 6) h d_Mod_setting_121 (by decide) ?_
          refine g_imul h d_Mod_setting_123 ?_
          refine g_iload h d_Mod_setting_124 rfl ?_
          refine g_iadd h d_Mod_setting_126 ?_
          refine g_aload_n h d_Mod_setting_127 rfl rfl ?_
          refine gf_Mod_keys h f_Mod_38 d_Mod_setting_128 ?_
          refine g_iload h d_Mod_setting_131 rfl ?_
          refine g_bipush (v := 6) h d_Mod_setting_133 (by decide) ?_
          refine g_imul h d_Mod_setting_135 ?_
          refine g_iload h d_Mod_setting_136 rfl ?_
          refine g_iadd h d_Mod_setting_138 ?_
          refine g_iconst (v := 1) h d_Mod_setting_139 (by decide) ?_
          refine g_iadd h d_Mod_setting_140 ?_
          refine gj_keys h (j := n * 6 + k + 1) (by rw [nI_at6, nI_1]) (by omega) d_Mod_setting_141 ?_
          refine pj_keys h (nI_at6 n k) (by omega) d_Mod_setting_142 ?_
          refine g_aload_n h d_Mod_setting_143 rfl rfl ?_
          refine gf_Mod_values h f_Mod_41 d_Mod_setting_144 ?_
          refine g_iload h d_Mod_setting_147 rfl ?_
          refine g_bipush (v := 6) h d_Mod_setting_149 (by decide) ?_
          refine g_imul h d_Mod_setting_151 ?_
          refine g_iload h d_Mod_setting_152 rfl ?_
          refine g_iadd h d_Mod_setting_154 ?_
          refine g_aload_n h d_Mod_setting_155 rfl rfl ?_
          refine gf_Mod_values h f_Mod_41 d_Mod_setting_156 ?_
          refine g_iload h d_Mod_setting_159 rfl ?_
          refine g_bipush (v := 6) h d_Mod_setting_161 (by decide) ?_
          refine g_imul h d_Mod_setting_163 ?_
          refine g_iload h d_Mod_setting_164 rfl ?_
          refine g_iadd h d_Mod_setting_166 ?_
          refine g_iconst (v := 1) h d_Mod_setting_167 (by decide) ?_
          refine g_iadd h d_Mod_setting_168 ?_
          refine gj_values h (j := n * 6 + k + 1) (by rw [nI_at6, nI_1]) (by omega) d_Mod_setting_169 ?_
          rw [sJ_2, if_neg (fun z => absurd z.1 (by decide))]
          refine pj_values h (nI_at6 n k) (by omega) d_Mod_setting_170 ?_
          refine g_iinc (v := nI (k + 1)) h d_Mod_setting_171 rfl (by rw [nI_succ]; rfl) rfl (by rw [hN]; decide) ?_
          refine g_goto (tgt := 103) h d_Mod_setting_174 (by decide) ?_
          exact ih (k + 1) _ (by omega) hs2 he
    refine g_aload_n h d_Mod_setting_64 rfl rfl ?_
    refine g_iload h d_Mod_setting_65 rfl ?_
    refine g_lload_n h d_Mod_setting_67 rfl rfl ?_
    refine g_dVi h tb_good (c_Mod_pairOf hn hp hP) (q := 0) (by decide) rfl rfl v_Mod_131 nm_Mod_pairOf rfl ⟨rfl, rfl, Nat.le_of_ble_eq_true rfl, Nat.le_of_ble_eq_true rfl, Nat.zero_le _, Nat.zero_le _⟩ rfl (Nat.le_of_ble_eq_true rfl) d_Mod_setting_68 ?_
    rcases hf : mpair M n key with _ | q <;> simp only [enc]
    · refine g_istore h d_Mod_setting_71 rfl (by rw [hN]; decide) ?_
      refine g_lload h d_Mod_setting_73 rfl ?_
      refine g_ldc2 (v := -1000000000000) h d_Mod_setting_75 k_Mod_62 ?_
      refine g_lc_ne (tgt := 180) h d_Mod_setting_78 d_Mod_setting_79 (by decide) (fun c_79 => ?_) (fun c_79 => ?_)
      · refine g_iload h d_Mod_setting_180 rfl ?_
        refine g_if_lt (tgt := 203) h d_Mod_setting_182 (by decide) (fun c_182 => ?_) (fun c_182 => ?_)
        · refine g_aload_n h d_Mod_setting_203 rfl rfl ?_
          refine gf_Mod_size h f_Mod_32 d_Mod_setting_204 ?_
          refine g_iload h d_Mod_setting_207 rfl ?_
          refine gi_size h rfl hn d_Mod_setting_209 ?_
          refine g_bipush (v := 6) h d_Mod_setting_210 (by decide) ?_
          refine g_icmp_ne (tgt := 221) h d_Mod_setting_212 (by decide) (fun c_212 => ?_) (fun c_212 => ?_)
          · refine g_aload_n h d_Mod_setting_221 rfl rfl ?_
            refine gf_Mod_keys h f_Mod_38 d_Mod_setting_222 ?_
            refine g_iload h d_Mod_setting_225 rfl ?_
            refine g_bipush (v := 6) h d_Mod_setting_227 (by decide) ?_
            refine g_imul h d_Mod_setting_229 ?_
            refine g_aload_n h d_Mod_setting_230 rfl rfl ?_
            refine gf_Mod_size h f_Mod_32 d_Mod_setting_231 ?_
            refine g_iload h d_Mod_setting_234 rfl ?_
            refine gi_size h rfl hn d_Mod_setting_236 ?_
            have hP6 : P < 6 := by
              rcases Nat.lt_or_ge P 6 with z | z
              · exact z
              · exact absurd (by rw [hp, show P = 6 by omega]; rfl) c_212
            rw [hp]
            refine g_iadd h d_Mod_setting_237 ?_
            refine g_lload_n h d_Mod_setting_238 rfl rfl ?_
            refine pj_keys h (nI_at6 n P) (by omega) d_Mod_setting_239 ?_
            refine g_aload_n h d_Mod_setting_240 rfl rfl ?_
            refine gf_Mod_values h f_Mod_41 d_Mod_setting_241 ?_
            refine g_iload h d_Mod_setting_244 rfl ?_
            refine g_bipush (v := 6) h d_Mod_setting_246 (by decide) ?_
            refine g_imul h d_Mod_setting_248 ?_
            refine g_aload_n h d_Mod_setting_249 rfl rfl ?_
            refine gf_Mod_size h f_Mod_32 d_Mod_setting_250 ?_
            refine g_iload h d_Mod_setting_253 rfl ?_
            refine gi_size h rfl hn d_Mod_setting_255 ?_
            simp only [sI_1, sI_2, sJ_1, sJ_2, sJ_3, sR_1, sR_2, sR_3, Nat.reduceEqDiff, Nat.zero_ne_one, Nat.one_ne_zero, Nat.succ_ne_zero, reduceCtorEq, false_and, if_false, true_and, and_self, if_true, and_true, and_false, reduceIte, hp]
            refine g_iadd h d_Mod_setting_256 ?_
            refine g_lload h d_Mod_setting_257 rfl ?_
            refine pj_values h (nI_at6 n P) (by omega) d_Mod_setting_259 ?_
            refine g_aload_n h d_Mod_setting_260 rfl rfl ?_
            refine gf_Mod_size h f_Mod_32 d_Mod_setting_261 ?_
            refine g_iload h d_Mod_setting_264 rfl ?_
            refine g_dup2 h d_Mod_setting_266 rfl rfl ?_
            refine gi_size h rfl hn d_Mod_setting_267 ?_
            simp only [sI_1, sI_2, sJ_1, sJ_2, sJ_3, sR_1, sR_2, sR_3, Nat.reduceEqDiff, Nat.zero_ne_one, Nat.one_ne_zero, Nat.succ_ne_zero, reduceCtorEq, false_and, if_false, true_and, and_self, if_true, and_true, and_false, reduceIte]
            refine g_iconst (v := 1) h d_Mod_setting_268 (by decide) ?_
            refine g_iadd h d_Mod_setting_269 ?_
            refine pi_size h rfl hn d_Mod_setting_270 ?_
            refine g_aload_n h d_Mod_setting_271 rfl rfl ?_
            refine g_iload h d_Mod_setting_272 rfl ?_
            refine g_dVv h tb_good (c_Mod_touch hn) (q := 0) (by decide) rfl rfl v_Mod_144 nm_Mod_touch rfl ⟨rfl, rfl, Nat.le_of_ble_eq_true rfl, Nat.le_of_ble_eq_true rfl, Nat.zero_le _, Nat.zero_le _⟩ rfl (Nat.le_of_ble_eq_true rfl) d_Mod_setting_274 ?_
            exact g_vret h r d_Mod_setting_277 (⟨rfl, by first | (simp [mset1, hf, c_79]; done) | (simp [mset1, hf, c_79, c_212]; done) | (have c6 := c_212; rw [hp] at c6; simp [mset1, hf, c_79, c6, hc, hp]; done)⟩)
          · refine g_aload_n h d_Mod_setting_215 rfl rfl ?_
            refine g_iconst (v := 2) h d_Mod_setting_216 (by decide) ?_
            refine pf_Mod_trouble h f_Mod_141 d_Mod_setting_217 ?_
            exact g_vret h r d_Mod_setting_220 (⟨rfl, by first | (simp [mset1, hf, c_79]; done) | (simp [mset1, hf, c_79, c_212]; done) | (have c6 := c_212; rw [hp] at c6; simp [mset1, hf, c_79, c6, hc, hp]; done)⟩)
        · exact absurd (by decide) c_182
      · refine g_iload h d_Mod_setting_82 rfl ?_
        refine g_if_ge (tgt := 88) h d_Mod_setting_84 (by decide) (fun c_84 => ?_) (fun c_84 => ?_)
        · exact absurd c_84 (by decide)
        · exact g_vret h r d_Mod_setting_87 (⟨rfl, by first | (simp [mset1, hf, c_79]; done) | (simp [mset1, hf, c_79, c_212]; done) | (have c6 := c_212; rw [hp] at c6; simp [mset1, hf, c_79, c6, hc, hp]; done)⟩)
    · have hq := mpair_lt hp hP hf
      refine g_istore h d_Mod_setting_71 rfl (by rw [hN]; decide) ?_
      refine g_lload h d_Mod_setting_73 rfl ?_
      refine g_ldc2 (v := -1000000000000) h d_Mod_setting_75 k_Mod_62 ?_
      refine g_lc_ne (tgt := 180) h d_Mod_setting_78 d_Mod_setting_79 (by decide) (fun c_79 => ?_) (fun c_79 => ?_)
      · refine g_iload h d_Mod_setting_180 rfl ?_
        refine g_if_lt (tgt := 203) h d_Mod_setting_182 (by decide) (fun c_182 => ?_) (fun c_182 => ?_)
        · exact absurd c_182 (nI_pos (by omega))
        · refine g_aload_n h d_Mod_setting_185 rfl rfl ?_
          refine gf_Mod_values h f_Mod_41 d_Mod_setting_186 ?_
          refine g_iload h d_Mod_setting_189 rfl ?_
          refine g_bipush (v := 6) h d_Mod_setting_191 (by decide) ?_
          refine g_imul h d_Mod_setting_193 ?_
          refine g_iload h d_Mod_setting_194 rfl ?_
          refine g_iadd h d_Mod_setting_196 ?_
          refine g_lload h d_Mod_setting_197 rfl ?_
          refine pj_values h (nI_at6 n q) (by omega) d_Mod_setting_199 ?_
          refine g_goto (tgt := 271) h d_Mod_setting_200 (by decide) ?_
          refine g_aload_n h d_Mod_setting_271 rfl rfl ?_
          refine g_iload h d_Mod_setting_272 rfl ?_
          refine g_dVv h tb_good (c_Mod_touch hn) (q := 0) (by decide) rfl rfl v_Mod_144 nm_Mod_touch rfl ⟨rfl, rfl, Nat.le_of_ble_eq_true rfl, Nat.le_of_ble_eq_true rfl, Nat.zero_le _, Nat.zero_le _⟩ rfl (Nat.le_of_ble_eq_true rfl) d_Mod_setting_274 ?_
          exact g_vret h r d_Mod_setting_277 (⟨rfl, by first | (simp [mset1, hf, c_79]; done) | (simp [mset1, hf, c_79, c_212]; done) | (have c6 := c_212; rw [hp] at c6; simp [mset1, hf, c_79, c6, hc, hp]; done)⟩)
      · refine g_iload h d_Mod_setting_82 rfl ?_
        refine g_if_ge (tgt := 88) h d_Mod_setting_84 (by decide) (fun c_84 => ?_) (fun c_84 => ?_)
        · refine g_aload_n h d_Mod_setting_88 rfl rfl ?_
          refine gf_Mod_size h f_Mod_32 d_Mod_setting_89 ?_
          refine g_iload h d_Mod_setting_92 rfl ?_
          refine g_dup2 h d_Mod_setting_94 rfl rfl ?_
          refine gi_size h rfl hn d_Mod_setting_95 ?_
          rw [hp]
          refine g_iconst (v := 1) h d_Mod_setting_96 (by decide) ?_
          refine g_isub h d_Mod_setting_97 ?_
          refine pi_size h rfl hn d_Mod_setting_98 ?_
          refine g_iload h d_Mod_setting_99 rfl ?_
          refine g_istore h d_Mod_setting_101 rfl (by rw [hN]; decide) ?_
          refine g_lessL (L' := [some (.ref (ad 0)), none, some (.long key), none, some (.long v), none, some (.int (nI n)), none, none, some (.int (nI q))]) (by simp [leL]) ?_
          refine loopS (P - 1 - q) q _ (by omega) ?_ ?_
          · simp only [sI_1, sI_2, sJ_1, sJ_2, sJ_3, sR_1, sR_2, sR_3, Nat.reduceEqDiff, Nat.zero_ne_one, Nat.one_ne_zero, Nat.succ_ne_zero, reduceCtorEq, false_and, if_false, true_and, and_self, if_true, and_true, and_false, reduceIte]
            rw [show P = (P - 1) + 1 by omega, nI_pred]
            rfl
          · simp [mset1, hf, c_79, hc, hp]
        · exact absurd (nI_pos' (by omega)) c_84
  have loop : ∀ (c k n : Nat), k + c = 5 → n < 16 → msetAt M key (c + 1) n = msetAt M key 5 n0 → G Γ 0 0 18 ad (mob ad u M) 20 [some (.ref (ad 0)), none, some (.long key), none, some (.long v), none, some (.int (nI n)), some (.int (nI k)), none, none] [] := by
    intro c
    induction c with
    | zero =>
      intro k n hk hn he
      obtain ⟨⟨P, hP, hp⟩, -⟩ := hok.1 n hn
      refine g_aload_n h d_Mod_setting_20 rfl rfl ?_
      refine g_iload h d_Mod_setting_21 rfl ?_
      refine g_lload_n h d_Mod_setting_23 rfl rfl ?_
      refine g_dVi h tb_good (c_Mod_pairOf hn hp hP) (q := 0) (by decide) rfl rfl v_Mod_131 nm_Mod_pairOf rfl ⟨rfl, rfl, Nat.le_of_ble_eq_true rfl, Nat.le_of_ble_eq_true rfl, Nat.zero_le _, Nat.zero_le _⟩ rfl (Nat.le_of_ble_eq_true rfl) d_Mod_setting_24 ?_
      rcases hf : mpair M n key with _ | q <;> simp only [enc]
      · refine g_if_ge (tgt := 64) h d_Mod_setting_27 (by decide) (fun c_27 => ?_) (fun c_27 => ?_)
        · exact absurd c_27 (by decide)
        · refine g_aload_n h d_Mod_setting_30 rfl rfl ?_
          refine g_iload h d_Mod_setting_31 rfl ?_
          refine g_lconst (v := 1) h d_Mod_setting_33 (by decide) ?_
          refine g_dVi h tb_good (c_Mod_next hok hn) (q := 0) (by decide) rfl rfl v_Mod_138 nm_Mod_next rfl ⟨rfl, rfl, Nat.le_of_ble_eq_true rfl, Nat.le_of_ble_eq_true rfl, Nat.zero_le _, Nat.zero_le _⟩ rfl (Nat.le_of_ble_eq_true rfl) d_Mod_setting_34 ?_
          rcases hx : mnext M n 1 with _ | m <;> simp only [enc]
          · refine g_if_lt (tgt := 64) h d_Mod_setting_37 (by decide) (fun c_37 => ?_) (fun c_37 => ?_)
            · exact one n hn (by rw [← he]; first | (simp [msetAt, hf]; done) | (simp [msetAt, hf, hx]; done)) _
            · exact absurd (by decide) c_37
          · have hm := mnext_lt hok hx
            refine g_if_lt (tgt := 64) h d_Mod_setting_37 (by decide) (fun c_37 => ?_) (fun c_37 => ?_)
            · exact absurd c_37 (nI_pos (by omega))
            · refine g_aload_n h d_Mod_setting_40 rfl rfl ?_
              refine g_iload h d_Mod_setting_41 rfl ?_
              refine g_lconst (v := 1) h d_Mod_setting_43 (by decide) ?_
              refine g_dVi h tb_good (c_Mod_next hok hn) (q := 0) (by decide) rfl rfl v_Mod_138 nm_Mod_next rfl ⟨rfl, rfl, Nat.le_of_ble_eq_true rfl, Nat.le_of_ble_eq_true rfl, Nat.zero_le _, Nat.zero_le _⟩ rfl (Nat.le_of_ble_eq_true rfl) d_Mod_setting_44 ?_
              rw [hx]
              simp only [enc]
              refine g_istore h d_Mod_setting_47 rfl (by rw [hN]; decide) ?_
              refine g_iinc (v := nI (k + 1)) h d_Mod_setting_49 rfl (by rw [nI_succ]; rfl) rfl (by rw [hN]; decide) ?_
              refine g_iload h d_Mod_setting_52 rfl ?_
              refine g_iconst (v := 5) h d_Mod_setting_54 (by decide) ?_
              refine g_icmp_le (tgt := 20) h d_Mod_setting_55 (by decide) (fun c_55 => ?_) (fun c_55 => ?_)
              · exact absurd c_55 (nI_ge (a := 5) (b := k + 1) (by omega) (by omega))
              · refine g_aload_n h d_Mod_setting_58 rfl rfl ?_
                refine g_iconst (v := 2) h d_Mod_setting_59 (by decide) ?_
                refine pf_Mod_trouble h f_Mod_141 d_Mod_setting_60 ?_
                exact g_vret h r d_Mod_setting_63 (⟨rfl, by simp [msetting, hkey, (show msetAt M key 5 n0 = none by rw [← he]; simp [msetAt, hf, hx])]⟩)
      · have hq := mpair_lt hp hP hf
        refine g_if_ge (tgt := 64) h d_Mod_setting_27 (by decide) (fun c_27 => ?_) (fun c_27 => ?_)
        · exact one n hn (by rw [← he]; first | (simp [msetAt, hf]; done) | (simp [msetAt, hf, hx]; done)) _
        · exact absurd (nI_pos' (by omega)) c_27
    | succ c ih =>
      intro k n hk hn he
      obtain ⟨⟨P, hP, hp⟩, -⟩ := hok.1 n hn
      refine g_aload_n h d_Mod_setting_20 rfl rfl ?_
      refine g_iload h d_Mod_setting_21 rfl ?_
      refine g_lload_n h d_Mod_setting_23 rfl rfl ?_
      refine g_dVi h tb_good (c_Mod_pairOf hn hp hP) (q := 0) (by decide) rfl rfl v_Mod_131 nm_Mod_pairOf rfl ⟨rfl, rfl, Nat.le_of_ble_eq_true rfl, Nat.le_of_ble_eq_true rfl, Nat.zero_le _, Nat.zero_le _⟩ rfl (Nat.le_of_ble_eq_true rfl) d_Mod_setting_24 ?_
      rcases hf : mpair M n key with _ | q <;> simp only [enc]
      · refine g_if_ge (tgt := 64) h d_Mod_setting_27 (by decide) (fun c_27 => ?_) (fun c_27 => ?_)
        · exact absurd c_27 (by decide)
        · refine g_aload_n h d_Mod_setting_30 rfl rfl ?_
          refine g_iload h d_Mod_setting_31 rfl ?_
          refine g_lconst (v := 1) h d_Mod_setting_33 (by decide) ?_
          refine g_dVi h tb_good (c_Mod_next hok hn) (q := 0) (by decide) rfl rfl v_Mod_138 nm_Mod_next rfl ⟨rfl, rfl, Nat.le_of_ble_eq_true rfl, Nat.le_of_ble_eq_true rfl, Nat.zero_le _, Nat.zero_le _⟩ rfl (Nat.le_of_ble_eq_true rfl) d_Mod_setting_34 ?_
          rcases hx : mnext M n 1 with _ | m <;> simp only [enc]
          · refine g_if_lt (tgt := 64) h d_Mod_setting_37 (by decide) (fun c_37 => ?_) (fun c_37 => ?_)
            · exact one n hn (by rw [← he]; first | (simp [msetAt, hf]; done) | (simp [msetAt, hf, hx]; done)) _
            · exact absurd (by decide) c_37
          · have hm := mnext_lt hok hx
            refine g_if_lt (tgt := 64) h d_Mod_setting_37 (by decide) (fun c_37 => ?_) (fun c_37 => ?_)
            · exact absurd c_37 (nI_pos (by omega))
            · refine g_aload_n h d_Mod_setting_40 rfl rfl ?_
              refine g_iload h d_Mod_setting_41 rfl ?_
              refine g_lconst (v := 1) h d_Mod_setting_43 (by decide) ?_
              refine g_dVi h tb_good (c_Mod_next hok hn) (q := 0) (by decide) rfl rfl v_Mod_138 nm_Mod_next rfl ⟨rfl, rfl, Nat.le_of_ble_eq_true rfl, Nat.le_of_ble_eq_true rfl, Nat.zero_le _, Nat.zero_le _⟩ rfl (Nat.le_of_ble_eq_true rfl) d_Mod_setting_44 ?_
              rw [hx]
              simp only [enc]
              refine g_istore h d_Mod_setting_47 rfl (by rw [hN]; decide) ?_
              refine g_iinc (v := nI (k + 1)) h d_Mod_setting_49 rfl (by rw [nI_succ]; rfl) rfl (by rw [hN]; decide) ?_
              refine g_iload h d_Mod_setting_52 rfl ?_
              refine g_iconst (v := 5) h d_Mod_setting_54 (by decide) ?_
              refine g_icmp_le (tgt := 20) h d_Mod_setting_55 (by decide) (fun c_55 => ?_) (fun c_55 => ?_)
              · exact ih (k + 1) m (by omega) hm (by rw [← he]; simp [msetAt, hf, hx])
              · exact absurd (nI_le (a := k + 1) (b := 5) (by omega) (by decide)) c_55
      · have hq := mpair_lt hp hP hf
        refine g_if_ge (tgt := 64) h d_Mod_setting_27 (by decide) (fun c_27 => ?_) (fun c_27 => ?_)
        · exact one n hn (by rw [← he]; first | (simp [msetAt, hf]; done) | (simp [msetAt, hf, hx]; done)) _
        · exact absurd (nI_pos' (by omega)) c_27
  refine g_at (L' := [some (.ref (ad 0)), some (.int (nI n0)), some (.long key), none, some (.long v), none, none, none, none, none]) rfl rfl rfl ?_
  refine g_lload_n h d_Mod_setting_0 rfl rfl ?_
  refine g_ldc2 (v := -1000000000000) h d_Mod_setting_1 k_Mod_62 ?_
  refine g_lc_ne (tgt := 14) h d_Mod_setting_4 d_Mod_setting_5 (by decide) (fun c_5 => ?_) (fun c_5 => ?_)
  · refine g_iload_n h d_Mod_setting_14 rfl rfl ?_
    refine g_istore h d_Mod_setting_15 rfl (by rw [hN]; decide) ?_
    refine g_iconst (v := 1) h d_Mod_setting_17 (by decide) ?_
    refine g_istore h d_Mod_setting_18 rfl (by rw [hN]; decide) ?_
    refine g_lessL (L' := [some (.ref (ad 0)), none, some (.long key), none, some (.long v), none, some (.int (nI n0)), some (.int (nI 1)), none, none]) (by simp [leL]; first | done | rfl) ?_
    exact loop 4 1 n0 (by omega) hn0 rfl
  · exact absurd c_5 hkey
