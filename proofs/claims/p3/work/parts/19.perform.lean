set_option maxHeartbeats 4000000 in
set_option maxRecDepth 100000 in
theorem c_Pro_perform {l : Launch} {D : va_G} {t : Nat → ClassId} {ad : Nat → Nat} {C : CS} {n k o d : Nat} (hok : okC C) (hn : n < 16) (hk : k < 68) (hop : C.1 9 k = nI o) (ho : o ≤ 21) (hd5 : d < 5) (hd : C.1 19 0 = nI (d + 1)) (hact : ∀ i, i < d + 1 → ∃ n, n < 16 ∧ C.2.2 i = some n) : Cd l D t ad y_Pro_perform b_Pro_perform 7 (some .int) { frames := 5, cells := 0, slots := 0, locals := 127 } [.ref (ad (ix 10 0)), .ref (ad (ix 8 n)), .ref (ad (ix 13 k))] (C) (some (.int (cperfO C n k o).1)) ((cperfO C n k o).2) := by
  refine ct_of (by decide) (Nat.le_of_ble_eq_true rfl) ?_
  intro Γ _ _ hN h r
  have hok1 : okC (cbeg C n) := okC_beg hok
  refine g_at (L' := [some (.ref (ad (ix 10 0))), some (.ref (ad (ix 8 n))), some (.ref (ad (ix 13 k))), none, none, none, none]) rfl rfl rfl ?_
  refine g_aload_n h d_Pro_perform_0 rfl rfl ?_
  refine gf_Ins_op h f_Pro_102 (by first | assumption | omega | (show _ < 16; omega) | (show _ < 68; omega)) d_Pro_perform_1 ?_
  rw [hop]
  refine g_iconst (v := -1) h d_Pro_perform_4 (by decide) ?_
  refine g_icmp_ne (tgt := 10) h d_Pro_perform_5 (by decide) (fun c_5 => ?_) (fun c_5 => ?_)
  · refine g_aload_n h d_Pro_perform_10 rfl rfl ?_
    refine g_dup h d_Pro_perform_11 rfl ?_
    refine gf_Pro_begun h f_Pro_27 d_Pro_perform_12 ?_
    skip
    refine g_iconst (v := 1) h d_Pro_perform_15 (by decide) ?_
    refine g_iadd h d_Pro_perform_16 ?_
    refine pf_Pro_begun h f_Pro_27 d_Pro_perform_17 ?_
    refine g_aload_n h d_Pro_perform_20 rfl rfl ?_
    refine g_aload_n h d_Pro_perform_21 rfl rfl ?_
    refine gf_Cor_place h f_Pro_51 (by first | assumption | omega | (show _ < 16; omega) | (show _ < 68; omega)) d_Pro_perform_22 ?_
    simp only [sI_1, sI_2, sJ_1, sJ_2, sJ_3, sR_1, sR_2, sR_3, Nat.reduceEqDiff, Nat.zero_ne_one, Nat.one_ne_zero, Nat.succ_ne_zero, reduceCtorEq, false_and, if_false, true_and, and_self, if_true, and_true, and_false, reduceIte]
    refine g_iconst (v := 1) h d_Pro_perform_25 (by decide) ?_
    refine g_iadd h d_Pro_perform_26 ?_
    refine pf_Pro_nextPlace h f_Pro_30 d_Pro_perform_27 ?_
    show G Γ 0 0 171 ad (wc ad t (cbeg C n)) 30 _ _
    refine g_aload_n h d_Pro_perform_30 rfl rfl ?_
    refine gf_Cor_registers h f_Pro_88 (by first | assumption | omega | (show _ < 16; omega) | (show _ < 68; omega)) d_Pro_perform_31 ?_
    refine g_astore_n h d_Pro_perform_34 rfl rfl (by rw [hN]; decide) ?_
    refine g_aload_n h d_Pro_perform_35 rfl rfl ?_
    refine gf_Ins_a h f_Pro_105 (by first | assumption | omega | (show _ < 16; omega) | (show _ < 68; omega)) d_Pro_perform_36 ?_
    rw [show (cbeg C n).1 10 k = C.1 10 k from rfl]
    refine g_iconst (v := 4) h d_Pro_perform_39 (by decide) ?_
    refine g_dSi h tb_good (c_Math_floorMod (m := 4) (by omega)) v_Pro_108 nm_Math_floorMod rfl ⟨rfl, rfl, Nat.le_of_ble_eq_true rfl, Nat.le_of_ble_eq_true rfl, Nat.zero_le _, Nat.zero_le _⟩ rfl (Nat.le_of_ble_eq_true rfl) d_Pro_perform_40 ?_
    refine g_istore h d_Pro_perform_43 rfl (by rw [hN]; decide) ?_
    refine g_aload_n h d_Pro_perform_45 rfl rfl ?_
    refine gf_Ins_b h f_Pro_114 (by first | assumption | omega | (show _ < 16; omega) | (show _ < 68; omega)) d_Pro_perform_46 ?_
    rw [show (cbeg C n).1 11 k = C.1 11 k from rfl]
    refine g_iconst (v := 4) h d_Pro_perform_49 (by decide) ?_
    refine g_dSi h tb_good (c_Math_floorMod (m := 4) (by omega)) v_Pro_108 nm_Math_floorMod rfl ⟨rfl, rfl, Nat.le_of_ble_eq_true rfl, Nat.le_of_ble_eq_true rfl, Nat.zero_le _, Nat.zero_le _⟩ rfl (Nat.le_of_ble_eq_true rfl) d_Pro_perform_50 ?_
    refine g_istore h d_Pro_perform_53 rfl (by rw [hN]; decide) ?_
    refine g_aload_n h d_Pro_perform_55 rfl rfl ?_
    refine gf_Ins_c h f_Pro_117 (by first | assumption | omega | (show _ < 16; omega) | (show _ < 68; omega)) d_Pro_perform_56 ?_
    rw [show (cbeg C n).1 12 k = C.1 12 k from rfl]
    refine g_iconst (v := 4) h d_Pro_perform_59 (by decide) ?_
    refine g_dSi h tb_good (c_Math_floorMod (m := 4) (by omega)) v_Pro_108 nm_Math_floorMod rfl ⟨rfl, rfl, Nat.le_of_ble_eq_true rfl, Nat.le_of_ble_eq_true rfl, Nat.zero_le _, Nat.zero_le _⟩ rfl (Nat.le_of_ble_eq_true rfl) d_Pro_perform_60 ?_
    refine g_istore h d_Pro_perform_63 rfl (by rw [hN]; decide) ?_
    refine g_aload_n h d_Pro_perform_65 rfl rfl ?_
    refine gf_Ins_op h f_Pro_102 (by first | assumption | omega | (show _ < 16; omega) | (show _ < 68; omega)) d_Pro_perform_66 ?_
    rw [show (cbeg C n).1 9 k = C.1 9 k from rfl, hop]
    have hcs : o = 0 ∨ o = 1 ∨ o = 2 ∨ o = 3 ∨ o = 4 ∨ o = 5 ∨ o = 6 ∨ o = 7 ∨ o = 8 ∨ o = 9 ∨ o = 10 ∨ o = 11 ∨ o = 12 ∨ o = 13 ∨ o = 14 ∨ o = 15 ∨ o = 16 ∨ o = 17 ∨ o = 18 ∨ o = 19 ∨ o = 20 ∨ o = 21 := by omega
    rcases hcs with rfl | rfl | rfl | rfl | rfl | rfl | rfl | rfl | rfl | rfl | rfl | rfl | rfl | rfl | rfl | rfl | rfl | rfl | rfl | rfl | rfl | rfl
    · refine g_tableIn (off := 103) (tgt := 172) h d_Pro_perform_69 (by decide) (by decide) (by decide) (by decide) ?_
      refine g_aload_n h d_Pro_perform_172 rfl rfl ?_
      refine g_iload h d_Pro_perform_173 rfl ?_
      refine g_ldc2 (v := -1000000000000) h d_Pro_perform_175 k_Pro_33 ?_
      refine pa_regs h hn rfl (fmod_lt _ (by decide)) d_Pro_perform_178 ?_
      refine g_iconst (v := 0) h d_Pro_perform_179 (by decide) ?_
      exact g_iret h r d_Pro_perform_180 (⟨rfl, rfl⟩)
    · refine g_tableIn (off := 112) (tgt := 181) h d_Pro_perform_69 (by decide) (by decide) (by decide) (by decide) ?_
      refine g_aload_n h d_Pro_perform_181 rfl rfl ?_
      refine g_iload h d_Pro_perform_182 rfl ?_
      refine g_aload_n h d_Pro_perform_184 rfl rfl ?_
      refine gf_Ins_c h f_Pro_117 (by first | assumption | omega | (show _ < 16; omega) | (show _ < 68; omega)) d_Pro_perform_185 ?_
      refine g_i2l h d_Pro_perform_188 ?_
      refine pa_regs h hn rfl (fmod_lt _ (by decide)) d_Pro_perform_189 ?_
      refine g_iconst (v := 0) h d_Pro_perform_190 (by decide) ?_
      exact g_iret h r d_Pro_perform_191 (⟨rfl, rfl⟩)
    · refine g_tableIn (off := 123) (tgt := 192) h d_Pro_perform_69 (by decide) (by decide) (by decide) (by decide) ?_
      refine g_aload_n h d_Pro_perform_192 rfl rfl ?_
      refine g_iload h d_Pro_perform_193 rfl ?_
      refine g_aload_n h d_Pro_perform_195 rfl rfl ?_
      refine g_iload h d_Pro_perform_196 rfl ?_
      refine ga_regs h hn rfl (fmod_lt _ (by decide)) d_Pro_perform_198 ?_
      refine pa_regs h hn rfl (fmod_lt _ (by decide)) d_Pro_perform_199 ?_
      refine g_iconst (v := 0) h d_Pro_perform_200 (by decide) ?_
      exact g_iret h r d_Pro_perform_201 (⟨rfl, rfl⟩)
    · refine g_tableIn (off := 133) (tgt := 202) h d_Pro_perform_69 (by decide) (by decide) (by decide) (by decide) ?_
      refine g_aload_n h d_Pro_perform_202 rfl rfl ?_
      refine g_iload h d_Pro_perform_203 rfl ?_
      refine g_aload_n h d_Pro_perform_205 rfl rfl ?_
      refine gf_Pro_heap h f_Pro_39 d_Pro_perform_206 ?_
      refine gf_Heap_globals h f_Pro_120 d_Pro_perform_209 ?_
      refine g_aload_n h d_Pro_perform_212 rfl rfl ?_
      refine gf_Ins_c h f_Pro_117 (by first | assumption | omega | (show _ < 16; omega) | (show _ < 68; omega)) d_Pro_perform_213 ?_
      refine g_bipush (v := 6) h d_Pro_perform_216 (by decide) ?_
      refine g_dSi h tb_good (c_Math_floorMod (m := 6) (by omega)) v_Pro_108 nm_Math_floorMod rfl ⟨rfl, rfl, Nat.le_of_ble_eq_true rfl, Nat.le_of_ble_eq_true rfl, Nat.zero_le _, Nat.zero_le _⟩ rfl (Nat.le_of_ble_eq_true rfl) d_Pro_perform_218 ?_
      refine ga_glo h rfl (fmod_lt _ (by decide)) d_Pro_perform_221 ?_
      refine pa_regs h hn rfl (fmod_lt _ (by decide)) d_Pro_perform_222 ?_
      refine g_iconst (v := 0) h d_Pro_perform_223 (by decide) ?_
      exact g_iret h r d_Pro_perform_224 (⟨rfl, rfl⟩)
    · refine g_tableIn (off := 156) (tgt := 225) h d_Pro_perform_69 (by decide) (by decide) (by decide) (by decide) ?_
      refine g_aload_n h d_Pro_perform_225 rfl rfl ?_
      refine gf_Pro_heap h f_Pro_39 d_Pro_perform_226 ?_
      refine gf_Heap_globals h f_Pro_120 d_Pro_perform_229 ?_
      refine g_aload_n h d_Pro_perform_232 rfl rfl ?_
      refine gf_Ins_c h f_Pro_117 (by first | assumption | omega | (show _ < 16; omega) | (show _ < 68; omega)) d_Pro_perform_233 ?_
      refine g_bipush (v := 6) h d_Pro_perform_236 (by decide) ?_
      refine g_dSi h tb_good (c_Math_floorMod (m := 6) (by omega)) v_Pro_108 nm_Math_floorMod rfl ⟨rfl, rfl, Nat.le_of_ble_eq_true rfl, Nat.le_of_ble_eq_true rfl, Nat.zero_le _, Nat.zero_le _⟩ rfl (Nat.le_of_ble_eq_true rfl) d_Pro_perform_238 ?_
      refine g_aload_n h d_Pro_perform_241 rfl rfl ?_
      refine g_iload h d_Pro_perform_242 rfl ?_
      refine ga_regs h hn rfl (fmod_lt _ (by decide)) d_Pro_perform_244 ?_
      refine pa_glo h rfl (fmod_lt _ (by decide)) d_Pro_perform_245 ?_
      refine g_iconst (v := 0) h d_Pro_perform_246 (by decide) ?_
      exact g_iret h r d_Pro_perform_247 (⟨rfl, rfl⟩)
    · refine g_tableIn (off := 179) (tgt := 248) h d_Pro_perform_69 (by decide) (by decide) (by decide) (by decide) ?_
      refine g_aload_n h d_Pro_perform_248 rfl rfl ?_
      refine g_aload_n h d_Pro_perform_249 rfl rfl ?_
      refine g_iload h d_Pro_perform_250 rfl ?_
      refine g_aload_n h d_Pro_perform_252 rfl rfl ?_
      refine gf_Pro_heap h f_Pro_39 d_Pro_perform_253 ?_
      refine g_iconst (v := 1) h d_Pro_perform_256 (by decide) ?_
      refine g_iconst (v := 0) h d_Pro_perform_257 (by decide) ?_
      refine g_dVi h tb_good (c_Heap_create (C := (cbeg C n)) hok1) (ix_lt 1 (by decide) _ (by decide)) (wc_at (by decide) (by decide)) rfl v_Pro_123 nm_Heap_create rfl ⟨rfl, rfl, Nat.le_of_ble_eq_true rfl, Nat.le_of_ble_eq_true rfl, Nat.zero_le _, Nat.zero_le _⟩ rfl (Nat.le_of_ble_eq_true rfl) d_Pro_perform_258 ?_
      refine g_dVi h tb_good (c_Pro_keepFound hn (fmod_lt _ (by decide))) (ix_lt 10 (by decide) _ (by decide)) (wc_at (by decide) (by decide)) rfl v_Pro_126 nm_Pro_keepFound rfl ⟨rfl, rfl, Nat.le_of_ble_eq_true rfl, Nat.le_of_ble_eq_true rfl, Nat.zero_le _, Nat.zero_le _⟩ rfl (Nat.le_of_ble_eq_true rfl) d_Pro_perform_261 ?_
      exact g_iret h r d_Pro_perform_264 (⟨rfl, rfl⟩)
    · refine g_tableIn (off := 196) (tgt := 265) h d_Pro_perform_69 (by decide) (by decide) (by decide) (by decide) ?_
      refine g_aload_n h d_Pro_perform_265 rfl rfl ?_
      refine g_aload_n h d_Pro_perform_266 rfl rfl ?_
      refine g_iload h d_Pro_perform_267 rfl ?_
      refine g_aload_n h d_Pro_perform_269 rfl rfl ?_
      refine gf_Pro_heap h f_Pro_39 d_Pro_perform_270 ?_
      refine g_aload_n h d_Pro_perform_273 rfl rfl ?_
      refine g_iload h d_Pro_perform_274 rfl ?_
      refine ga_regs h hn rfl (fmod_lt _ (by decide)) d_Pro_perform_276 ?_
      refine g_aload_n h d_Pro_perform_277 rfl rfl ?_
      refine g_iload h d_Pro_perform_278 rfl ?_
      refine ga_regs h hn rfl (fmod_lt _ (by decide)) d_Pro_perform_280 ?_
      refine g_dVi h tb_good (c_Heap_getting (C := (cbeg C n)) (tb := (C.2.1 3 n (fmod (C.1 11 k) 4))) (k := (C.2.1 3 n (fmod (C.1 12 k) 4))) hok1 (hok.2.1 _ _ _)) (ix_lt 1 (by decide) _ (by decide)) (wc_at (by decide) (by decide)) rfl v_Pro_130 nm_Heap_getting rfl ⟨rfl, rfl, Nat.le_of_ble_eq_true rfl, Nat.le_of_ble_eq_true rfl, Nat.zero_le _, Nat.zero_le _⟩ rfl (Nat.le_of_ble_eq_true rfl) d_Pro_perform_281 ?_
      refine g_dVi h tb_good (c_Pro_keepFound hn (fmod_lt _ (by decide))) (ix_lt 10 (by decide) _ (by decide)) (wc_at (by decide) (by decide)) rfl v_Pro_126 nm_Pro_keepFound rfl ⟨rfl, rfl, Nat.le_of_ble_eq_true rfl, Nat.le_of_ble_eq_true rfl, Nat.zero_le _, Nat.zero_le _⟩ rfl (Nat.le_of_ble_eq_true rfl) d_Pro_perform_284 ?_
      exact g_iret h r d_Pro_perform_287 (⟨rfl, rfl⟩)
    · refine g_tableIn (off := 219) (tgt := 288) h d_Pro_perform_69 (by decide) (by decide) (by decide) (by decide) ?_
      refine g_aload_n h d_Pro_perform_288 rfl rfl ?_
      refine gf_Pro_heap h f_Pro_39 d_Pro_perform_289 ?_
      refine g_aload_n h d_Pro_perform_292 rfl rfl ?_
      refine g_iload h d_Pro_perform_293 rfl ?_
      refine ga_regs h hn rfl (fmod_lt _ (by decide)) d_Pro_perform_295 ?_
      refine g_aload_n h d_Pro_perform_296 rfl rfl ?_
      refine g_iload h d_Pro_perform_297 rfl ?_
      refine ga_regs h hn rfl (fmod_lt _ (by decide)) d_Pro_perform_299 ?_
      refine g_aload_n h d_Pro_perform_300 rfl rfl ?_
      refine g_iload h d_Pro_perform_301 rfl ?_
      refine ga_regs h hn rfl (fmod_lt _ (by decide)) d_Pro_perform_303 ?_
      refine g_dVi h tb_good (c_Heap_setting (C := (cbeg C n)) (tb := (C.2.1 3 n (fmod (C.1 10 k) 4))) (k := (C.2.1 3 n (fmod (C.1 11 k) 4))) (v := (C.2.1 3 n (fmod (C.1 12 k) 4))) hok1 (hok.2.1 _ _ _)) (ix_lt 1 (by decide) _ (by decide)) (wc_at (by decide) (by decide)) rfl v_Pro_133 nm_Heap_setting rfl ⟨rfl, rfl, Nat.le_of_ble_eq_true rfl, Nat.le_of_ble_eq_true rfl, Nat.zero_le _, Nat.zero_le _⟩ rfl (Nat.le_of_ble_eq_true rfl) d_Pro_perform_304 ?_
      exact g_iret h r d_Pro_perform_307 (⟨rfl, rfl⟩)
    · refine g_tableIn (off := 239) (tgt := 308) h d_Pro_perform_69 (by decide) (by decide) (by decide) (by decide) ?_
      refine g_aload_n h d_Pro_perform_308 rfl rfl ?_
      refine gf_Ins_op h f_Pro_102 (by first | assumption | omega | (show _ < 16; omega) | (show _ < 68; omega)) d_Pro_perform_309 ?_
      rw [show (cbeg C n).1 9 k = C.1 9 k from rfl, hop]
      refine g_aload_n h d_Pro_perform_312 rfl rfl ?_
      refine g_iload h d_Pro_perform_313 rfl ?_
      refine g_aload_n h d_Pro_perform_315 rfl rfl ?_
      refine g_iload h d_Pro_perform_316 rfl ?_
      refine ga_regs h hn rfl (fmod_lt _ (by decide)) d_Pro_perform_318 ?_
      refine g_aload_n h d_Pro_perform_319 rfl rfl ?_
      refine g_iload h d_Pro_perform_320 rfl ?_
      refine ga_regs h hn rfl (fmod_lt _ (by decide)) d_Pro_perform_322 ?_
      refine g_dSi h tb_good (c_Pro_calculate (C := (cbeg C n)) (x := (C.2.1 3 n (fmod (C.1 11 k) 4))) (y := (C.2.1 3 n (fmod (C.1 12 k) 4))) hn (fmod_lt _ (by decide))) v_Pro_137 nm_Pro_calculate rfl ⟨rfl, rfl, Nat.le_of_ble_eq_true rfl, Nat.le_of_ble_eq_true rfl, Nat.zero_le _, Nat.zero_le _⟩ rfl (Nat.le_of_ble_eq_true rfl) d_Pro_perform_323 ?_
      exact g_iret h r d_Pro_perform_326 (⟨rfl, rfl⟩)
    · refine g_tableIn (off := 239) (tgt := 308) h d_Pro_perform_69 (by decide) (by decide) (by decide) (by decide) ?_
      refine g_aload_n h d_Pro_perform_308 rfl rfl ?_
      refine gf_Ins_op h f_Pro_102 (by first | assumption | omega | (show _ < 16; omega) | (show _ < 68; omega)) d_Pro_perform_309 ?_
      rw [show (cbeg C n).1 9 k = C.1 9 k from rfl, hop]
      refine g_aload_n h d_Pro_perform_312 rfl rfl ?_
      refine g_iload h d_Pro_perform_313 rfl ?_
      refine g_aload_n h d_Pro_perform_315 rfl rfl ?_
      refine g_iload h d_Pro_perform_316 rfl ?_
      refine ga_regs h hn rfl (fmod_lt _ (by decide)) d_Pro_perform_318 ?_
      refine g_aload_n h d_Pro_perform_319 rfl rfl ?_
      refine g_iload h d_Pro_perform_320 rfl ?_
      refine ga_regs h hn rfl (fmod_lt _ (by decide)) d_Pro_perform_322 ?_
      refine g_dSi h tb_good (c_Pro_calculate (C := (cbeg C n)) (x := (C.2.1 3 n (fmod (C.1 11 k) 4))) (y := (C.2.1 3 n (fmod (C.1 12 k) 4))) hn (fmod_lt _ (by decide))) v_Pro_137 nm_Pro_calculate rfl ⟨rfl, rfl, Nat.le_of_ble_eq_true rfl, Nat.le_of_ble_eq_true rfl, Nat.zero_le _, Nat.zero_le _⟩ rfl (Nat.le_of_ble_eq_true rfl) d_Pro_perform_323 ?_
      exact g_iret h r d_Pro_perform_326 (⟨rfl, rfl⟩)
    · refine g_tableIn (off := 239) (tgt := 308) h d_Pro_perform_69 (by decide) (by decide) (by decide) (by decide) ?_
      refine g_aload_n h d_Pro_perform_308 rfl rfl ?_
      refine gf_Ins_op h f_Pro_102 (by first | assumption | omega | (show _ < 16; omega) | (show _ < 68; omega)) d_Pro_perform_309 ?_
      rw [show (cbeg C n).1 9 k = C.1 9 k from rfl, hop]
      refine g_aload_n h d_Pro_perform_312 rfl rfl ?_
      refine g_iload h d_Pro_perform_313 rfl ?_
      refine g_aload_n h d_Pro_perform_315 rfl rfl ?_
      refine g_iload h d_Pro_perform_316 rfl ?_
      refine ga_regs h hn rfl (fmod_lt _ (by decide)) d_Pro_perform_318 ?_
      refine g_aload_n h d_Pro_perform_319 rfl rfl ?_
      refine g_iload h d_Pro_perform_320 rfl ?_
      refine ga_regs h hn rfl (fmod_lt _ (by decide)) d_Pro_perform_322 ?_
      refine g_dSi h tb_good (c_Pro_calculate (C := (cbeg C n)) (x := (C.2.1 3 n (fmod (C.1 11 k) 4))) (y := (C.2.1 3 n (fmod (C.1 12 k) 4))) hn (fmod_lt _ (by decide))) v_Pro_137 nm_Pro_calculate rfl ⟨rfl, rfl, Nat.le_of_ble_eq_true rfl, Nat.le_of_ble_eq_true rfl, Nat.zero_le _, Nat.zero_le _⟩ rfl (Nat.le_of_ble_eq_true rfl) d_Pro_perform_323 ?_
      exact g_iret h r d_Pro_perform_326 (⟨rfl, rfl⟩)
    · refine g_tableIn (off := 258) (tgt := 327) h d_Pro_perform_69 (by decide) (by decide) (by decide) (by decide) ?_
      refine g_aload_n h d_Pro_perform_327 rfl rfl ?_
      refine g_aload_n h d_Pro_perform_328 rfl rfl ?_
      refine g_iload h d_Pro_perform_329 rfl ?_
      refine ga_regs h hn rfl (fmod_lt _ (by decide)) d_Pro_perform_331 ?_
      refine g_aload_n h d_Pro_perform_332 rfl rfl ?_
      refine g_iload h d_Pro_perform_333 rfl ?_
      refine ga_regs h hn rfl (fmod_lt _ (by decide)) d_Pro_perform_335 ?_
      refine g_aload_n h d_Pro_perform_336 rfl rfl ?_
      refine gf_Ins_c h f_Pro_117 (by first | assumption | omega | (show _ < 16; omega) | (show _ < 68; omega)) d_Pro_perform_337 ?_
      refine g_dVi h tb_good (c_Pro_jumpIfBelow (C := (cbeg C n))) (ix_lt 10 (by decide) _ (by decide)) (wc_at (by decide) (by decide)) rfl v_Pro_141 nm_Pro_jumpIfBelow rfl ⟨rfl, rfl, Nat.le_of_ble_eq_true rfl, Nat.le_of_ble_eq_true rfl, Nat.zero_le _, Nat.zero_le _⟩ rfl (Nat.le_of_ble_eq_true rfl) d_Pro_perform_340 ?_
      exact g_iret h r d_Pro_perform_343 (⟨rfl, rfl⟩)
    · refine g_tableIn (off := 275) (tgt := 344) h d_Pro_perform_69 (by decide) (by decide) (by decide) (by decide) ?_
      refine g_aload_n h d_Pro_perform_344 rfl rfl ?_
      refine g_iconst (v := 1) h d_Pro_perform_345 (by decide) ?_
      refine g_aload_n h d_Pro_perform_346 rfl rfl ?_
      refine gf_Ins_c h f_Pro_117 (by first | assumption | omega | (show _ < 16; omega) | (show _ < 68; omega)) d_Pro_perform_347 ?_
      refine g_dVi h tb_good (c_Pro_jumpIf (C := (cbeg C n))) (ix_lt 10 (by decide) _ (by decide)) (wc_at (by decide) (by decide)) rfl v_Pro_145 nm_Pro_jumpIf rfl ⟨rfl, rfl, Nat.le_of_ble_eq_true rfl, Nat.le_of_ble_eq_true rfl, Nat.zero_le _, Nat.zero_le _⟩ rfl (Nat.le_of_ble_eq_true rfl) d_Pro_perform_350 ?_
      exact g_iret h r d_Pro_perform_353 (⟨rfl, rfl⟩)
    · refine g_tableIn (off := 285) (tgt := 354) h d_Pro_perform_69 (by decide) (by decide) (by decide) (by decide) ?_
      refine g_aload_n h d_Pro_perform_354 rfl rfl ?_
      refine g_aload_n h d_Pro_perform_355 rfl rfl ?_
      refine g_iload h d_Pro_perform_356 rfl ?_
      refine ga_regs h hn rfl (fmod_lt _ (by decide)) d_Pro_perform_358 ?_
      refine g_ldc2 (v := -1000000000000) h d_Pro_perform_359 k_Pro_33 ?_
      refine g_lc_ne (tgt := 370) h d_Pro_perform_362 d_Pro_perform_363 (by decide) (fun c_363 => ?_) (fun c_363 => ?_)
      · refine g_iconst (v := 0) h d_Pro_perform_370 (by decide) ?_
        refine g_aload_n h d_Pro_perform_371 rfl rfl ?_
        refine gf_Ins_c h f_Pro_117 (by first | assumption | omega | (show _ < 16; omega) | (show _ < 68; omega)) d_Pro_perform_372 ?_
        refine g_dVi h tb_good (c_Pro_jumpIf (C := (cbeg C n))) (ix_lt 10 (by decide) _ (by decide)) (wc_at (by decide) (by decide)) rfl v_Pro_145 nm_Pro_jumpIf rfl ⟨rfl, rfl, Nat.le_of_ble_eq_true rfl, Nat.le_of_ble_eq_true rfl, Nat.zero_le _, Nat.zero_le _⟩ rfl (Nat.le_of_ble_eq_true rfl) d_Pro_perform_375 ?_
        exact g_iret h r d_Pro_perform_378 (⟨rfl, by first | exact congrArg (wc ad t) (if_neg c_363).symm | exact congrArg (wc ad t) (if_pos c_363).symm⟩)
      · refine g_iconst (v := 1) h d_Pro_perform_366 (by decide) ?_
        refine g_goto (tgt := 371) h d_Pro_perform_367 (by decide) ?_
        refine g_aload_n h d_Pro_perform_371 rfl rfl ?_
        refine gf_Ins_c h f_Pro_117 (by first | assumption | omega | (show _ < 16; omega) | (show _ < 68; omega)) d_Pro_perform_372 ?_
        refine g_dVi h tb_good (c_Pro_jumpIf (C := (cbeg C n))) (ix_lt 10 (by decide) _ (by decide)) (wc_at (by decide) (by decide)) rfl v_Pro_145 nm_Pro_jumpIf rfl ⟨rfl, rfl, Nat.le_of_ble_eq_true rfl, Nat.le_of_ble_eq_true rfl, Nat.zero_le _, Nat.zero_le _⟩ rfl (Nat.le_of_ble_eq_true rfl) d_Pro_perform_375 ?_
        exact g_iret h r d_Pro_perform_378 (⟨rfl, by first | exact congrArg (wc ad t) (if_neg c_363).symm | exact congrArg (wc ad t) (if_pos c_363).symm⟩)
    · refine g_tableIn (off := 310) (tgt := 379) h d_Pro_perform_69 (by decide) (by decide) (by decide) (by decide) ?_
      refine g_aload_n h d_Pro_perform_379 rfl rfl ?_
      refine g_aload_n h d_Pro_perform_380 rfl rfl ?_
      refine g_iload h d_Pro_perform_381 rfl ?_
      refine ga_regs h hn rfl (fmod_lt _ (by decide)) d_Pro_perform_383 ?_
      refine g_aload_n h d_Pro_perform_384 rfl rfl ?_
      refine g_iload h d_Pro_perform_385 rfl ?_
      refine ga_regs h hn rfl (fmod_lt _ (by decide)) d_Pro_perform_387 ?_
      refine g_lc_ne (tgt := 396) h d_Pro_perform_388 d_Pro_perform_389 (by decide) (fun c_389 => ?_) (fun c_389 => ?_)
      · refine g_iconst (v := 0) h d_Pro_perform_396 (by decide) ?_
        refine g_aload_n h d_Pro_perform_397 rfl rfl ?_
        refine gf_Ins_c h f_Pro_117 (by first | assumption | omega | (show _ < 16; omega) | (show _ < 68; omega)) d_Pro_perform_398 ?_
        refine g_dVi h tb_good (c_Pro_jumpIf (C := (cbeg C n))) (ix_lt 10 (by decide) _ (by decide)) (wc_at (by decide) (by decide)) rfl v_Pro_145 nm_Pro_jumpIf rfl ⟨rfl, rfl, Nat.le_of_ble_eq_true rfl, Nat.le_of_ble_eq_true rfl, Nat.zero_le _, Nat.zero_le _⟩ rfl (Nat.le_of_ble_eq_true rfl) d_Pro_perform_401 ?_
        exact g_iret h r d_Pro_perform_404 (⟨rfl, by first | exact congrArg (wc ad t) (if_neg c_389).symm | exact congrArg (wc ad t) (if_pos c_389).symm⟩)
      · refine g_iconst (v := 1) h d_Pro_perform_392 (by decide) ?_
        refine g_goto (tgt := 397) h d_Pro_perform_393 (by decide) ?_
        refine g_aload_n h d_Pro_perform_397 rfl rfl ?_
        refine gf_Ins_c h f_Pro_117 (by first | assumption | omega | (show _ < 16; omega) | (show _ < 68; omega)) d_Pro_perform_398 ?_
        refine g_dVi h tb_good (c_Pro_jumpIf (C := (cbeg C n))) (ix_lt 10 (by decide) _ (by decide)) (wc_at (by decide) (by decide)) rfl v_Pro_145 nm_Pro_jumpIf rfl ⟨rfl, rfl, Nat.le_of_ble_eq_true rfl, Nat.le_of_ble_eq_true rfl, Nat.zero_le _, Nat.zero_le _⟩ rfl (Nat.le_of_ble_eq_true rfl) d_Pro_perform_401 ?_
        exact g_iret h r d_Pro_perform_404 (⟨rfl, by first | exact congrArg (wc ad t) (if_neg c_389).symm | exact congrArg (wc ad t) (if_pos c_389).symm⟩)
    · refine g_tableIn (off := 336) (tgt := 405) h d_Pro_perform_69 (by decide) (by decide) (by decide) (by decide) ?_
      refine g_aload_n h d_Pro_perform_405 rfl rfl ?_
      refine gf_Pro_heap h f_Pro_39 d_Pro_perform_406 ?_
      refine g_aload_n h d_Pro_perform_409 rfl rfl ?_
      refine g_iload h d_Pro_perform_410 rfl ?_
      refine ga_regs h hn rfl (fmod_lt _ (by decide)) d_Pro_perform_412 ?_
      refine g_aload_n h d_Pro_perform_413 rfl rfl ?_
      refine g_iload h d_Pro_perform_414 rfl ?_
      refine ga_regs h hn rfl (fmod_lt _ (by decide)) d_Pro_perform_416 ?_
      refine g_dVi h tb_good (c_Heap_settingMeta (C := (cbeg C n)) (tb := (C.2.1 3 n (fmod (C.1 10 k) 4))) (m := (C.2.1 3 n (fmod (C.1 11 k) 4))) hok1 (hok.2.1 _ _ _) (hok.2.1 _ _ _)) (ix_lt 1 (by decide) _ (by decide)) (wc_at (by decide) (by decide)) rfl v_Pro_149 nm_Heap_settingMeta rfl ⟨rfl, rfl, Nat.le_of_ble_eq_true rfl, Nat.le_of_ble_eq_true rfl, Nat.zero_le _, Nat.zero_le _⟩ rfl (Nat.le_of_ble_eq_true rfl) d_Pro_perform_417 ?_
      exact g_iret h r d_Pro_perform_420 (⟨rfl, rfl⟩)
    · refine g_tableIn (off := 352) (tgt := 421) h d_Pro_perform_69 (by decide) (by decide) (by decide) (by decide) ?_
      refine g_aload_n h d_Pro_perform_421 rfl rfl ?_
      refine g_aload_n h d_Pro_perform_422 rfl rfl ?_
      refine g_iload h d_Pro_perform_423 rfl ?_
      refine g_aload_n h d_Pro_perform_425 rfl rfl ?_
      refine gf_Pro_heap h f_Pro_39 d_Pro_perform_426 ?_
      refine g_iconst (v := 2) h d_Pro_perform_429 (by decide) ?_
      refine g_aload_n h d_Pro_perform_430 rfl rfl ?_
      refine gf_Ins_c h f_Pro_117 (by first | assumption | omega | (show _ < 16; omega) | (show _ < 68; omega)) d_Pro_perform_431 ?_
      refine g_iconst (v := 4) h d_Pro_perform_434 (by decide) ?_
      refine g_dSi h tb_good (c_Math_floorMod (m := 4) (by omega)) v_Pro_108 nm_Math_floorMod rfl ⟨rfl, rfl, Nat.le_of_ble_eq_true rfl, Nat.le_of_ble_eq_true rfl, Nat.zero_le _, Nat.zero_le _⟩ rfl (Nat.le_of_ble_eq_true rfl) d_Pro_perform_435 ?_
      refine g_dVi h tb_good (c_Heap_create (C := (cbeg C n)) hok1) (ix_lt 1 (by decide) _ (by decide)) (wc_at (by decide) (by decide)) rfl v_Pro_123 nm_Heap_create rfl ⟨rfl, rfl, Nat.le_of_ble_eq_true rfl, Nat.le_of_ble_eq_true rfl, Nat.zero_le _, Nat.zero_le _⟩ rfl (Nat.le_of_ble_eq_true rfl) d_Pro_perform_438 ?_
      refine g_dVi h tb_good (c_Pro_keepFound hn (fmod_lt _ (by decide))) (ix_lt 10 (by decide) _ (by decide)) (wc_at (by decide) (by decide)) rfl v_Pro_126 nm_Pro_keepFound rfl ⟨rfl, rfl, Nat.le_of_ble_eq_true rfl, Nat.le_of_ble_eq_true rfl, Nat.zero_le _, Nat.zero_le _⟩ rfl (Nat.le_of_ble_eq_true rfl) d_Pro_perform_441 ?_
      exact g_iret h r d_Pro_perform_444 (⟨rfl, rfl⟩)
    · refine g_tableIn (off := 376) (tgt := 445) h d_Pro_perform_69 (by decide) (by decide) (by decide) (by decide) ?_
      refine g_aload_n h d_Pro_perform_445 rfl rfl ?_
      refine g_aload_n h d_Pro_perform_446 rfl rfl ?_
      refine gf_Cor_place h f_Pro_51 (by first | assumption | omega | (show _ < 16; omega) | (show _ < 68; omega)) d_Pro_perform_447 ?_
      refine pf_Pro_nextPlace h f_Pro_30 d_Pro_perform_450 ?_
      refine g_aload_n h d_Pro_perform_453 rfl rfl ?_
      refine g_iload h d_Pro_perform_454 rfl ?_
      refine pf_Cor_awaits h f_Pro_99 (by first | assumption | omega | (show _ < 16; omega) | (show _ < 68; omega)) d_Pro_perform_456 ?_
      refine g_aload_n h d_Pro_perform_459 rfl rfl ?_
      refine g_aload_n h d_Pro_perform_460 rfl rfl ?_
      refine g_iload h d_Pro_perform_461 rfl ?_
      refine ga_regs h hn rfl (fmod_lt _ (by decide)) d_Pro_perform_463 ?_
      refine g_aload_n h d_Pro_perform_464 rfl rfl ?_
      refine g_iload h d_Pro_perform_465 rfl ?_
      refine ga_regs h hn rfl (fmod_lt _ (by decide)) d_Pro_perform_467 ?_
      refine g_dVi h tb_good (c_Pro_enter (C := sI (sI (cbeg C n) 21 0 (C.1 5 n)) 8 n (nI (fmod (C.1 10 k) 4))) (v := (C.2.1 3 n (fmod (C.1 11 k) 4))) (x := (C.2.1 3 n (fmod (C.1 12 k) 4))) (okC_8 (okC_I hok1 (by decide) (by decide) (by decide) (by decide) (by decide) (by decide) (by decide) (by decide)) (fmod_lt _ (by decide))) (hok.2.1 _ _ _)) (ix_lt 10 (by decide) _ (by decide)) (wc_at (by decide) (by decide)) rfl v_Pro_44 nm_Pro_enter rfl ⟨rfl, rfl, Nat.le_of_ble_eq_true rfl, Nat.le_of_ble_eq_true rfl, Nat.zero_le _, Nat.zero_le _⟩ rfl (Nat.le_of_ble_eq_true rfl) d_Pro_perform_468 ?_
      exact g_iret h r d_Pro_perform_471 (⟨rfl, rfl⟩)
    · refine g_tableIn (off := 403) (tgt := 472) h d_Pro_perform_69 (by decide) (by decide) (by decide) (by decide) ?_
      refine g_aload_n h d_Pro_perform_472 rfl rfl ?_
      refine g_iconst (v := 1) h d_Pro_perform_473 (by decide) ?_
      refine pf_Cor_state h f_Pro_85 (by first | assumption | omega | (show _ < 16; omega) | (show _ < 68; omega)) d_Pro_perform_474 ?_
      refine g_aload_n h d_Pro_perform_477 rfl rfl ?_
      refine g_iload h d_Pro_perform_478 rfl ?_
      refine pf_Cor_comesIn h f_Pro_92 (by first | assumption | omega | (show _ < 16; omega) | (show _ < 68; omega)) d_Pro_perform_480 ?_
      refine g_aload_n h d_Pro_perform_483 rfl rfl ?_
      refine g_aload_n h d_Pro_perform_484 rfl rfl ?_
      refine g_iload h d_Pro_perform_485 rfl ?_
      refine ga_regs h hn rfl (fmod_lt _ (by decide)) d_Pro_perform_487 ?_
      refine g_dVv h tb_good (c_Pro_leave (d := d) (C := sI (sI (cbeg C n) 6 n 1) 7 n (nI (fmod (C.1 10 k) 4))) (x := (C.2.1 3 n (fmod (C.1 10 k) 4))) (okC_7 (okC_I hok1 (by decide) (by decide) (by decide) (by decide) (by decide) (by decide) (by decide) (by decide)) (fmod_lt _ (by decide))) hd5 hd hact) (ix_lt 10 (by decide) _ (by decide)) (wc_at (by decide) (by decide)) rfl v_Pro_152 nm_Pro_leave rfl ⟨rfl, rfl, Nat.le_of_ble_eq_true rfl, Nat.le_of_ble_eq_true rfl, Nat.zero_le _, Nat.zero_le _⟩ rfl (Nat.le_of_ble_eq_true rfl) d_Pro_perform_488 ?_
      refine g_iconst (v := 0) h d_Pro_perform_491 (by decide) ?_
      exact g_iret h r d_Pro_perform_492 (⟨rfl, rfl⟩)
    · refine g_tableIn (off := 424) (tgt := 493) h d_Pro_perform_69 (by decide) (by decide) (by decide) (by decide) ?_
      refine g_aload_n h d_Pro_perform_493 rfl rfl ?_
      refine g_iconst (v := 3) h d_Pro_perform_494 (by decide) ?_
      refine pf_Cor_state h f_Pro_85 (by first | assumption | omega | (show _ < 16; omega) | (show _ < 68; omega)) d_Pro_perform_495 ?_
      refine g_aload_n h d_Pro_perform_498 rfl rfl ?_
      refine g_aload_n h d_Pro_perform_499 rfl rfl ?_
      refine g_iload h d_Pro_perform_500 rfl ?_
      refine ga_regs h hn rfl (fmod_lt _ (by decide)) d_Pro_perform_502 ?_
      refine g_dVv h tb_good (c_Pro_leave (d := d) (C := sI (cbeg C n) 6 n 3) (x := (C.2.1 3 n (fmod (C.1 10 k) 4))) (okC_I hok1 (by decide) (by decide) (by decide) (by decide) (by decide) (by decide) (by decide) (by decide)) hd5 hd hact) (ix_lt 10 (by decide) _ (by decide)) (wc_at (by decide) (by decide)) rfl v_Pro_152 nm_Pro_leave rfl ⟨rfl, rfl, Nat.le_of_ble_eq_true rfl, Nat.le_of_ble_eq_true rfl, Nat.zero_le _, Nat.zero_le _⟩ rfl (Nat.le_of_ble_eq_true rfl) d_Pro_perform_503 ?_
      refine g_iconst (v := 0) h d_Pro_perform_506 (by decide) ?_
      exact g_iret h r d_Pro_perform_507 (⟨rfl, rfl⟩)
    · refine g_tableIn (off := 439) (tgt := 508) h d_Pro_perform_69 (by decide) (by decide) (by decide) (by decide) ?_
      refine g_aload_n h d_Pro_perform_508 rfl rfl ?_
      refine g_aload_n h d_Pro_perform_509 rfl rfl ?_
      refine g_iload h d_Pro_perform_510 rfl ?_
      refine g_aload_n h d_Pro_perform_512 rfl rfl ?_
      refine gf_Pro_heap h f_Pro_39 d_Pro_perform_513 ?_
      refine g_aload_n h d_Pro_perform_516 rfl rfl ?_
      refine g_iload h d_Pro_perform_517 rfl ?_
      refine ga_regs h hn rfl (fmod_lt _ (by decide)) d_Pro_perform_519 ?_
      refine g_aload_n h d_Pro_perform_520 rfl rfl ?_
      refine g_iload h d_Pro_perform_521 rfl ?_
      refine ga_regs h hn rfl (fmod_lt _ (by decide)) d_Pro_perform_523 ?_
      refine g_dVi h tb_good (c_Heap_keyAfter (C := (cbeg C n)) (tb := (C.2.1 3 n (fmod (C.1 11 k) 4))) (k := (C.2.1 3 n (fmod (C.1 12 k) 4))) hok1 (hok.2.1 _ _ _)) (ix_lt 1 (by decide) _ (by decide)) (wc_at (by decide) (by decide)) rfl v_Pro_156 nm_Heap_keyAfter rfl ⟨rfl, rfl, Nat.le_of_ble_eq_true rfl, Nat.le_of_ble_eq_true rfl, Nat.zero_le _, Nat.zero_le _⟩ rfl (Nat.le_of_ble_eq_true rfl) d_Pro_perform_524 ?_
      refine g_dVi h tb_good (c_Pro_keepFound hn (fmod_lt _ (by decide))) (ix_lt 10 (by decide) _ (by decide)) (wc_at (by decide) (by decide)) rfl v_Pro_126 nm_Pro_keepFound rfl ⟨rfl, rfl, Nat.le_of_ble_eq_true rfl, Nat.le_of_ble_eq_true rfl, Nat.zero_le _, Nat.zero_le _⟩ rfl (Nat.le_of_ble_eq_true rfl) d_Pro_perform_527 ?_
      exact g_iret h r d_Pro_perform_530 (⟨rfl, rfl⟩)
    · refine g_tableIn (off := 462) (tgt := 531) h d_Pro_perform_69 (by decide) (by decide) (by decide) (by decide) ?_
      refine g_aload_n h d_Pro_perform_531 rfl rfl ?_
      refine g_aload_n h d_Pro_perform_532 rfl rfl ?_
      refine g_iload h d_Pro_perform_533 rfl ?_
      refine g_aload_n h d_Pro_perform_535 rfl rfl ?_
      refine gf_Pro_heap h f_Pro_39 d_Pro_perform_536 ?_
      refine g_aload_n h d_Pro_perform_539 rfl rfl ?_
      refine g_iload h d_Pro_perform_540 rfl ?_
      refine ga_regs h hn rfl (fmod_lt _ (by decide)) d_Pro_perform_542 ?_
      refine g_dVi h tb_good (c_Heap_howMany (C := (cbeg C n)) (tb := (C.2.1 3 n (fmod (C.1 11 k) 4))) hok1 (hok.2.1 _ _ _)) (ix_lt 1 (by decide) _ (by decide)) (wc_at (by decide) (by decide)) rfl v_Pro_159 nm_Heap_howMany rfl ⟨rfl, rfl, Nat.le_of_ble_eq_true rfl, Nat.le_of_ble_eq_true rfl, Nat.zero_le _, Nat.zero_le _⟩ rfl (Nat.le_of_ble_eq_true rfl) d_Pro_perform_543 ?_
      refine g_dVi h tb_good (c_Pro_keepFound hn (fmod_lt _ (by decide))) (ix_lt 10 (by decide) _ (by decide)) (wc_at (by decide) (by decide)) rfl v_Pro_126 nm_Pro_keepFound rfl ⟨rfl, rfl, Nat.le_of_ble_eq_true rfl, Nat.le_of_ble_eq_true rfl, Nat.zero_le _, Nat.zero_le _⟩ rfl (Nat.le_of_ble_eq_true rfl) d_Pro_perform_546 ?_
      exact g_iret h r d_Pro_perform_549 (⟨rfl, rfl⟩)
  · exact absurd c_5 (fun z => by have := congrArg Int32.toInt z; rw [nI_toInt (by omega), show (-1 : Int32).toInt = -1 from by decide] at this; omega)
