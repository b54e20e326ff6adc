-- part 19.perform
section
set_option maxHeartbeats 4000000 in
set_option maxRecDepth 100000 in
theorem c_Pro_perform {l : Launch} {D : va_G} {t : Nat → ClassId} {ad : Nat → Nat} {C : CS} {n k o d : Nat} (hok : okC C) (hn : n < 16) (hk : k < 68) (hop : C.1 9 k = nI o) (ho : o ≤ 21) (hd5 : d < 5) (hd : C.1 19 0 = nI (d + 1)) (hact : ∀ i, i < d + 1 → ∃ n, n < 16 ∧ C.2.2 i = some n) : Cd l D t ad y_Pro_perform b_Pro_perform 7 (some .int) { frames := 5, cells := 0, slots := 0, locals := 127 } [.ref (ad (ix 10 0)), .ref (ad (ix 8 n)), .ref (ad (ix 13 k))] (C) (some (.int (cperfO C n k o).1)) ((cperfO C n k o).2) := by
  refine ct_of (by decide) (Nat.le_of_ble_eq_true rfl) ?_
  intro Γ _ _ hN h r
  have hok1 : okC (cbeg C n) := okC_beg hok
  refine g_at (L' := [some (.ref (ad (ix 10 0))), some (.ref (ad (ix 8 n))), some (.ref (ad (ix 13 k))), none, none, none, none]) rfl rfl rfl ?_
  refine g_aload_n h d_Pro_perform_0 rfl rfl ?_
  refine gf_Ins_op h f_Pro_102 (by first | assumption | omega | (show _ < 16; omega) | (show _ < 68; omega)) d_Pro_perform_1 ?_
  rw [hop]
  refine g_iconst (v := -1) h d_Pro_perform_4 (by decide) ?_
  refine g_icmp_ne (tgt := 10) h d_Pro_perform_5 (by decide) (fun c_5 => ?_) (fun c_5 => ?_)
  · refine g_aload_n h d_Pro_perform_10 rfl rfl ?_
    refine g_dup h d_Pro_perform_11 rfl ?_
    refine gf_Pro_begun h f_Pro_27 d_Pro_perform_12 ?_
    skip
    refine g_iconst (v := 1) h d_Pro_perform_15 (by decide) ?_
    refine g_iadd h d_Pro_perform_16 ?_
    refine pf_Pro_begun h f_Pro_27 d_Pro_perform_17 ?_
    refine g_aload_n h d_Pro_perform_20 rfl rfl ?_
    refine g_aload_n h d_Pro_perform_21 rfl rfl ?_
    refine gf_Cor_place h f_Pro_51 (by first | assumption | omega | (show _ < 16; omega) | (show _ < 68; omega)) d_Pro_perform_22 ?_
    simp only [sI_1, sI_2, sJ_1, sJ_2, sJ_3, sR_1, sR_2, sR_3, Nat.reduceEqDiff, Nat.zero_ne_one, Nat.one_ne_zero, Nat.succ_ne_zero, reduceCtorEq, false_and, if_false, true_and, and_self, if_true, and_true, and_false, reduceIte]
    refine g_iconst (v := 1) h d_Pro_perform_25 (by decide) ?_
    refine g_iadd h d_Pro_perform_26 ?_
    refine pf_Pro_nextPlace h f_Pro_30 d_Pro_perform_27 ?_
    show G Γ 0 0 171 ad (wc ad t (cbeg C n)) 30 _ _
    refine g_aload_n h d_Pro_perform_30 rfl rfl ?_
    refine gf_Cor_registers h f_Pro_88 (by first | assumption | omega | (show _ < 16; omega) | (show _ < 68; omega)) d_Pro_perform_31 ?_
    refine g_astore_n h d_Pro_perform_34 rfl rfl (by rw [hN]; decide) ?_
    refine g_aload_n h d_Pro_perform_35 rfl rfl ?_
    refine gf_Ins_a h f_Pro_105 (by first | assumption | omega | (show _ < 16; omega) | (show _ < 68; omega)) d_Pro_perform_36 ?_
    rw [show (cbeg C n).1 10 k = C.1 10 k from rfl]
    refine g_iconst (v := 4) h d_Pro_perform_39 (by decide) ?_
    refine g_dSi h tb_good (c_Math_floorMod (m := 4) (by omega)) v_Pro_108 nm_Math_floorMod rfl ⟨rfl, rfl, Nat.le_of_ble_eq_true rfl, Nat.le_of_ble_eq_true rfl, Nat.zero_le _, Nat.zero_le _⟩ rfl (Nat.le_of_ble_eq_true rfl) d_Pro_perform_40 ?_
    refine g_istore h d_Pro_perform_43 rfl (by rw [hN]; decide) ?_
    refine g_aload_n h d_Pro_perform_45 rfl rfl ?_
    refine gf_Ins_b h f_Pro_114 (by first | assumption | omega | (show _ < 16; omega) | (show _ < 68; omega)) d_Pro_perform_46 ?_
    rw [show (cbeg C n).1 11 k = C.1 11 k from rfl]
    refine g_iconst (v := 4) h d_Pro_perform_49 (by decide) ?_
    refine g_dSi h tb_good (c_Math_floorMod (m := 4) (by omega)) v_Pro_108 nm_Math_floorMod rfl ⟨rfl, rfl, Nat.le_of_ble_eq_true rfl, Nat.le_of_ble_eq_true rfl, Nat.zero_le _, Nat.zero_le _⟩ rfl (Nat.le_of_ble_eq_true rfl) d_Pro_perform_50 ?_
    refine g_istore h d_Pro_perform_53 rfl (by rw [hN]; decide) ?_
    refine g_aload_n h d_Pro_perform_55 rfl rfl ?_
    refine gf_Ins_c h f_Pro_117 (by first | assumption | omega | (show _ < 16; omega) | (show _ < 68; omega)) d_Pro_perform_56 ?_
    rw [show (cbeg C n).1 12 k = C.1 12 k from rfl]
    refine g_iconst (v := 4) h d_Pro_perform_59 (by decide) ?_
    refine g_dSi h tb_good (c_Math_floorMod (m := 4) (by omega)) v_Pro_108 nm_Math_floorMod rfl ⟨rfl, rfl, Nat.le_of_ble_eq_true rfl, Nat.le_of_ble_eq_true rfl, Nat.zero_le _, Nat.zero_le _⟩ rfl (Nat.le_of_ble_eq_true rfl) d_Pro_perform_60 ?_
    refine g_istore h d_Pro_perform_63 rfl (by rw [hN]; decide) ?_
    refine g_aload_n h d_Pro_perform_65 rfl rfl ?_
    refine gf_Ins_op h f_Pro_102 (by first | assumption | omega | (show _ < 16; omega) | (show _ < 68; omega)) d_Pro_perform_66 ?_
    rw [show (cbeg C n).1 9 k = C.1 9 k from rfl, hop]
    have hcs : o = 0 ∨ o = 1 ∨ o = 2 ∨ o = 3 ∨ o = 4 ∨ o = 5 ∨ o = 6 ∨ o = 7 ∨ o = 8 ∨ o = 9 ∨ o = 10 ∨ o = 11 ∨ o = 12 ∨ o = 13 ∨ o = 14 ∨ o = 15 ∨ o = 16 ∨ o = 17 ∨ o = 18 ∨ o = 19 ∨ o = 20 ∨ o = 21 := by omega
    rcases hcs with rfl | rfl | rfl | rfl | rfl | rfl | rfl | rfl | rfl | rfl | rfl | rfl | rfl | rfl | rfl | rfl | rfl | rfl | rfl | rfl | rfl | rfl
    · refine g_tableIn (off := 103) (tgt := 172) h d_Pro_perform_69 (by decide) (by decide) (by decide) (by decide) ?_
      refine g_aload_n h d_Pro_perform_172 rfl rfl ?_
      refine g_iload h d_Pro_perform_173 rfl ?_
      refine g_ldc2 (v := -1000000000000) h d_Pro_perform_175 k_Pro_33 ?_
      refine pa_regs h hn rfl (fmod_lt _ (by decide)) d_Pro_perform_178 ?_
      refine g_iconst (v := 0) h d_Pro_perform_179 (by decide) ?_
      exact g_iret h r d_Pro_perform_180 (⟨rfl, rfl⟩)
    · refine g_tableIn (off := 112) (tgt := 181) h d_Pro_perform_69 (by decide) (by decide) (by decide) (by decide) ?_
      refine g_aload_n h d_Pro_perform_181 rfl rfl ?_
      refine g_iload h d_Pro_perform_182 rfl ?_
      refine g_aload_n h d_Pro_perform_184 rfl rfl ?_
      refine gf_Ins_c h f_Pro_117 (by first | assumption | omega | (show _ < 16; omega) | (show _ < 68; omega)) d_Pro_perform_185 ?_
      refine g_i2l h d_Pro_perform_188 ?_
      refine pa_regs h hn rfl (fmod_lt _ (by decide)) d_Pro_perform_189 ?_
      refine g_iconst (v := 0) h d_Pro_perform_190 (by decide) ?_
      exact g_iret h r d_Pro_perform_191 (⟨rfl, rfl⟩)
    · refine g_tableIn (off := 123) (tgt := 192) h d_Pro_perform_69 (by decide) (by decide) (by decide) (by decide) ?_
      refine g_aload_n h d_Pro_perform_192 rfl rfl ?_
      refine g_iload h d_Pro_perform_193 rfl ?_
      refine g_aload_n h d_Pro_perform_195 rfl rfl ?_
      refine g_iload h d_Pro_perform_196 rfl ?_
      refine ga_regs h hn rfl (fmod_lt _ (by decide)) d_Pro_perform_198 ?_
      refine pa_regs h hn rfl (fmod_lt _ (by decide)) d_Pro_perform_199 ?_
      refine g_iconst (v := 0) h d_Pro_perform_200 (by decide) ?_
      exact g_iret h r d_Pro_perform_201 (⟨rfl, rfl⟩)
    · refine g_tableIn (off := 133) (tgt := 202) h d_Pro_perform_69 (by decide) (by decide) (by decide) (by decide) ?_
      refine g_aload_n h d_Pro_perform_202 rfl rfl ?_
      refine g_iload h d_Pro_perform_203 rfl ?_
      refine g_aload_n h d_Pro_perform_205 rfl rfl ?_
      refine gf_Pro_heap h f_Pro_39 d_Pro_perform_206 ?_
      refine gf_Heap_globals h f_Pro_120 d_Pro_perform_209 ?_
      refine g_aload_n h d_Pro_perform_212 rfl rfl ?_
      refine gf_Ins_c h f_Pro_117 (by first | assumption | omega | (show _ < 16; omega) | (show _ < 68; omega)) d_Pro_perform_213 ?_
      refine g_bipush (v := 6) h d_Pro_perform_216 (by decide) ?_
      refine g_dSi h tb_good (c_Math_floorMod (m := 6) (by omega)) v_Pro_108 nm_Math_floorMod rfl ⟨rfl, rfl, Nat.le_of_ble_eq_true rfl, Nat.le_of_ble_eq_true rfl, Nat.zero_le _, Nat.zero_le _⟩ rfl (Nat.le_of_ble_eq_true rfl) d_Pro_perform_218 ?_
      refine ga_glo h rfl (fmod_lt _ (by decide)) d_Pro_perform_221 ?_
      refine pa_regs h hn rfl (fmod_lt _ (by decide)) d_Pro_perform_222 ?_
      refine g_iconst (v := 0) h d_Pro_perform_223 (by decide) ?_
      exact g_iret h r d_Pro_perform_224 (⟨rfl, rfl⟩)
    · refine g_tableIn (off := 156) (tgt := 225) h d_Pro_perform_69 (by decide) (by decide) (by decide) (by decide) ?_
      refine g_aload_n h d_Pro_perform_225 rfl rfl ?_
      refine gf_Pro_heap h f_Pro_39 d_Pro_perform_226 ?_
      refine gf_Heap_globals h f_Pro_120 d_Pro_perform_229 ?_
      refine g_aload_n h d_Pro_perform_232 rfl rfl ?_
      refine gf_Ins_c h f_Pro_117 (by first | assumption | omega | (show _ < 16; omega) | (show _ < 68; omega)) d_Pro_perform_233 ?_
      refine g_bipush (v := 6) h d_Pro_perform_236 (by decide) ?_
      refine g_dSi h tb_good (c_Math_floorMod (m := 6) (by omega)) v_Pro_108 nm_Math_floorMod rfl ⟨rfl, rfl, Nat.le_of_ble_eq_true rfl, Nat.le_of_ble_eq_true rfl, Nat.zero_le _, Nat.zero_le _⟩ rfl (Nat.le_of_ble_eq_true rfl) d_Pro_perform_238 ?_
      refine g_aload_n h d_Pro_perform_241 rfl rfl ?_
      refine g_iload h d_Pro_perform_242 rfl ?_
      refine ga_regs h hn rfl (fmod_lt _ (by decide)) d_Pro_perform_244 ?_
      refine pa_glo h rfl (fmod_lt _ (by decide)) d_Pro_perform_245 ?_
      refine g_iconst (v := 0) h d_Pro_perform_246 (by decide) ?_
      exact g_iret h r d_Pro_perform_247 (⟨rfl, rfl⟩)
    · refine g_tableIn (off := 179) (tgt := 248) h d_Pro_perform_69 (by decide) (by decide) (by decide) (by decide) ?_
      refine g_aload_n h d_Pro_perform_248 rfl rfl ?_
      refine g_aload_n h d_Pro_perform_249 rfl rfl ?_
      refine g_iload h d_Pro_perform_250 rfl ?_
      refine g_aload_n h d_Pro_perform_252 rfl rfl ?_
      refine gf_Pro_heap h f_Pro_39 d_Pro_perform_253 ?_
      refine g_iconst (v := 1) h d_Pro_perform_256 (by decide) ?_
      refine g_iconst (v := 0) h d_Pro_perform_257 (by decide) ?_
      refine g_dVi h tb_good (c_Heap_create (C := (cbeg C n)) hok1) (ix_lt 1 (by decide) _ (by decide)) (wc_at (by decide) (by decide)) rfl v_Pro_123 nm_Heap_create rfl ⟨rfl, rfl, Nat.le_of_ble_eq_true rfl, Nat.le_of_ble_eq_true rfl, Nat.zero_le _, Nat.zero_le _⟩ rfl (Nat.le_of_ble_eq_true rfl) d_Pro_perform_258 ?_
      refine g_dVi h tb_good (c_Pro_keepFound hn (fmod_lt _ (by decide))) (ix_lt 10 (by decide) _ (by decide)) (wc_at (by decide) (by decide)) rfl v_Pro_126 nm_Pro_keepFound rfl ⟨rfl, rfl, Nat.le_of_ble_eq_true rfl, Nat.le_of_ble_eq_true rfl, Nat.zero_le _, Nat.zero_le _⟩ rfl (Nat.le_of_ble_eq_true rfl) d_Pro_perform_261 ?_
      exact g_iret h r d_Pro_perform_264 (⟨rfl, rfl⟩)
    · refine g_tableIn (off := 196) (tgt := 265) h d_Pro_perform_69 (by decide) (by decide) (by decide) (by decide) ?_
      refine g_aload_n h d_Pro_perform_265 rfl rfl ?_
      refine g_aload_n h d_Pro_perform_266 rfl rfl ?_
      refine g_iload h d_Pro_perform_267 rfl ?_
      refine g_aload_n h d_Pro_perform_269 rfl rfl ?_
      refine gf_Pro_heap h f_Pro_39 d_Pro_perform_270 ?_
      refine g_aload_n h d_Pro_perform_273 rfl rfl ?_
      refine g_iload h d_Pro_perform_274 rfl ?_
      refine ga_regs h hn rfl (fmod_lt _ (by decide)) d_Pro_perform_276 ?_
      refine g_aload_n h d_Pro_perform_277 rfl rfl ?_
      refine g_iload h d_Pro_perform_278 rfl ?_
      refine ga_regs h hn rfl (fmod_lt _ (by decide)) d_Pro_perform_280 ?_
      refine g_dVi h tb_good (c_Heap_getting (C := (cbeg C n)) (tb := (C.2.1 3 n (fmod (C.1 11 k) 4))) (k := (C.2.1 3 n (fmod (C.1 12 k) 4))) hok1 (hok.2.1 _ _ _)) (ix_lt 1 (by decide) _ (by decide)) (wc_at (by decide) (by decide)) rfl v_Pro_130 nm_Heap_getting rfl ⟨rfl, rfl, Nat.le_of_ble_eq_true rfl, Nat.le_of_ble_eq_true rfl, Nat.zero_le _, Nat.zero_le _⟩ rfl (Nat.le_of_ble_eq_true rfl) d_Pro_perform_281 ?_
      refine g_dVi h tb_good (c_Pro_keepFound hn (fmod_lt _ (by decide))) (ix_lt 10 (by decide) _ (by decide)) (wc_at (by decide) (by decide)) rfl v_Pro_126 nm_Pro_keepFound rfl ⟨rfl, rfl, Nat.le_of_ble_eq_true rfl, Nat.le_of_ble_eq_true rfl, Nat.zero_le _, Nat.zero_le _⟩ rfl (Nat.le_of_ble_eq_true rfl) d_Pro_perform_284 ?_
      exact g_iret h r d_Pro_perform_287 (⟨rfl, rfl⟩)
    · refine g_tableIn (off := 219) (tgt := 288) h d_Pro_perform_69 (by decide) (by decide) (by decide) (by decide) ?_
      refine g_aload_n h d_Pro_perform_288 rfl rfl ?_
      refine gf_Pro_heap h f_Pro_39 d_Pro_perform_289 ?_
      refine g_aload_n h d_Pro_perform_292 rfl rfl ?_
      refine g_iload h d_Pro_perform_293 rfl ?_
      refine ga_regs h hn rfl (fmod_lt _ (by decide)) d_Pro_perform_295 ?_
      refine g_aload_n h d_Pro_perform_296 rfl rfl ?_
      refine g_iload h d_Pro_perform_297 rfl ?_
      refine ga_regs h hn rfl (fmod_lt _ (by decide)) d_Pro_perform_299 ?_
      refine g_aload_n h d_Pro_perform_300 rfl rfl ?_
      refine g_iload h d_Pro_perform_301 rfl ?_
      refine ga_regs h hn rfl (fmod_lt _ (by decide)) d_Pro_perform_303 ?_
      refine g_dVi h tb_good (c_Heap_setting (C := (cbeg C n)) (tb := (C.2.1 3 n (fmod (C.1 10 k) 4))) (k := (C.2.1 3 n (fmod (C.1 11 k) 4))) (v := (C.2.1 3 n (fmod (C.1 12 k) 4))) hok1 (hok.2.1 _ _ _)) (ix_lt 1 (by decide) _ (by decide)) (wc_at (by decide) (by decide)) rfl v_Pro_133 nm_Heap_setting rfl ⟨rfl, rfl, Nat.le_of_ble_eq_true rfl, Nat.le_of_ble_eq_true rfl, Nat.zero_le _, Nat.zero_le _⟩ rfl (Nat.le_of_ble_eq_true rfl) d_Pro_perform_304 ?_
      exact g_iret h r d_Pro_perform_307 (⟨rfl, rfl⟩)
    · refine g_tableIn (off := 239) (tgt := 308) h d_Pro_perform_69 (by decide) (by decide) (by decide) (by decide) ?_
      refine g_aload_n h d_Pro_perform_308 rfl rfl ?_
      refine gf_Ins_op h f_Pro_102 (by first | assumption | omega | (show _ < 16; omega) | (show _ < 68; omega)) d_Pro_perform_309 ?_
      rw [show (cbeg C n).1 9 k = C.1 9 k from rfl, hop]
      refine g_aload_n h d_Pro_perform_312 rfl rfl ?_
      refine g_iload h d_Pro_perform_313 rfl ?_
      refine g_aload_n h d_Pro_perform_315 rfl rfl ?_
      refine g_iload h d_Pro_perform_316 rfl ?_
      refine ga_regs h hn rfl (fmod_lt _ (by decide)) d_Pro_perform_318 ?_
      refine g_aload_n h d_Pro_perform_319 rfl rfl ?_
      refine g_iload h d_Pro_perform_320 rfl ?_
      refine ga_regs h hn rfl (fmod_lt _ (by decide)) d_Pro_perform_322 ?_
      refine g_dSi h tb_good (c_Pro_calculate (C := (cbeg C n)) (x := (C.2.1 3 n (fmod (C.1 11 k) 4))) (y := (C.2.1 3 n (fmod (C.1 12 k) 4))) hn (fmod_lt _ (by decide))) v_Pro_137 nm_Pro_calculate rfl ⟨rfl, rfl, Nat.le_of_ble_eq_true rfl, Nat.le_of_ble_eq_true rfl, Nat.zero_le _, Nat.zero_le _⟩ rfl (Nat.le_of_ble_eq_true rfl) d_Pro_perform_323 ?_
      exact g_iret h r d_Pro_perform_326 (⟨rfl, rfl⟩)
    · refine g_tableIn (off := 239) (tgt := 308) h d_Pro_perform_69 (by decide) (by decide) (by decide) (by decide) ?_
      refine g_aload_n h d_Pro_perform_308 rfl rfl ?_
      refine gf_Ins_op h f_Pro_102 (by first | assumption | omega | (show _ < 16; omega) | (show _ < 68; omega)) d_Pro_perform_309 ?_
      rw [show (cbeg C n).1 9 k = C.1 9 k from rfl, hop]
      refine g_aload_n h d_Pro_perform_312 rfl rfl ?_
      refine g_iload h d_Pro_perform_313 rfl ?_
      refine g_aload_n h d_Pro_perform_315 rfl rfl ?_
      refine g_iload h d_Pro_perform_316 rfl ?_
      refine ga_regs h hn rfl (fmod_lt _ (by decide)) d_Pro_perform_318 ?_
      refine g_aload_n h d_Pro_perform_319 rfl rfl ?_
      refine g_iload h d_Pro_perform_320 rfl ?_
      refine ga_regs h hn rfl (fmod_lt _ (by decide)) d_Pro_perform_322 ?_
      refine g_dSi h tb_good (c_Pro_calculate (C := (cbeg C n)) (x := (C.2.1 3 n (fmod (C.1 11 k) 4))) (y := (C.2.1 3 n (fmod (C.1 12 k) 4))) hn (fmod_lt _ (by decide))) v_Pro_137 nm_Pro_calculate rfl ⟨rfl, rfl, Nat.le_of_ble_eq_true rfl, Nat.le_of_ble_eq_true rfl, Nat.zero_le _, Nat.zero_le _⟩ rfl (Nat.le_of_ble_eq_true rfl) d_Pro_perform_323 ?_
      exact g_iret h r d_Pro_perform_326 (⟨rfl, rfl⟩)
    · refine g_tableIn (off := 239) (tgt := 308) h d_Pro_perform_69 (by decide) (by decide) (by decide) (by decide) ?_
      refine g_aload_n h d_Pro_perform_308 rfl rfl ?_
      refine gf_Ins_op h f_Pro_102 (by first | assumption | omega | (show _ < 16; omega) | (show _ < 68; omega)) d_Pro_perform_309 ?_
      rw [show (cbeg C n).1 9 k = C.1 9 k from rfl, hop]
      refine g_aload_n h d_Pro_perform_312 rfl rfl ?_
      refine g_iload h d_Pro_perform_313 rfl ?_
      refine g_aload_n h d_Pro_perform_315 rfl rfl ?_
      refine g_iload h d_Pro_perform_316 rfl ?_
      refine ga_regs h hn rfl (fmod_lt _ (by decide)) d_Pro_perform_318 ?_
      refine g_aload_n h d_Pro_perform_319 rfl rfl ?_
      refine g_iload h d_Pro_perform_320 rfl ?_
      refine ga_regs h hn rfl (fmod_lt _ (by decide)) d_Pro_perform_322 ?_
      refine g_dSi h tb_good (c_Pro_calculate (C := (cbeg C n)) (x := (C.2.1 3 n (fmod (C.1 11 k) 4))) (y := (C.2.1 3 n (fmod (C.1 12 k) 4))) hn (fmod_lt _ (by decide))) v_Pro_137 nm_Pro_calculate rfl ⟨rfl, rfl, Nat.le_of_ble_eq_true rfl, Nat.le_of_ble_eq_true rfl, Nat.zero_le _, Nat.zero_le _⟩ rfl (Nat.le_of_ble_eq_true rfl) d_Pro_perform_323 ?_
      exact g_iret h r d_Pro_perform_326 (⟨rfl, rfl⟩)
    · refine g_tableIn (off := 258) (tgt := 327) h d_Pro_perform_69 (by decide) (by decide) (by decide) (by decide) ?_
      refine g_aload_n h d_Pro_perform_327 rfl rfl ?_
      refine g_aload_n h d_Pro_perform_328 rfl rfl ?_
      refine g_iload h d_Pro_perform_329 rfl ?_
      refine ga_regs h hn rfl (fmod_lt _ (by decide)) d_Pro_perform_331 ?_
      refine g_aload_n h d_Pro_perform_332 rfl rfl ?_
      refine g_iload h d_Pro_perform_333 rfl ?_
      refine ga_regs h hn rfl (fmod_lt _ (by decide)) d_Pro_perform_335 ?_
      refine g_aload_n h d_Pro_perform_336 rfl rfl ?_
      refine gf_Ins_c h f_Pro_117 (by first | assumption | omega | (show _ < 16; omega) | (show _ < 68; omega)) d_Pro_perform_337 ?_
      refine g_dVi h tb_good (c_Pro_jumpIfBelow (C := (cbeg C n))) (ix_lt 10 (by decide) _ (by decide)) (wc_at (by decide) (by decide)) rfl v_Pro_141 nm_Pro_jumpIfBelow rfl ⟨rfl, rfl, Nat.le_of_ble_eq_true rfl, Nat.le_of_ble_eq_true rfl, Nat.zero_le _, Nat.zero_le _⟩ rfl (Nat.le_of_ble_eq_true rfl) d_Pro_perform_340 ?_
      exact g_iret h r d_Pro_perform_343 (⟨rfl, rfl⟩)
    · refine g_tableIn (off := 275) (tgt := 344) h d_Pro_perform_69 (by decide) (by decide) (by decide) (by decide) ?_
      refine g_aload_n h d_Pro_perform_344 rfl rfl ?_
      refine g_iconst (v := 1) h d_Pro_perform_345 (by decide) ?_
      refine g_aload_n h d_Pro_perform_346 rfl rfl ?_
      refine gf_Ins_c h f_Pro_117 (by first | assumption | omega | (show _ < 16; omega) | (show _ < 68; omega)) d_Pro_perform_347 ?_
      refine g_dVi h tb_good (c_Pro_jumpIf (C := (cbeg C n))) (ix_lt 10 (by decide) _ (by decide)) (wc_at (by decide) (by decide)) rfl v_Pro_145 nm_Pro_jumpIf rfl ⟨rfl, rfl, Nat.le_of_ble_eq_true rfl, Nat.le_of_ble_eq_true rfl, Nat.zero_le _, Nat.zero_le _⟩ rfl (Nat.le_of_ble_eq_true rfl) d_Pro_perform_350 ?_
      exact g_iret h r d_Pro_perform_353 (⟨rfl, rfl⟩)
    · refine g_tableIn (off := 285) (tgt := 354) h d_Pro_perform_69 (by decide) (by decide) (by decide) (by decide) ?_
      refine g_aload_n h d_Pro_perform_354 rfl rfl ?_
      refine g_aload_n h d_Pro_perform_355 rfl rfl ?_
      refine g_iload h d_Pro_perform_356 rfl ?_
      refine ga_regs h hn rfl (fmod_lt _ (by decide)) d_Pro_perform_358 ?_
      refine g_ldc2 (v := -1000000000000) h d_Pro_perform_359 k_Pro_33 ?_
      refine g_lc_ne (tgt := 370) h d_Pro_perform_362 d_Pro_perform_363 (by decide) (fun c_363 => ?_) (fun c_363 => ?_)
      · refine g_iconst (v := 0) h d_Pro_perform_370 (by decide) ?_
        refine g_aload_n h d_Pro_perform_371 rfl rfl ?_
        refine gf_Ins_c h f_Pro_117 (by first | assumption | omega | (show _ < 16; omega) | (show _ < 68; omega)) d_Pro_perform_372 ?_
        refine g_dVi h tb_good (c_Pro_jumpIf (C := (cbeg C n))) (ix_lt 10 (by decide) _ (by decide)) (wc_at (by decide) (by decide)) rfl v_Pro_145 nm_Pro_jumpIf rfl ⟨rfl, rfl, Nat.le_of_ble_eq_true rfl, Nat.le_of_ble_eq_true rfl, Nat.zero_le _, Nat.zero_le _⟩ rfl (Nat.le_of_ble_eq_true rfl) d_Pro_perform_375 ?_
        exact g_iret h r d_Pro_perform_378 (⟨rfl, by first | exact congrArg (wc ad t) (if_neg c_363).symm | exact congrArg (wc ad t) (if_pos c_363).symm⟩)
      · refine g_iconst (v := 1) h d_Pro_perform_366 (by decide) ?_
        refine g_goto (tgt := 371) h d_Pro_perform_367 (by decide) ?_
        refine g_aload_n h d_Pro_perform_371 rfl rfl ?_
        refine gf_Ins_c h f_Pro_117 (by first | assumption | omega | (show _ < 16; omega) | (show _ < 68; omega)) d_Pro_perform_372 ?_
        refine g_dVi h tb_good (c_Pro_jumpIf (C := (cbeg C n))) (ix_lt 10 (by decide) _ (by decide)) (wc_at (by decide) (by decide)) rfl v_Pro_145 nm_Pro_jumpIf rfl ⟨rfl, rfl, Nat.le_of_ble_eq_true rfl, Nat.le_of_ble_eq_true rfl, Nat.zero_le _, Nat.zero_le _⟩ rfl (Nat.le_of_ble_eq_true rfl) d_Pro_perform_375 ?_
        exact g_iret h r d_Pro_perform_378 (⟨rfl, by first | exact congrArg (wc ad t) (if_neg c_363).symm | exact congrArg (wc ad t) (if_pos c_363).symm⟩)
    · refine g_tableIn (off := 310) (tgt := 379) h d_Pro_perform_69 (by decide) (by decide) (by decide) (by decide) ?_
      refine g_aload_n h d_Pro_perform_379 rfl rfl ?_
      refine g_aload_n h d_Pro_perform_380 rfl rfl ?_
      refine g_iload h d_Pro_perform_381 rfl ?_
      refine ga_regs h hn rfl (fmod_lt _ (by decide)) d_Pro_perform_383 ?_
      refine g_aload_n h d_Pro_perform_384 rfl rfl ?_
      refine g_iload h d_Pro_perform_385 rfl ?_
      refine ga_regs h hn rfl (fmod_lt _ (by decide)) d_Pro_perform_387 ?_
      refine g_lc_ne (tgt := 396) h d_Pro_perform_388 d_Pro_perform_389 (by decide) (fun c_389 => ?_) (fun c_389 => ?_)
      · refine g_iconst (v := 0) h d_Pro_perform_396 (by decide) ?_
        refine g_aload_n h d_Pro_perform_397 rfl rfl ?_
        refine gf_Ins_c h f_Pro_117 (by first | assumption | omega | (show _ < 16; omega) | (show _ < 68; omega)) d_Pro_perform_398 ?_
        refine g_dVi h tb_good (c_Pro_jumpIf (C := (cbeg C n))) (ix_lt 10 (by decide) _ (by decide)) (wc_at (by decide) (by decide)) rfl v_Pro_145 nm_Pro_jumpIf rfl ⟨rfl, rfl, Nat.le_of_ble_eq_true rfl, Nat.le_of_ble_eq_true rfl, Nat.zero_le _, Nat.zero_le _⟩ rfl (Nat.le_of_ble_eq_true rfl) d_Pro_perform_401 ?_
        exact g_iret h r d_Pro_perform_404 (⟨rfl, by first | exact congrArg (wc ad t) (if_neg c_389).symm | exact congrArg (wc ad t) (if_pos c_389).symm⟩)
      · refine g_iconst (v := 1) h d_Pro_perform_392 (by decide) ?_
        refine g_goto (tgt := 397) h d_Pro_perform_393 (by decide) ?_
        refine g_aload_n h d_Pro_perform_397 rfl rfl ?_
        refine gf_Ins_c h f_Pro_117 (by first | assumption | omega | (show _ < 16; omega) | (show _ < 68; omega)) d_Pro_perform_398 ?_
        refine g_dVi h tb_good (c_Pro_jumpIf (C := (cbeg C n))) (ix_lt 10 (by decide) _ (by decide)) (wc_at (by decide) (by decide)) rfl v_Pro_145 nm_Pro_jumpIf rfl ⟨rfl, rfl, Nat.le_of_ble_eq_true rfl, Nat.le_of_ble_eq_true rfl, Nat.zero_le _, Nat.zero_le _⟩ rfl (Nat.le_of_ble_eq_true rfl) d_Pro_perform_401 ?_
        exact g_iret h r d_Pro_perform_404 (⟨rfl, by first | exact congrArg (wc ad t) (if_neg c_389).symm | exact congrArg (wc ad t) (if_pos c_389).symm⟩)
    · refine g_tableIn (off := 336) (tgt := 405) h d_Pro_perform_69 (by decide) (by decide) (by decide) (by decide) ?_
      refine g_aload_n h d_Pro_perform_405 rfl rfl ?_
      refine gf_Pro_heap h f_Pro_39 d_Pro_perform_406 ?_
      refine g_aload_n h d_Pro_perform_409 rfl rfl ?_
      refine g_iload h d_Pro_perform_410 rfl ?_
      refine ga_regs h hn rfl (fmod_lt _ (by decide)) d_Pro_perform_412 ?_
      refine g_aload_n h d_Pro_perform_413 rfl rfl ?_
      refine g_iload h d_Pro_perform_414 rfl ?_
      refine ga_regs h hn rfl (fmod_lt _ (by decide)) d_Pro_perform_416 ?_
      refine g_dVi h tb_good (c_Heap_settingMeta (C := (cbeg C n)) (tb := (C.2.1 3 n (fmod (C.1 10 k) 4))) (m := (C.2.1 3 n (fmod (C.1 11 k) 4))) hok1 (hok.2.1 _ _ _) (hok.2.1 _ _ _)) (ix_lt 1 (by decide) _ (by decide)) (wc_at (by decide) (by decide)) rfl v_Pro_149 nm_Heap_settingMeta rfl ⟨rfl, rfl, Nat.le_of_ble_eq_true rfl, Nat.le_of_ble_eq_true rfl, Nat.zero_le _, Nat.zero_le _⟩ rfl (Nat.le_of_ble_eq_true rfl) d_Pro_perform_417 ?_
      exact g_iret h r d_Pro_perform_420 (⟨rfl, rfl⟩)
    · refine g_tableIn (off := 352) (tgt := 421) h d_Pro_perform_69 (by decide) (by decide) (by decide) (by decide) ?_
      refine g_aload_n h d_Pro_perform_421 rfl rfl ?_
      refine g_aload_n h d_Pro_perform_422 rfl rfl ?_
      refine g_iload h d_Pro_perform_423 rfl ?_
      refine g_aload_n h d_Pro_perform_425 rfl rfl ?_
      refine gf_Pro_heap h f_Pro_39 d_Pro_perform_426 ?_
      refine g_iconst (v := 2) h d_Pro_perform_429 (by decide) ?_
      refine g_aload_n h d_Pro_perform_430 rfl rfl ?_
      refine gf_Ins_c h f_Pro_117 (by first | assumption | omega | (show _ < 16; omega) | (show _ < 68; omega)) d_Pro_perform_431 ?_
      refine g_iconst (v := 4) h d_Pro_perform_434 (by decide) ?_
      refine g_dSi h tb_good (c_Math_floorMod (m := 4) (by omega)) v_Pro_108 nm_Math_floorMod rfl ⟨rfl, rfl, Nat.le_of_ble_eq_true rfl, Nat.le_of_ble_eq_true rfl, Nat.zero_le _, Nat.zero_le _⟩ rfl (Nat.le_of_ble_eq_true rfl) d_Pro_perform_435 ?_
      refine g_dVi h tb_good (c_Heap_create (C := (cbeg C n)) hok1) (ix_lt 1 (by decide) _ (by decide)) (wc_at (by decide) (by decide)) rfl v_Pro_123 nm_Heap_create rfl ⟨rfl, rfl, Nat.le_of_ble_eq_true rfl, Nat.le_of_ble_eq_true rfl, Nat.zero_le _, Nat.zero_le _⟩ rfl (Nat.le_of_ble_eq_true rfl) d_Pro_perform_438 ?_
      refine g_dVi h tb_good (c_Pro_keepFound hn (fmod_lt _ (by decide))) (ix_lt 10 (by decide) _ (by decide)) (wc_at (by decide) (by decide)) rfl v_Pro_126 nm_Pro_keepFound rfl ⟨rfl, rfl, Nat.le_of_ble_eq_true rfl, Nat.le_of_ble_eq_true rfl, Nat.zero_le _, Nat.zero_le _⟩ rfl (Nat.le_of_ble_eq_true rfl) d_Pro_perform_441 ?_
      exact g_iret h r d_Pro_perform_444 (⟨rfl, rfl⟩)
    · refine g_tableIn (off := 376) (tgt := 445) h d_Pro_perform_69 (by decide) (by decide) (by decide) (by decide) ?_
      refine g_aload_n h d_Pro_perform_445 rfl rfl ?_
      refine g_aload_n h d_Pro_perform_446 rfl rfl ?_
      refine gf_Cor_place h f_Pro_51 (by first | assumption | omega | (show _ < 16; omega) | (show _ < 68; omega)) d_Pro_perform_447 ?_
      refine pf_Pro_nextPlace h f_Pro_30 d_Pro_perform_450 ?_
      refine g_aload_n h d_Pro_perform_453 rfl rfl ?_
      refine g_iload h d_Pro_perform_454 rfl ?_
      refine pf_Cor_awaits h f_Pro_99 (by first | assumption | omega | (show _ < 16; omega) | (show _ < 68; omega)) d_Pro_perform_456 ?_
      refine g_aload_n h d_Pro_perform_459 rfl rfl ?_
      refine g_aload_n h d_Pro_perform_460 rfl rfl ?_
      refine g_iload h d_Pro_perform_461 rfl ?_
      refine ga_regs h hn rfl (fmod_lt _ (by decide)) d_Pro_perform_463 ?_
      refine g_aload_n h d_Pro_perform_464 rfl rfl ?_
      refine g_iload h d_Pro_perform_465 rfl ?_
      refine ga_regs h hn rfl (fmod_lt _ (by decide)) d_Pro_perform_467 ?_
      refine g_dVi h tb_good (c_Pro_enter (C := sI (sI (cbeg C n) 21 0 (C.1 5 n)) 8 n (nI (fmod (C.1 10 k) 4))) (v := (C.2.1 3 n (fmod (C.1 11 k) 4))) (x := (C.2.1 3 n (fmod (C.1 12 k) 4))) (okC_8 (okC_I hok1 (by decide) (by decide) (by decide) (by decide) (by decide) (by decide) (by decide) (by decide)) (fmod_lt _ (by decide))) (hok.2.1 _ _ _)) (ix_lt 10 (by decide) _ (by decide)) (wc_at (by decide) (by decide)) rfl v_Pro_44 nm_Pro_enter rfl ⟨rfl, rfl, Nat.le_of_ble_eq_true rfl, Nat.le_of_ble_eq_true rfl, Nat.zero_le _, Nat.zero_le _⟩ rfl (Nat.le_of_ble_eq_true rfl) d_Pro_perform_468 ?_
      exact g_iret h r d_Pro_perform_471 (⟨rfl, rfl⟩)
    · refine g_tableIn (off := 403) (tgt := 472) h d_Pro_perform_69 (by decide) (by decide) (by decide) (by decide) ?_
      refine g_aload_n h d_Pro_perform_472 rfl rfl ?_
      refine g_iconst (v := 1) h d_Pro_perform_473 (by decide) ?_
      refine pf_Cor_state h f_Pro_85 (by first | assumption | omega | (show _ < 16; omega) | (show _ < 68; omega)) d_Pro_perform_474 ?_
      refine g_aload_n h d_Pro_perform_477 rfl rfl ?_
      refine g_iload h d_Pro_perform_478 rfl ?_
      refine pf_Cor_comesIn h f_Pro_92 (by first | assumption | omega | (show _ < 16; omega) | (show _ < 68; omega)) d_Pro_perform_480 ?_
      refine g_aload_n h d_Pro_perform_483 rfl rfl ?_
      refine g_aload_n h d_Pro_perform_484 rfl rfl ?_
      refine g_iload h d_Pro_perform_485 rfl ?_
      refine ga_regs h hn rfl (fmod_lt _ (by decide)) d_Pro_perform_487 ?_
      refine g_dVv h tb_good (c_Pro_leave (d := d) (C := sI (sI (cbeg C n) 6 n 1) 7 n (nI (fmod (C.1 10 k) 4))) (x := (C.2.1 3 n (fmod (C.1 10 k) 4))) (okC_7 (okC_I hok1 (by decide) (by decide) (by decide) (by decide) (by decide) (by decide) (by decide) (by decide)) (fmod_lt _ (by decide))) hd5 hd hact) (ix_lt 10 (by decide) _ (by decide)) (wc_at (by decide) (by decide)) rfl v_Pro_152 nm_Pro_leave rfl ⟨rfl, rfl, Nat.le_of_ble_eq_true rfl, Nat.le_of_ble_eq_true rfl, Nat.zero_le _, Nat.zero_le _⟩ rfl (Nat.le_of_ble_eq_true rfl) d_Pro_perform_488 ?_
      refine g_iconst (v := 0) h d_Pro_perform_491 (by decide) ?_
      exact g_iret h r d_Pro_perform_492 (⟨rfl, rfl⟩)
    · refine g_tableIn (off := 424) (tgt := 493) h d_Pro_perform_69 (by decide) (by decide) (by decide) (by decide) ?_
      refine g_aload_n h d_Pro_perform_493 rfl rfl ?_
      refine g_iconst (v := 3) h d_Pro_perform_494 (by decide) ?_
      refine pf_Cor_state h f_Pro_85 (by first | assumption | omega | (show _ < 16; omega) | (show _ < 68; omega)) d_Pro_perform_495 ?_
      refine g_aload_n h d_Pro_perform_498 rfl rfl ?_
      refine g_aload_n h d_Pro_perform_499 rfl rfl ?_
      refine g_iload h d_Pro_perform_500 rfl ?_
      refine ga_regs h hn rfl (fmod_lt _ (by decide)) d_Pro_perform_502 ?_
      refine g_dVv h tb_good (c_Pro_leave (d := d) (C := sI (cbeg C n) 6 n 3) (x := (C.2.1 3 n (fmod (C.1 10 k) 4))) (okC_I hok1 (by decide) (by decide) (by decide) (by decide) (by decide) (by decide) (by decide) (by decide)) hd5 hd hact) (ix_lt 10 (by decide) _ (by decide)) (wc_at (by decide) (by decide)) rfl v_Pro_152 nm_Pro_leave rfl ⟨rfl, rfl, Nat.le_of_ble_eq_true rfl, Nat.le_of_ble_eq_true rfl, Nat.zero_le _, Nat.zero_le _⟩ rfl (Nat.le_of_ble_eq_true rfl) d_Pro_perform_503 ?_
      refine g_iconst (v := 0) h d_Pro_perform_506 (by decide) ?_
      exact g_iret h r d_Pro_perform_507 (⟨rfl, rfl⟩)
    · refine g_tableIn (off := 439) (tgt := 508) h d_Pro_perform_69 (by decide) (by decide) (by decide) (by decide) ?_
      refine g_aload_n h d_Pro_perform_508 rfl rfl ?_
      refine g_aload_n h d_Pro_perform_509 rfl rfl ?_
      refine g_iload h d_Pro_perform_510 rfl ?_
      refine g_aload_n h d_Pro_perform_512 rfl rfl ?_
      refine gf_Pro_heap h f_Pro_39 d_Pro_perform_513 ?_
      refine g_aload_n h d_Pro_perform_516 rfl rfl ?_
      refine g_iload h d_Pro_perform_517 rfl ?_
      refine ga_regs h hn rfl (fmod_lt _ (by decide)) d_Pro_perform_519 ?_
      refine g_aload_n h d_Pro_perform_520 rfl rfl ?_
      refine g_iload h d_Pro_perform_521 rfl ?_
      refine ga_regs h hn rfl (fmod_lt _ (by decide)) d_Pro_perform_523 ?_
      refine g_dVi h tb_good (c_Heap_keyAfter (C := (cbeg C n)) (tb := (C.2.1 3 n (fmod (C.1 11 k) 4))) (k := (C.2.1 3 n (fmod (C.1 12 k) 4))) hok1 (hok.2.1 _ _ _)) (ix_lt 1 (by decide) _ (by decide)) (wc_at (by decide) (by decide)) rfl v_Pro_156 nm_Heap_keyAfter rfl ⟨rfl, rfl, Nat.le_of_ble_eq_true rfl, Nat.le_of_ble_eq_true rfl, Nat.zero_le _, Nat.zero_le _⟩ rfl (Nat.le_of_ble_eq_true rfl) d_Pro_perform_524 ?_
      refine g_dVi h tb_good (c_Pro_keepFound hn (fmod_lt _ (by decide))) (ix_lt 10 (by decide) _ (by decide)) (wc_at (by decide) (by decide)) rfl v_Pro_126 nm_Pro_keepFound rfl ⟨rfl, rfl, Nat.le_of_ble_eq_true rfl, Nat.le_of_ble_eq_true rfl, Nat.zero_le _, Nat.zero_le _⟩ rfl (Nat.le_of_ble_eq_true rfl) d_Pro_perform_527 ?_
      exact g_iret h r d_Pro_perform_530 (⟨rfl, rfl⟩)
    · refine g_tableIn (off := 462) (tgt := 531) h d_Pro_perform_69 (by decide) (by decide) (by decide) (by decide) ?_
      refine g_aload_n h d_Pro_perform_531 rfl rfl ?_
      refine g_aload_n h d_Pro_perform_532 rfl rfl ?_
      refine g_iload h d_Pro_perform_533 rfl ?_
      refine g_aload_n h d_Pro_perform_535 rfl rfl ?_
      refine gf_Pro_heap h f_Pro_39 d_Pro_perform_536 ?_
      refine g_aload_n h d_Pro_perform_539 rfl rfl ?_
      refine g_iload h d_Pro_perform_540 rfl ?_
      refine ga_regs h hn rfl (fmod_lt _ (by decide)) d_Pro_perform_542 ?_
      refine g_dVi h tb_good (c_Heap_howMany (C := (cbeg C n)) (tb := (C.2.1 3 n (fmod (C.1 11 k) 4))) hok1 (hok.2.1 _ _ _)) (ix_lt 1 (by decide) _ (by decide)) (wc_at (by decide) (by decide)) rfl v_Pro_159 nm_Heap_howMany rfl ⟨rfl, rfl, Nat.le_of_ble_eq_true rfl, Nat.le_of_ble_eq_true rfl, Nat.zero_le _, Nat.zero_le _⟩ rfl (Nat.le_of_ble_eq_true rfl) d_Pro_perform_543 ?_
      refine g_dVi h tb_good (c_Pro_keepFound hn (fmod_lt _ (by decide))) (ix_lt 10 (by decide) _ (by decide)) (wc_at (by decide) (by decide)) rfl v_Pro_126 nm_Pro_keepFound rfl ⟨rfl, rfl, Nat.le_of_ble_eq_true rfl, Nat.le_of_ble_eq_true rfl, Nat.zero_le _, Nat.zero_le _⟩ rfl (Nat.le_of_ble_eq_true rfl) d_Pro_perform_546 ?_
      exact g_iret h r d_Pro_perform_549 (⟨rfl, rfl⟩)
  · exact absurd c_5 (fun z => by have := congrArg Int32.toInt z; rw [nI_toInt (by omega), show (-1 : Int32).toInt = -1 from by decide] at this; omega)
end

-- part 20.more
section
def cgrays (C : CS) : Nat → Nat → Int32 → Int32
  | 0, _, a => a
  | c + 1, i, a => cgrays C c (i + 1) (if C.1 1 i = 1 then a + 1 else a)
set_option maxHeartbeats 4000000 in
set_option maxRecDepth 100000 in
theorem c_Heap_grayOnes {l : Launch} {D : va_G} {t : Nat → ClassId} {ad : Nat → Nat} {C : CS}  : Cd l D t ad y_Heap_grayOnes b_Heap_grayOnes 3 (some .int) { frames := 0, cells := 0, slots := 0, locals := 0 } [.ref (ad (ix 1 0))] (C) (some (.int (cgrays C 16 0 0))) (C) := by
  refine ct_of (by decide) (Nat.le_of_ble_eq_true rfl) ?_
  intro Γ _ _ hN h r
  have loop : ∀ (c i : Nat) (a : Int32), i + c = 16 → cgrays C c i a = cgrays C 16 0 0 → G Γ 0 0 171 ad (wc ad t C) 4 [some (.ref (ad (ix 1 0))), some (.int a), some (.int (nI i))] [] := by
    intro c
    induction c with
    | zero =>
      intro i a hi he
      refine g_iload_n h d_Heap_grayOnes_4 rfl rfl ?_
      refine g_bipush (v := 16) h d_Heap_grayOnes_5 (by decide) ?_
      refine g_icmp_ge (tgt := 32) h d_Heap_grayOnes_7 (by decide) (fun c_7 => ?_) (fun c_7 => ?_)
      · refine g_iload_n h d_Heap_grayOnes_32 rfl rfl ?_
        exact g_iret h r d_Heap_grayOnes_33 (⟨by rw [← he]; rfl, rfl⟩)
      · exact absurd (nI_le (a := 16) (b := i) (by omega) (by omega)) c_7
    | succ c ih =>
      intro i a hi he
      refine g_iload_n h d_Heap_grayOnes_4 rfl rfl ?_
      refine g_bipush (v := 16) h d_Heap_grayOnes_5 (by decide) ?_
      refine g_icmp_ge (tgt := 32) h d_Heap_grayOnes_7 (by decide) (fun c_7 => ?_) (fun c_7 => ?_)
      · exact absurd c_7 (nI_ge (b := 16) (by omega) (by decide))
      · refine g_aload_n h d_Heap_grayOnes_10 rfl rfl ?_
        refine gf_Heap_cells h f_Heap_17 d_Heap_grayOnes_11 ?_
        refine g_iload_n h d_Heap_grayOnes_14 rfl rfl ?_
        refine ga_cells h rfl (by omega) d_Heap_grayOnes_15 ?_
        refine gf_Cell_colour h f_Heap_73 (by first | assumption | omega | (show _ < 16; omega)) d_Heap_grayOnes_16 ?_
        refine g_iconst (v := 1) h d_Heap_grayOnes_19 (by decide) ?_
        refine g_icmp_ne (tgt := 26) h d_Heap_grayOnes_20 (by decide) (fun c_20 => ?_) (fun c_20 => ?_)
        · refine g_iinc (v := nI (i + 1)) h d_Heap_grayOnes_26 rfl (by rw [nI_succ]; rfl) rfl (by rw [hN]; decide) ?_
          refine g_goto (tgt := 4) h d_Heap_grayOnes_29 (by decide) ?_
          exact ih (i + 1) _ (by omega) (by rw [← he]; simp [cgrays, c_20])
        · refine g_iinc (v := a + 1) h d_Heap_grayOnes_23 rfl rfl rfl (by rw [hN]; decide) ?_
          refine g_iinc (v := nI (i + 1)) h d_Heap_grayOnes_26 rfl (by rw [nI_succ]; rfl) rfl (by rw [hN]; decide) ?_
          refine g_goto (tgt := 4) h d_Heap_grayOnes_29 (by decide) ?_
          exact ih (i + 1) _ (by omega) (by rw [← he]; simp [cgrays, c_20])
  refine g_at (L' := [some (.ref (ad (ix 1 0))), none, none]) rfl rfl rfl ?_
  refine g_iconst (v := 0) h d_Heap_grayOnes_0 (by decide) ?_
  refine g_istore_n h d_Heap_grayOnes_1 rfl rfl (by rw [hN]; decide) ?_
  refine g_iconst (v := 0) h d_Heap_grayOnes_2 (by decide) ?_
  refine g_istore_n h d_Heap_grayOnes_3 rfl rfl (by rw [hN]; decide) ?_
  exact loop 16 0 0 (by omega) rfl
set_option maxHeartbeats 4000000 in
set_option maxRecDepth 100000 in
theorem c_Pro_performN {l : Launch} {D : va_G} {t : Nat → ClassId} {ad : Nat → Nat} {C : CS} {n k : Nat} (hn : n < 16) (hk : k < 68) (hop : C.1 9 k = -1) : Cd l D t ad y_Pro_perform b_Pro_perform 7 (some .int) { frames := 5, cells := 0, slots := 0, locals := 127 } [.ref (ad (ix 10 0)), .ref (ad (ix 8 n)), .ref (ad (ix 13 k))] (C) (some (.int 1)) (C) := by
  refine ct_of (by decide) (Nat.le_of_ble_eq_true rfl) ?_
  intro Γ _ _ hN h r
  refine g_at (L' := [some (.ref (ad (ix 10 0))), some (.ref (ad (ix 8 n))), some (.ref (ad (ix 13 k))), none, none, none, none]) rfl rfl rfl ?_
  refine g_aload_n h d_Pro_perform_0 rfl rfl ?_
  refine gf_Ins_op h f_Pro_102 (by first | assumption | omega | (show _ < 16; omega) | (show _ < 68; omega)) d_Pro_perform_1 ?_
  rw [hop]
  refine g_iconst (v := -1) h d_Pro_perform_4 (by decide) ?_
  refine g_icmp_ne (tgt := 10) h d_Pro_perform_5 (by decide) (fun c_5 => ?_) (fun c_5 => ?_)
  · exact absurd rfl c_5
  · refine g_iconst (v := 1) h d_Pro_perform_8 (by decide) ?_
    exact g_iret h r d_Pro_perform_9 (⟨rfl, rfl⟩)
end

-- part 30.namesM
section
theorem tb_last {ws : List Cond} {w : Cond} (h : ∀ x ∈ ws, x ∈ TB) (hw : w ∈ TB) : ∀ x ∈ ws ++ [w], x ∈ TB := fun x hx => by
  rcases List.mem_append.mp hx with hx | hx
  · exact h x hx
  · exact (List.mem_singleton.mp hx) ▸ hw
theorem f_Mod_7 : Cond.fieldLink "TriColourMachineModel" 7 "TriColourMachineModel" "ops" "[I" ∈ TB := tb_mem 682 (by decide +kernel) rfl
theorem f_Mod_13 : Cond.fieldLink "TriColourMachineModel" 13 "TriColourMachineModel" "as" "[I" ∈ TB := tb_mem 683 (by decide +kernel) rfl
theorem f_Mod_16 : Cond.fieldLink "TriColourMachineModel" 16 "TriColourMachineModel" "bs" "[I" ∈ TB := tb_mem 684 (by decide +kernel) rfl
theorem f_Mod_19 : Cond.fieldLink "TriColourMachineModel" 19 "TriColourMachineModel" "cs" "[I" ∈ TB := tb_mem 685 (by decide +kernel) rfl
theorem f_Mod_22 : Cond.fieldLink "TriColourMachineModel" 22 "TriColourMachineModel" "globals" "[J" ∈ TB := tb_mem 686 (by decide +kernel) rfl
theorem f_Mod_26 : Cond.fieldLink "TriColourMachineModel" 26 "TriColourMachineModel" "kind" "[I" ∈ TB := tb_mem 687 (by decide +kernel) rfl
theorem f_Mod_29 : Cond.fieldLink "TriColourMachineModel" 29 "TriColourMachineModel" "colour" "[I" ∈ TB := tb_mem 688 (by decide +kernel) rfl
theorem f_Mod_32 : Cond.fieldLink "TriColourMachineModel" 32 "TriColourMachineModel" "size" "[I" ∈ TB := tb_mem 689 (by decide +kernel) rfl
theorem f_Mod_35 : Cond.fieldLink "TriColourMachineModel" 35 "TriColourMachineModel" "metaOf" "[I" ∈ TB := tb_mem 690 (by decide +kernel) rfl
theorem f_Mod_38 : Cond.fieldLink "TriColourMachineModel" 38 "TriColourMachineModel" "keys" "[J" ∈ TB := tb_mem 691 (by decide +kernel) rfl
theorem f_Mod_41 : Cond.fieldLink "TriColourMachineModel" 41 "TriColourMachineModel" "values" "[J" ∈ TB := tb_mem 692 (by decide +kernel) rfl
theorem f_Mod_44 : Cond.fieldLink "TriColourMachineModel" 44 "TriColourMachineModel" "registers" "[J" ∈ TB := tb_mem 693 (by decide +kernel) rfl
theorem f_Mod_47 : Cond.fieldLink "TriColourMachineModel" 47 "TriColourMachineModel" "function" "[I" ∈ TB := tb_mem 694 (by decide +kernel) rfl
theorem f_Mod_50 : Cond.fieldLink "TriColourMachineModel" 50 "TriColourMachineModel" "place" "[I" ∈ TB := tb_mem 695 (by decide +kernel) rfl
theorem f_Mod_53 : Cond.fieldLink "TriColourMachineModel" 53 "TriColourMachineModel" "state" "[I" ∈ TB := tb_mem 696 (by decide +kernel) rfl
theorem f_Mod_56 : Cond.fieldLink "TriColourMachineModel" 56 "TriColourMachineModel" "waits" "[I" ∈ TB := tb_mem 697 (by decide +kernel) rfl
theorem f_Mod_59 : Cond.fieldLink "TriColourMachineModel" 59 "TriColourMachineModel" "active" "[I" ∈ TB := tb_mem 698 (by decide +kernel) rfl
theorem k_Mod_62 : Cond.constantLong "TriColourMachineModel" 62 (-1000000000000) ∈ TB := tb_mem 681 (by decide +kernel) rfl
theorem f_Mod_64 : Cond.fieldLink "TriColourMachineModel" 64 "TriColourMachineModel" "thrown" "I" ∈ TB := tb_mem 707 (by decide +kernel) rfl
set_option maxRecDepth 100000 in
theorem v_Mod_78 : ∀ w ∈ cwsV "TriColourMachineModel" 78 "TriColourMachineModel" y_Mod_badGlobal b_Mod_badGlobal 2 (some .boolean), w ∈ TB := tb_last (tb_all [780, 782, 17, 51] (by decide +kernel) (by decide +kernel)) (List.mem_filter.mpr ⟨List.mem_of_getElem? (i := 783) rfl, rfl⟩)
set_option maxRecDepth 100000 in
theorem v_Mod_127 : ∀ w ∈ cwsV "TriColourMachineModel" 127 "TriColourMachineModel" y_Mod_create b_Mod_create 5 (some .int), w ∈ TB := tb_last (tb_all [792, 794, 18, 51] (by decide +kernel) (by decide +kernel)) (List.mem_filter.mpr ⟨List.mem_of_getElem? (i := 795) rfl, rfl⟩)
theorem k_Mod_72 : Cond.constantLong "TriColourMachineModel" 72 (10000000000) ∈ TB := tb_mem 820 (by decide +kernel) rfl
set_option maxRecDepth 100000 in
theorem v_Mod_118 : ∀ w ∈ cwsV "TriColourMachineModel" 118 "TriColourMachineModel" y_Mod_free b_Mod_free 2 (some .int), w ∈ TB := tb_last (tb_all [796, 798, 19, 51] (by decide +kernel) (by decide +kernel)) (List.mem_filter.mpr ⟨List.mem_of_getElem? (i := 799) rfl, rfl⟩)
set_option maxRecDepth 100000 in
theorem v_Mod_121 : ∀ w ∈ cwsV "TriColourMachineModel" 121 "TriColourMachineModel" y_Mod_whole b_Mod_whole 2 (some .int), w ∈ TB := tb_last (tb_all [800, 802, 20, 51] (by decide +kernel) (by decide +kernel)) (List.mem_filter.mpr ⟨List.mem_of_getElem? (i := 803) rfl, rfl⟩)
theorem f_Mod_92 : Cond.fieldLink "TriColourMachineModel" 92 "TriColourMachineModel" "phase" "I" ∈ TB := tb_mem 700 (by decide +kernel) rfl
theorem f_Mod_106 : Cond.fieldLink "TriColourMachineModel" 106 "TriColourMachineModel" "sweep" "I" ∈ TB := tb_mem 701 (by decide +kernel) rfl
theorem f_Mod_124 : Cond.fieldLink "TriColourMachineModel" 124 "TriColourMachineModel" "made" "I" ∈ TB := tb_mem 702 (by decide +kernel) rfl
theorem f_Mod_112 : Cond.fieldLink "TriColourMachineModel" 112 "TriColourMachineModel" "fulls" "I" ∈ TB := tb_mem 706 (by decide +kernel) rfl
set_option maxRecDepth 100000 in
theorem v_Mod_115 : ∀ w ∈ cwsV "TriColourMachineModel" 115 "TriColourMachineModel" y_Mod_unit b_Mod_unit 3 (some .int), w ∈ TB := tb_last (tb_all [804, 806, 21, 51] (by decide +kernel) (by decide +kernel)) (List.mem_filter.mpr ⟨List.mem_of_getElem? (i := 807) rfl, rfl⟩)
theorem f_Mod_89 : Cond.fieldLink "TriColourMachineModel" 89 "TriColourMachineModel" "units" "I" ∈ TB := tb_mem 705 (by decide +kernel) rfl
set_option maxRecDepth 100000 in
theorem v_Mod_95 : ∀ w ∈ cwsV "TriColourMachineModel" 95 "TriColourMachineModel" y_Mod_shadeRoots b_Mod_shadeRoots 3 none, w ∈ TB := tb_last (tb_all [808, 810, 22, 51] (by decide +kernel) (by decide +kernel)) (List.mem_filter.mpr ⟨List.mem_of_getElem? (i := 811) rfl, rfl⟩)
set_option maxRecDepth 100000 in
theorem v_Mod_98 : ∀ w ∈ cwsV "TriColourMachineModel" 98 "TriColourMachineModel" y_Mod_leastGray b_Mod_leastGray 2 (some .int), w ∈ TB := tb_last (tb_all [821, 823, 25, 51] (by decide +kernel) (by decide +kernel)) (List.mem_filter.mpr ⟨List.mem_of_getElem? (i := 824) rfl, rfl⟩)
set_option maxRecDepth 100000 in
theorem v_Mod_102 : ∀ w ∈ cwsV "TriColourMachineModel" 102 "TriColourMachineModel" y_Mod_blacken b_Mod_blacken 3 none, w ∈ TB := tb_last (tb_all [825, 827, 26, 51] (by decide +kernel) (by decide +kernel)) (List.mem_filter.mpr ⟨List.mem_of_getElem? (i := 828) rfl, rfl⟩)
theorem f_Mod_109 : Cond.fieldLink "TriColourMachineModel" 109 "TriColourMachineModel" "gone" "I" ∈ TB := tb_mem 703 (by decide +kernel) rfl
set_option maxRecDepth 100000 in
theorem v_Mod_82 : ∀ w ∈ cwsV "TriColourMachineModel" 82 "TriColourMachineModel" y_Mod_shade b_Mod_shade 4 none, w ∈ TB := tb_last (tb_all [812, 814, 23, 51] (by decide +kernel) (by decide +kernel)) (List.mem_filter.mpr ⟨List.mem_of_getElem? (i := 815) rfl, rfl⟩)
theorem f_Mod_86 : Cond.fieldLink "TriColourMachineModel" 86 "TriColourMachineModel" "depth" "I" ∈ TB := tb_mem 699 (by decide +kernel) rfl
set_option maxRecDepth 100000 in
theorem v_Mod_74 : ∀ w ∈ cwsV "TriColourMachineModel" 74 "TriColourMachineModel" y_Mod_objectOf b_Mod_objectOf 3 (some .int), w ∈ TB := tb_last (tb_all [816, 818, 24, 51] (by decide +kernel) (by decide +kernel)) (List.mem_filter.mpr ⟨List.mem_of_getElem? (i := 819) rfl, rfl⟩)
set_option maxRecDepth 100000 in
theorem v_Mod_135 : ∀ w ∈ cwsV "TriColourMachineModel" 135 "TriColourMachineModel" y_Mod_tableOf b_Mod_tableOf 4 (some .int), w ∈ TB := tb_last (tb_all [833, 835, 27, 51] (by decide +kernel) (by decide +kernel)) (List.mem_filter.mpr ⟨List.mem_of_getElem? (i := 836) rfl, rfl⟩)
theorem f_Mod_141 : Cond.fieldLink "TriColourMachineModel" 141 "TriColourMachineModel" "trouble" "I" ∈ TB := tb_mem 708 (by decide +kernel) rfl
set_option maxRecDepth 100000 in
theorem v_Mod_147 : ∀ w ∈ cwsV "TriColourMachineModel" 147 "TriColourMachineModel" y_Mod_setting b_Mod_setting 10 none, w ∈ TB := tb_last (tb_all [837, 839, 28, 51] (by decide +kernel) (by decide +kernel)) (List.mem_filter.mpr ⟨List.mem_of_getElem? (i := 840) rfl, rfl⟩)
set_option maxRecDepth 100000 in
theorem v_Mod_131 : ∀ w ∈ cwsV "TriColourMachineModel" 131 "TriColourMachineModel" y_Mod_pairOf b_Mod_pairOf 5 (some .int), w ∈ TB := tb_last (tb_all [841, 843, 29, 51] (by decide +kernel) (by decide +kernel)) (List.mem_filter.mpr ⟨List.mem_of_getElem? (i := 844) rfl, rfl⟩)
set_option maxRecDepth 100000 in
theorem v_Mod_138 : ∀ w ∈ cwsV "TriColourMachineModel" 138 "TriColourMachineModel" y_Mod_next b_Mod_next 6 (some .int), w ∈ TB := tb_last (tb_all [845, 847, 30, 51] (by decide +kernel) (by decide +kernel)) (List.mem_filter.mpr ⟨List.mem_of_getElem? (i := 848) rfl, rfl⟩)
set_option maxRecDepth 100000 in
theorem v_Mod_144 : ∀ w ∈ cwsV "TriColourMachineModel" 144 "TriColourMachineModel" y_Mod_touch b_Mod_touch 2 none, w ∈ TB := tb_last (tb_all [849, 851, 31, 51] (by decide +kernel) (by decide +kernel)) (List.mem_filter.mpr ⟨List.mem_of_getElem? (i := 852) rfl, rfl⟩)
set_option maxRecDepth 100000 in
theorem v_Mod_151 : ∀ w ∈ cwsV "TriColourMachineModel" 151 "TriColourMachineModel" y_Mod_getting b_Mod_getting 7 (some .long), w ∈ TB := tb_last (tb_all [857, 859, 32, 51] (by decide +kernel) (by decide +kernel)) (List.mem_filter.mpr ⟨List.mem_of_getElem? (i := 860) rfl, rfl⟩)
set_option maxRecDepth 100000 in
theorem v_Mod_155 : ∀ w ∈ cwsV "TriColourMachineModel" 155 "TriColourMachineModel" y_Mod_join b_Mod_join 6 none, w ∈ TB := tb_last (tb_all [865, 867, 33, 51] (by decide +kernel) (by decide +kernel)) (List.mem_filter.mpr ⟨List.mem_of_getElem? (i := 868) rfl, rfl⟩)
set_option maxRecDepth 100000 in
theorem v_Mod_173 : ∀ w ∈ cwsV "TriColourMachineModel" 173 "TriColourMachineModel" y_Mod_enter b_Mod_enter 7 none, w ∈ TB := tb_last (tb_all [873, 875, 34, 51] (by decide +kernel) (by decide +kernel)) (List.mem_filter.mpr ⟨List.mem_of_getElem? (i := 876) rfl, rfl⟩)
set_option maxRecDepth 100000 in
theorem v_Mod_191 : ∀ w ∈ cwsV "TriColourMachineModel" 191 "TriColourMachineModel" y_Mod_step b_Mod_step 15 none, w ∈ TB := tb_last (tb_all [881, 883, 36, 51] (by decide +kernel) (by decide +kernel)) (List.mem_filter.mpr ⟨List.mem_of_getElem? (i := 884) rfl, rfl⟩)
theorem f_Mod_162 : Cond.fieldLink "TriColourMachineModel" 162 "TriColourMachineModel" "outcome" "J" ∈ TB := tb_mem 709 (by decide +kernel) rfl
set_option maxRecDepth 100000 in
theorem v_Mod_159 : ∀ w ∈ cwsV "TriColourMachineModel" 159 "TriColourMachineModel" y_Mod_coroutineOf b_Mod_coroutineOf 4 (some .int), w ∈ TB := tb_last (tb_all [877, 879, 35, 51] (by decide +kernel) (by decide +kernel)) (List.mem_filter.mpr ⟨List.mem_of_getElem? (i := 880) rfl, rfl⟩)
theorem f_Mod_170 : Cond.fieldLink "TriColourMachineModel" 170 "TriColourMachineModel" "done" "I" ∈ TB := tb_mem 704 (by decide +kernel) rfl
set_option maxRecDepth 100000 in
theorem v_Mod_176 : ∀ w ∈ cwsV "TriColourMachineModel" 176 "TriColourMachineModel" y_Mod_leave b_Mod_leave 6 none, w ∈ TB := tb_last (tb_all [885, 887, 37, 51] (by decide +kernel) (by decide +kernel)) (List.mem_filter.mpr ⟨List.mem_of_getElem? (i := 888) rfl, rfl⟩)
set_option maxRecDepth 100000 in
theorem v_Mod_180 : ∀ w ∈ cwsV "TriColourMachineModel" 180 "TriColourMachineModel" y_Mod_jumps b_Mod_jumps 6 (some .boolean), w ∈ TB := tb_last (tb_all [889, 891, 38, 51] (by decide +kernel) (by decide +kernel)) (List.mem_filter.mpr ⟨List.mem_of_getElem? (i := 892) rfl, rfl⟩)
set_option maxRecDepth 100000 in
theorem v_Mod_184 : ∀ w ∈ cwsV "TriColourMachineModel" 184 "TriColourMachineModel" y_Mod_calculate b_Mod_calculate 8 none, w ∈ TB := tb_last (tb_all [899, 901, 40, 51] (by decide +kernel) (by decide +kernel)) (List.mem_filter.mpr ⟨List.mem_of_getElem? (i := 902) rfl, rfl⟩)
set_option maxRecDepth 100000 in
theorem v_Mod_188 : ∀ w ∈ cwsV "TriColourMachineModel" 188 "TriColourMachineModel" y_Mod_following b_Mod_following 5 (some .long), w ∈ TB := tb_last (tb_all [903, 905, 41, 51] (by decide +kernel) (by decide +kernel)) (List.mem_filter.mpr ⟨List.mem_of_getElem? (i := 906) rfl, rfl⟩)
set_option maxRecDepth 100000 in
theorem v_Mod_166 : ∀ w ∈ cwsV "TriColourMachineModel" 166 "TriColourMachineModel" y_Mod_isNumber b_Mod_isNumber 3 (some .boolean), w ∈ TB := tb_last (tb_all [893, 895, 39, 51] (by decide +kernel) (by decide +kernel)) (List.mem_filter.mpr ⟨List.mem_of_getElem? (i := 896) rfl, rfl⟩)
theorem k_Mod_68 : Cond.constantLong "TriColourMachineModel" 68 (-2147483648) ∈ TB := tb_mem 897 (by decide +kernel) rfl
theorem k_Mod_70 : Cond.constantLong "TriColourMachineModel" 70 (2147483647) ∈ TB := tb_mem 898 (by decide +kernel) rfl
end
