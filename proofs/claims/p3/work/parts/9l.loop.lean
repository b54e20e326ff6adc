/-- a boolean: x != 0 -/
theorem g_bool {Γ : GT} {cc : ByteArray} {own : String} {rm : Room} {Ts : List Cond} {cl : List vw_C} {tys : List (ClassId × FieldType)} {nl : List (String × Nat × MethodName × String)} {kc ks N pc p0 : Nat} {ad : Nat → Nat} {σ : Nat → va_E} {L : List (Option Value)} {st : List Value} {x b : Int32} {o1 o2 : Int} (h : Cx Γ cc own rm Ts cl tys nl) (d1 : decode cc pc = .ok (.ifCond .eq o1, 3)) (d2 : decode cc (pc + 3) = .ok (.iconst 1, 1)) (d3 : decode cc (pc + 4) = .ok (.goto o2, 3)) (d4 : decode cc p0 = .ok (.iconst 0, 1)) (e1 : (pc : Int) + o1 = (p0 : Int)) (e2 : ((pc + 4 : Nat) : Int) + o2 = ((p0 + 1 : Nat) : Int)) (hb : b = if x = 0 then 0 else 1) (k : G Γ kc ks N ad σ (p0 + 1) L (.int b :: st)) : G Γ kc ks N ad σ pc L (.int x :: st) := by
  subst hb
  refine g_if_eq (tgt := p0) h d1 e1 (fun z => ?_) (fun z => ?_)
  · rw [if_pos z] at k
    exact g_iconst h d4 (by decide) k
  · rw [if_neg z] at k
    exact g_iconst h d2 (by decide) (g_goto (tgt := p0 + 1) h d3 e2 k)
theorem sub7 {i Ln : Nat} (hi : i < 2 ^ 30) (hL : Ln < 2 ^ 30) (h : ¬ nI Ln - 7 < nI i) : i + 7 ≤ Ln := by
  have a := mt Int32.lt_iff_toInt_lt.mpr h
  rw [nI_toInt (by omega), show (7 : Int32) = nI 7 from rfl, pk_sub_toInt hL (by omega)] at a
  omega
set_option maxHeartbeats 4000000 in
set_option maxRecDepth 100000 in
theorem law_loop {Γ : GT} {ad : Nat → Nat} {t : Nat → ClassId} {b Ln : Nat} {xs : Nat → Int32} (h : Cx Γ code "TriColourMachineLaw" room_1 TB CL (tyl t) NL) (hN : gN Γ = 8) (hnc : ncs (gs Γ)) (htr : Tr (gL Γ)) (hX : va_X b Ln xs (gs Γ) (gs Γ).heap) (hbl : b < (gs Γ).heap.size) (hbA : ¬ gA Γ b) (hLn : Ln ≤ 3584)
    (fin : ∀ (kc ks : Nat) (L : List (Option Value)) (σ : Nat → va_E), kc ≤ 620839 → ks ≤ 7233588 → G Γ kc ks 190 ad σ 723 L [.int 1]) :
    ∀ (c i kc ks : Nat) (C M : CS) (f : Nat → Int64), RR C M → i ≤ Ln → Ln < i + 7 * (c + 1) → kc + c ≤ 620839 → ks + 6 * c ≤ 7233588 → G Γ kc ks 190 ad (wl ad t C f M) 23 [some (.ref b), some (.ref (ad (ix 0 0))), some (.ref (ad 172)), some (.ref (ad 171)), some (.int (nI i)), none, none, none] [] := by
  intro c
  induction c with
  | zero =>
    intro i kc ks C M f hR hi hc hk hs
    refine g_iload h d_law_23 rfl ?_
    refine g_aload_n h d_law_25 rfl rfl ?_
    refine g_slen h hX hbl hbA d_law_26 ?_
    refine g_bipush (v := 7) h d_law_27 (by decide) ?_
    refine g_isub h d_law_29 ?_
    refine g_icmp_gt (tgt := 722) h d_law_30 (by decide) (fun c_ => ?_) (fun c_ => ?_)
    · refine g_iconst (v := 1) h d_law_722 (by decide) ?_
      exact fin _ _ _ _ (by omega) (by omega)
    · have := sub7 (by omega) (by omega) c_
      omega
  | succ c ih =>
    intro i kc ks C M f hR hi hc hk hs
    refine g_iload h d_law_23 rfl ?_
    refine g_aload_n h d_law_25 rfl rfl ?_
    refine g_slen h hX hbl hbA d_law_26 ?_
    refine g_bipush (v := 7) h d_law_27 (by decide) ?_
    refine g_isub h d_law_29 ?_
    refine g_icmp_gt (tgt := 722) h d_law_30 (by decide) (fun c_ => ?_) (fun c_ => ?_)
    · refine g_iconst (v := 1) h d_law_722 (by decide) ?_
      exact fin _ _ _ _ (by omega) (by omega)
    have h7 := sub7 (by omega) (by omega) c_
    have vin : ∀ k : Nat, k < 7 → (nI k = Int32.ofNat k) → vp_in (nI i + Int32.ofNat k) Ln := fun k hk e => by rw [← e, nI_add]; exact vp_in_nI (by omega) (by omega)
    have next : ∀ (C2 M2 : CS) (f2 : Nat → Int64) (L' : List (Option Value)), RR C2 M2 → (∀ (j : Nat) (v : Value), ([some (.ref b), some (.ref (ad (ix 0 0))), some (.ref (ad 172)), some (.ref (ad 171)), some (.int (nI (i + 7))), none, none, none] : List (Option Value))[j]? = some (some v) → L'[j]? = some (some v)) → G Γ (kc + 1) (ks + 6) 190 ad (wl ad t C2 f2 M2) 23 L' [] := fun C2 M2 f2 L' r e => g_less e (ih (i + 7) (kc + 1) (ks + 6) C2 M2 f2 r (by omega) (by omega) (by omega) (by omega))
    refine g_aload_n h d_law_33 rfl rfl ?_
    refine g_iload h d_law_34 rfl ?_
    refine g_sld h hX hbl hbA (vp_in_nI (by omega) (by omega)) d_law_36 ?_
    refine g_bipush (v := 15) h d_law_37 (by decide) ?_
    refine g_iand h d_law_39 ?_
    obtain ⟨j, hj, ej⟩ := pk_andE (xs (nI i).toNatClampNeg) (m := 15) 4 (by decide)
    rw [ej]
    have lt : ∀ (x5 x6 x7 : Option Value), ∀ (j : Nat) (v : Value), ([some (.ref b), some (.ref (ad (ix 0 0))), some (.ref (ad 172)), some (.ref (ad 171)), some (.int (nI (i + 7))), none, none, none] : List (Option Value))[j]? = some (some v) → ([some (.ref b), some (.ref (ad (ix 0 0))), some (.ref (ad 172)), some (.ref (ad 171)), some (.int (nI (i + 7))), x5, x6, x7] : List (Option Value))[j]? = some (some v) := fun x5 x6 x7 j v hj => by
      rcases j with _ | _ | _ | _ | _ | _ | _ | _ | j
      · exact hj
      · exact hj
      · exact hj
      · exact hj
      · exact hj
      · cases hj
      · cases hj
      · cases hj
      · cases hj
    rcases (show j = 0 ∨ j = 1 ∨ j = 2 ∨ j = 3 ∨ j = 4 ∨ j = 5 ∨ j = 6 ∨ j = 7 ∨ j = 8 ∨ j = 9 ∨ j = 10 ∨ j = 11 ∨ j = 12 ∨ j = 13 ∨ j = 14 ∨ j = 15 by omega) with rfl | rfl | rfl | rfl | rfl | rfl | rfl | rfl | rfl | rfl | rfl | rfl | rfl | rfl | rfl | rfl
    · refine g_tableIn (off := 72) (tgt := 112) h d_law_40 (by decide) (by decide) (by decide) (by decide) ?_
      obtain ⟨r, C2, hA, hRR, hth⟩ := A_code hR (xs (nI i + 1).toNatClampNeg) (xs (nI i + 2).toNatClampNeg) (xs (nI i + 3).toNatClampNeg) (xs (nI i + 4).toNatClampNeg) (xs (nI i + 5).toNatClampNeg) (xs (nI i + 6).toNatClampNeg)
      refine g_aload_n h d_law_112 rfl rfl ?_
      refine g_aload_n h d_law_113 rfl rfl ?_
      refine g_iload h d_law_114 rfl ?_
      refine g_iconst (v := 1) h d_law_116 (by decide) ?_
      refine g_iadd h d_law_117 ?_
      refine g_sld h hX hbl hbA (vin 1 (by decide) (by decide)) d_law_118 ?_
      refine g_aload_n h d_law_119 rfl rfl ?_
      refine g_iload h d_law_120 rfl ?_
      refine g_iconst (v := 2) h d_law_122 (by decide) ?_
      refine g_iadd h d_law_123 ?_
      refine g_sld h hX hbl hbA (vin 2 (by decide) (by decide)) d_law_124 ?_
      refine g_aload_n h d_law_125 rfl rfl ?_
      refine g_iload h d_law_126 rfl ?_
      refine g_iconst (v := 3) h d_law_128 (by decide) ?_
      refine g_iadd h d_law_129 ?_
      refine g_sld h hX hbl hbA (vin 3 (by decide) (by decide)) d_law_130 ?_
      refine g_aload_n h d_law_131 rfl rfl ?_
      refine g_iload h d_law_132 rfl ?_
      refine g_iconst (v := 4) h d_law_134 (by decide) ?_
      refine g_iadd h d_law_135 ?_
      refine g_sld h hX hbl hbA (vin 4 (by decide) (by decide)) d_law_136 ?_
      refine g_aload_n h d_law_137 rfl rfl ?_
      refine g_iload h d_law_138 rfl ?_
      refine g_iconst (v := 5) h d_law_140 (by decide) ?_
      refine g_iadd h d_law_141 ?_
      refine g_sld h hX hbl hbA (vin 5 (by decide) (by decide)) d_law_142 ?_
      refine g_aload_n h d_law_143 rfl rfl ?_
      refine g_iload h d_law_144 rfl ?_
      refine g_bipush (v := 6) h d_law_146 (by decide) ?_
      refine g_iadd h d_law_148 ?_
      refine g_sld h hX hbl hbA (vin 6 (by decide) (by decide)) d_law_149 ?_
      refine g_wrapK h hnc (hA (gL Γ) (gD Γ) t ad htr) v_law_65 nm_Law_code rfl ⟨rfl, rfl, Nat.le_of_ble_eq_true rfl, Nat.le_of_ble_eq_true rfl, by show _ ≤ 620839; omega, by show _ ≤ 7233588; omega⟩ rfl (Nat.le_of_ble_eq_true rfl) d_law_150 ?_
      refine g_istore h d_law_153 rfl (by rw [hN]; decide) ?_
      refine g_aload_n h d_law_155 rfl rfl ?_
      refine g_aload_n h d_law_156 rfl rfl ?_
      refine g_iload h d_law_157 rfl ?_
      refine g_iconst (v := 1) h d_law_159 (by decide) ?_
      refine g_iadd h d_law_160 ?_
      refine g_sld h hX hbl hbA (vin 1 (by decide) (by decide)) d_law_161 ?_
      refine g_aload_n h d_law_162 rfl rfl ?_
      refine g_iload h d_law_163 rfl ?_
      refine g_iconst (v := 2) h d_law_165 (by decide) ?_
      refine g_iadd h d_law_166 ?_
      refine g_sld h hX hbl hbA (vin 2 (by decide) (by decide)) d_law_167 ?_
      refine g_aload_n h d_law_168 rfl rfl ?_
      refine g_iload h d_law_169 rfl ?_
      refine g_iconst (v := 3) h d_law_171 (by decide) ?_
      refine g_iadd h d_law_172 ?_
      refine g_sld h hX hbl hbA (vin 3 (by decide) (by decide)) d_law_173 ?_
      refine g_aload_n h d_law_174 rfl rfl ?_
      refine g_iload h d_law_175 rfl ?_
      refine g_iconst (v := 4) h d_law_177 (by decide) ?_
      refine g_iadd h d_law_178 ?_
      refine g_sld h hX hbl hbA (vin 4 (by decide) (by decide)) d_law_179 ?_
      refine g_aload_n h d_law_180 rfl rfl ?_
      refine g_iload h d_law_181 rfl ?_
      refine g_iconst (v := 5) h d_law_183 (by decide) ?_
      refine g_iadd h d_law_184 ?_
      refine g_sld h hX hbl hbA (vin 5 (by decide) (by decide)) d_law_185 ?_
      refine g_aload_n h d_law_186 rfl rfl ?_
      refine g_iload h d_law_187 rfl ?_
      refine g_bipush (v := 6) h d_law_189 (by decide) ?_
      refine g_iadd h d_law_191 ?_
      refine g_sld h hX hbl hbA (vin 6 (by decide) (by decide)) d_law_192 ?_
      refine g_refV h (c_Mod_code) v_law_70 nm_Mod_code rfl ⟨rfl, rfl, Nat.le_of_ble_eq_true rfl, Nat.le_of_ble_eq_true rfl, by show _ ≤ 620839; omega, by show _ ≤ 7233588; omega⟩ rfl (Nat.le_of_ble_eq_true rfl) d_law_193 ?_
      refine g_goto (tgt := 716) h d_law_196 (by decide) ?_
      refine g_iinc (v := nI (i + 7)) h d_law_716 rfl (nI_add i 7) rfl (by rw [hN]; decide) ?_
      refine g_goto (tgt := 23) h d_law_719 (by decide) ?_
      exact next _ _ _ _ hRR (lt _ _ _)
    · refine g_tableIn (off := 159) (tgt := 199) h d_law_40 (by decide) (by decide) (by decide) (by decide) ?_
      obtain ⟨r, C2, hA, hRR, hth⟩ := A_number hR (xs (nI i + 1).toNatClampNeg) (xs (nI i + 2).toNatClampNeg)
      refine g_aload_n h d_law_199 rfl rfl ?_
      refine g_aload_n h d_law_200 rfl rfl ?_
      refine g_iload h d_law_201 rfl ?_
      refine g_iconst (v := 1) h d_law_203 (by decide) ?_
      refine g_iadd h d_law_204 ?_
      refine g_sld h hX hbl hbA (vin 1 (by decide) (by decide)) d_law_205 ?_
      refine g_aload_n h d_law_206 rfl rfl ?_
      refine g_iload h d_law_207 rfl ?_
      refine g_iconst (v := 2) h d_law_209 (by decide) ?_
      refine g_iadd h d_law_210 ?_
      refine g_sld h hX hbl hbA (vin 2 (by decide) (by decide)) d_law_211 ?_
      refine g_wrapK h hnc (hA (gL Γ) (gD Γ) t ad htr) v_law_71 nm_Law_number rfl ⟨rfl, rfl, Nat.le_of_ble_eq_true rfl, Nat.le_of_ble_eq_true rfl, by show _ ≤ 620839; omega, by show _ ≤ 7233588; omega⟩ rfl (Nat.le_of_ble_eq_true rfl) d_law_212 ?_
      refine g_istore h d_law_215 rfl (by rw [hN]; decide) ?_
      refine g_aload_n h d_law_217 rfl rfl ?_
      refine g_aload_n h d_law_218 rfl rfl ?_
      refine g_iload h d_law_219 rfl ?_
      refine g_iconst (v := 1) h d_law_221 (by decide) ?_
      refine g_iadd h d_law_222 ?_
      refine g_sld h hX hbl hbA (vin 1 (by decide) (by decide)) d_law_223 ?_
      refine g_aload_n h d_law_224 rfl rfl ?_
      refine g_iload h d_law_225 rfl ?_
      refine g_iconst (v := 2) h d_law_227 (by decide) ?_
      refine g_iadd h d_law_228 ?_
      refine g_sld h hX hbl hbA (vin 2 (by decide) (by decide)) d_law_229 ?_
      refine g_refV h (c_Mod_number) v_law_74 nm_Mod_number rfl ⟨rfl, rfl, Nat.le_of_ble_eq_true rfl, Nat.le_of_ble_eq_true rfl, by show _ ≤ 620839; omega, by show _ ≤ 7233588; omega⟩ rfl (Nat.le_of_ble_eq_true rfl) d_law_230 ?_
      refine g_aload_n h d_law_233 rfl rfl ?_
      refine g_refV h (c_Mod_thrown) v_law_75 nm_Mod_thrown rfl ⟨rfl, rfl, Nat.le_of_ble_eq_true rfl, Nat.le_of_ble_eq_true rfl, by show _ ≤ 620839; omega, by show _ ≤ 7233588; omega⟩ rfl (Nat.le_of_ble_eq_true rfl) d_law_234 ?_
      refine g_iload h d_law_237 rfl ?_
      refine g_icmp_eq (tgt := 244) h d_law_239 (by decide) (fun c_ => ?_) (fun c_ => absurd hth c_)
      refine g_goto (tgt := 716) h d_law_244 (by decide) ?_
      refine g_iinc (v := nI (i + 7)) h d_law_716 rfl (nI_add i 7) rfl (by rw [hN]; decide) ?_
      refine g_goto (tgt := 23) h d_law_719 (by decide) ?_
      exact next _ _ _ _ hRR (lt _ _ _)
    · refine g_tableIn (off := 207) (tgt := 247) h d_law_40 (by decide) (by decide) (by decide) (by decide) ?_
      obtain ⟨r, C2, hA, hRR, hth⟩ := A_move hR (xs (nI i + 1).toNatClampNeg) (xs (nI i + 2).toNatClampNeg)
      refine g_aload_n h d_law_247 rfl rfl ?_
      refine g_aload_n h d_law_248 rfl rfl ?_
      refine g_iload h d_law_249 rfl ?_
      refine g_iconst (v := 1) h d_law_251 (by decide) ?_
      refine g_iadd h d_law_252 ?_
      refine g_sld h hX hbl hbA (vin 1 (by decide) (by decide)) d_law_253 ?_
      refine g_aload_n h d_law_254 rfl rfl ?_
      refine g_iload h d_law_255 rfl ?_
      refine g_iconst (v := 2) h d_law_257 (by decide) ?_
      refine g_iadd h d_law_258 ?_
      refine g_sld h hX hbl hbA (vin 2 (by decide) (by decide)) d_law_259 ?_
      refine g_wrapK h hnc (hA (gL Γ) (gD Γ) t ad htr) v_law_79 nm_Law_move rfl ⟨rfl, rfl, Nat.le_of_ble_eq_true rfl, Nat.le_of_ble_eq_true rfl, by show _ ≤ 620839; omega, by show _ ≤ 7233588; omega⟩ rfl (Nat.le_of_ble_eq_true rfl) d_law_260 ?_
      refine g_istore h d_law_263 rfl (by rw [hN]; decide) ?_
      refine g_aload_n h d_law_265 rfl rfl ?_
      refine g_aload_n h d_law_266 rfl rfl ?_
      refine g_iload h d_law_267 rfl ?_
      refine g_iconst (v := 1) h d_law_269 (by decide) ?_
      refine g_iadd h d_law_270 ?_
      refine g_sld h hX hbl hbA (vin 1 (by decide) (by decide)) d_law_271 ?_
      refine g_aload_n h d_law_272 rfl rfl ?_
      refine g_iload h d_law_273 rfl ?_
      refine g_iconst (v := 2) h d_law_275 (by decide) ?_
      refine g_iadd h d_law_276 ?_
      refine g_sld h hX hbl hbA (vin 2 (by decide) (by decide)) d_law_277 ?_
      refine g_refV h (c_Mod_move) v_law_81 nm_Mod_move rfl ⟨rfl, rfl, Nat.le_of_ble_eq_true rfl, Nat.le_of_ble_eq_true rfl, by show _ ≤ 620839; omega, by show _ ≤ 7233588; omega⟩ rfl (Nat.le_of_ble_eq_true rfl) d_law_278 ?_
      refine g_goto (tgt := 716) h d_law_281 (by decide) ?_
      refine g_iinc (v := nI (i + 7)) h d_law_716 rfl (nI_add i 7) rfl (by rw [hN]; decide) ?_
      refine g_goto (tgt := 23) h d_law_719 (by decide) ?_
      exact next _ _ _ _ hRR (lt _ _ _)
    · refine g_tableIn (off := 244) (tgt := 284) h d_law_40 (by decide) (by decide) (by decide) (by decide) ?_
      obtain ⟨r, C2, F, hA, hRR, -⟩ := A_make hR (xs (nI i + 1).toNatClampNeg) (xs (nI i + 2).toNatClampNeg)
      refine g_aload_n h d_law_284 rfl rfl ?_
      refine g_aload_n h d_law_285 rfl rfl ?_
      refine g_iload h d_law_286 rfl ?_
      refine g_iconst (v := 1) h d_law_288 (by decide) ?_
      refine g_iadd h d_law_289 ?_
      refine g_sld h hX hbl hbA (vin 1 (by decide) (by decide)) d_law_290 ?_
      refine g_aload_n h d_law_291 rfl rfl ?_
      refine g_iload h d_law_292 rfl ?_
      refine g_iconst (v := 2) h d_law_294 (by decide) ?_
      refine g_iadd h d_law_295 ?_
      refine g_sld h hX hbl hbA (vin 2 (by decide) (by decide)) d_law_296 ?_
      refine g_aload_n h d_law_297 rfl rfl ?_
      refine g_wrapO h hnc (hA (gL Γ) (gD Γ) t ad f htr) v_law_82 nm_Law_make rfl ⟨rfl, rfl, Nat.le_of_ble_eq_true rfl, Nat.le_of_ble_eq_true rfl, by show _ ≤ 620839; omega, by show _ ≤ 7233588; omega⟩ rfl (Nat.le_of_ble_eq_true rfl) d_law_298 ?_
      refine g_istore h d_law_301 rfl (by rw [hN]; decide) ?_
      refine g_aload_n h d_law_303 rfl rfl ?_
      refine g_aload_n h d_law_304 rfl rfl ?_
      refine g_iload h d_law_305 rfl ?_
      refine g_iconst (v := 1) h d_law_307 (by decide) ?_
      refine g_iadd h d_law_308 ?_
      refine g_sld h hX hbl hbA (vin 1 (by decide) (by decide)) d_law_309 ?_
      refine g_aload_n h d_law_310 rfl rfl ?_
      refine g_iload h d_law_311 rfl ?_
      refine g_iconst (v := 2) h d_law_313 (by decide) ?_
      refine g_iadd h d_law_314 ?_
      refine g_sld h hX hbl hbA (vin 2 (by decide) (by decide)) d_law_315 ?_
      refine g_refV h (c_Mod_make hR.1.2.1) v_law_85 nm_Mod_make rfl ⟨rfl, rfl, Nat.le_of_ble_eq_true rfl, Nat.le_of_ble_eq_true rfl, by show _ ≤ 620839; omega, by show _ ≤ 7233588; omega⟩ rfl (Nat.le_of_ble_eq_true rfl) d_law_316 ?_
      refine g_istore h d_law_319 rfl (by rw [hN]; decide) ?_
      refine g_goto (tgt := 716) h d_law_321 (by decide) ?_
      refine g_iinc (v := nI (i + 7)) h d_law_716 rfl (nI_add i 7) rfl (by rw [hN]; decide) ?_
      refine g_goto (tgt := 23) h d_law_719 (by decide) ?_
      exact next _ _ _ _ hRR (lt _ _ _)
    · refine g_tableIn (off := 284) (tgt := 324) h d_law_40 (by decide) (by decide) (by decide) (by decide) ?_
      obtain ⟨r, C2, hA, hRR, hth⟩ := A_set hR (xs (nI i + 1).toNatClampNeg) (xs (nI i + 2).toNatClampNeg) (xs (nI i + 3).toNatClampNeg)
      refine g_aload_n h d_law_324 rfl rfl ?_
      refine g_aload_n h d_law_325 rfl rfl ?_
      refine g_iload h d_law_326 rfl ?_
      refine g_iconst (v := 1) h d_law_328 (by decide) ?_
      refine g_iadd h d_law_329 ?_
      refine g_sld h hX hbl hbA (vin 1 (by decide) (by decide)) d_law_330 ?_
      refine g_aload_n h d_law_331 rfl rfl ?_
      refine g_iload h d_law_332 rfl ?_
      refine g_iconst (v := 2) h d_law_334 (by decide) ?_
      refine g_iadd h d_law_335 ?_
      refine g_sld h hX hbl hbA (vin 2 (by decide) (by decide)) d_law_336 ?_
      refine g_aload_n h d_law_337 rfl rfl ?_
      refine g_iload h d_law_338 rfl ?_
      refine g_iconst (v := 3) h d_law_340 (by decide) ?_
      refine g_iadd h d_law_341 ?_
      refine g_sld h hX hbl hbA (vin 3 (by decide) (by decide)) d_law_342 ?_
      refine g_wrapK h hnc (hA (gL Γ) (gD Γ) t ad htr) v_law_86 nm_Law_set rfl ⟨rfl, rfl, Nat.le_of_ble_eq_true rfl, Nat.le_of_ble_eq_true rfl, by show _ ≤ 620839; omega, by show _ ≤ 7233588; omega⟩ rfl (Nat.le_of_ble_eq_true rfl) d_law_343 ?_
      refine g_istore h d_law_346 rfl (by rw [hN]; decide) ?_
      refine g_aload_n h d_law_348 rfl rfl ?_
      refine g_aload_n h d_law_349 rfl rfl ?_
      refine g_iload h d_law_350 rfl ?_
      refine g_iconst (v := 1) h d_law_352 (by decide) ?_
      refine g_iadd h d_law_353 ?_
      refine g_sld h hX hbl hbA (vin 1 (by decide) (by decide)) d_law_354 ?_
      refine g_aload_n h d_law_355 rfl rfl ?_
      refine g_iload h d_law_356 rfl ?_
      refine g_iconst (v := 2) h d_law_358 (by decide) ?_
      refine g_iadd h d_law_359 ?_
      refine g_sld h hX hbl hbA (vin 2 (by decide) (by decide)) d_law_360 ?_
      refine g_aload_n h d_law_361 rfl rfl ?_
      refine g_iload h d_law_362 rfl ?_
      refine g_iconst (v := 3) h d_law_364 (by decide) ?_
      refine g_iadd h d_law_365 ?_
      refine g_sld h hX hbl hbA (vin 3 (by decide) (by decide)) d_law_366 ?_
      refine g_refV h (c_Mod_set hR.1.2.1) v_law_89 nm_Mod_set rfl ⟨rfl, rfl, Nat.le_of_ble_eq_true rfl, Nat.le_of_ble_eq_true rfl, by show _ ≤ 620839; omega, by show _ ≤ 7233588; omega⟩ rfl (Nat.le_of_ble_eq_true rfl) d_law_367 ?_
      refine g_goto (tgt := 716) h d_law_370 (by decide) ?_
      refine g_iinc (v := nI (i + 7)) h d_law_716 rfl (nI_add i 7) rfl (by rw [hN]; decide) ?_
      refine g_goto (tgt := 23) h d_law_719 (by decide) ?_
      exact next _ _ _ _ hRR (lt _ _ _)
    · refine g_tableIn (off := 333) (tgt := 373) h d_law_40 (by decide) (by decide) (by decide) (by decide) ?_
      obtain ⟨r, C2, F, hA, hRR, -⟩ := A_get hR (xs (nI i + 1).toNatClampNeg) (xs (nI i + 2).toNatClampNeg) (xs (nI i + 3).toNatClampNeg)
      refine g_aload_n h d_law_373 rfl rfl ?_
      refine g_aload_n h d_law_374 rfl rfl ?_
      refine g_iload h d_law_375 rfl ?_
      refine g_iconst (v := 1) h d_law_377 (by decide) ?_
      refine g_iadd h d_law_378 ?_
      refine g_sld h hX hbl hbA (vin 1 (by decide) (by decide)) d_law_379 ?_
      refine g_aload_n h d_law_380 rfl rfl ?_
      refine g_iload h d_law_381 rfl ?_
      refine g_iconst (v := 2) h d_law_383 (by decide) ?_
      refine g_iadd h d_law_384 ?_
      refine g_sld h hX hbl hbA (vin 2 (by decide) (by decide)) d_law_385 ?_
      refine g_aload_n h d_law_386 rfl rfl ?_
      refine g_iload h d_law_387 rfl ?_
      refine g_iconst (v := 3) h d_law_389 (by decide) ?_
      refine g_iadd h d_law_390 ?_
      refine g_sld h hX hbl hbA (vin 3 (by decide) (by decide)) d_law_391 ?_
      refine g_aload_n h d_law_392 rfl rfl ?_
      refine g_wrapO h hnc (hA (gL Γ) (gD Γ) t ad f htr) v_law_90 nm_Law_get rfl ⟨rfl, rfl, Nat.le_of_ble_eq_true rfl, Nat.le_of_ble_eq_true rfl, by show _ ≤ 620839; omega, by show _ ≤ 7233588; omega⟩ rfl (Nat.le_of_ble_eq_true rfl) d_law_393 ?_
      refine g_istore h d_law_396 rfl (by rw [hN]; decide) ?_
      refine g_aload_n h d_law_398 rfl rfl ?_
      refine g_aload_n h d_law_399 rfl rfl ?_
      refine g_iload h d_law_400 rfl ?_
      refine g_iconst (v := 1) h d_law_402 (by decide) ?_
      refine g_iadd h d_law_403 ?_
      refine g_sld h hX hbl hbA (vin 1 (by decide) (by decide)) d_law_404 ?_
      refine g_aload_n h d_law_405 rfl rfl ?_
      refine g_iload h d_law_406 rfl ?_
      refine g_iconst (v := 2) h d_law_408 (by decide) ?_
      refine g_iadd h d_law_409 ?_
      refine g_sld h hX hbl hbA (vin 2 (by decide) (by decide)) d_law_410 ?_
      refine g_aload_n h d_law_411 rfl rfl ?_
      refine g_iload h d_law_412 rfl ?_
      refine g_iconst (v := 3) h d_law_414 (by decide) ?_
      refine g_iadd h d_law_415 ?_
      refine g_sld h hX hbl hbA (vin 3 (by decide) (by decide)) d_law_416 ?_
      refine g_refV h (c_Mod_get hR.1.2.1) v_law_93 nm_Mod_get rfl ⟨rfl, rfl, Nat.le_of_ble_eq_true rfl, Nat.le_of_ble_eq_true rfl, by show _ ≤ 620839; omega, by show _ ≤ 7233588; omega⟩ rfl (Nat.le_of_ble_eq_true rfl) d_law_417 ?_
      refine g_lstore h d_law_420 rfl (by rw [hN]; decide) ?_
      refine g_goto (tgt := 716) h d_law_422 (by decide) ?_
      refine g_iinc (v := nI (i + 7)) h d_law_716 rfl (nI_add i 7) rfl (by rw [hN]; decide) ?_
      refine g_goto (tgt := 23) h d_law_719 (by decide) ?_
      exact next _ _ _ _ hRR (lt _ _ _)
    · refine g_tableIn (off := 385) (tgt := 425) h d_law_40 (by decide) (by decide) (by decide) (by decide) ?_
      obtain ⟨r, C2, hA, hRR, hth⟩ := A_meta hR (xs (nI i + 1).toNatClampNeg) (xs (nI i + 2).toNatClampNeg)
      refine g_aload_n h d_law_425 rfl rfl ?_
      refine g_aload_n h d_law_426 rfl rfl ?_
      refine g_iload h d_law_427 rfl ?_
      refine g_iconst (v := 1) h d_law_429 (by decide) ?_
      refine g_iadd h d_law_430 ?_
      refine g_sld h hX hbl hbA (vin 1 (by decide) (by decide)) d_law_431 ?_
      refine g_aload_n h d_law_432 rfl rfl ?_
      refine g_iload h d_law_433 rfl ?_
      refine g_iconst (v := 2) h d_law_435 (by decide) ?_
      refine g_iadd h d_law_436 ?_
      refine g_sld h hX hbl hbA (vin 2 (by decide) (by decide)) d_law_437 ?_
      refine g_wrapK h hnc (hA (gL Γ) (gD Γ) t ad htr) v_law_94 nm_Law_meta rfl ⟨rfl, rfl, Nat.le_of_ble_eq_true rfl, Nat.le_of_ble_eq_true rfl, by show _ ≤ 620839; omega, by show _ ≤ 7233588; omega⟩ rfl (Nat.le_of_ble_eq_true rfl) d_law_438 ?_
      refine g_istore h d_law_441 rfl (by rw [hN]; decide) ?_
      refine g_aload_n h d_law_443 rfl rfl ?_
      refine g_aload_n h d_law_444 rfl rfl ?_
      refine g_iload h d_law_445 rfl ?_
      refine g_iconst (v := 1) h d_law_447 (by decide) ?_
      refine g_iadd h d_law_448 ?_
      refine g_sld h hX hbl hbA (vin 1 (by decide) (by decide)) d_law_449 ?_
      refine g_aload_n h d_law_450 rfl rfl ?_
      refine g_iload h d_law_451 rfl ?_
      refine g_iconst (v := 2) h d_law_453 (by decide) ?_
      refine g_iadd h d_law_454 ?_
      refine g_sld h hX hbl hbA (vin 2 (by decide) (by decide)) d_law_455 ?_
      refine g_refV h (c_Mod_meta hR.1.2.1) v_law_96 nm_Mod_meta rfl ⟨rfl, rfl, Nat.le_of_ble_eq_true rfl, Nat.le_of_ble_eq_true rfl, by show _ ≤ 620839; omega, by show _ ≤ 7233588; omega⟩ rfl (Nat.le_of_ble_eq_true rfl) d_law_456 ?_
      refine g_goto (tgt := 716) h d_law_459 (by decide) ?_
      refine g_iinc (v := nI (i + 7)) h d_law_716 rfl (nI_add i 7) rfl (by rw [hN]; decide) ?_
      refine g_goto (tgt := 23) h d_law_719 (by decide) ?_
      exact next _ _ _ _ hRR (lt _ _ _)
    · refine g_tableIn (off := 422) (tgt := 462) h d_law_40 (by decide) (by decide) (by decide) (by decide) ?_
      obtain ⟨r, C2, F, hA, hRR, -⟩ := A_resume hR (xs (nI i + 1).toNatClampNeg) (xs (nI i + 2).toNatClampNeg) (xs (nI i + 3).toNatClampNeg)
      refine g_aload_n h d_law_462 rfl rfl ?_
      refine g_aload_n h d_law_463 rfl rfl ?_
      refine g_iload h d_law_464 rfl ?_
      refine g_iconst (v := 1) h d_law_466 (by decide) ?_
      refine g_iadd h d_law_467 ?_
      refine g_sld h hX hbl hbA (vin 1 (by decide) (by decide)) d_law_468 ?_
      refine g_aload_n h d_law_469 rfl rfl ?_
      refine g_iload h d_law_470 rfl ?_
      refine g_iconst (v := 2) h d_law_472 (by decide) ?_
      refine g_iadd h d_law_473 ?_
      refine g_sld h hX hbl hbA (vin 2 (by decide) (by decide)) d_law_474 ?_
      refine g_aload_n h d_law_475 rfl rfl ?_
      refine g_iload h d_law_476 rfl ?_
      refine g_iconst (v := 3) h d_law_478 (by decide) ?_
      refine g_iadd h d_law_479 ?_
      refine g_sld h hX hbl hbA (vin 3 (by decide) (by decide)) d_law_480 ?_
      refine g_aload_n h d_law_481 rfl rfl ?_
      refine g_wrapO h hnc (hA (gL Γ) (gD Γ) t ad f htr) v_law_97 nm_Law_resume rfl ⟨rfl, rfl, Nat.le_of_ble_eq_true rfl, Nat.le_of_ble_eq_true rfl, by show _ ≤ 620839; omega, by show _ ≤ 7233588; omega⟩ rfl (Nat.le_of_ble_eq_true rfl) d_law_482 ?_
      refine g_istore h d_law_485 rfl (by rw [hN]; decide) ?_
      refine g_aload_n h d_law_487 rfl rfl ?_
      refine g_aload_n h d_law_488 rfl rfl ?_
      refine g_iload h d_law_489 rfl ?_
      refine g_iconst (v := 1) h d_law_491 (by decide) ?_
      refine g_iadd h d_law_492 ?_
      refine g_sld h hX hbl hbA (vin 1 (by decide) (by decide)) d_law_493 ?_
      refine g_aload_n h d_law_494 rfl rfl ?_
      refine g_iload h d_law_495 rfl ?_
      refine g_iconst (v := 2) h d_law_497 (by decide) ?_
      refine g_iadd h d_law_498 ?_
      refine g_sld h hX hbl hbA (vin 2 (by decide) (by decide)) d_law_499 ?_
      refine g_aload_n h d_law_500 rfl rfl ?_
      refine g_iload h d_law_501 rfl ?_
      refine g_iconst (v := 3) h d_law_503 (by decide) ?_
      refine g_iadd h d_law_504 ?_
      refine g_sld h hX hbl hbA (vin 3 (by decide) (by decide)) d_law_505 ?_
      refine g_refV h (M_resume hR (xs (nI i + 1).toNatClampNeg) (xs (nI i + 2).toNatClampNeg) (xs (nI i + 3).toNatClampNeg)) v_law_99 nm_Mod_resume rfl ⟨rfl, rfl, Nat.le_of_ble_eq_true rfl, Nat.le_of_ble_eq_true rfl, by show _ ≤ 620839; omega, by show _ ≤ 7233588; omega⟩ rfl (Nat.le_of_ble_eq_true rfl) d_law_506 ?_
      refine g_lstore h d_law_509 rfl (by rw [hN]; decide) ?_
      refine g_goto (tgt := 716) h d_law_511 (by decide) ?_
      refine g_iinc (v := nI (i + 7)) h d_law_716 rfl (nI_add i 7) rfl (by rw [hN]; decide) ?_
      refine g_goto (tgt := 23) h d_law_719 (by decide) ?_
      exact next _ _ _ _ hRR (lt _ _ _)
    · refine g_tableIn (off := 474) (tgt := 514) h d_law_40 (by decide) (by decide) (by decide) (by decide) ?_
      obtain ⟨r, C2, F, hA, hRR, -⟩ := A_collect hR (xs (nI i + 1).toNatClampNeg)
      refine g_aload_n h d_law_514 rfl rfl ?_
      refine g_aload_n h d_law_515 rfl rfl ?_
      refine g_iload h d_law_516 rfl ?_
      refine g_iconst (v := 1) h d_law_518 (by decide) ?_
      refine g_iadd h d_law_519 ?_
      refine g_sld h hX hbl hbA (vin 1 (by decide) (by decide)) d_law_520 ?_
      refine g_aload_n h d_law_521 rfl rfl ?_
      refine g_wrapO h hnc (hA (gL Γ) (gD Γ) t ad f htr) v_law_100 nm_Law_collect rfl ⟨rfl, rfl, Nat.le_of_ble_eq_true rfl, Nat.le_of_ble_eq_true rfl, by show _ ≤ 620839; omega, by show _ ≤ 7233588; omega⟩ rfl (Nat.le_of_ble_eq_true rfl) d_law_522 ?_
      refine g_istore h d_law_525 rfl (by rw [hN]; decide) ?_
      refine g_aload_n h d_law_527 rfl rfl ?_
      refine g_aload_n h d_law_528 rfl rfl ?_
      refine g_iload h d_law_529 rfl ?_
      refine g_iconst (v := 1) h d_law_531 (by decide) ?_
      refine g_iadd h d_law_532 ?_
      refine g_sld h hX hbl hbA (vin 1 (by decide) (by decide)) d_law_533 ?_
      refine g_refV h (c_Mod_collect hR.1.2.1) v_law_103 nm_Mod_collect rfl ⟨rfl, rfl, Nat.le_of_ble_eq_true rfl, Nat.le_of_ble_eq_true rfl, by show _ ≤ 620839; omega, by show _ ≤ 7233588; omega⟩ rfl (Nat.le_of_ble_eq_true rfl) d_law_534 ?_
      refine g_istore h d_law_537 rfl (by rw [hN]; decide) ?_
      refine g_goto (tgt := 716) h d_law_539 (by decide) ?_
      refine g_iinc (v := nI (i + 7)) h d_law_716 rfl (nI_add i 7) rfl (by rw [hN]; decide) ?_
      refine g_goto (tgt := 23) h d_law_719 (by decide) ?_
      exact next _ _ _ _ hRR (lt _ _ _)
    · refine g_tableIn (off := 502) (tgt := 542) h d_law_40 (by decide) (by decide) (by decide) (by decide) ?_
      obtain ⟨hRR, -⟩ := A_full hR
      refine g_widen (k2 := kc + 1) (n2 := ks + 6) (Nat.le_succ _) (Nat.le_add_right _ _) ?_
      refine g_aload_n h d_law_542 rfl rfl ?_
      refine g_clsV h (c_TCM_full hR.1.1) v_law_104 nm_TCM_full rfl ⟨rfl, rfl, Nat.le_of_ble_eq_true rfl, Nat.le_of_ble_eq_true rfl, by show _ ≤ 620839; omega, by show _ ≤ 7233588; omega⟩ rfl (Nat.le_of_ble_eq_true rfl) d_law_543 ?_
      refine g_pop h d_law_546 rfl ?_
      refine g_aload_n h d_law_547 rfl rfl ?_
      refine g_refV h (c_Mod_full hR.1.2.1) v_law_107 nm_Mod_full rfl ⟨rfl, rfl, Nat.le_of_ble_eq_true rfl, Nat.le_of_ble_eq_true rfl, by show _ ≤ 620839; omega, by show _ ≤ 7233588; omega⟩ rfl (Nat.le_of_ble_eq_true rfl) d_law_548 ?_
      refine g_pop h d_law_551 rfl ?_
      refine g_goto (tgt := 716) h d_law_552 (by decide) ?_
      refine g_iinc (v := nI (i + 7)) h d_law_716 rfl (nI_add i 7) rfl (by rw [hN]; decide) ?_
      refine g_goto (tgt := 23) h d_law_719 (by decide) ?_
      exact next _ _ _ _ hRR (lt _ _ _)
    · refine g_tableIn (off := 515) (tgt := 555) h d_law_40 (by decide) (by decide) (by decide) (by decide) ?_
      obtain ⟨r, C2, F, hA, hRR, -⟩ := A_global hR (xs (nI i + 1).toNatClampNeg)
      refine g_aload_n h d_law_555 rfl rfl ?_
      refine g_aload_n h d_law_556 rfl rfl ?_
      refine g_iload h d_law_557 rfl ?_
      refine g_iconst (v := 1) h d_law_559 (by decide) ?_
      refine g_iadd h d_law_560 ?_
      refine g_sld h hX hbl hbA (vin 1 (by decide) (by decide)) d_law_561 ?_
      refine g_aload_n h d_law_562 rfl rfl ?_
      refine g_wrapO h hnc (hA (gL Γ) (gD Γ) t ad f htr) v_law_108 nm_Law_global rfl ⟨rfl, rfl, Nat.le_of_ble_eq_true rfl, Nat.le_of_ble_eq_true rfl, by show _ ≤ 620839; omega, by show _ ≤ 7233588; omega⟩ rfl (Nat.le_of_ble_eq_true rfl) d_law_563 ?_
      refine g_istore h d_law_566 rfl (by rw [hN]; decide) ?_
      refine g_aload_n h d_law_568 rfl rfl ?_
      refine g_aload_n h d_law_569 rfl rfl ?_
      refine g_iload h d_law_570 rfl ?_
      refine g_iconst (v := 1) h d_law_572 (by decide) ?_
      refine g_iadd h d_law_573 ?_
      refine g_sld h hX hbl hbA (vin 1 (by decide) (by decide)) d_law_574 ?_
      refine g_refV h (c_Mod_global) v_law_110 nm_Mod_global rfl ⟨rfl, rfl, Nat.le_of_ble_eq_true rfl, Nat.le_of_ble_eq_true rfl, by show _ ≤ 620839; omega, by show _ ≤ 7233588; omega⟩ rfl (Nat.le_of_ble_eq_true rfl) d_law_575 ?_
      refine g_lstore h d_law_578 rfl (by rw [hN]; decide) ?_
      refine g_goto (tgt := 716) h d_law_580 (by decide) ?_
      refine g_iinc (v := nI (i + 7)) h d_law_716 rfl (nI_add i 7) rfl (by rw [hN]; decide) ?_
      refine g_goto (tgt := 23) h d_law_719 (by decide) ?_
      exact next _ _ _ _ hRR (lt _ _ _)
    · refine g_tableIn (off := 543) (tgt := 583) h d_law_40 (by decide) (by decide) (by decide) (by decide) ?_
      obtain ⟨r, F, hA, hRR, -⟩ := A_object hR (xs (nI i + 1).toNatClampNeg) (xs (nI i + 2).toNatClampNeg)
      refine g_aload_n h d_law_583 rfl rfl ?_
      refine g_aload_n h d_law_584 rfl rfl ?_
      refine g_iload h d_law_585 rfl ?_
      refine g_iconst (v := 1) h d_law_587 (by decide) ?_
      refine g_iadd h d_law_588 ?_
      refine g_sld h hX hbl hbA (vin 1 (by decide) (by decide)) d_law_589 ?_
      refine g_aload_n h d_law_590 rfl rfl ?_
      refine g_iload h d_law_591 rfl ?_
      refine g_iconst (v := 2) h d_law_593 (by decide) ?_
      refine g_iadd h d_law_594 ?_
      refine g_sld h hX hbl hbA (vin 2 (by decide) (by decide)) d_law_595 ?_
      refine g_aload_n h d_law_596 rfl rfl ?_
      refine g_wrapO h hnc (hA (gL Γ) (gD Γ) t ad f htr) v_law_111 nm_Law_object rfl ⟨rfl, rfl, Nat.le_of_ble_eq_true rfl, Nat.le_of_ble_eq_true rfl, by show _ ≤ 620839; omega, by show _ ≤ 7233588; omega⟩ rfl (Nat.le_of_ble_eq_true rfl) d_law_597 ?_
      refine g_istore h d_law_600 rfl (by rw [hN]; decide) ?_
      refine g_aload_n h d_law_602 rfl rfl ?_
      refine g_aload_n h d_law_603 rfl rfl ?_
      refine g_iload h d_law_604 rfl ?_
      refine g_iconst (v := 1) h d_law_606 (by decide) ?_
      refine g_iadd h d_law_607 ?_
      refine g_sld h hX hbl hbA (vin 1 (by decide) (by decide)) d_law_608 ?_
      refine g_aload_n h d_law_609 rfl rfl ?_
      refine g_iload h d_law_610 rfl ?_
      refine g_iconst (v := 2) h d_law_612 (by decide) ?_
      refine g_iadd h d_law_613 ?_
      refine g_sld h hX hbl hbA (vin 2 (by decide) (by decide)) d_law_614 ?_
      refine g_refV h (c_Mod_object) v_law_113 nm_Mod_object rfl ⟨rfl, rfl, Nat.le_of_ble_eq_true rfl, Nat.le_of_ble_eq_true rfl, by show _ ≤ 620839; omega, by show _ ≤ 7233588; omega⟩ rfl (Nat.le_of_ble_eq_true rfl) d_law_615 ?_
      refine g_istore h d_law_618 rfl (by rw [hN]; decide) ?_
      refine g_goto (tgt := 716) h d_law_620 (by decide) ?_
      refine g_iinc (v := nI (i + 7)) h d_law_716 rfl (nI_add i 7) rfl (by rw [hN]; decide) ?_
      refine g_goto (tgt := 23) h d_law_719 (by decide) ?_
      exact next _ _ _ _ hRR (lt _ _ _)
    · refine g_tableIn (off := 583) (tgt := 623) h d_law_40 (by decide) (by decide) (by decide) (by decide) ?_
      obtain ⟨bb, hbb⟩ : ∃ bb : Int32, bb = if (xs (nI i + 3).toNatClampNeg) = 0 then 0 else 1 := ⟨_, rfl⟩
      obtain ⟨r, F, hA, hRR, -⟩ := A_inside hR (xs (nI i + 1).toNatClampNeg) (xs (nI i + 2).toNatClampNeg) bb
      refine g_aload_n h d_law_623 rfl rfl ?_
      refine g_aload_n h d_law_624 rfl rfl ?_
      refine g_iload h d_law_625 rfl ?_
      refine g_iconst (v := 1) h d_law_627 (by decide) ?_
      refine g_iadd h d_law_628 ?_
      refine g_sld h hX hbl hbA (vin 1 (by decide) (by decide)) d_law_629 ?_
      refine g_aload_n h d_law_630 rfl rfl ?_
      refine g_iload h d_law_631 rfl ?_
      refine g_iconst (v := 2) h d_law_633 (by decide) ?_
      refine g_iadd h d_law_634 ?_
      refine g_sld h hX hbl hbA (vin 2 (by decide) (by decide)) d_law_635 ?_
      refine g_aload_n h d_law_636 rfl rfl ?_
      refine g_iload h d_law_637 rfl ?_
      refine g_iconst (v := 3) h d_law_639 (by decide) ?_
      refine g_iadd h d_law_640 ?_
      refine g_sld h hX hbl hbA (vin 3 (by decide) (by decide)) d_law_641 ?_
      refine g_bool h d_law_642 d_law_645 d_law_646 d_law_649 (by decide) (by decide) hbb ?_
      refine g_aload_n h d_law_650 rfl rfl ?_
      refine g_wrapO h hnc (hA (gL Γ) (gD Γ) t ad f htr) v_law_114 nm_Law_inside rfl ⟨rfl, rfl, Nat.le_of_ble_eq_true rfl, Nat.le_of_ble_eq_true rfl, by show _ ≤ 620839; omega, by show _ ≤ 7233588; omega⟩ rfl (Nat.le_of_ble_eq_true rfl) d_law_651 ?_
      refine g_istore h d_law_654 rfl (by rw [hN]; decide) ?_
      refine g_aload_n h d_law_656 rfl rfl ?_
      refine g_aload_n h d_law_657 rfl rfl ?_
      refine g_iload h d_law_658 rfl ?_
      refine g_iconst (v := 1) h d_law_660 (by decide) ?_
      refine g_iadd h d_law_661 ?_
      refine g_sld h hX hbl hbA (vin 1 (by decide) (by decide)) d_law_662 ?_
      refine g_aload_n h d_law_663 rfl rfl ?_
      refine g_iload h d_law_664 rfl ?_
      refine g_iconst (v := 2) h d_law_666 (by decide) ?_
      refine g_iadd h d_law_667 ?_
      refine g_sld h hX hbl hbA (vin 2 (by decide) (by decide)) d_law_668 ?_
      refine g_aload_n h d_law_669 rfl rfl ?_
      refine g_iload h d_law_670 rfl ?_
      refine g_iconst (v := 3) h d_law_672 (by decide) ?_
      refine g_iadd h d_law_673 ?_
      refine g_sld h hX hbl hbA (vin 3 (by decide) (by decide)) d_law_674 ?_
      refine g_bool h d_law_675 d_law_678 d_law_679 d_law_682 (by decide) (by decide) hbb ?_
      refine g_refV h (c_Mod_inside hR.1.2.1) v_law_117 nm_Mod_inside rfl ⟨rfl, rfl, Nat.le_of_ble_eq_true rfl, Nat.le_of_ble_eq_true rfl, by show _ ≤ 620839; omega, by show _ ≤ 7233588; omega⟩ rfl (Nat.le_of_ble_eq_true rfl) d_law_683 ?_
      refine g_lstore h d_law_686 rfl (by rw [hN]; decide) ?_
      refine g_goto (tgt := 716) h d_law_688 (by decide) ?_
      refine g_iinc (v := nI (i + 7)) h d_law_716 rfl (nI_add i 7) rfl (by rw [hN]; decide) ?_
      refine g_goto (tgt := 23) h d_law_719 (by decide) ?_
      exact next _ _ _ _ hRR (lt _ _ _)
    · refine g_tableIn (off := 651) (tgt := 691) h d_law_40 (by decide) (by decide) (by decide) (by decide) ?_
      have hRR := RR_21 (v := 0) hR
      refine g_widen (k2 := kc + 1) (n2 := ks + 6) (Nat.le_succ _) (Nat.le_add_right _ _) ?_
      refine g_aload_n h d_law_691 rfl rfl ?_
      refine g_aload_n h d_law_692 rfl rfl ?_
      refine g_iload h d_law_693 rfl ?_
      refine g_iconst (v := 1) h d_law_695 (by decide) ?_
      refine g_iadd h d_law_696 ?_
      refine g_sld h hX hbl hbA (vin 1 (by decide) (by decide)) d_law_697 ?_
      refine g_clsV h (c_TCM_count) v_law_118 nm_TCM_count rfl ⟨rfl, rfl, Nat.le_of_ble_eq_true rfl, Nat.le_of_ble_eq_true rfl, by show _ ≤ 620839; omega, by show _ ≤ 7233588; omega⟩ rfl (Nat.le_of_ble_eq_true rfl) d_law_698 ?_
      refine g_pop h d_law_701 rfl ?_
      refine g_aload_n h d_law_702 rfl rfl ?_
      refine g_aload_n h d_law_703 rfl rfl ?_
      refine g_iload h d_law_704 rfl ?_
      refine g_iconst (v := 1) h d_law_706 (by decide) ?_
      refine g_iadd h d_law_707 ?_
      refine g_sld h hX hbl hbA (vin 1 (by decide) (by decide)) d_law_708 ?_
      refine g_refV h (c_Mod_count) v_law_121 nm_Mod_count rfl ⟨rfl, rfl, Nat.le_of_ble_eq_true rfl, Nat.le_of_ble_eq_true rfl, by show _ ≤ 620839; omega, by show _ ≤ 7233588; omega⟩ rfl (Nat.le_of_ble_eq_true rfl) d_law_709 ?_
      refine g_pop h d_law_712 rfl ?_
      refine g_goto (tgt := 716) h d_law_713 (by decide) ?_
      refine g_iinc (v := nI (i + 7)) h d_law_716 rfl (nI_add i 7) rfl (by rw [hN]; decide) ?_
      refine g_goto (tgt := 23) h d_law_719 (by decide) ?_
      exact next _ _ _ _ hRR (lt _ _ _)
    · refine g_tableOut (tgt := 716) h d_law_40 (by decide) (by decide) ?_
      refine g_widen (k2 := kc + 1) (n2 := ks + 6) (Nat.le_succ _) (Nat.le_add_right _ _) ?_
      refine g_iinc (v := nI (i + 7)) h d_law_716 rfl (nI_add i 7) rfl (by rw [hN]; decide) ?_
      refine g_goto (tgt := 23) h d_law_719 (by decide) ?_
      exact next _ _ _ _ hR (lt _ _ _)
    · refine g_tableOut (tgt := 716) h d_law_40 (by decide) (by decide) ?_
      refine g_widen (k2 := kc + 1) (n2 := ks + 6) (Nat.le_succ _) (Nat.le_add_right _ _) ?_
      refine g_iinc (v := nI (i + 7)) h d_law_716 rfl (nI_add i 7) rfl (by rw [hN]; decide) ?_
      refine g_goto (tgt := 23) h d_law_719 (by decide) ?_
      exact next _ _ _ _ hR (lt _ _ _)
