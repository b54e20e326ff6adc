set_option maxHeartbeats 4000000 in
set_option maxRecDepth 100000 in
theorem g_step_0 {Γ : GT} {u : Nat → ClassId} {ad : Nat → Nat} {B : CS} {n i : Nat} (h : Cx Γ b_Mod_step y_Mod_step.cls { frames := 6, cells := 0, slots := 0, locals := 134 } TB CL (tym u) NL) (hN : gN Γ = 15) (r : Rx Γ 18 ad none (fun v σ2 => v = none ∧ σ2 = mob ad u (mstepO B n i 0)) 0 0) (hok : okM B) (hn : n < 16) (hi : i < 64) : G Γ 0 0 18 ad (mob ad u B) 171 [some (.ref (ad 0)), some (.int (nI n)), some (.int (nI i)), some (.int 0), some (.int (nI (mA B n i))), some (.long (mX B n i)), none, some (.long (mY B n i)), none, some (.long (mZ B n i)), none, some (.int (nI (fmod (B.1 3 i) 6))), none, none, none] [] := by
  have h4 := fmod_lt (B.1 1 i) (m := 4) (by decide)
  have h6 := fmod_lt (B.1 3 i) (m := 6) (by decide)
  refine g_iload_n h d_Mod_step_171 rfl rfl ?_
  refine g_bipush (v := 17) h d_Mod_step_172 (by decide) ?_
  refine g_icmp_ne (tgt := 186) h d_Mod_step_174 (by decide) (fun c_174 => ?_) (fun c_174 => ?_)
  · refine g_iload_n h d_Mod_step_186 rfl rfl ?_
    refine g_bipush (v := 18) h d_Mod_step_187 (by decide) ?_
    refine g_icmp_eq (tgt := 198) h d_Mod_step_189 (by decide) (fun c_189 => ?_) (fun c_189 => ?_)
    · exact absurd c_189 (by decide)
    · refine g_iload_n h d_Mod_step_192 rfl rfl ?_
      refine g_bipush (v := 19) h d_Mod_step_193 (by decide) ?_
      refine g_icmp_ne (tgt := 240) h d_Mod_step_195 (by decide) (fun c_195 => ?_) (fun c_195 => ?_)
      · refine g_iload_n h d_Mod_step_240 rfl rfl ?_
        refine g_bipush (v := 11) h d_Mod_step_241 (by decide) ?_
        refine g_icmp_lt (tgt := 302) h d_Mod_step_243 (by decide) (fun c_243 => ?_) (fun c_243 => ?_)
        · refine g_aload_n h d_Mod_step_302 rfl rfl ?_
          refine g_iload_n h d_Mod_step_303 rfl rfl ?_
          refine g_bipush (v := 7) h d_Mod_step_304 (by decide) ?_
          refine g_icmp_ne (tgt := 314) h d_Mod_step_306 (by decide) (fun c_306 => ?_) (fun c_306 => ?_)
          · refine g_lload h d_Mod_step_314 rfl ?_
            refine g_dVi h tb_good (c_Mod_tableOf (hok.2.1 3 _)) (q := 0) (by decide) rfl rfl v_Mod_135 nm_Mod_tableOf rfl ⟨rfl, rfl, Nat.le_of_ble_eq_true rfl, Nat.le_of_ble_eq_true rfl, Nat.zero_le _, Nat.zero_le _⟩ rfl (Nat.le_of_ble_eq_true rfl) d_Mod_step_316 ?_
            refine g_istore h d_Mod_step_319 rfl (by rw [hN]; decide) ?_
            refine g_iload_n h d_Mod_step_321 rfl rfl ?_
            refine g_bipush (v := 6) h d_Mod_step_322 (by decide) ?_
            refine g_icmp_eq (tgt := 339) h d_Mod_step_324 (by decide) (fun c_324 => ?_) (fun c_324 => ?_)
            · exact absurd c_324 (by decide)
            · refine g_iload_n h d_Mod_step_327 rfl rfl ?_
              refine g_bipush (v := 7) h d_Mod_step_328 (by decide) ?_
              refine g_icmp_eq (tgt := 339) h d_Mod_step_330 (by decide) (fun c_330 => ?_) (fun c_330 => ?_)
              · exact absurd c_330 (by decide)
              · refine g_iload_n h d_Mod_step_333 rfl rfl ?_
                refine g_bipush (v := 19) h d_Mod_step_334 (by decide) ?_
                refine g_icmp_le (tgt := 352) h d_Mod_step_336 (by decide) (fun c_336 => ?_) (fun c_336 => ?_)
                · refine g_iload_n h d_Mod_step_352 rfl rfl ?_
                  refine g_if_ne (tgt := 369) h d_Mod_step_353 (by decide) (fun c_353 => ?_) (fun c_353 => ?_)
                  · exact absurd c_353 (by decide)
                  · refine g_aload_n h d_Mod_step_356 rfl rfl ?_
                    refine gf_Mod_registers h f_Mod_44 d_Mod_step_357 ?_
                    refine g_iload h d_Mod_step_360 rfl ?_
                    refine g_ldc2 (v := -1000000000000) h d_Mod_step_362 k_Mod_62 ?_
                    refine pj_registers h rfl (show n * 4 + fmod (B.1 1 i) 4 < 64 by omega) d_Mod_step_365 ?_
                    refine g_goto (tgt := 654) h d_Mod_step_366 (by decide) ?_
                    refine g_aload_n h d_Mod_step_654 rfl rfl ?_
                    refine gf_Mod_trouble h f_Mod_141 d_Mod_step_655 ?_
                    refine g_if_ne (tgt := 671) h d_Mod_step_658 (by decide) (fun c_658 => ?_) (fun c_658 => ?_)
                    · exact g_vret h r d_Mod_step_671 (⟨rfl, by first | exact congrArg (mob ad u) (if_pos c_658).symm | exact congrArg (mob ad u) (if_neg c_658).symm⟩)
                    · refine g_aload_n h d_Mod_step_661 rfl rfl ?_
                      refine gf_Mod_place h f_Mod_50 d_Mod_step_662 ?_
                      refine g_iload_n h d_Mod_step_665 rfl rfl ?_
                      refine g_dup2 h d_Mod_step_666 rfl rfl ?_
                      refine gi_place h rfl hn d_Mod_step_667 ?_
                      refine g_iconst (v := 1) h d_Mod_step_668 (by decide) ?_
                      refine g_iadd h d_Mod_step_669 ?_
                      refine pi_place h rfl hn d_Mod_step_670 ?_
                      exact g_vret h r d_Mod_step_671 (⟨rfl, by first | exact congrArg (mob ad u) (if_pos c_658).symm | exact congrArg (mob ad u) (if_neg c_658).symm⟩)
                · exact absurd c_336 (by decide)
          · exact absurd c_306 (by decide)
        · exact absurd c_243 (by decide)
      · exact absurd c_195 (by decide)
  · exact absurd c_174 (by decide)
set_option maxHeartbeats 4000000 in
set_option maxRecDepth 100000 in
theorem g_step_1 {Γ : GT} {u : Nat → ClassId} {ad : Nat → Nat} {B : CS} {n i : Nat} (h : Cx Γ b_Mod_step y_Mod_step.cls { frames := 6, cells := 0, slots := 0, locals := 134 } TB CL (tym u) NL) (hN : gN Γ = 15) (r : Rx Γ 18 ad none (fun v σ2 => v = none ∧ σ2 = mob ad u (mstepO B n i 1)) 0 0) (hok : okM B) (hn : n < 16) (hi : i < 64) : G Γ 0 0 18 ad (mob ad u B) 171 [some (.ref (ad 0)), some (.int (nI n)), some (.int (nI i)), some (.int 1), some (.int (nI (mA B n i))), some (.long (mX B n i)), none, some (.long (mY B n i)), none, some (.long (mZ B n i)), none, some (.int (nI (fmod (B.1 3 i) 6))), none, none, none] [] := by
  have h4 := fmod_lt (B.1 1 i) (m := 4) (by decide)
  have h6 := fmod_lt (B.1 3 i) (m := 6) (by decide)
  refine g_iload_n h d_Mod_step_171 rfl rfl ?_
  refine g_bipush (v := 17) h d_Mod_step_172 (by decide) ?_
  refine g_icmp_ne (tgt := 186) h d_Mod_step_174 (by decide) (fun c_174 => ?_) (fun c_174 => ?_)
  · refine g_iload_n h d_Mod_step_186 rfl rfl ?_
    refine g_bipush (v := 18) h d_Mod_step_187 (by decide) ?_
    refine g_icmp_eq (tgt := 198) h d_Mod_step_189 (by decide) (fun c_189 => ?_) (fun c_189 => ?_)
    · exact absurd c_189 (by decide)
    · refine g_iload_n h d_Mod_step_192 rfl rfl ?_
      refine g_bipush (v := 19) h d_Mod_step_193 (by decide) ?_
      refine g_icmp_ne (tgt := 240) h d_Mod_step_195 (by decide) (fun c_195 => ?_) (fun c_195 => ?_)
      · refine g_iload_n h d_Mod_step_240 rfl rfl ?_
        refine g_bipush (v := 11) h d_Mod_step_241 (by decide) ?_
        refine g_icmp_lt (tgt := 302) h d_Mod_step_243 (by decide) (fun c_243 => ?_) (fun c_243 => ?_)
        · refine g_aload_n h d_Mod_step_302 rfl rfl ?_
          refine g_iload_n h d_Mod_step_303 rfl rfl ?_
          refine g_bipush (v := 7) h d_Mod_step_304 (by decide) ?_
          refine g_icmp_ne (tgt := 314) h d_Mod_step_306 (by decide) (fun c_306 => ?_) (fun c_306 => ?_)
          · refine g_lload h d_Mod_step_314 rfl ?_
            refine g_dVi h tb_good (c_Mod_tableOf (hok.2.1 3 _)) (q := 0) (by decide) rfl rfl v_Mod_135 nm_Mod_tableOf rfl ⟨rfl, rfl, Nat.le_of_ble_eq_true rfl, Nat.le_of_ble_eq_true rfl, Nat.zero_le _, Nat.zero_le _⟩ rfl (Nat.le_of_ble_eq_true rfl) d_Mod_step_316 ?_
            refine g_istore h d_Mod_step_319 rfl (by rw [hN]; decide) ?_
            refine g_iload_n h d_Mod_step_321 rfl rfl ?_
            refine g_bipush (v := 6) h d_Mod_step_322 (by decide) ?_
            refine g_icmp_eq (tgt := 339) h d_Mod_step_324 (by decide) (fun c_324 => ?_) (fun c_324 => ?_)
            · exact absurd c_324 (by decide)
            · refine g_iload_n h d_Mod_step_327 rfl rfl ?_
              refine g_bipush (v := 7) h d_Mod_step_328 (by decide) ?_
              refine g_icmp_eq (tgt := 339) h d_Mod_step_330 (by decide) (fun c_330 => ?_) (fun c_330 => ?_)
              · exact absurd c_330 (by decide)
              · refine g_iload_n h d_Mod_step_333 rfl rfl ?_
                refine g_bipush (v := 19) h d_Mod_step_334 (by decide) ?_
                refine g_icmp_le (tgt := 352) h d_Mod_step_336 (by decide) (fun c_336 => ?_) (fun c_336 => ?_)
                · refine g_iload_n h d_Mod_step_352 rfl rfl ?_
                  refine g_if_ne (tgt := 369) h d_Mod_step_353 (by decide) (fun c_353 => ?_) (fun c_353 => ?_)
                  · refine g_iload_n h d_Mod_step_369 rfl rfl ?_
                    refine g_iconst (v := 1) h d_Mod_step_370 (by decide) ?_
                    refine g_icmp_ne (tgt := 391) h d_Mod_step_371 (by decide) (fun c_371 => ?_) (fun c_371 => ?_)
                    · exact absurd c_371 (by decide)
                    · refine g_aload_n h d_Mod_step_374 rfl rfl ?_
                      refine gf_Mod_registers h f_Mod_44 d_Mod_step_375 ?_
                      refine g_iload h d_Mod_step_378 rfl ?_
                      refine g_aload_n h d_Mod_step_380 rfl rfl ?_
                      refine gf_Mod_cs h f_Mod_19 d_Mod_step_381 ?_
                      refine g_iload_n h d_Mod_step_384 rfl rfl ?_
                      refine gi_cs h rfl hi d_Mod_step_385 ?_
                      refine g_i2l h d_Mod_step_386 ?_
                      refine pj_registers h rfl (show n * 4 + fmod (B.1 1 i) 4 < 64 by omega) d_Mod_step_387 ?_
                      refine g_goto (tgt := 654) h d_Mod_step_388 (by decide) ?_
                      refine g_aload_n h d_Mod_step_654 rfl rfl ?_
                      refine gf_Mod_trouble h f_Mod_141 d_Mod_step_655 ?_
                      refine g_if_ne (tgt := 671) h d_Mod_step_658 (by decide) (fun c_658 => ?_) (fun c_658 => ?_)
                      · exact g_vret h r d_Mod_step_671 (⟨rfl, by first | exact congrArg (mob ad u) (if_pos c_658).symm | exact congrArg (mob ad u) (if_neg c_658).symm⟩)
                      · refine g_aload_n h d_Mod_step_661 rfl rfl ?_
                        refine gf_Mod_place h f_Mod_50 d_Mod_step_662 ?_
                        refine g_iload_n h d_Mod_step_665 rfl rfl ?_
                        refine g_dup2 h d_Mod_step_666 rfl rfl ?_
                        refine gi_place h rfl hn d_Mod_step_667 ?_
                        refine g_iconst (v := 1) h d_Mod_step_668 (by decide) ?_
                        refine g_iadd h d_Mod_step_669 ?_
                        refine pi_place h rfl hn d_Mod_step_670 ?_
                        exact g_vret h r d_Mod_step_671 (⟨rfl, by first | exact congrArg (mob ad u) (if_pos c_658).symm | exact congrArg (mob ad u) (if_neg c_658).symm⟩)
                  · exact absurd c_353 (by decide)
                · exact absurd c_336 (by decide)
          · exact absurd c_306 (by decide)
        · exact absurd c_243 (by decide)
      · exact absurd c_195 (by decide)
  · exact absurd c_174 (by decide)
set_option maxHeartbeats 4000000 in
set_option maxRecDepth 100000 in
theorem g_step_2 {Γ : GT} {u : Nat → ClassId} {ad : Nat → Nat} {B : CS} {n i : Nat} (h : Cx Γ b_Mod_step y_Mod_step.cls { frames := 6, cells := 0, slots := 0, locals := 134 } TB CL (tym u) NL) (hN : gN Γ = 15) (r : Rx Γ 18 ad none (fun v σ2 => v = none ∧ σ2 = mob ad u (mstepO B n i 2)) 0 0) (hok : okM B) (hn : n < 16) (hi : i < 64) : G Γ 0 0 18 ad (mob ad u B) 171 [some (.ref (ad 0)), some (.int (nI n)), some (.int (nI i)), some (.int 2), some (.int (nI (mA B n i))), some (.long (mX B n i)), none, some (.long (mY B n i)), none, some (.long (mZ B n i)), none, some (.int (nI (fmod (B.1 3 i) 6))), none, none, none] [] := by
  have h4 := fmod_lt (B.1 1 i) (m := 4) (by decide)
  have h6 := fmod_lt (B.1 3 i) (m := 6) (by decide)
  refine g_iload_n h d_Mod_step_171 rfl rfl ?_
  refine g_bipush (v := 17) h d_Mod_step_172 (by decide) ?_
  refine g_icmp_ne (tgt := 186) h d_Mod_step_174 (by decide) (fun c_174 => ?_) (fun c_174 => ?_)
  · refine g_iload_n h d_Mod_step_186 rfl rfl ?_
    refine g_bipush (v := 18) h d_Mod_step_187 (by decide) ?_
    refine g_icmp_eq (tgt := 198) h d_Mod_step_189 (by decide) (fun c_189 => ?_) (fun c_189 => ?_)
    · exact absurd c_189 (by decide)
    · refine g_iload_n h d_Mod_step_192 rfl rfl ?_
      refine g_bipush (v := 19) h d_Mod_step_193 (by decide) ?_
      refine g_icmp_ne (tgt := 240) h d_Mod_step_195 (by decide) (fun c_195 => ?_) (fun c_195 => ?_)
      · refine g_iload_n h d_Mod_step_240 rfl rfl ?_
        refine g_bipush (v := 11) h d_Mod_step_241 (by decide) ?_
        refine g_icmp_lt (tgt := 302) h d_Mod_step_243 (by decide) (fun c_243 => ?_) (fun c_243 => ?_)
        · refine g_aload_n h d_Mod_step_302 rfl rfl ?_
          refine g_iload_n h d_Mod_step_303 rfl rfl ?_
          refine g_bipush (v := 7) h d_Mod_step_304 (by decide) ?_
          refine g_icmp_ne (tgt := 314) h d_Mod_step_306 (by decide) (fun c_306 => ?_) (fun c_306 => ?_)
          · refine g_lload h d_Mod_step_314 rfl ?_
            refine g_dVi h tb_good (c_Mod_tableOf (hok.2.1 3 _)) (q := 0) (by decide) rfl rfl v_Mod_135 nm_Mod_tableOf rfl ⟨rfl, rfl, Nat.le_of_ble_eq_true rfl, Nat.le_of_ble_eq_true rfl, Nat.zero_le _, Nat.zero_le _⟩ rfl (Nat.le_of_ble_eq_true rfl) d_Mod_step_316 ?_
            refine g_istore h d_Mod_step_319 rfl (by rw [hN]; decide) ?_
            refine g_iload_n h d_Mod_step_321 rfl rfl ?_
            refine g_bipush (v := 6) h d_Mod_step_322 (by decide) ?_
            refine g_icmp_eq (tgt := 339) h d_Mod_step_324 (by decide) (fun c_324 => ?_) (fun c_324 => ?_)
            · exact absurd c_324 (by decide)
            · refine g_iload_n h d_Mod_step_327 rfl rfl ?_
              refine g_bipush (v := 7) h d_Mod_step_328 (by decide) ?_
              refine g_icmp_eq (tgt := 339) h d_Mod_step_330 (by decide) (fun c_330 => ?_) (fun c_330 => ?_)
              · exact absurd c_330 (by decide)
              · refine g_iload_n h d_Mod_step_333 rfl rfl ?_
                refine g_bipush (v := 19) h d_Mod_step_334 (by decide) ?_
                refine g_icmp_le (tgt := 352) h d_Mod_step_336 (by decide) (fun c_336 => ?_) (fun c_336 => ?_)
                · refine g_iload_n h d_Mod_step_352 rfl rfl ?_
                  refine g_if_ne (tgt := 369) h d_Mod_step_353 (by decide) (fun c_353 => ?_) (fun c_353 => ?_)
                  · refine g_iload_n h d_Mod_step_369 rfl rfl ?_
                    refine g_iconst (v := 1) h d_Mod_step_370 (by decide) ?_
                    refine g_icmp_ne (tgt := 391) h d_Mod_step_371 (by decide) (fun c_371 => ?_) (fun c_371 => ?_)
                    · refine g_iload_n h d_Mod_step_391 rfl rfl ?_
                      refine g_iconst (v := 2) h d_Mod_step_392 (by decide) ?_
                      refine g_icmp_ne (tgt := 408) h d_Mod_step_393 (by decide) (fun c_393 => ?_) (fun c_393 => ?_)
                      · exact absurd c_393 (by decide)
                      · refine g_aload_n h d_Mod_step_396 rfl rfl ?_
                        refine gf_Mod_registers h f_Mod_44 d_Mod_step_397 ?_
                        refine g_iload h d_Mod_step_400 rfl ?_
                        refine g_lload h d_Mod_step_402 rfl ?_
                        refine pj_registers h rfl (show n * 4 + fmod (B.1 1 i) 4 < 64 by omega) d_Mod_step_404 ?_
                        refine g_goto (tgt := 654) h d_Mod_step_405 (by decide) ?_
                        refine g_aload_n h d_Mod_step_654 rfl rfl ?_
                        refine gf_Mod_trouble h f_Mod_141 d_Mod_step_655 ?_
                        refine g_if_ne (tgt := 671) h d_Mod_step_658 (by decide) (fun c_658 => ?_) (fun c_658 => ?_)
                        · exact g_vret h r d_Mod_step_671 (⟨rfl, by first | exact congrArg (mob ad u) (if_pos c_658).symm | exact congrArg (mob ad u) (if_neg c_658).symm⟩)
                        · refine g_aload_n h d_Mod_step_661 rfl rfl ?_
                          refine gf_Mod_place h f_Mod_50 d_Mod_step_662 ?_
                          refine g_iload_n h d_Mod_step_665 rfl rfl ?_
                          refine g_dup2 h d_Mod_step_666 rfl rfl ?_
                          refine gi_place h rfl hn d_Mod_step_667 ?_
                          refine g_iconst (v := 1) h d_Mod_step_668 (by decide) ?_
                          refine g_iadd h d_Mod_step_669 ?_
                          refine pi_place h rfl hn d_Mod_step_670 ?_
                          exact g_vret h r d_Mod_step_671 (⟨rfl, by first | exact congrArg (mob ad u) (if_pos c_658).symm | exact congrArg (mob ad u) (if_neg c_658).symm⟩)
                    · exact absurd c_371 (by decide)
                  · exact absurd c_353 (by decide)
                · exact absurd c_336 (by decide)
          · exact absurd c_306 (by decide)
        · exact absurd c_243 (by decide)
      · exact absurd c_195 (by decide)
  · exact absurd c_174 (by decide)
set_option maxHeartbeats 4000000 in
set_option maxRecDepth 100000 in
theorem g_step_3 {Γ : GT} {u : Nat → ClassId} {ad : Nat → Nat} {B : CS} {n i : Nat} (h : Cx Γ b_Mod_step y_Mod_step.cls { frames := 6, cells := 0, slots := 0, locals := 134 } TB CL (tym u) NL) (hN : gN Γ = 15) (r : Rx Γ 18 ad none (fun v σ2 => v = none ∧ σ2 = mob ad u (mstepO B n i 3)) 0 0) (hok : okM B) (hn : n < 16) (hi : i < 64) : G Γ 0 0 18 ad (mob ad u B) 171 [some (.ref (ad 0)), some (.int (nI n)), some (.int (nI i)), some (.int 3), some (.int (nI (mA B n i))), some (.long (mX B n i)), none, some (.long (mY B n i)), none, some (.long (mZ B n i)), none, some (.int (nI (fmod (B.1 3 i) 6))), none, none, none] [] := by
  have h4 := fmod_lt (B.1 1 i) (m := 4) (by decide)
  have h6 := fmod_lt (B.1 3 i) (m := 6) (by decide)
  refine g_iload_n h d_Mod_step_171 rfl rfl ?_
  refine g_bipush (v := 17) h d_Mod_step_172 (by decide) ?_
  refine g_icmp_ne (tgt := 186) h d_Mod_step_174 (by decide) (fun c_174 => ?_) (fun c_174 => ?_)
  · refine g_iload_n h d_Mod_step_186 rfl rfl ?_
    refine g_bipush (v := 18) h d_Mod_step_187 (by decide) ?_
    refine g_icmp_eq (tgt := 198) h d_Mod_step_189 (by decide) (fun c_189 => ?_) (fun c_189 => ?_)
    · exact absurd c_189 (by decide)
    · refine g_iload_n h d_Mod_step_192 rfl rfl ?_
      refine g_bipush (v := 19) h d_Mod_step_193 (by decide) ?_
      refine g_icmp_ne (tgt := 240) h d_Mod_step_195 (by decide) (fun c_195 => ?_) (fun c_195 => ?_)
      · refine g_iload_n h d_Mod_step_240 rfl rfl ?_
        refine g_bipush (v := 11) h d_Mod_step_241 (by decide) ?_
        refine g_icmp_lt (tgt := 302) h d_Mod_step_243 (by decide) (fun c_243 => ?_) (fun c_243 => ?_)
        · refine g_aload_n h d_Mod_step_302 rfl rfl ?_
          refine g_iload_n h d_Mod_step_303 rfl rfl ?_
          refine g_bipush (v := 7) h d_Mod_step_304 (by decide) ?_
          refine g_icmp_ne (tgt := 314) h d_Mod_step_306 (by decide) (fun c_306 => ?_) (fun c_306 => ?_)
          · refine g_lload h d_Mod_step_314 rfl ?_
            refine g_dVi h tb_good (c_Mod_tableOf (hok.2.1 3 _)) (q := 0) (by decide) rfl rfl v_Mod_135 nm_Mod_tableOf rfl ⟨rfl, rfl, Nat.le_of_ble_eq_true rfl, Nat.le_of_ble_eq_true rfl, Nat.zero_le _, Nat.zero_le _⟩ rfl (Nat.le_of_ble_eq_true rfl) d_Mod_step_316 ?_
            refine g_istore h d_Mod_step_319 rfl (by rw [hN]; decide) ?_
            refine g_iload_n h d_Mod_step_321 rfl rfl ?_
            refine g_bipush (v := 6) h d_Mod_step_322 (by decide) ?_
            refine g_icmp_eq (tgt := 339) h d_Mod_step_324 (by decide) (fun c_324 => ?_) (fun c_324 => ?_)
            · exact absurd c_324 (by decide)
            · refine g_iload_n h d_Mod_step_327 rfl rfl ?_
              refine g_bipush (v := 7) h d_Mod_step_328 (by decide) ?_
              refine g_icmp_eq (tgt := 339) h d_Mod_step_330 (by decide) (fun c_330 => ?_) (fun c_330 => ?_)
              · exact absurd c_330 (by decide)
              · refine g_iload_n h d_Mod_step_333 rfl rfl ?_
                refine g_bipush (v := 19) h d_Mod_step_334 (by decide) ?_
                refine g_icmp_le (tgt := 352) h d_Mod_step_336 (by decide) (fun c_336 => ?_) (fun c_336 => ?_)
                · refine g_iload_n h d_Mod_step_352 rfl rfl ?_
                  refine g_if_ne (tgt := 369) h d_Mod_step_353 (by decide) (fun c_353 => ?_) (fun c_353 => ?_)
                  · refine g_iload_n h d_Mod_step_369 rfl rfl ?_
                    refine g_iconst (v := 1) h d_Mod_step_370 (by decide) ?_
                    refine g_icmp_ne (tgt := 391) h d_Mod_step_371 (by decide) (fun c_371 => ?_) (fun c_371 => ?_)
                    · refine g_iload_n h d_Mod_step_391 rfl rfl ?_
                      refine g_iconst (v := 2) h d_Mod_step_392 (by decide) ?_
                      refine g_icmp_ne (tgt := 408) h d_Mod_step_393 (by decide) (fun c_393 => ?_) (fun c_393 => ?_)
                      · refine g_iload_n h d_Mod_step_408 rfl rfl ?_
                        refine g_iconst (v := 3) h d_Mod_step_409 (by decide) ?_
                        refine g_icmp_ne (tgt := 430) h d_Mod_step_410 (by decide) (fun c_410 => ?_) (fun c_410 => ?_)
                        · exact absurd c_410 (by decide)
                        · refine g_aload_n h d_Mod_step_413 rfl rfl ?_
                          refine gf_Mod_registers h f_Mod_44 d_Mod_step_414 ?_
                          refine g_iload h d_Mod_step_417 rfl ?_
                          refine g_aload_n h d_Mod_step_419 rfl rfl ?_
                          refine gf_Mod_globals h f_Mod_22 d_Mod_step_420 ?_
                          refine g_iload h d_Mod_step_423 rfl ?_
                          refine gj_globals h rfl h6 d_Mod_step_425 ?_
                          refine pj_registers h rfl (show n * 4 + fmod (B.1 1 i) 4 < 64 by omega) d_Mod_step_426 ?_
                          refine g_goto (tgt := 654) h d_Mod_step_427 (by decide) ?_
                          refine g_aload_n h d_Mod_step_654 rfl rfl ?_
                          refine gf_Mod_trouble h f_Mod_141 d_Mod_step_655 ?_
                          refine g_if_ne (tgt := 671) h d_Mod_step_658 (by decide) (fun c_658 => ?_) (fun c_658 => ?_)
                          · exact g_vret h r d_Mod_step_671 (⟨rfl, by first | exact congrArg (mob ad u) (if_pos c_658).symm | exact congrArg (mob ad u) (if_neg c_658).symm⟩)
                          · refine g_aload_n h d_Mod_step_661 rfl rfl ?_
                            refine gf_Mod_place h f_Mod_50 d_Mod_step_662 ?_
                            refine g_iload_n h d_Mod_step_665 rfl rfl ?_
                            refine g_dup2 h d_Mod_step_666 rfl rfl ?_
                            refine gi_place h rfl hn d_Mod_step_667 ?_
                            refine g_iconst (v := 1) h d_Mod_step_668 (by decide) ?_
                            refine g_iadd h d_Mod_step_669 ?_
                            refine pi_place h rfl hn d_Mod_step_670 ?_
                            exact g_vret h r d_Mod_step_671 (⟨rfl, by first | exact congrArg (mob ad u) (if_pos c_658).symm | exact congrArg (mob ad u) (if_neg c_658).symm⟩)
                      · exact absurd c_393 (by decide)
                    · exact absurd c_371 (by decide)
                  · exact absurd c_353 (by decide)
                · exact absurd c_336 (by decide)
          · exact absurd c_306 (by decide)
        · exact absurd c_243 (by decide)
      · exact absurd c_195 (by decide)
  · exact absurd c_174 (by decide)
set_option maxHeartbeats 4000000 in
set_option maxRecDepth 100000 in
theorem g_step_4 {Γ : GT} {u : Nat → ClassId} {ad : Nat → Nat} {B : CS} {n i : Nat} (h : Cx Γ b_Mod_step y_Mod_step.cls { frames := 6, cells := 0, slots := 0, locals := 134 } TB CL (tym u) NL) (hN : gN Γ = 15) (r : Rx Γ 18 ad none (fun v σ2 => v = none ∧ σ2 = mob ad u (mstepO B n i 4)) 0 0) (hok : okM B) (hn : n < 16) (hi : i < 64) : G Γ 0 0 18 ad (mob ad u B) 171 [some (.ref (ad 0)), some (.int (nI n)), some (.int (nI i)), some (.int 4), some (.int (nI (mA B n i))), some (.long (mX B n i)), none, some (.long (mY B n i)), none, some (.long (mZ B n i)), none, some (.int (nI (fmod (B.1 3 i) 6))), none, none, none] [] := by
  have h4 := fmod_lt (B.1 1 i) (m := 4) (by decide)
  have h6 := fmod_lt (B.1 3 i) (m := 6) (by decide)
  refine g_iload_n h d_Mod_step_171 rfl rfl ?_
  refine g_bipush (v := 17) h d_Mod_step_172 (by decide) ?_
  refine g_icmp_ne (tgt := 186) h d_Mod_step_174 (by decide) (fun c_174 => ?_) (fun c_174 => ?_)
  · refine g_iload_n h d_Mod_step_186 rfl rfl ?_
    refine g_bipush (v := 18) h d_Mod_step_187 (by decide) ?_
    refine g_icmp_eq (tgt := 198) h d_Mod_step_189 (by decide) (fun c_189 => ?_) (fun c_189 => ?_)
    · exact absurd c_189 (by decide)
    · refine g_iload_n h d_Mod_step_192 rfl rfl ?_
      refine g_bipush (v := 19) h d_Mod_step_193 (by decide) ?_
      refine g_icmp_ne (tgt := 240) h d_Mod_step_195 (by decide) (fun c_195 => ?_) (fun c_195 => ?_)
      · refine g_iload_n h d_Mod_step_240 rfl rfl ?_
        refine g_bipush (v := 11) h d_Mod_step_241 (by decide) ?_
        refine g_icmp_lt (tgt := 302) h d_Mod_step_243 (by decide) (fun c_243 => ?_) (fun c_243 => ?_)
        · refine g_aload_n h d_Mod_step_302 rfl rfl ?_
          refine g_iload_n h d_Mod_step_303 rfl rfl ?_
          refine g_bipush (v := 7) h d_Mod_step_304 (by decide) ?_
          refine g_icmp_ne (tgt := 314) h d_Mod_step_306 (by decide) (fun c_306 => ?_) (fun c_306 => ?_)
          · refine g_lload h d_Mod_step_314 rfl ?_
            refine g_dVi h tb_good (c_Mod_tableOf (hok.2.1 3 _)) (q := 0) (by decide) rfl rfl v_Mod_135 nm_Mod_tableOf rfl ⟨rfl, rfl, Nat.le_of_ble_eq_true rfl, Nat.le_of_ble_eq_true rfl, Nat.zero_le _, Nat.zero_le _⟩ rfl (Nat.le_of_ble_eq_true rfl) d_Mod_step_316 ?_
            refine g_istore h d_Mod_step_319 rfl (by rw [hN]; decide) ?_
            refine g_iload_n h d_Mod_step_321 rfl rfl ?_
            refine g_bipush (v := 6) h d_Mod_step_322 (by decide) ?_
            refine g_icmp_eq (tgt := 339) h d_Mod_step_324 (by decide) (fun c_324 => ?_) (fun c_324 => ?_)
            · exact absurd c_324 (by decide)
            · refine g_iload_n h d_Mod_step_327 rfl rfl ?_
              refine g_bipush (v := 7) h d_Mod_step_328 (by decide) ?_
              refine g_icmp_eq (tgt := 339) h d_Mod_step_330 (by decide) (fun c_330 => ?_) (fun c_330 => ?_)
              · exact absurd c_330 (by decide)
              · refine g_iload_n h d_Mod_step_333 rfl rfl ?_
                refine g_bipush (v := 19) h d_Mod_step_334 (by decide) ?_
                refine g_icmp_le (tgt := 352) h d_Mod_step_336 (by decide) (fun c_336 => ?_) (fun c_336 => ?_)
                · refine g_iload_n h d_Mod_step_352 rfl rfl ?_
                  refine g_if_ne (tgt := 369) h d_Mod_step_353 (by decide) (fun c_353 => ?_) (fun c_353 => ?_)
                  · refine g_iload_n h d_Mod_step_369 rfl rfl ?_
                    refine g_iconst (v := 1) h d_Mod_step_370 (by decide) ?_
                    refine g_icmp_ne (tgt := 391) h d_Mod_step_371 (by decide) (fun c_371 => ?_) (fun c_371 => ?_)
                    · refine g_iload_n h d_Mod_step_391 rfl rfl ?_
                      refine g_iconst (v := 2) h d_Mod_step_392 (by decide) ?_
                      refine g_icmp_ne (tgt := 408) h d_Mod_step_393 (by decide) (fun c_393 => ?_) (fun c_393 => ?_)
                      · refine g_iload_n h d_Mod_step_408 rfl rfl ?_
                        refine g_iconst (v := 3) h d_Mod_step_409 (by decide) ?_
                        refine g_icmp_ne (tgt := 430) h d_Mod_step_410 (by decide) (fun c_410 => ?_) (fun c_410 => ?_)
                        · refine g_iload_n h d_Mod_step_430 rfl rfl ?_
                          refine g_iconst (v := 4) h d_Mod_step_431 (by decide) ?_
                          refine g_icmp_ne (tgt := 447) h d_Mod_step_432 (by decide) (fun c_432 => ?_) (fun c_432 => ?_)
                          · exact absurd c_432 (by decide)
                          · refine g_aload_n h d_Mod_step_435 rfl rfl ?_
                            refine gf_Mod_globals h f_Mod_22 d_Mod_step_436 ?_
                            refine g_iload h d_Mod_step_439 rfl ?_
                            refine g_lload h d_Mod_step_441 rfl ?_
                            refine pj_globals h rfl h6 d_Mod_step_443 ?_
                            refine g_goto (tgt := 654) h d_Mod_step_444 (by decide) ?_
                            refine g_aload_n h d_Mod_step_654 rfl rfl ?_
                            refine gf_Mod_trouble h f_Mod_141 d_Mod_step_655 ?_
                            refine g_if_ne (tgt := 671) h d_Mod_step_658 (by decide) (fun c_658 => ?_) (fun c_658 => ?_)
                            · exact g_vret h r d_Mod_step_671 (⟨rfl, by first | exact congrArg (mob ad u) (if_pos c_658).symm | exact congrArg (mob ad u) (if_neg c_658).symm⟩)
                            · refine g_aload_n h d_Mod_step_661 rfl rfl ?_
                              refine gf_Mod_place h f_Mod_50 d_Mod_step_662 ?_
                              refine g_iload_n h d_Mod_step_665 rfl rfl ?_
                              refine g_dup2 h d_Mod_step_666 rfl rfl ?_
                              refine gi_place h rfl hn d_Mod_step_667 ?_
                              refine g_iconst (v := 1) h d_Mod_step_668 (by decide) ?_
                              refine g_iadd h d_Mod_step_669 ?_
                              refine pi_place h rfl hn d_Mod_step_670 ?_
                              exact g_vret h r d_Mod_step_671 (⟨rfl, by first | exact congrArg (mob ad u) (if_pos c_658).symm | exact congrArg (mob ad u) (if_neg c_658).symm⟩)
                        · exact absurd c_410 (by decide)
                      · exact absurd c_393 (by decide)
                    · exact absurd c_371 (by decide)
                  · exact absurd c_353 (by decide)
                · exact absurd c_336 (by decide)
          · exact absurd c_306 (by decide)
        · exact absurd c_243 (by decide)
      · exact absurd c_195 (by decide)
  · exact absurd c_174 (by decide)
set_option maxHeartbeats 4000000 in
set_option maxRecDepth 100000 in
theorem g_step_5 {Γ : GT} {u : Nat → ClassId} {ad : Nat → Nat} {B : CS} {n i : Nat} (h : Cx Γ b_Mod_step y_Mod_step.cls { frames := 6, cells := 0, slots := 0, locals := 134 } TB CL (tym u) NL) (hN : gN Γ = 15) (r : Rx Γ 18 ad none (fun v σ2 => v = none ∧ σ2 = mob ad u (mstepO B n i 5)) 0 0) (hok : okM B) (hn : n < 16) (hi : i < 64) : G Γ 0 0 18 ad (mob ad u B) 171 [some (.ref (ad 0)), some (.int (nI n)), some (.int (nI i)), some (.int 5), some (.int (nI (mA B n i))), some (.long (mX B n i)), none, some (.long (mY B n i)), none, some (.long (mZ B n i)), none, some (.int (nI (fmod (B.1 3 i) 6))), none, none, none] [] := by
  have h4 := fmod_lt (B.1 1 i) (m := 4) (by decide)
  have h6 := fmod_lt (B.1 3 i) (m := 6) (by decide)
  refine g_iload_n h d_Mod_step_171 rfl rfl ?_
  refine g_bipush (v := 17) h d_Mod_step_172 (by decide) ?_
  refine g_icmp_ne (tgt := 186) h d_Mod_step_174 (by decide) (fun c_174 => ?_) (fun c_174 => ?_)
  · refine g_iload_n h d_Mod_step_186 rfl rfl ?_
    refine g_bipush (v := 18) h d_Mod_step_187 (by decide) ?_
    refine g_icmp_eq (tgt := 198) h d_Mod_step_189 (by decide) (fun c_189 => ?_) (fun c_189 => ?_)
    · exact absurd c_189 (by decide)
    · refine g_iload_n h d_Mod_step_192 rfl rfl ?_
      refine g_bipush (v := 19) h d_Mod_step_193 (by decide) ?_
      refine g_icmp_ne (tgt := 240) h d_Mod_step_195 (by decide) (fun c_195 => ?_) (fun c_195 => ?_)
      · refine g_iload_n h d_Mod_step_240 rfl rfl ?_
        refine g_bipush (v := 11) h d_Mod_step_241 (by decide) ?_
        refine g_icmp_lt (tgt := 302) h d_Mod_step_243 (by decide) (fun c_243 => ?_) (fun c_243 => ?_)
        · refine g_aload_n h d_Mod_step_302 rfl rfl ?_
          refine g_iload_n h d_Mod_step_303 rfl rfl ?_
          refine g_bipush (v := 7) h d_Mod_step_304 (by decide) ?_
          refine g_icmp_ne (tgt := 314) h d_Mod_step_306 (by decide) (fun c_306 => ?_) (fun c_306 => ?_)
          · refine g_lload h d_Mod_step_314 rfl ?_
            refine g_dVi h tb_good (c_Mod_tableOf (hok.2.1 3 _)) (q := 0) (by decide) rfl rfl v_Mod_135 nm_Mod_tableOf rfl ⟨rfl, rfl, Nat.le_of_ble_eq_true rfl, Nat.le_of_ble_eq_true rfl, Nat.zero_le _, Nat.zero_le _⟩ rfl (Nat.le_of_ble_eq_true rfl) d_Mod_step_316 ?_
            refine g_istore h d_Mod_step_319 rfl (by rw [hN]; decide) ?_
            refine g_iload_n h d_Mod_step_321 rfl rfl ?_
            refine g_bipush (v := 6) h d_Mod_step_322 (by decide) ?_
            refine g_icmp_eq (tgt := 339) h d_Mod_step_324 (by decide) (fun c_324 => ?_) (fun c_324 => ?_)
            · exact absurd c_324 (by decide)
            · refine g_iload_n h d_Mod_step_327 rfl rfl ?_
              refine g_bipush (v := 7) h d_Mod_step_328 (by decide) ?_
              refine g_icmp_eq (tgt := 339) h d_Mod_step_330 (by decide) (fun c_330 => ?_) (fun c_330 => ?_)
              · exact absurd c_330 (by decide)
              · refine g_iload_n h d_Mod_step_333 rfl rfl ?_
                refine g_bipush (v := 19) h d_Mod_step_334 (by decide) ?_
                refine g_icmp_le (tgt := 352) h d_Mod_step_336 (by decide) (fun c_336 => ?_) (fun c_336 => ?_)
                · refine g_iload_n h d_Mod_step_352 rfl rfl ?_
                  refine g_if_ne (tgt := 369) h d_Mod_step_353 (by decide) (fun c_353 => ?_) (fun c_353 => ?_)
                  · refine g_iload_n h d_Mod_step_369 rfl rfl ?_
                    refine g_iconst (v := 1) h d_Mod_step_370 (by decide) ?_
                    refine g_icmp_ne (tgt := 391) h d_Mod_step_371 (by decide) (fun c_371 => ?_) (fun c_371 => ?_)
                    · refine g_iload_n h d_Mod_step_391 rfl rfl ?_
                      refine g_iconst (v := 2) h d_Mod_step_392 (by decide) ?_
                      refine g_icmp_ne (tgt := 408) h d_Mod_step_393 (by decide) (fun c_393 => ?_) (fun c_393 => ?_)
                      · refine g_iload_n h d_Mod_step_408 rfl rfl ?_
                        refine g_iconst (v := 3) h d_Mod_step_409 (by decide) ?_
                        refine g_icmp_ne (tgt := 430) h d_Mod_step_410 (by decide) (fun c_410 => ?_) (fun c_410 => ?_)
                        · refine g_iload_n h d_Mod_step_430 rfl rfl ?_
                          refine g_iconst (v := 4) h d_Mod_step_431 (by decide) ?_
                          refine g_icmp_ne (tgt := 447) h d_Mod_step_432 (by decide) (fun c_432 => ?_) (fun c_432 => ?_)
                          · refine g_iload_n h d_Mod_step_447 rfl rfl ?_
                            refine g_iconst (v := 5) h d_Mod_step_448 (by decide) ?_
                            refine g_icmp_eq (tgt := 458) h d_Mod_step_449 (by decide) (fun c_449 => ?_) (fun c_449 => ?_)
                            · refine g_aload_n h d_Mod_step_458 rfl rfl ?_
                              refine g_iload_n h d_Mod_step_459 rfl rfl ?_
                              refine g_iconst (v := 5) h d_Mod_step_460 (by decide) ?_
                              refine g_icmp_ne (tgt := 468) h d_Mod_step_461 (by decide) (fun c_461 => ?_) (fun c_461 => ?_)
                              · exact absurd c_461 (by decide)
                              · refine g_iconst (v := 1) h d_Mod_step_464 (by decide) ?_
                                refine g_goto (tgt := 469) h d_Mod_step_465 (by decide) ?_
                                refine g_aload_n h d_Mod_step_469 rfl rfl ?_
                                refine gf_Mod_cs h f_Mod_19 d_Mod_step_470 ?_
                                refine g_iload_n h d_Mod_step_473 rfl rfl ?_
                                refine gi_cs h rfl hi d_Mod_step_474 ?_
                                refine g_iconst (v := 3) h d_Mod_step_475 (by decide) ?_
                                refine g_iand h d_Mod_step_476 ?_
                                rw [and3]
                                refine g_dVi h tb_good (c_Mod_create hok) (q := 0) (by decide) rfl rfl v_Mod_127 nm_Mod_create rfl ⟨rfl, rfl, Nat.le_of_ble_eq_true rfl, Nat.le_of_ble_eq_true rfl, Nat.zero_le _, Nat.zero_le _⟩ rfl (Nat.le_of_ble_eq_true rfl) d_Mod_step_477 ?_
                                rcases hf : (mcreate B 1 (nI (fmod (B.1 3 i) 4))).1 with _ | q <;> simp only [enc]
                                · refine g_istore h d_Mod_step_480 rfl (by rw [hN]; decide) ?_
                                  refine g_iload h d_Mod_step_482 rfl ?_
                                  refine g_if_ge (tgt := 495) h d_Mod_step_484 (by decide) (fun c_484 => ?_) (fun c_484 => ?_)
                                  · exact absurd c_484 (by decide)
                                  · refine g_aload_n h d_Mod_step_487 rfl rfl ?_
                                    refine g_iconst (v := 2) h d_Mod_step_488 (by decide) ?_
                                    refine pf_Mod_trouble h f_Mod_141 d_Mod_step_489 ?_
                                    refine g_goto (tgt := 509) h d_Mod_step_492 (by decide) ?_
                                    refine g_goto (tgt := 654) h d_Mod_step_509 (by decide) ?_
                                    refine g_aload_n h d_Mod_step_654 rfl rfl ?_
                                    refine gf_Mod_trouble h f_Mod_141 d_Mod_step_655 ?_
                                    refine g_if_ne (tgt := 671) h d_Mod_step_658 (by decide) (fun c_658 => ?_) (fun c_658 => ?_)
                                    · exact g_vret h r d_Mod_step_671 (⟨rfl, by unfold mstepO mT mnew; rw [hf]; first | exact congrArg (mob ad u) (if_pos c_658).symm | exact congrArg (mob ad u) (if_neg c_658).symm⟩)
                                    · refine g_aload_n h d_Mod_step_661 rfl rfl ?_
                                      refine gf_Mod_place h f_Mod_50 d_Mod_step_662 ?_
                                      refine g_iload_n h d_Mod_step_665 rfl rfl ?_
                                      refine g_dup2 h d_Mod_step_666 rfl rfl ?_
                                      refine gi_place h rfl hn d_Mod_step_667 ?_
                                      refine g_iconst (v := 1) h d_Mod_step_668 (by decide) ?_
                                      refine g_iadd h d_Mod_step_669 ?_
                                      refine pi_place h rfl hn d_Mod_step_670 ?_
                                      exact g_vret h r d_Mod_step_671 (⟨rfl, by unfold mstepO mT mnew; rw [hf]; first | exact congrArg (mob ad u) (if_pos c_658).symm | exact congrArg (mob ad u) (if_neg c_658).symm⟩)
                                · have hq := mcreate_lt hf
                                  refine g_istore h d_Mod_step_480 rfl (by rw [hN]; decide) ?_
                                  refine g_iload h d_Mod_step_482 rfl ?_
                                  refine g_if_ge (tgt := 495) h d_Mod_step_484 (by decide) (fun c_484 => ?_) (fun c_484 => ?_)
                                  · refine g_aload_n h d_Mod_step_495 rfl rfl ?_
                                    refine gf_Mod_registers h f_Mod_44 d_Mod_step_496 ?_
                                    refine g_iload h d_Mod_step_499 rfl ?_
                                    refine g_ldc2 (v := 10000000000) h d_Mod_step_501 k_Mod_72 ?_
                                    refine g_iload h d_Mod_step_504 rfl ?_
                                    refine g_i2l h d_Mod_step_506 ?_
                                    refine g_ladd h d_Mod_step_507 ?_
                                    refine pj_registers h rfl (show n * 4 + fmod (B.1 1 i) 4 < 64 by omega) d_Mod_step_508 ?_
                                    refine g_goto (tgt := 654) h d_Mod_step_509 (by decide) ?_
                                    refine g_aload_n h d_Mod_step_654 rfl rfl ?_
                                    refine gf_Mod_trouble h f_Mod_141 d_Mod_step_655 ?_
                                    refine g_if_ne (tgt := 671) h d_Mod_step_658 (by decide) (fun c_658 => ?_) (fun c_658 => ?_)
                                    · exact g_vret h r d_Mod_step_671 (⟨rfl, by unfold mstepO mT mnew; rw [hf]; first | exact congrArg (mob ad u) (if_pos c_658).symm | exact congrArg (mob ad u) (if_neg c_658).symm⟩)
                                    · refine g_aload_n h d_Mod_step_661 rfl rfl ?_
                                      refine gf_Mod_place h f_Mod_50 d_Mod_step_662 ?_
                                      refine g_iload_n h d_Mod_step_665 rfl rfl ?_
                                      refine g_dup2 h d_Mod_step_666 rfl rfl ?_
                                      refine gi_place h rfl hn d_Mod_step_667 ?_
                                      refine g_iconst (v := 1) h d_Mod_step_668 (by decide) ?_
                                      refine g_iadd h d_Mod_step_669 ?_
                                      refine pi_place h rfl hn d_Mod_step_670 ?_
                                      exact g_vret h r d_Mod_step_671 (⟨rfl, by unfold mstepO mT mnew; rw [hf]; first | exact congrArg (mob ad u) (if_pos c_658).symm | exact congrArg (mob ad u) (if_neg c_658).symm⟩)
                                  · exact absurd (nI_pos' (by omega)) c_484
                            · exact absurd c_449 (by decide)
                          · exact absurd c_432 (by decide)
                        · exact absurd c_410 (by decide)
                      · exact absurd c_393 (by decide)
                    · exact absurd c_371 (by decide)
                  · exact absurd c_353 (by decide)
                · exact absurd c_336 (by decide)
          · exact absurd c_306 (by decide)
        · exact absurd c_243 (by decide)
      · exact absurd c_195 (by decide)
  · exact absurd c_174 (by decide)
set_option maxHeartbeats 4000000 in
set_option maxRecDepth 100000 in
theorem g_step_6 {Γ : GT} {u : Nat → ClassId} {ad : Nat → Nat} {B : CS} {n i : Nat} (h : Cx Γ b_Mod_step y_Mod_step.cls { frames := 6, cells := 0, slots := 0, locals := 134 } TB CL (tym u) NL) (hN : gN Γ = 15) (r : Rx Γ 18 ad none (fun v σ2 => v = none ∧ σ2 = mob ad u (mstepO B n i 6)) 0 0) (hok : okM B) (hn : n < 16) (hi : i < 64) : G Γ 0 0 18 ad (mob ad u B) 171 [some (.ref (ad 0)), some (.int (nI n)), some (.int (nI i)), some (.int 6), some (.int (nI (mA B n i))), some (.long (mX B n i)), none, some (.long (mY B n i)), none, some (.long (mZ B n i)), none, some (.int (nI (fmod (B.1 3 i) 6))), none, none, none] [] := by
  have h4 := fmod_lt (B.1 1 i) (m := 4) (by decide)
  have h6 := fmod_lt (B.1 3 i) (m := 6) (by decide)
  refine g_iload_n h d_Mod_step_171 rfl rfl ?_
  refine g_bipush (v := 17) h d_Mod_step_172 (by decide) ?_
  refine g_icmp_ne (tgt := 186) h d_Mod_step_174 (by decide) (fun c_174 => ?_) (fun c_174 => ?_)
  · refine g_iload_n h d_Mod_step_186 rfl rfl ?_
    refine g_bipush (v := 18) h d_Mod_step_187 (by decide) ?_
    refine g_icmp_eq (tgt := 198) h d_Mod_step_189 (by decide) (fun c_189 => ?_) (fun c_189 => ?_)
    · exact absurd c_189 (by decide)
    · refine g_iload_n h d_Mod_step_192 rfl rfl ?_
      refine g_bipush (v := 19) h d_Mod_step_193 (by decide) ?_
      refine g_icmp_ne (tgt := 240) h d_Mod_step_195 (by decide) (fun c_195 => ?_) (fun c_195 => ?_)
      · refine g_iload_n h d_Mod_step_240 rfl rfl ?_
        refine g_bipush (v := 11) h d_Mod_step_241 (by decide) ?_
        refine g_icmp_lt (tgt := 302) h d_Mod_step_243 (by decide) (fun c_243 => ?_) (fun c_243 => ?_)
        · refine g_aload_n h d_Mod_step_302 rfl rfl ?_
          refine g_iload_n h d_Mod_step_303 rfl rfl ?_
          refine g_bipush (v := 7) h d_Mod_step_304 (by decide) ?_
          refine g_icmp_ne (tgt := 314) h d_Mod_step_306 (by decide) (fun c_306 => ?_) (fun c_306 => ?_)
          · refine g_lload h d_Mod_step_314 rfl ?_
            refine g_dVi h tb_good (c_Mod_tableOf (hok.2.1 3 _)) (q := 0) (by decide) rfl rfl v_Mod_135 nm_Mod_tableOf rfl ⟨rfl, rfl, Nat.le_of_ble_eq_true rfl, Nat.le_of_ble_eq_true rfl, Nat.zero_le _, Nat.zero_le _⟩ rfl (Nat.le_of_ble_eq_true rfl) d_Mod_step_316 ?_
            rcases hf : mOf B 1 (mY B n i) with _ | q <;> simp only [enc]
            · refine g_istore h d_Mod_step_319 rfl (by rw [hN]; decide) ?_
              refine g_iload_n h d_Mod_step_321 rfl rfl ?_
              refine g_bipush (v := 6) h d_Mod_step_322 (by decide) ?_
              refine g_icmp_eq (tgt := 339) h d_Mod_step_324 (by decide) (fun c_324 => ?_) (fun c_324 => ?_)
              · refine g_iload h d_Mod_step_339 rfl ?_
                refine g_if_ge (tgt := 352) h d_Mod_step_341 (by decide) (fun c_341 => ?_) (fun c_341 => ?_)
                · exact absurd c_341 (by decide)
                · refine g_aload_n h d_Mod_step_344 rfl rfl ?_
                  refine g_iconst (v := 3) h d_Mod_step_345 (by decide) ?_
                  refine pf_Mod_trouble h f_Mod_141 d_Mod_step_346 ?_
                  refine g_goto (tgt := 654) h d_Mod_step_349 (by decide) ?_
                  refine g_aload_n h d_Mod_step_654 rfl rfl ?_
                  refine gf_Mod_trouble h f_Mod_141 d_Mod_step_655 ?_
                  refine g_if_ne (tgt := 671) h d_Mod_step_658 (by decide) (fun c_658 => ?_) (fun c_658 => ?_)
                  · exact g_vret h r d_Mod_step_671 (⟨rfl, by rw [show mstepO B n i 6 = mT (sI B 22 0 3) n by simp only [mstepO, hf]]; first | exact congrArg (mob ad u) (if_pos c_658).symm | exact congrArg (mob ad u) (if_neg c_658).symm⟩)
                  · refine g_aload_n h d_Mod_step_661 rfl rfl ?_
                    refine gf_Mod_place h f_Mod_50 d_Mod_step_662 ?_
                    refine g_iload_n h d_Mod_step_665 rfl rfl ?_
                    refine g_dup2 h d_Mod_step_666 rfl rfl ?_
                    refine gi_place h rfl hn d_Mod_step_667 ?_
                    refine g_iconst (v := 1) h d_Mod_step_668 (by decide) ?_
                    refine g_iadd h d_Mod_step_669 ?_
                    refine pi_place h rfl hn d_Mod_step_670 ?_
                    exact g_vret h r d_Mod_step_671 (⟨rfl, by rw [show mstepO B n i 6 = mT (sI B 22 0 3) n by simp only [mstepO, hf]]; first | exact congrArg (mob ad u) (if_pos c_658).symm | exact congrArg (mob ad u) (if_neg c_658).symm⟩)
              · exact absurd c_324 (by decide)
            · have hq := mOf_lt (hok.2.1 3 _) hf
              refine g_istore h d_Mod_step_319 rfl (by rw [hN]; decide) ?_
              refine g_iload_n h d_Mod_step_321 rfl rfl ?_
              refine g_bipush (v := 6) h d_Mod_step_322 (by decide) ?_
              refine g_icmp_eq (tgt := 339) h d_Mod_step_324 (by decide) (fun c_324 => ?_) (fun c_324 => ?_)
              · refine g_iload h d_Mod_step_339 rfl ?_
                refine g_if_ge (tgt := 352) h d_Mod_step_341 (by decide) (fun c_341 => ?_) (fun c_341 => ?_)
                · refine g_iload_n h d_Mod_step_352 rfl rfl ?_
                  refine g_if_ne (tgt := 369) h d_Mod_step_353 (by decide) (fun c_353 => ?_) (fun c_353 => ?_)
                  · refine g_iload_n h d_Mod_step_369 rfl rfl ?_
                    refine g_iconst (v := 1) h d_Mod_step_370 (by decide) ?_
                    refine g_icmp_ne (tgt := 391) h d_Mod_step_371 (by decide) (fun c_371 => ?_) (fun c_371 => ?_)
                    · refine g_iload_n h d_Mod_step_391 rfl rfl ?_
                      refine g_iconst (v := 2) h d_Mod_step_392 (by decide) ?_
                      refine g_icmp_ne (tgt := 408) h d_Mod_step_393 (by decide) (fun c_393 => ?_) (fun c_393 => ?_)
                      · refine g_iload_n h d_Mod_step_408 rfl rfl ?_
                        refine g_iconst (v := 3) h d_Mod_step_409 (by decide) ?_
                        refine g_icmp_ne (tgt := 430) h d_Mod_step_410 (by decide) (fun c_410 => ?_) (fun c_410 => ?_)
                        · refine g_iload_n h d_Mod_step_430 rfl rfl ?_
                          refine g_iconst (v := 4) h d_Mod_step_431 (by decide) ?_
                          refine g_icmp_ne (tgt := 447) h d_Mod_step_432 (by decide) (fun c_432 => ?_) (fun c_432 => ?_)
                          · refine g_iload_n h d_Mod_step_447 rfl rfl ?_
                            refine g_iconst (v := 5) h d_Mod_step_448 (by decide) ?_
                            refine g_icmp_eq (tgt := 458) h d_Mod_step_449 (by decide) (fun c_449 => ?_) (fun c_449 => ?_)
                            · exact absurd c_449 (by decide)
                            · refine g_iload_n h d_Mod_step_452 rfl rfl ?_
                              refine g_bipush (v := 16) h d_Mod_step_453 (by decide) ?_
                              refine g_icmp_ne (tgt := 512) h d_Mod_step_455 (by decide) (fun c_455 => ?_) (fun c_455 => ?_)
                              · refine g_iload_n h d_Mod_step_512 rfl rfl ?_
                                refine g_bipush (v := 6) h d_Mod_step_513 (by decide) ?_
                                refine g_icmp_ne (tgt := 547) h d_Mod_step_515 (by decide) (fun c_515 => ?_) (fun c_515 => ?_)
                                · exact absurd c_515 (by decide)
                                · refine g_aload_n h d_Mod_step_518 rfl rfl ?_
                                  refine g_iload h d_Mod_step_519 rfl ?_
                                  refine g_lload h d_Mod_step_521 rfl ?_
                                  refine g_dVl h tb_good (c_Mod_getting (n0 := q) hok hq) (q := 0) (by decide) rfl rfl v_Mod_151 nm_Mod_getting rfl ⟨rfl, rfl, Nat.le_of_ble_eq_true rfl, Nat.le_of_ble_eq_true rfl, Nat.zero_le _, Nat.zero_le _⟩ rfl (Nat.le_of_ble_eq_true rfl) d_Mod_step_523 ?_
                                  refine g_lstore h d_Mod_step_526 rfl (by rw [hN]; decide) ?_
                                  refine g_aload_n h d_Mod_step_528 rfl rfl ?_
                                  refine gf_Mod_trouble h f_Mod_141 d_Mod_step_529 ?_
                                  refine g_if_ne (tgt := 544) h d_Mod_step_532 (by decide) (fun c_532 => ?_) (fun c_532 => ?_)
                                  · refine g_goto (tgt := 654) h d_Mod_step_544 (by decide) ?_
                                    refine g_aload_n h d_Mod_step_654 rfl rfl ?_
                                    refine gf_Mod_trouble h f_Mod_141 d_Mod_step_655 ?_
                                    refine g_if_ne (tgt := 671) h d_Mod_step_658 (by decide) (fun c_658 => ?_) (fun c_658 => ?_)
                                    · exact g_vret h r d_Mod_step_671 (⟨rfl, by rw [show mstepO B n i 6 = mT (mkeep (mgetting B (mZ B n i) 5 q) (mA B n i)) n by simp only [mstepO, hf]]; unfold mT mkeep; first | (rw [if_pos c_532]; first | exact congrArg (mob ad u) (if_pos c_658).symm | exact congrArg (mob ad u) (if_neg c_658).symm) | (rw [if_neg c_532]; first | exact congrArg (mob ad u) (if_pos c_658).symm | exact congrArg (mob ad u) (if_neg c_658).symm)⟩)
                                    · refine g_aload_n h d_Mod_step_661 rfl rfl ?_
                                      refine gf_Mod_place h f_Mod_50 d_Mod_step_662 ?_
                                      refine g_iload_n h d_Mod_step_665 rfl rfl ?_
                                      refine g_dup2 h d_Mod_step_666 rfl rfl ?_
                                      refine gi_place h rfl hn d_Mod_step_667 ?_
                                      refine g_iconst (v := 1) h d_Mod_step_668 (by decide) ?_
                                      refine g_iadd h d_Mod_step_669 ?_
                                      refine pi_place h rfl hn d_Mod_step_670 ?_
                                      exact g_vret h r d_Mod_step_671 (⟨rfl, by rw [show mstepO B n i 6 = mT (mkeep (mgetting B (mZ B n i) 5 q) (mA B n i)) n by simp only [mstepO, hf]]; unfold mT mkeep; first | (rw [if_pos c_532]; first | exact congrArg (mob ad u) (if_pos c_658).symm | exact congrArg (mob ad u) (if_neg c_658).symm) | (rw [if_neg c_532]; first | exact congrArg (mob ad u) (if_pos c_658).symm | exact congrArg (mob ad u) (if_neg c_658).symm)⟩)
                                  · refine g_aload_n h d_Mod_step_535 rfl rfl ?_
                                    refine gf_Mod_registers h f_Mod_44 d_Mod_step_536 ?_
                                    refine g_iload h d_Mod_step_539 rfl ?_
                                    refine g_lload h d_Mod_step_541 rfl ?_
                                    refine pj_registers h rfl (show n * 4 + fmod (B.1 1 i) 4 < 64 by omega) d_Mod_step_543 ?_
                                    refine g_goto (tgt := 654) h d_Mod_step_544 (by decide) ?_
                                    refine g_aload_n h d_Mod_step_654 rfl rfl ?_
                                    refine gf_Mod_trouble h f_Mod_141 d_Mod_step_655 ?_
                                    refine g_if_ne (tgt := 671) h d_Mod_step_658 (by decide) (fun c_658 => ?_) (fun c_658 => ?_)
                                    · exact g_vret h r d_Mod_step_671 (⟨rfl, by rw [show mstepO B n i 6 = mT (mkeep (mgetting B (mZ B n i) 5 q) (mA B n i)) n by simp only [mstepO, hf]]; unfold mT mkeep; first | (rw [if_pos c_532]; first | exact congrArg (mob ad u) (if_pos c_658).symm | exact congrArg (mob ad u) (if_neg c_658).symm) | (rw [if_neg c_532]; first | exact congrArg (mob ad u) (if_pos c_658).symm | exact congrArg (mob ad u) (if_neg c_658).symm)⟩)
                                    · refine g_aload_n h d_Mod_step_661 rfl rfl ?_
                                      refine gf_Mod_place h f_Mod_50 d_Mod_step_662 ?_
                                      refine g_iload_n h d_Mod_step_665 rfl rfl ?_
                                      refine g_dup2 h d_Mod_step_666 rfl rfl ?_
                                      refine gi_place h rfl hn d_Mod_step_667 ?_
                                      refine g_iconst (v := 1) h d_Mod_step_668 (by decide) ?_
                                      refine g_iadd h d_Mod_step_669 ?_
                                      refine pi_place h rfl hn d_Mod_step_670 ?_
                                      exact g_vret h r d_Mod_step_671 (⟨rfl, by rw [show mstepO B n i 6 = mT (mkeep (mgetting B (mZ B n i) 5 q) (mA B n i)) n by simp only [mstepO, hf]]; unfold mT mkeep; first | (rw [if_pos c_532]; first | exact congrArg (mob ad u) (if_pos c_658).symm | exact congrArg (mob ad u) (if_neg c_658).symm) | (rw [if_neg c_532]; first | exact congrArg (mob ad u) (if_pos c_658).symm | exact congrArg (mob ad u) (if_neg c_658).symm)⟩)
                              · exact absurd c_455 (by decide)
                          · exact absurd c_432 (by decide)
                        · exact absurd c_410 (by decide)
                      · exact absurd c_393 (by decide)
                    · exact absurd c_371 (by decide)
                  · exact absurd c_353 (by decide)
                · exact absurd (nI_pos' (by omega)) c_341
              · exact absurd c_324 (by decide)
          · exact absurd c_306 (by decide)
        · exact absurd c_243 (by decide)
      · exact absurd c_195 (by decide)
  · exact absurd c_174 (by decide)
set_option maxHeartbeats 4000000 in
set_option maxRecDepth 100000 in
theorem g_step_7 {Γ : GT} {u : Nat → ClassId} {ad : Nat → Nat} {B : CS} {n i : Nat} (h : Cx Γ b_Mod_step y_Mod_step.cls { frames := 6, cells := 0, slots := 0, locals := 134 } TB CL (tym u) NL) (hN : gN Γ = 15) (r : Rx Γ 18 ad none (fun v σ2 => v = none ∧ σ2 = mob ad u (mstepO B n i 7)) 0 0) (hok : okM B) (hn : n < 16) (hi : i < 64) : G Γ 0 0 18 ad (mob ad u B) 171 [some (.ref (ad 0)), some (.int (nI n)), some (.int (nI i)), some (.int 7), some (.int (nI (mA B n i))), some (.long (mX B n i)), none, some (.long (mY B n i)), none, some (.long (mZ B n i)), none, some (.int (nI (fmod (B.1 3 i) 6))), none, none, none] [] := by
  have h4 := fmod_lt (B.1 1 i) (m := 4) (by decide)
  have h6 := fmod_lt (B.1 3 i) (m := 6) (by decide)
  refine g_iload_n h d_Mod_step_171 rfl rfl ?_
  refine g_bipush (v := 17) h d_Mod_step_172 (by decide) ?_
  refine g_icmp_ne (tgt := 186) h d_Mod_step_174 (by decide) (fun c_174 => ?_) (fun c_174 => ?_)
  · refine g_iload_n h d_Mod_step_186 rfl rfl ?_
    refine g_bipush (v := 18) h d_Mod_step_187 (by decide) ?_
    refine g_icmp_eq (tgt := 198) h d_Mod_step_189 (by decide) (fun c_189 => ?_) (fun c_189 => ?_)
    · exact absurd c_189 (by decide)
    · refine g_iload_n h d_Mod_step_192 rfl rfl ?_
      refine g_bipush (v := 19) h d_Mod_step_193 (by decide) ?_
      refine g_icmp_ne (tgt := 240) h d_Mod_step_195 (by decide) (fun c_195 => ?_) (fun c_195 => ?_)
      · refine g_iload_n h d_Mod_step_240 rfl rfl ?_
        refine g_bipush (v := 11) h d_Mod_step_241 (by decide) ?_
        refine g_icmp_lt (tgt := 302) h d_Mod_step_243 (by decide) (fun c_243 => ?_) (fun c_243 => ?_)
        · refine g_aload_n h d_Mod_step_302 rfl rfl ?_
          refine g_iload_n h d_Mod_step_303 rfl rfl ?_
          refine g_bipush (v := 7) h d_Mod_step_304 (by decide) ?_
          refine g_icmp_ne (tgt := 314) h d_Mod_step_306 (by decide) (fun c_306 => ?_) (fun c_306 => ?_)
          · exact absurd c_306 (by decide)
          · refine g_lload h d_Mod_step_309 rfl ?_
            refine g_goto (tgt := 316) h d_Mod_step_311 (by decide) ?_
            refine g_dVi h tb_good (c_Mod_tableOf (hok.2.1 3 _)) (q := 0) (by decide) rfl rfl v_Mod_135 nm_Mod_tableOf rfl ⟨rfl, rfl, Nat.le_of_ble_eq_true rfl, Nat.le_of_ble_eq_true rfl, Nat.zero_le _, Nat.zero_le _⟩ rfl (Nat.le_of_ble_eq_true rfl) d_Mod_step_316 ?_
            rcases hf : mOf B 1 (mX B n i) with _ | q <;> simp only [enc]
            · refine g_istore h d_Mod_step_319 rfl (by rw [hN]; decide) ?_
              refine g_iload_n h d_Mod_step_321 rfl rfl ?_
              refine g_bipush (v := 6) h d_Mod_step_322 (by decide) ?_
              refine g_icmp_eq (tgt := 339) h d_Mod_step_324 (by decide) (fun c_324 => ?_) (fun c_324 => ?_)
              · exact absurd c_324 (by decide)
              · refine g_iload_n h d_Mod_step_327 rfl rfl ?_
                refine g_bipush (v := 7) h d_Mod_step_328 (by decide) ?_
                refine g_icmp_eq (tgt := 339) h d_Mod_step_330 (by decide) (fun c_330 => ?_) (fun c_330 => ?_)
                · refine g_iload h d_Mod_step_339 rfl ?_
                  refine g_if_ge (tgt := 352) h d_Mod_step_341 (by decide) (fun c_341 => ?_) (fun c_341 => ?_)
                  · exact absurd c_341 (by decide)
                  · refine g_aload_n h d_Mod_step_344 rfl rfl ?_
                    refine g_iconst (v := 3) h d_Mod_step_345 (by decide) ?_
                    refine pf_Mod_trouble h f_Mod_141 d_Mod_step_346 ?_
                    refine g_goto (tgt := 654) h d_Mod_step_349 (by decide) ?_
                    refine g_aload_n h d_Mod_step_654 rfl rfl ?_
                    refine gf_Mod_trouble h f_Mod_141 d_Mod_step_655 ?_
                    refine g_if_ne (tgt := 671) h d_Mod_step_658 (by decide) (fun c_658 => ?_) (fun c_658 => ?_)
                    · exact g_vret h r d_Mod_step_671 (⟨rfl, by rw [show mstepO B n i 7 = mT (sI B 22 0 3) n by simp only [mstepO, hf]]; first | exact congrArg (mob ad u) (if_pos c_658).symm | exact congrArg (mob ad u) (if_neg c_658).symm⟩)
                    · refine g_aload_n h d_Mod_step_661 rfl rfl ?_
                      refine gf_Mod_place h f_Mod_50 d_Mod_step_662 ?_
                      refine g_iload_n h d_Mod_step_665 rfl rfl ?_
                      refine g_dup2 h d_Mod_step_666 rfl rfl ?_
                      refine gi_place h rfl hn d_Mod_step_667 ?_
                      refine g_iconst (v := 1) h d_Mod_step_668 (by decide) ?_
                      refine g_iadd h d_Mod_step_669 ?_
                      refine pi_place h rfl hn d_Mod_step_670 ?_
                      exact g_vret h r d_Mod_step_671 (⟨rfl, by rw [show mstepO B n i 7 = mT (sI B 22 0 3) n by simp only [mstepO, hf]]; first | exact congrArg (mob ad u) (if_pos c_658).symm | exact congrArg (mob ad u) (if_neg c_658).symm⟩)
                · exact absurd c_330 (by decide)
            · have hq := mOf_lt (hok.2.1 3 _) hf
              refine g_istore h d_Mod_step_319 rfl (by rw [hN]; decide) ?_
              refine g_iload_n h d_Mod_step_321 rfl rfl ?_
              refine g_bipush (v := 6) h d_Mod_step_322 (by decide) ?_
              refine g_icmp_eq (tgt := 339) h d_Mod_step_324 (by decide) (fun c_324 => ?_) (fun c_324 => ?_)
              · exact absurd c_324 (by decide)
              · refine g_iload_n h d_Mod_step_327 rfl rfl ?_
                refine g_bipush (v := 7) h d_Mod_step_328 (by decide) ?_
                refine g_icmp_eq (tgt := 339) h d_Mod_step_330 (by decide) (fun c_330 => ?_) (fun c_330 => ?_)
                · refine g_iload h d_Mod_step_339 rfl ?_
                  refine g_if_ge (tgt := 352) h d_Mod_step_341 (by decide) (fun c_341 => ?_) (fun c_341 => ?_)
                  · refine g_iload_n h d_Mod_step_352 rfl rfl ?_
                    refine g_if_ne (tgt := 369) h d_Mod_step_353 (by decide) (fun c_353 => ?_) (fun c_353 => ?_)
                    · refine g_iload_n h d_Mod_step_369 rfl rfl ?_
                      refine g_iconst (v := 1) h d_Mod_step_370 (by decide) ?_
                      refine g_icmp_ne (tgt := 391) h d_Mod_step_371 (by decide) (fun c_371 => ?_) (fun c_371 => ?_)
                      · refine g_iload_n h d_Mod_step_391 rfl rfl ?_
                        refine g_iconst (v := 2) h d_Mod_step_392 (by decide) ?_
                        refine g_icmp_ne (tgt := 408) h d_Mod_step_393 (by decide) (fun c_393 => ?_) (fun c_393 => ?_)
                        · refine g_iload_n h d_Mod_step_408 rfl rfl ?_
                          refine g_iconst (v := 3) h d_Mod_step_409 (by decide) ?_
                          refine g_icmp_ne (tgt := 430) h d_Mod_step_410 (by decide) (fun c_410 => ?_) (fun c_410 => ?_)
                          · refine g_iload_n h d_Mod_step_430 rfl rfl ?_
                            refine g_iconst (v := 4) h d_Mod_step_431 (by decide) ?_
                            refine g_icmp_ne (tgt := 447) h d_Mod_step_432 (by decide) (fun c_432 => ?_) (fun c_432 => ?_)
                            · refine g_iload_n h d_Mod_step_447 rfl rfl ?_
                              refine g_iconst (v := 5) h d_Mod_step_448 (by decide) ?_
                              refine g_icmp_eq (tgt := 458) h d_Mod_step_449 (by decide) (fun c_449 => ?_) (fun c_449 => ?_)
                              · exact absurd c_449 (by decide)
                              · refine g_iload_n h d_Mod_step_452 rfl rfl ?_
                                refine g_bipush (v := 16) h d_Mod_step_453 (by decide) ?_
                                refine g_icmp_ne (tgt := 512) h d_Mod_step_455 (by decide) (fun c_455 => ?_) (fun c_455 => ?_)
                                · refine g_iload_n h d_Mod_step_512 rfl rfl ?_
                                  refine g_bipush (v := 6) h d_Mod_step_513 (by decide) ?_
                                  refine g_icmp_ne (tgt := 547) h d_Mod_step_515 (by decide) (fun c_515 => ?_) (fun c_515 => ?_)
                                  · refine g_iload_n h d_Mod_step_547 rfl rfl ?_
                                    refine g_bipush (v := 7) h d_Mod_step_548 (by decide) ?_
                                    refine g_icmp_ne (tgt := 566) h d_Mod_step_550 (by decide) (fun c_550 => ?_) (fun c_550 => ?_)
                                    · exact absurd c_550 (by decide)
                                    · refine g_aload_n h d_Mod_step_553 rfl rfl ?_
                                      refine g_iload h d_Mod_step_554 rfl ?_
                                      refine g_lload h d_Mod_step_556 rfl ?_
                                      refine g_lload h d_Mod_step_558 rfl ?_
                                      refine g_dVv h tb_good (c_Mod_setting (n0 := q) hok hq) (q := 0) (by decide) rfl rfl v_Mod_147 nm_Mod_setting rfl ⟨rfl, rfl, Nat.le_of_ble_eq_true rfl, Nat.le_of_ble_eq_true rfl, Nat.zero_le _, Nat.zero_le _⟩ rfl (Nat.le_of_ble_eq_true rfl) d_Mod_step_560 ?_
                                      refine g_goto (tgt := 654) h d_Mod_step_563 (by decide) ?_
                                      refine g_aload_n h d_Mod_step_654 rfl rfl ?_
                                      refine gf_Mod_trouble h f_Mod_141 d_Mod_step_655 ?_
                                      refine g_if_ne (tgt := 671) h d_Mod_step_658 (by decide) (fun c_658 => ?_) (fun c_658 => ?_)
                                      · exact g_vret h r d_Mod_step_671 (⟨rfl, by rw [show mstepO B n i 7 = mT (msetting B q (mY B n i) (mZ B n i)) n by simp only [mstepO, hf]]; first | exact congrArg (mob ad u) (if_pos c_658).symm | exact congrArg (mob ad u) (if_neg c_658).symm⟩)
                                      · refine g_aload_n h d_Mod_step_661 rfl rfl ?_
                                        refine gf_Mod_place h f_Mod_50 d_Mod_step_662 ?_
                                        refine g_iload_n h d_Mod_step_665 rfl rfl ?_
                                        refine g_dup2 h d_Mod_step_666 rfl rfl ?_
                                        refine gi_place h rfl hn d_Mod_step_667 ?_
                                        refine g_iconst (v := 1) h d_Mod_step_668 (by decide) ?_
                                        refine g_iadd h d_Mod_step_669 ?_
                                        refine pi_place h rfl hn d_Mod_step_670 ?_
                                        exact g_vret h r d_Mod_step_671 (⟨rfl, by rw [show mstepO B n i 7 = mT (msetting B q (mY B n i) (mZ B n i)) n by simp only [mstepO, hf]]; first | exact congrArg (mob ad u) (if_pos c_658).symm | exact congrArg (mob ad u) (if_neg c_658).symm⟩)
                                  · exact absurd c_515 (by decide)
                                · exact absurd c_455 (by decide)
                            · exact absurd c_432 (by decide)
                          · exact absurd c_410 (by decide)
                        · exact absurd c_393 (by decide)
                      · exact absurd c_371 (by decide)
                    · exact absurd c_353 (by decide)
                  · exact absurd (nI_pos' (by omega)) c_341
                · exact absurd c_330 (by decide)
        · exact absurd c_243 (by decide)
      · exact absurd c_195 (by decide)
  · exact absurd c_174 (by decide)
set_option maxHeartbeats 4000000 in
set_option maxRecDepth 100000 in
theorem g_step_8 {Γ : GT} {u : Nat → ClassId} {ad : Nat → Nat} {B : CS} {n i : Nat} (h : Cx Γ b_Mod_step y_Mod_step.cls { frames := 6, cells := 0, slots := 0, locals := 134 } TB CL (tym u) NL) (hN : gN Γ = 15) (r : Rx Γ 18 ad none (fun v σ2 => v = none ∧ σ2 = mob ad u (mstepO B n i 8)) 0 0) (hok : okM B) (hn : n < 16) (hi : i < 64) : G Γ 0 0 18 ad (mob ad u B) 171 [some (.ref (ad 0)), some (.int (nI n)), some (.int (nI i)), some (.int 8), some (.int (nI (mA B n i))), some (.long (mX B n i)), none, some (.long (mY B n i)), none, some (.long (mZ B n i)), none, some (.int (nI (fmod (B.1 3 i) 6))), none, none, none] [] := by
  have h4 := fmod_lt (B.1 1 i) (m := 4) (by decide)
  have h6 := fmod_lt (B.1 3 i) (m := 6) (by decide)
  refine g_iload_n h d_Mod_step_171 rfl rfl ?_
  refine g_bipush (v := 17) h d_Mod_step_172 (by decide) ?_
  refine g_icmp_ne (tgt := 186) h d_Mod_step_174 (by decide) (fun c_174 => ?_) (fun c_174 => ?_)
  · refine g_iload_n h d_Mod_step_186 rfl rfl ?_
    refine g_bipush (v := 18) h d_Mod_step_187 (by decide) ?_
    refine g_icmp_eq (tgt := 198) h d_Mod_step_189 (by decide) (fun c_189 => ?_) (fun c_189 => ?_)
    · exact absurd c_189 (by decide)
    · refine g_iload_n h d_Mod_step_192 rfl rfl ?_
      refine g_bipush (v := 19) h d_Mod_step_193 (by decide) ?_
      refine g_icmp_ne (tgt := 240) h d_Mod_step_195 (by decide) (fun c_195 => ?_) (fun c_195 => ?_)
      · refine g_iload_n h d_Mod_step_240 rfl rfl ?_
        refine g_bipush (v := 11) h d_Mod_step_241 (by decide) ?_
        refine g_icmp_lt (tgt := 302) h d_Mod_step_243 (by decide) (fun c_243 => ?_) (fun c_243 => ?_)
        · refine g_aload_n h d_Mod_step_302 rfl rfl ?_
          refine g_iload_n h d_Mod_step_303 rfl rfl ?_
          refine g_bipush (v := 7) h d_Mod_step_304 (by decide) ?_
          refine g_icmp_ne (tgt := 314) h d_Mod_step_306 (by decide) (fun c_306 => ?_) (fun c_306 => ?_)
          · refine g_lload h d_Mod_step_314 rfl ?_
            refine g_dVi h tb_good (c_Mod_tableOf (hok.2.1 3 _)) (q := 0) (by decide) rfl rfl v_Mod_135 nm_Mod_tableOf rfl ⟨rfl, rfl, Nat.le_of_ble_eq_true rfl, Nat.le_of_ble_eq_true rfl, Nat.zero_le _, Nat.zero_le _⟩ rfl (Nat.le_of_ble_eq_true rfl) d_Mod_step_316 ?_
            refine g_istore h d_Mod_step_319 rfl (by rw [hN]; decide) ?_
            refine g_iload_n h d_Mod_step_321 rfl rfl ?_
            refine g_bipush (v := 6) h d_Mod_step_322 (by decide) ?_
            refine g_icmp_eq (tgt := 339) h d_Mod_step_324 (by decide) (fun c_324 => ?_) (fun c_324 => ?_)
            · exact absurd c_324 (by decide)
            · refine g_iload_n h d_Mod_step_327 rfl rfl ?_
              refine g_bipush (v := 7) h d_Mod_step_328 (by decide) ?_
              refine g_icmp_eq (tgt := 339) h d_Mod_step_330 (by decide) (fun c_330 => ?_) (fun c_330 => ?_)
              · exact absurd c_330 (by decide)
              · refine g_iload_n h d_Mod_step_333 rfl rfl ?_
                refine g_bipush (v := 19) h d_Mod_step_334 (by decide) ?_
                refine g_icmp_le (tgt := 352) h d_Mod_step_336 (by decide) (fun c_336 => ?_) (fun c_336 => ?_)
                · refine g_iload_n h d_Mod_step_352 rfl rfl ?_
                  refine g_if_ne (tgt := 369) h d_Mod_step_353 (by decide) (fun c_353 => ?_) (fun c_353 => ?_)
                  · refine g_iload_n h d_Mod_step_369 rfl rfl ?_
                    refine g_iconst (v := 1) h d_Mod_step_370 (by decide) ?_
                    refine g_icmp_ne (tgt := 391) h d_Mod_step_371 (by decide) (fun c_371 => ?_) (fun c_371 => ?_)
                    · refine g_iload_n h d_Mod_step_391 rfl rfl ?_
                      refine g_iconst (v := 2) h d_Mod_step_392 (by decide) ?_
                      refine g_icmp_ne (tgt := 408) h d_Mod_step_393 (by decide) (fun c_393 => ?_) (fun c_393 => ?_)
                      · refine g_iload_n h d_Mod_step_408 rfl rfl ?_
                        refine g_iconst (v := 3) h d_Mod_step_409 (by decide) ?_
                        refine g_icmp_ne (tgt := 430) h d_Mod_step_410 (by decide) (fun c_410 => ?_) (fun c_410 => ?_)
                        · refine g_iload_n h d_Mod_step_430 rfl rfl ?_
                          refine g_iconst (v := 4) h d_Mod_step_431 (by decide) ?_
                          refine g_icmp_ne (tgt := 447) h d_Mod_step_432 (by decide) (fun c_432 => ?_) (fun c_432 => ?_)
                          · refine g_iload_n h d_Mod_step_447 rfl rfl ?_
                            refine g_iconst (v := 5) h d_Mod_step_448 (by decide) ?_
                            refine g_icmp_eq (tgt := 458) h d_Mod_step_449 (by decide) (fun c_449 => ?_) (fun c_449 => ?_)
                            · exact absurd c_449 (by decide)
                            · refine g_iload_n h d_Mod_step_452 rfl rfl ?_
                              refine g_bipush (v := 16) h d_Mod_step_453 (by decide) ?_
                              refine g_icmp_ne (tgt := 512) h d_Mod_step_455 (by decide) (fun c_455 => ?_) (fun c_455 => ?_)
                              · refine g_iload_n h d_Mod_step_512 rfl rfl ?_
                                refine g_bipush (v := 6) h d_Mod_step_513 (by decide) ?_
                                refine g_icmp_ne (tgt := 547) h d_Mod_step_515 (by decide) (fun c_515 => ?_) (fun c_515 => ?_)
                                · refine g_iload_n h d_Mod_step_547 rfl rfl ?_
                                  refine g_bipush (v := 7) h d_Mod_step_548 (by decide) ?_
                                  refine g_icmp_ne (tgt := 566) h d_Mod_step_550 (by decide) (fun c_550 => ?_) (fun c_550 => ?_)
                                  · refine g_iload_n h d_Mod_step_566 rfl rfl ?_
                                    refine g_bipush (v := 11) h d_Mod_step_567 (by decide) ?_
                                    refine g_icmp_ge (tgt := 587) h d_Mod_step_569 (by decide) (fun c_569 => ?_) (fun c_569 => ?_)
                                    · exact absurd c_569 (by decide)
                                    · refine g_aload_n h d_Mod_step_572 rfl rfl ?_
                                      refine g_iload_n h d_Mod_step_573 rfl rfl ?_
                                      refine g_iload_n h d_Mod_step_574 rfl rfl ?_
                                      refine g_iload h d_Mod_step_575 rfl ?_
                                      refine g_lload h d_Mod_step_577 rfl ?_
                                      refine g_lload h d_Mod_step_579 rfl ?_
                                      refine g_dVv h tb_good (c_Mod_calculate (show n * 4 + fmod (B.1 1 i) 4 < 64 by omega)) (q := 0) (by decide) rfl rfl v_Mod_184 nm_Mod_calculate rfl ⟨rfl, rfl, Nat.le_of_ble_eq_true rfl, Nat.le_of_ble_eq_true rfl, Nat.zero_le _, Nat.zero_le _⟩ rfl (Nat.le_of_ble_eq_true rfl) d_Mod_step_581 ?_
                                      refine g_goto (tgt := 654) h d_Mod_step_584 (by decide) ?_
                                      refine g_aload_n h d_Mod_step_654 rfl rfl ?_
                                      refine gf_Mod_trouble h f_Mod_141 d_Mod_step_655 ?_
                                      refine g_if_ne (tgt := 671) h d_Mod_step_658 (by decide) (fun c_658 => ?_) (fun c_658 => ?_)
                                      · exact g_vret h r d_Mod_step_671 (⟨rfl, by first | exact congrArg (mob ad u) (if_pos c_658).symm | exact congrArg (mob ad u) (if_neg c_658).symm⟩)
                                      · refine g_aload_n h d_Mod_step_661 rfl rfl ?_
                                        refine gf_Mod_place h f_Mod_50 d_Mod_step_662 ?_
                                        refine g_iload_n h d_Mod_step_665 rfl rfl ?_
                                        refine g_dup2 h d_Mod_step_666 rfl rfl ?_
                                        refine gi_place h rfl hn d_Mod_step_667 ?_
                                        refine g_iconst (v := 1) h d_Mod_step_668 (by decide) ?_
                                        refine g_iadd h d_Mod_step_669 ?_
                                        refine pi_place h rfl hn d_Mod_step_670 ?_
                                        exact g_vret h r d_Mod_step_671 (⟨rfl, by first | exact congrArg (mob ad u) (if_pos c_658).symm | exact congrArg (mob ad u) (if_neg c_658).symm⟩)
                                  · exact absurd c_550 (by decide)
                                · exact absurd c_515 (by decide)
                              · exact absurd c_455 (by decide)
                          · exact absurd c_432 (by decide)
                        · exact absurd c_410 (by decide)
                      · exact absurd c_393 (by decide)
                    · exact absurd c_371 (by decide)
                  · exact absurd c_353 (by decide)
                · exact absurd c_336 (by decide)
          · exact absurd c_306 (by decide)
        · exact absurd c_243 (by decide)
      · exact absurd c_195 (by decide)
  · exact absurd c_174 (by decide)
set_option maxHeartbeats 4000000 in
set_option maxRecDepth 100000 in
theorem g_step_9 {Γ : GT} {u : Nat → ClassId} {ad : Nat → Nat} {B : CS} {n i : Nat} (h : Cx Γ b_Mod_step y_Mod_step.cls { frames := 6, cells := 0, slots := 0, locals := 134 } TB CL (tym u) NL) (hN : gN Γ = 15) (r : Rx Γ 18 ad none (fun v σ2 => v = none ∧ σ2 = mob ad u (mstepO B n i 9)) 0 0) (hok : okM B) (hn : n < 16) (hi : i < 64) : G Γ 0 0 18 ad (mob ad u B) 171 [some (.ref (ad 0)), some (.int (nI n)), some (.int (nI i)), some (.int 9), some (.int (nI (mA B n i))), some (.long (mX B n i)), none, some (.long (mY B n i)), none, some (.long (mZ B n i)), none, some (.int (nI (fmod (B.1 3 i) 6))), none, none, none] [] := by
  have h4 := fmod_lt (B.1 1 i) (m := 4) (by decide)
  have h6 := fmod_lt (B.1 3 i) (m := 6) (by decide)
  refine g_iload_n h d_Mod_step_171 rfl rfl ?_
  refine g_bipush (v := 17) h d_Mod_step_172 (by decide) ?_
  refine g_icmp_ne (tgt := 186) h d_Mod_step_174 (by decide) (fun c_174 => ?_) (fun c_174 => ?_)
  · refine g_iload_n h d_Mod_step_186 rfl rfl ?_
    refine g_bipush (v := 18) h d_Mod_step_187 (by decide) ?_
    refine g_icmp_eq (tgt := 198) h d_Mod_step_189 (by decide) (fun c_189 => ?_) (fun c_189 => ?_)
    · exact absurd c_189 (by decide)
    · refine g_iload_n h d_Mod_step_192 rfl rfl ?_
      refine g_bipush (v := 19) h d_Mod_step_193 (by decide) ?_
      refine g_icmp_ne (tgt := 240) h d_Mod_step_195 (by decide) (fun c_195 => ?_) (fun c_195 => ?_)
      · refine g_iload_n h d_Mod_step_240 rfl rfl ?_
        refine g_bipush (v := 11) h d_Mod_step_241 (by decide) ?_
        refine g_icmp_lt (tgt := 302) h d_Mod_step_243 (by decide) (fun c_243 => ?_) (fun c_243 => ?_)
        · refine g_aload_n h d_Mod_step_302 rfl rfl ?_
          refine g_iload_n h d_Mod_step_303 rfl rfl ?_
          refine g_bipush (v := 7) h d_Mod_step_304 (by decide) ?_
          refine g_icmp_ne (tgt := 314) h d_Mod_step_306 (by decide) (fun c_306 => ?_) (fun c_306 => ?_)
          · refine g_lload h d_Mod_step_314 rfl ?_
            refine g_dVi h tb_good (c_Mod_tableOf (hok.2.1 3 _)) (q := 0) (by decide) rfl rfl v_Mod_135 nm_Mod_tableOf rfl ⟨rfl, rfl, Nat.le_of_ble_eq_true rfl, Nat.le_of_ble_eq_true rfl, Nat.zero_le _, Nat.zero_le _⟩ rfl (Nat.le_of_ble_eq_true rfl) d_Mod_step_316 ?_
            refine g_istore h d_Mod_step_319 rfl (by rw [hN]; decide) ?_
            refine g_iload_n h d_Mod_step_321 rfl rfl ?_
            refine g_bipush (v := 6) h d_Mod_step_322 (by decide) ?_
            refine g_icmp_eq (tgt := 339) h d_Mod_step_324 (by decide) (fun c_324 => ?_) (fun c_324 => ?_)
            · exact absurd c_324 (by decide)
            · refine g_iload_n h d_Mod_step_327 rfl rfl ?_
              refine g_bipush (v := 7) h d_Mod_step_328 (by decide) ?_
              refine g_icmp_eq (tgt := 339) h d_Mod_step_330 (by decide) (fun c_330 => ?_) (fun c_330 => ?_)
              · exact absurd c_330 (by decide)
              · refine g_iload_n h d_Mod_step_333 rfl rfl ?_
                refine g_bipush (v := 19) h d_Mod_step_334 (by decide) ?_
                refine g_icmp_le (tgt := 352) h d_Mod_step_336 (by decide) (fun c_336 => ?_) (fun c_336 => ?_)
                · refine g_iload_n h d_Mod_step_352 rfl rfl ?_
                  refine g_if_ne (tgt := 369) h d_Mod_step_353 (by decide) (fun c_353 => ?_) (fun c_353 => ?_)
                  · refine g_iload_n h d_Mod_step_369 rfl rfl ?_
                    refine g_iconst (v := 1) h d_Mod_step_370 (by decide) ?_
                    refine g_icmp_ne (tgt := 391) h d_Mod_step_371 (by decide) (fun c_371 => ?_) (fun c_371 => ?_)
                    · refine g_iload_n h d_Mod_step_391 rfl rfl ?_
                      refine g_iconst (v := 2) h d_Mod_step_392 (by decide) ?_
                      refine g_icmp_ne (tgt := 408) h d_Mod_step_393 (by decide) (fun c_393 => ?_) (fun c_393 => ?_)
                      · refine g_iload_n h d_Mod_step_408 rfl rfl ?_
                        refine g_iconst (v := 3) h d_Mod_step_409 (by decide) ?_
                        refine g_icmp_ne (tgt := 430) h d_Mod_step_410 (by decide) (fun c_410 => ?_) (fun c_410 => ?_)
                        · refine g_iload_n h d_Mod_step_430 rfl rfl ?_
                          refine g_iconst (v := 4) h d_Mod_step_431 (by decide) ?_
                          refine g_icmp_ne (tgt := 447) h d_Mod_step_432 (by decide) (fun c_432 => ?_) (fun c_432 => ?_)
                          · refine g_iload_n h d_Mod_step_447 rfl rfl ?_
                            refine g_iconst (v := 5) h d_Mod_step_448 (by decide) ?_
                            refine g_icmp_eq (tgt := 458) h d_Mod_step_449 (by decide) (fun c_449 => ?_) (fun c_449 => ?_)
                            · exact absurd c_449 (by decide)
                            · refine g_iload_n h d_Mod_step_452 rfl rfl ?_
                              refine g_bipush (v := 16) h d_Mod_step_453 (by decide) ?_
                              refine g_icmp_ne (tgt := 512) h d_Mod_step_455 (by decide) (fun c_455 => ?_) (fun c_455 => ?_)
                              · refine g_iload_n h d_Mod_step_512 rfl rfl ?_
                                refine g_bipush (v := 6) h d_Mod_step_513 (by decide) ?_
                                refine g_icmp_ne (tgt := 547) h d_Mod_step_515 (by decide) (fun c_515 => ?_) (fun c_515 => ?_)
                                · refine g_iload_n h d_Mod_step_547 rfl rfl ?_
                                  refine g_bipush (v := 7) h d_Mod_step_548 (by decide) ?_
                                  refine g_icmp_ne (tgt := 566) h d_Mod_step_550 (by decide) (fun c_550 => ?_) (fun c_550 => ?_)
                                  · refine g_iload_n h d_Mod_step_566 rfl rfl ?_
                                    refine g_bipush (v := 11) h d_Mod_step_567 (by decide) ?_
                                    refine g_icmp_ge (tgt := 587) h d_Mod_step_569 (by decide) (fun c_569 => ?_) (fun c_569 => ?_)
                                    · exact absurd c_569 (by decide)
                                    · refine g_aload_n h d_Mod_step_572 rfl rfl ?_
                                      refine g_iload_n h d_Mod_step_573 rfl rfl ?_
                                      refine g_iload_n h d_Mod_step_574 rfl rfl ?_
                                      refine g_iload h d_Mod_step_575 rfl ?_
                                      refine g_lload h d_Mod_step_577 rfl ?_
                                      refine g_lload h d_Mod_step_579 rfl ?_
                                      refine g_dVv h tb_good (c_Mod_calculate (show n * 4 + fmod (B.1 1 i) 4 < 64 by omega)) (q := 0) (by decide) rfl rfl v_Mod_184 nm_Mod_calculate rfl ⟨rfl, rfl, Nat.le_of_ble_eq_true rfl, Nat.le_of_ble_eq_true rfl, Nat.zero_le _, Nat.zero_le _⟩ rfl (Nat.le_of_ble_eq_true rfl) d_Mod_step_581 ?_
                                      refine g_goto (tgt := 654) h d_Mod_step_584 (by decide) ?_
                                      refine g_aload_n h d_Mod_step_654 rfl rfl ?_
                                      refine gf_Mod_trouble h f_Mod_141 d_Mod_step_655 ?_
                                      refine g_if_ne (tgt := 671) h d_Mod_step_658 (by decide) (fun c_658 => ?_) (fun c_658 => ?_)
                                      · exact g_vret h r d_Mod_step_671 (⟨rfl, by first | exact congrArg (mob ad u) (if_pos c_658).symm | exact congrArg (mob ad u) (if_neg c_658).symm⟩)
                                      · refine g_aload_n h d_Mod_step_661 rfl rfl ?_
                                        refine gf_Mod_place h f_Mod_50 d_Mod_step_662 ?_
                                        refine g_iload_n h d_Mod_step_665 rfl rfl ?_
                                        refine g_dup2 h d_Mod_step_666 rfl rfl ?_
                                        refine gi_place h rfl hn d_Mod_step_667 ?_
                                        refine g_iconst (v := 1) h d_Mod_step_668 (by decide) ?_
                                        refine g_iadd h d_Mod_step_669 ?_
                                        refine pi_place h rfl hn d_Mod_step_670 ?_
                                        exact g_vret h r d_Mod_step_671 (⟨rfl, by first | exact congrArg (mob ad u) (if_pos c_658).symm | exact congrArg (mob ad u) (if_neg c_658).symm⟩)
                                  · exact absurd c_550 (by decide)
                                · exact absurd c_515 (by decide)
                              · exact absurd c_455 (by decide)
                          · exact absurd c_432 (by decide)
                        · exact absurd c_410 (by decide)
                      · exact absurd c_393 (by decide)
                    · exact absurd c_371 (by decide)
                  · exact absurd c_353 (by decide)
                · exact absurd c_336 (by decide)
          · exact absurd c_306 (by decide)
        · exact absurd c_243 (by decide)
      · exact absurd c_195 (by decide)
  · exact absurd c_174 (by decide)
set_option maxHeartbeats 4000000 in
set_option maxRecDepth 100000 in
theorem g_step_10 {Γ : GT} {u : Nat → ClassId} {ad : Nat → Nat} {B : CS} {n i : Nat} (h : Cx Γ b_Mod_step y_Mod_step.cls { frames := 6, cells := 0, slots := 0, locals := 134 } TB CL (tym u) NL) (hN : gN Γ = 15) (r : Rx Γ 18 ad none (fun v σ2 => v = none ∧ σ2 = mob ad u (mstepO B n i 10)) 0 0) (hok : okM B) (hn : n < 16) (hi : i < 64) : G Γ 0 0 18 ad (mob ad u B) 171 [some (.ref (ad 0)), some (.int (nI n)), some (.int (nI i)), some (.int 10), some (.int (nI (mA B n i))), some (.long (mX B n i)), none, some (.long (mY B n i)), none, some (.long (mZ B n i)), none, some (.int (nI (fmod (B.1 3 i) 6))), none, none, none] [] := by
  have h4 := fmod_lt (B.1 1 i) (m := 4) (by decide)
  have h6 := fmod_lt (B.1 3 i) (m := 6) (by decide)
  refine g_iload_n h d_Mod_step_171 rfl rfl ?_
  refine g_bipush (v := 17) h d_Mod_step_172 (by decide) ?_
  refine g_icmp_ne (tgt := 186) h d_Mod_step_174 (by decide) (fun c_174 => ?_) (fun c_174 => ?_)
  · refine g_iload_n h d_Mod_step_186 rfl rfl ?_
    refine g_bipush (v := 18) h d_Mod_step_187 (by decide) ?_
    refine g_icmp_eq (tgt := 198) h d_Mod_step_189 (by decide) (fun c_189 => ?_) (fun c_189 => ?_)
    · exact absurd c_189 (by decide)
    · refine g_iload_n h d_Mod_step_192 rfl rfl ?_
      refine g_bipush (v := 19) h d_Mod_step_193 (by decide) ?_
      refine g_icmp_ne (tgt := 240) h d_Mod_step_195 (by decide) (fun c_195 => ?_) (fun c_195 => ?_)
      · refine g_iload_n h d_Mod_step_240 rfl rfl ?_
        refine g_bipush (v := 11) h d_Mod_step_241 (by decide) ?_
        refine g_icmp_lt (tgt := 302) h d_Mod_step_243 (by decide) (fun c_243 => ?_) (fun c_243 => ?_)
        · refine g_aload_n h d_Mod_step_302 rfl rfl ?_
          refine g_iload_n h d_Mod_step_303 rfl rfl ?_
          refine g_bipush (v := 7) h d_Mod_step_304 (by decide) ?_
          refine g_icmp_ne (tgt := 314) h d_Mod_step_306 (by decide) (fun c_306 => ?_) (fun c_306 => ?_)
          · refine g_lload h d_Mod_step_314 rfl ?_
            refine g_dVi h tb_good (c_Mod_tableOf (hok.2.1 3 _)) (q := 0) (by decide) rfl rfl v_Mod_135 nm_Mod_tableOf rfl ⟨rfl, rfl, Nat.le_of_ble_eq_true rfl, Nat.le_of_ble_eq_true rfl, Nat.zero_le _, Nat.zero_le _⟩ rfl (Nat.le_of_ble_eq_true rfl) d_Mod_step_316 ?_
            refine g_istore h d_Mod_step_319 rfl (by rw [hN]; decide) ?_
            refine g_iload_n h d_Mod_step_321 rfl rfl ?_
            refine g_bipush (v := 6) h d_Mod_step_322 (by decide) ?_
            refine g_icmp_eq (tgt := 339) h d_Mod_step_324 (by decide) (fun c_324 => ?_) (fun c_324 => ?_)
            · exact absurd c_324 (by decide)
            · refine g_iload_n h d_Mod_step_327 rfl rfl ?_
              refine g_bipush (v := 7) h d_Mod_step_328 (by decide) ?_
              refine g_icmp_eq (tgt := 339) h d_Mod_step_330 (by decide) (fun c_330 => ?_) (fun c_330 => ?_)
              · exact absurd c_330 (by decide)
              · refine g_iload_n h d_Mod_step_333 rfl rfl ?_
                refine g_bipush (v := 19) h d_Mod_step_334 (by decide) ?_
                refine g_icmp_le (tgt := 352) h d_Mod_step_336 (by decide) (fun c_336 => ?_) (fun c_336 => ?_)
                · refine g_iload_n h d_Mod_step_352 rfl rfl ?_
                  refine g_if_ne (tgt := 369) h d_Mod_step_353 (by decide) (fun c_353 => ?_) (fun c_353 => ?_)
                  · refine g_iload_n h d_Mod_step_369 rfl rfl ?_
                    refine g_iconst (v := 1) h d_Mod_step_370 (by decide) ?_
                    refine g_icmp_ne (tgt := 391) h d_Mod_step_371 (by decide) (fun c_371 => ?_) (fun c_371 => ?_)
                    · refine g_iload_n h d_Mod_step_391 rfl rfl ?_
                      refine g_iconst (v := 2) h d_Mod_step_392 (by decide) ?_
                      refine g_icmp_ne (tgt := 408) h d_Mod_step_393 (by decide) (fun c_393 => ?_) (fun c_393 => ?_)
                      · refine g_iload_n h d_Mod_step_408 rfl rfl ?_
                        refine g_iconst (v := 3) h d_Mod_step_409 (by decide) ?_
                        refine g_icmp_ne (tgt := 430) h d_Mod_step_410 (by decide) (fun c_410 => ?_) (fun c_410 => ?_)
                        · refine g_iload_n h d_Mod_step_430 rfl rfl ?_
                          refine g_iconst (v := 4) h d_Mod_step_431 (by decide) ?_
                          refine g_icmp_ne (tgt := 447) h d_Mod_step_432 (by decide) (fun c_432 => ?_) (fun c_432 => ?_)
                          · refine g_iload_n h d_Mod_step_447 rfl rfl ?_
                            refine g_iconst (v := 5) h d_Mod_step_448 (by decide) ?_
                            refine g_icmp_eq (tgt := 458) h d_Mod_step_449 (by decide) (fun c_449 => ?_) (fun c_449 => ?_)
                            · exact absurd c_449 (by decide)
                            · refine g_iload_n h d_Mod_step_452 rfl rfl ?_
                              refine g_bipush (v := 16) h d_Mod_step_453 (by decide) ?_
                              refine g_icmp_ne (tgt := 512) h d_Mod_step_455 (by decide) (fun c_455 => ?_) (fun c_455 => ?_)
                              · refine g_iload_n h d_Mod_step_512 rfl rfl ?_
                                refine g_bipush (v := 6) h d_Mod_step_513 (by decide) ?_
                                refine g_icmp_ne (tgt := 547) h d_Mod_step_515 (by decide) (fun c_515 => ?_) (fun c_515 => ?_)
                                · refine g_iload_n h d_Mod_step_547 rfl rfl ?_
                                  refine g_bipush (v := 7) h d_Mod_step_548 (by decide) ?_
                                  refine g_icmp_ne (tgt := 566) h d_Mod_step_550 (by decide) (fun c_550 => ?_) (fun c_550 => ?_)
                                  · refine g_iload_n h d_Mod_step_566 rfl rfl ?_
                                    refine g_bipush (v := 11) h d_Mod_step_567 (by decide) ?_
                                    refine g_icmp_ge (tgt := 587) h d_Mod_step_569 (by decide) (fun c_569 => ?_) (fun c_569 => ?_)
                                    · exact absurd c_569 (by decide)
                                    · refine g_aload_n h d_Mod_step_572 rfl rfl ?_
                                      refine g_iload_n h d_Mod_step_573 rfl rfl ?_
                                      refine g_iload_n h d_Mod_step_574 rfl rfl ?_
                                      refine g_iload h d_Mod_step_575 rfl ?_
                                      refine g_lload h d_Mod_step_577 rfl ?_
                                      refine g_lload h d_Mod_step_579 rfl ?_
                                      refine g_dVv h tb_good (c_Mod_calculate (show n * 4 + fmod (B.1 1 i) 4 < 64 by omega)) (q := 0) (by decide) rfl rfl v_Mod_184 nm_Mod_calculate rfl ⟨rfl, rfl, Nat.le_of_ble_eq_true rfl, Nat.le_of_ble_eq_true rfl, Nat.zero_le _, Nat.zero_le _⟩ rfl (Nat.le_of_ble_eq_true rfl) d_Mod_step_581 ?_
                                      refine g_goto (tgt := 654) h d_Mod_step_584 (by decide) ?_
                                      refine g_aload_n h d_Mod_step_654 rfl rfl ?_
                                      refine gf_Mod_trouble h f_Mod_141 d_Mod_step_655 ?_
                                      refine g_if_ne (tgt := 671) h d_Mod_step_658 (by decide) (fun c_658 => ?_) (fun c_658 => ?_)
                                      · exact g_vret h r d_Mod_step_671 (⟨rfl, by first | exact congrArg (mob ad u) (if_pos c_658).symm | exact congrArg (mob ad u) (if_neg c_658).symm⟩)
                                      · refine g_aload_n h d_Mod_step_661 rfl rfl ?_
                                        refine gf_Mod_place h f_Mod_50 d_Mod_step_662 ?_
                                        refine g_iload_n h d_Mod_step_665 rfl rfl ?_
                                        refine g_dup2 h d_Mod_step_666 rfl rfl ?_
                                        refine gi_place h rfl hn d_Mod_step_667 ?_
                                        refine g_iconst (v := 1) h d_Mod_step_668 (by decide) ?_
                                        refine g_iadd h d_Mod_step_669 ?_
                                        refine pi_place h rfl hn d_Mod_step_670 ?_
                                        exact g_vret h r d_Mod_step_671 (⟨rfl, by first | exact congrArg (mob ad u) (if_pos c_658).symm | exact congrArg (mob ad u) (if_neg c_658).symm⟩)
                                  · exact absurd c_550 (by decide)
                                · exact absurd c_515 (by decide)
                              · exact absurd c_455 (by decide)
                          · exact absurd c_432 (by decide)
                        · exact absurd c_410 (by decide)
                      · exact absurd c_393 (by decide)
                    · exact absurd c_371 (by decide)
                  · exact absurd c_353 (by decide)
                · exact absurd c_336 (by decide)
          · exact absurd c_306 (by decide)
        · exact absurd c_243 (by decide)
      · exact absurd c_195 (by decide)
  · exact absurd c_174 (by decide)
set_option maxHeartbeats 4000000 in
set_option maxRecDepth 100000 in
theorem g_step_11 {Γ : GT} {u : Nat → ClassId} {ad : Nat → Nat} {B : CS} {n i : Nat} (h : Cx Γ b_Mod_step y_Mod_step.cls { frames := 6, cells := 0, slots := 0, locals := 134 } TB CL (tym u) NL) (hN : gN Γ = 15) (r : Rx Γ 18 ad none (fun v σ2 => v = none ∧ σ2 = mob ad u (mstepO B n i 11)) 0 0) (hok : okM B) (hn : n < 16) (hi : i < 64) : G Γ 0 0 18 ad (mob ad u B) 171 [some (.ref (ad 0)), some (.int (nI n)), some (.int (nI i)), some (.int 11), some (.int (nI (mA B n i))), some (.long (mX B n i)), none, some (.long (mY B n i)), none, some (.long (mZ B n i)), none, some (.int (nI (fmod (B.1 3 i) 6))), none, none, none] [] := by
  have h4 := fmod_lt (B.1 1 i) (m := 4) (by decide)
  have h6 := fmod_lt (B.1 3 i) (m := 6) (by decide)
  refine g_iload_n h d_Mod_step_171 rfl rfl ?_
  refine g_bipush (v := 17) h d_Mod_step_172 (by decide) ?_
  refine g_icmp_ne (tgt := 186) h d_Mod_step_174 (by decide) (fun c_174 => ?_) (fun c_174 => ?_)
  · refine g_iload_n h d_Mod_step_186 rfl rfl ?_
    refine g_bipush (v := 18) h d_Mod_step_187 (by decide) ?_
    refine g_icmp_eq (tgt := 198) h d_Mod_step_189 (by decide) (fun c_189 => ?_) (fun c_189 => ?_)
    · exact absurd c_189 (by decide)
    · refine g_iload_n h d_Mod_step_192 rfl rfl ?_
      refine g_bipush (v := 19) h d_Mod_step_193 (by decide) ?_
      refine g_icmp_ne (tgt := 240) h d_Mod_step_195 (by decide) (fun c_195 => ?_) (fun c_195 => ?_)
      · refine g_iload_n h d_Mod_step_240 rfl rfl ?_
        refine g_bipush (v := 11) h d_Mod_step_241 (by decide) ?_
        refine g_icmp_lt (tgt := 302) h d_Mod_step_243 (by decide) (fun c_243 => ?_) (fun c_243 => ?_)
        · exact absurd c_243 (by decide)
        · refine g_iload_n h d_Mod_step_246 rfl rfl ?_
          refine g_bipush (v := 14) h d_Mod_step_247 (by decide) ?_
          refine g_icmp_gt (tgt := 302) h d_Mod_step_249 (by decide) (fun c_249 => ?_) (fun c_249 => ?_)
          · exact absurd c_249 (by decide)
          · refine g_aload_n h d_Mod_step_252 rfl rfl ?_
            refine g_iload_n h d_Mod_step_253 rfl rfl ?_
            refine g_lload h d_Mod_step_254 rfl ?_
            refine g_lload h d_Mod_step_256 rfl ?_
            refine g_dVi h tb_good (c_Mod_jumps) (q := 0) (by decide) rfl rfl v_Mod_180 nm_Mod_jumps rfl ⟨rfl, rfl, Nat.le_of_ble_eq_true rfl, Nat.le_of_ble_eq_true rfl, Nat.zero_le _, Nat.zero_le _⟩ rfl (Nat.le_of_ble_eq_true rfl) d_Mod_step_258 ?_
            by_cases hj : ((11 : Int32) = 11 ∧ mX B n i < mY B n i) ∨ (11 : Int32) = 12 ∨ ((11 : Int32) = 13 ∧ mX B n i = -1000000000000) ∨ ((11 : Int32) = 14 ∧ mX B n i = mY B n i)
            · rw [if_pos hj]
              refine g_istore h d_Mod_step_261 rfl (by rw [hN]; decide) ?_
              refine g_aload_n h d_Mod_step_263 rfl rfl ?_
              refine gf_Mod_trouble h f_Mod_141 d_Mod_step_264 ?_
              refine g_if_ne (tgt := 301) h d_Mod_step_267 (by decide) (fun c_267 => ?_) (fun c_267 => ?_)
              · exact g_vret h r d_Mod_step_301 (⟨rfl, by rw [show mstepO B n i 11 = mjmp B n i 11 from rfl]; unfold mjmp; first | (rw [if_pos c_267, if_pos hj]; done) | (rw [if_pos c_267, if_neg hj]; done) | (rw [if_neg c_267]; done)⟩)
              · refine g_aload_n h d_Mod_step_270 rfl rfl ?_
                refine gf_Mod_place h f_Mod_50 d_Mod_step_271 ?_
                refine g_iload_n h d_Mod_step_274 rfl rfl ?_
                refine g_iload h d_Mod_step_275 rfl ?_
                refine g_if_eq (tgt := 292) h d_Mod_step_277 (by decide) (fun c_277 => ?_) (fun c_277 => ?_)
                · exact absurd c_277 (by decide)
                · refine g_aload_n h d_Mod_step_280 rfl rfl ?_
                  refine gf_Mod_cs h f_Mod_19 d_Mod_step_281 ?_
                  refine g_iload_n h d_Mod_step_284 rfl rfl ?_
                  refine gi_cs h rfl hi d_Mod_step_285 ?_
                  refine g_bipush (v := 15) h d_Mod_step_286 (by decide) ?_
                  refine g_iand h d_Mod_step_288 ?_
                  rw [and15]
                  refine g_goto (tgt := 300) h d_Mod_step_289 (by decide) ?_
                  refine pi_place h rfl hn d_Mod_step_300 ?_
                  exact g_vret h r d_Mod_step_301 (⟨rfl, by rw [show mstepO B n i 11 = mjmp B n i 11 from rfl]; unfold mjmp; first | (rw [if_pos c_267, if_pos hj]; done) | (rw [if_pos c_267, if_neg hj]; done) | (rw [if_neg c_267]; done)⟩)
            · rw [if_neg hj]
              refine g_istore h d_Mod_step_261 rfl (by rw [hN]; decide) ?_
              refine g_aload_n h d_Mod_step_263 rfl rfl ?_
              refine gf_Mod_trouble h f_Mod_141 d_Mod_step_264 ?_
              refine g_if_ne (tgt := 301) h d_Mod_step_267 (by decide) (fun c_267 => ?_) (fun c_267 => ?_)
              · exact g_vret h r d_Mod_step_301 (⟨rfl, by rw [show mstepO B n i 11 = mjmp B n i 11 from rfl]; unfold mjmp; first | (rw [if_pos c_267, if_pos hj]; done) | (rw [if_pos c_267, if_neg hj]; done) | (rw [if_neg c_267]; done)⟩)
              · refine g_aload_n h d_Mod_step_270 rfl rfl ?_
                refine gf_Mod_place h f_Mod_50 d_Mod_step_271 ?_
                refine g_iload_n h d_Mod_step_274 rfl rfl ?_
                refine g_iload h d_Mod_step_275 rfl ?_
                refine g_if_eq (tgt := 292) h d_Mod_step_277 (by decide) (fun c_277 => ?_) (fun c_277 => ?_)
                · refine g_aload_n h d_Mod_step_292 rfl rfl ?_
                  refine gf_Mod_place h f_Mod_50 d_Mod_step_293 ?_
                  refine g_iload_n h d_Mod_step_296 rfl rfl ?_
                  refine gi_place h rfl hn d_Mod_step_297 ?_
                  refine g_iconst (v := 1) h d_Mod_step_298 (by decide) ?_
                  refine g_iadd h d_Mod_step_299 ?_
                  refine pi_place h rfl hn d_Mod_step_300 ?_
                  exact g_vret h r d_Mod_step_301 (⟨rfl, by rw [show mstepO B n i 11 = mjmp B n i 11 from rfl]; unfold mjmp; first | (rw [if_pos c_267, if_pos hj]; done) | (rw [if_pos c_267, if_neg hj]; done) | (rw [if_neg c_267]; done)⟩)
                · exact absurd rfl c_277
      · exact absurd c_195 (by decide)
  · exact absurd c_174 (by decide)
set_option maxHeartbeats 4000000 in
set_option maxRecDepth 100000 in
theorem g_step_12 {Γ : GT} {u : Nat → ClassId} {ad : Nat → Nat} {B : CS} {n i : Nat} (h : Cx Γ b_Mod_step y_Mod_step.cls { frames := 6, cells := 0, slots := 0, locals := 134 } TB CL (tym u) NL) (hN : gN Γ = 15) (r : Rx Γ 18 ad none (fun v σ2 => v = none ∧ σ2 = mob ad u (mstepO B n i 12)) 0 0) (hok : okM B) (hn : n < 16) (hi : i < 64) : G Γ 0 0 18 ad (mob ad u B) 171 [some (.ref (ad 0)), some (.int (nI n)), some (.int (nI i)), some (.int 12), some (.int (nI (mA B n i))), some (.long (mX B n i)), none, some (.long (mY B n i)), none, some (.long (mZ B n i)), none, some (.int (nI (fmod (B.1 3 i) 6))), none, none, none] [] := by
  have h4 := fmod_lt (B.1 1 i) (m := 4) (by decide)
  have h6 := fmod_lt (B.1 3 i) (m := 6) (by decide)
  refine g_iload_n h d_Mod_step_171 rfl rfl ?_
  refine g_bipush (v := 17) h d_Mod_step_172 (by decide) ?_
  refine g_icmp_ne (tgt := 186) h d_Mod_step_174 (by decide) (fun c_174 => ?_) (fun c_174 => ?_)
  · refine g_iload_n h d_Mod_step_186 rfl rfl ?_
    refine g_bipush (v := 18) h d_Mod_step_187 (by decide) ?_
    refine g_icmp_eq (tgt := 198) h d_Mod_step_189 (by decide) (fun c_189 => ?_) (fun c_189 => ?_)
    · exact absurd c_189 (by decide)
    · refine g_iload_n h d_Mod_step_192 rfl rfl ?_
      refine g_bipush (v := 19) h d_Mod_step_193 (by decide) ?_
      refine g_icmp_ne (tgt := 240) h d_Mod_step_195 (by decide) (fun c_195 => ?_) (fun c_195 => ?_)
      · refine g_iload_n h d_Mod_step_240 rfl rfl ?_
        refine g_bipush (v := 11) h d_Mod_step_241 (by decide) ?_
        refine g_icmp_lt (tgt := 302) h d_Mod_step_243 (by decide) (fun c_243 => ?_) (fun c_243 => ?_)
        · exact absurd c_243 (by decide)
        · refine g_iload_n h d_Mod_step_246 rfl rfl ?_
          refine g_bipush (v := 14) h d_Mod_step_247 (by decide) ?_
          refine g_icmp_gt (tgt := 302) h d_Mod_step_249 (by decide) (fun c_249 => ?_) (fun c_249 => ?_)
          · exact absurd c_249 (by decide)
          · refine g_aload_n h d_Mod_step_252 rfl rfl ?_
            refine g_iload_n h d_Mod_step_253 rfl rfl ?_
            refine g_lload h d_Mod_step_254 rfl ?_
            refine g_lload h d_Mod_step_256 rfl ?_
            refine g_dVi h tb_good (c_Mod_jumps) (q := 0) (by decide) rfl rfl v_Mod_180 nm_Mod_jumps rfl ⟨rfl, rfl, Nat.le_of_ble_eq_true rfl, Nat.le_of_ble_eq_true rfl, Nat.zero_le _, Nat.zero_le _⟩ rfl (Nat.le_of_ble_eq_true rfl) d_Mod_step_258 ?_
            by_cases hj : ((12 : Int32) = 11 ∧ mX B n i < mY B n i) ∨ (12 : Int32) = 12 ∨ ((12 : Int32) = 13 ∧ mX B n i = -1000000000000) ∨ ((12 : Int32) = 14 ∧ mX B n i = mY B n i)
            · rw [if_pos hj]
              refine g_istore h d_Mod_step_261 rfl (by rw [hN]; decide) ?_
              refine g_aload_n h d_Mod_step_263 rfl rfl ?_
              refine gf_Mod_trouble h f_Mod_141 d_Mod_step_264 ?_
              refine g_if_ne (tgt := 301) h d_Mod_step_267 (by decide) (fun c_267 => ?_) (fun c_267 => ?_)
              · exact g_vret h r d_Mod_step_301 (⟨rfl, by rw [show mstepO B n i 12 = mjmp B n i 12 from rfl]; unfold mjmp; first | (rw [if_pos c_267, if_pos hj]; done) | (rw [if_pos c_267, if_neg hj]; done) | (rw [if_neg c_267]; done)⟩)
              · refine g_aload_n h d_Mod_step_270 rfl rfl ?_
                refine gf_Mod_place h f_Mod_50 d_Mod_step_271 ?_
                refine g_iload_n h d_Mod_step_274 rfl rfl ?_
                refine g_iload h d_Mod_step_275 rfl ?_
                refine g_if_eq (tgt := 292) h d_Mod_step_277 (by decide) (fun c_277 => ?_) (fun c_277 => ?_)
                · exact absurd c_277 (by decide)
                · refine g_aload_n h d_Mod_step_280 rfl rfl ?_
                  refine gf_Mod_cs h f_Mod_19 d_Mod_step_281 ?_
                  refine g_iload_n h d_Mod_step_284 rfl rfl ?_
                  refine gi_cs h rfl hi d_Mod_step_285 ?_
                  refine g_bipush (v := 15) h d_Mod_step_286 (by decide) ?_
                  refine g_iand h d_Mod_step_288 ?_
                  rw [and15]
                  refine g_goto (tgt := 300) h d_Mod_step_289 (by decide) ?_
                  refine pi_place h rfl hn d_Mod_step_300 ?_
                  exact g_vret h r d_Mod_step_301 (⟨rfl, by rw [show mstepO B n i 12 = mjmp B n i 12 from rfl]; unfold mjmp; first | (rw [if_pos c_267, if_pos hj]; done) | (rw [if_pos c_267, if_neg hj]; done) | (rw [if_neg c_267]; done)⟩)
            · rw [if_neg hj]
              refine g_istore h d_Mod_step_261 rfl (by rw [hN]; decide) ?_
              refine g_aload_n h d_Mod_step_263 rfl rfl ?_
              refine gf_Mod_trouble h f_Mod_141 d_Mod_step_264 ?_
              refine g_if_ne (tgt := 301) h d_Mod_step_267 (by decide) (fun c_267 => ?_) (fun c_267 => ?_)
              · exact g_vret h r d_Mod_step_301 (⟨rfl, by rw [show mstepO B n i 12 = mjmp B n i 12 from rfl]; unfold mjmp; first | (rw [if_pos c_267, if_pos hj]; done) | (rw [if_pos c_267, if_neg hj]; done) | (rw [if_neg c_267]; done)⟩)
              · refine g_aload_n h d_Mod_step_270 rfl rfl ?_
                refine gf_Mod_place h f_Mod_50 d_Mod_step_271 ?_
                refine g_iload_n h d_Mod_step_274 rfl rfl ?_
                refine g_iload h d_Mod_step_275 rfl ?_
                refine g_if_eq (tgt := 292) h d_Mod_step_277 (by decide) (fun c_277 => ?_) (fun c_277 => ?_)
                · refine g_aload_n h d_Mod_step_292 rfl rfl ?_
                  refine gf_Mod_place h f_Mod_50 d_Mod_step_293 ?_
                  refine g_iload_n h d_Mod_step_296 rfl rfl ?_
                  refine gi_place h rfl hn d_Mod_step_297 ?_
                  refine g_iconst (v := 1) h d_Mod_step_298 (by decide) ?_
                  refine g_iadd h d_Mod_step_299 ?_
                  refine pi_place h rfl hn d_Mod_step_300 ?_
                  exact g_vret h r d_Mod_step_301 (⟨rfl, by rw [show mstepO B n i 12 = mjmp B n i 12 from rfl]; unfold mjmp; first | (rw [if_pos c_267, if_pos hj]; done) | (rw [if_pos c_267, if_neg hj]; done) | (rw [if_neg c_267]; done)⟩)
                · exact absurd rfl c_277
      · exact absurd c_195 (by decide)
  · exact absurd c_174 (by decide)
set_option maxHeartbeats 4000000 in
set_option maxRecDepth 100000 in
theorem g_step_13 {Γ : GT} {u : Nat → ClassId} {ad : Nat → Nat} {B : CS} {n i : Nat} (h : Cx Γ b_Mod_step y_Mod_step.cls { frames := 6, cells := 0, slots := 0, locals := 134 } TB CL (tym u) NL) (hN : gN Γ = 15) (r : Rx Γ 18 ad none (fun v σ2 => v = none ∧ σ2 = mob ad u (mstepO B n i 13)) 0 0) (hok : okM B) (hn : n < 16) (hi : i < 64) : G Γ 0 0 18 ad (mob ad u B) 171 [some (.ref (ad 0)), some (.int (nI n)), some (.int (nI i)), some (.int 13), some (.int (nI (mA B n i))), some (.long (mX B n i)), none, some (.long (mY B n i)), none, some (.long (mZ B n i)), none, some (.int (nI (fmod (B.1 3 i) 6))), none, none, none] [] := by
  have h4 := fmod_lt (B.1 1 i) (m := 4) (by decide)
  have h6 := fmod_lt (B.1 3 i) (m := 6) (by decide)
  refine g_iload_n h d_Mod_step_171 rfl rfl ?_
  refine g_bipush (v := 17) h d_Mod_step_172 (by decide) ?_
  refine g_icmp_ne (tgt := 186) h d_Mod_step_174 (by decide) (fun c_174 => ?_) (fun c_174 => ?_)
  · refine g_iload_n h d_Mod_step_186 rfl rfl ?_
    refine g_bipush (v := 18) h d_Mod_step_187 (by decide) ?_
    refine g_icmp_eq (tgt := 198) h d_Mod_step_189 (by decide) (fun c_189 => ?_) (fun c_189 => ?_)
    · exact absurd c_189 (by decide)
    · refine g_iload_n h d_Mod_step_192 rfl rfl ?_
      refine g_bipush (v := 19) h d_Mod_step_193 (by decide) ?_
      refine g_icmp_ne (tgt := 240) h d_Mod_step_195 (by decide) (fun c_195 => ?_) (fun c_195 => ?_)
      · refine g_iload_n h d_Mod_step_240 rfl rfl ?_
        refine g_bipush (v := 11) h d_Mod_step_241 (by decide) ?_
        refine g_icmp_lt (tgt := 302) h d_Mod_step_243 (by decide) (fun c_243 => ?_) (fun c_243 => ?_)
        · exact absurd c_243 (by decide)
        · refine g_iload_n h d_Mod_step_246 rfl rfl ?_
          refine g_bipush (v := 14) h d_Mod_step_247 (by decide) ?_
          refine g_icmp_gt (tgt := 302) h d_Mod_step_249 (by decide) (fun c_249 => ?_) (fun c_249 => ?_)
          · exact absurd c_249 (by decide)
          · refine g_aload_n h d_Mod_step_252 rfl rfl ?_
            refine g_iload_n h d_Mod_step_253 rfl rfl ?_
            refine g_lload h d_Mod_step_254 rfl ?_
            refine g_lload h d_Mod_step_256 rfl ?_
            refine g_dVi h tb_good (c_Mod_jumps) (q := 0) (by decide) rfl rfl v_Mod_180 nm_Mod_jumps rfl ⟨rfl, rfl, Nat.le_of_ble_eq_true rfl, Nat.le_of_ble_eq_true rfl, Nat.zero_le _, Nat.zero_le _⟩ rfl (Nat.le_of_ble_eq_true rfl) d_Mod_step_258 ?_
            by_cases hj : ((13 : Int32) = 11 ∧ mX B n i < mY B n i) ∨ (13 : Int32) = 12 ∨ ((13 : Int32) = 13 ∧ mX B n i = -1000000000000) ∨ ((13 : Int32) = 14 ∧ mX B n i = mY B n i)
            · rw [if_pos hj]
              refine g_istore h d_Mod_step_261 rfl (by rw [hN]; decide) ?_
              refine g_aload_n h d_Mod_step_263 rfl rfl ?_
              refine gf_Mod_trouble h f_Mod_141 d_Mod_step_264 ?_
              refine g_if_ne (tgt := 301) h d_Mod_step_267 (by decide) (fun c_267 => ?_) (fun c_267 => ?_)
              · exact g_vret h r d_Mod_step_301 (⟨rfl, by rw [show mstepO B n i 13 = mjmp B n i 13 from rfl]; unfold mjmp; first | (rw [if_pos c_267, if_pos hj]; done) | (rw [if_pos c_267, if_neg hj]; done) | (rw [if_neg c_267]; done)⟩)
              · refine g_aload_n h d_Mod_step_270 rfl rfl ?_
                refine gf_Mod_place h f_Mod_50 d_Mod_step_271 ?_
                refine g_iload_n h d_Mod_step_274 rfl rfl ?_
                refine g_iload h d_Mod_step_275 rfl ?_
                refine g_if_eq (tgt := 292) h d_Mod_step_277 (by decide) (fun c_277 => ?_) (fun c_277 => ?_)
                · exact absurd c_277 (by decide)
                · refine g_aload_n h d_Mod_step_280 rfl rfl ?_
                  refine gf_Mod_cs h f_Mod_19 d_Mod_step_281 ?_
                  refine g_iload_n h d_Mod_step_284 rfl rfl ?_
                  refine gi_cs h rfl hi d_Mod_step_285 ?_
                  refine g_bipush (v := 15) h d_Mod_step_286 (by decide) ?_
                  refine g_iand h d_Mod_step_288 ?_
                  rw [and15]
                  refine g_goto (tgt := 300) h d_Mod_step_289 (by decide) ?_
                  refine pi_place h rfl hn d_Mod_step_300 ?_
                  exact g_vret h r d_Mod_step_301 (⟨rfl, by rw [show mstepO B n i 13 = mjmp B n i 13 from rfl]; unfold mjmp; first | (rw [if_pos c_267, if_pos hj]; done) | (rw [if_pos c_267, if_neg hj]; done) | (rw [if_neg c_267]; done)⟩)
            · rw [if_neg hj]
              refine g_istore h d_Mod_step_261 rfl (by rw [hN]; decide) ?_
              refine g_aload_n h d_Mod_step_263 rfl rfl ?_
              refine gf_Mod_trouble h f_Mod_141 d_Mod_step_264 ?_
              refine g_if_ne (tgt := 301) h d_Mod_step_267 (by decide) (fun c_267 => ?_) (fun c_267 => ?_)
              · exact g_vret h r d_Mod_step_301 (⟨rfl, by rw [show mstepO B n i 13 = mjmp B n i 13 from rfl]; unfold mjmp; first | (rw [if_pos c_267, if_pos hj]; done) | (rw [if_pos c_267, if_neg hj]; done) | (rw [if_neg c_267]; done)⟩)
              · refine g_aload_n h d_Mod_step_270 rfl rfl ?_
                refine gf_Mod_place h f_Mod_50 d_Mod_step_271 ?_
                refine g_iload_n h d_Mod_step_274 rfl rfl ?_
                refine g_iload h d_Mod_step_275 rfl ?_
                refine g_if_eq (tgt := 292) h d_Mod_step_277 (by decide) (fun c_277 => ?_) (fun c_277 => ?_)
                · refine g_aload_n h d_Mod_step_292 rfl rfl ?_
                  refine gf_Mod_place h f_Mod_50 d_Mod_step_293 ?_
                  refine g_iload_n h d_Mod_step_296 rfl rfl ?_
                  refine gi_place h rfl hn d_Mod_step_297 ?_
                  refine g_iconst (v := 1) h d_Mod_step_298 (by decide) ?_
                  refine g_iadd h d_Mod_step_299 ?_
                  refine pi_place h rfl hn d_Mod_step_300 ?_
                  exact g_vret h r d_Mod_step_301 (⟨rfl, by rw [show mstepO B n i 13 = mjmp B n i 13 from rfl]; unfold mjmp; first | (rw [if_pos c_267, if_pos hj]; done) | (rw [if_pos c_267, if_neg hj]; done) | (rw [if_neg c_267]; done)⟩)
                · exact absurd rfl c_277
      · exact absurd c_195 (by decide)
  · exact absurd c_174 (by decide)
set_option maxHeartbeats 4000000 in
set_option maxRecDepth 100000 in
theorem g_step_14 {Γ : GT} {u : Nat → ClassId} {ad : Nat → Nat} {B : CS} {n i : Nat} (h : Cx Γ b_Mod_step y_Mod_step.cls { frames := 6, cells := 0, slots := 0, locals := 134 } TB CL (tym u) NL) (hN : gN Γ = 15) (r : Rx Γ 18 ad none (fun v σ2 => v = none ∧ σ2 = mob ad u (mstepO B n i 14)) 0 0) (hok : okM B) (hn : n < 16) (hi : i < 64) : G Γ 0 0 18 ad (mob ad u B) 171 [some (.ref (ad 0)), some (.int (nI n)), some (.int (nI i)), some (.int 14), some (.int (nI (mA B n i))), some (.long (mX B n i)), none, some (.long (mY B n i)), none, some (.long (mZ B n i)), none, some (.int (nI (fmod (B.1 3 i) 6))), none, none, none] [] := by
  have h4 := fmod_lt (B.1 1 i) (m := 4) (by decide)
  have h6 := fmod_lt (B.1 3 i) (m := 6) (by decide)
  refine g_iload_n h d_Mod_step_171 rfl rfl ?_
  refine g_bipush (v := 17) h d_Mod_step_172 (by decide) ?_
  refine g_icmp_ne (tgt := 186) h d_Mod_step_174 (by decide) (fun c_174 => ?_) (fun c_174 => ?_)
  · refine g_iload_n h d_Mod_step_186 rfl rfl ?_
    refine g_bipush (v := 18) h d_Mod_step_187 (by decide) ?_
    refine g_icmp_eq (tgt := 198) h d_Mod_step_189 (by decide) (fun c_189 => ?_) (fun c_189 => ?_)
    · exact absurd c_189 (by decide)
    · refine g_iload_n h d_Mod_step_192 rfl rfl ?_
      refine g_bipush (v := 19) h d_Mod_step_193 (by decide) ?_
      refine g_icmp_ne (tgt := 240) h d_Mod_step_195 (by decide) (fun c_195 => ?_) (fun c_195 => ?_)
      · refine g_iload_n h d_Mod_step_240 rfl rfl ?_
        refine g_bipush (v := 11) h d_Mod_step_241 (by decide) ?_
        refine g_icmp_lt (tgt := 302) h d_Mod_step_243 (by decide) (fun c_243 => ?_) (fun c_243 => ?_)
        · exact absurd c_243 (by decide)
        · refine g_iload_n h d_Mod_step_246 rfl rfl ?_
          refine g_bipush (v := 14) h d_Mod_step_247 (by decide) ?_
          refine g_icmp_gt (tgt := 302) h d_Mod_step_249 (by decide) (fun c_249 => ?_) (fun c_249 => ?_)
          · exact absurd c_249 (by decide)
          · refine g_aload_n h d_Mod_step_252 rfl rfl ?_
            refine g_iload_n h d_Mod_step_253 rfl rfl ?_
            refine g_lload h d_Mod_step_254 rfl ?_
            refine g_lload h d_Mod_step_256 rfl ?_
            refine g_dVi h tb_good (c_Mod_jumps) (q := 0) (by decide) rfl rfl v_Mod_180 nm_Mod_jumps rfl ⟨rfl, rfl, Nat.le_of_ble_eq_true rfl, Nat.le_of_ble_eq_true rfl, Nat.zero_le _, Nat.zero_le _⟩ rfl (Nat.le_of_ble_eq_true rfl) d_Mod_step_258 ?_
            by_cases hj : ((14 : Int32) = 11 ∧ mX B n i < mY B n i) ∨ (14 : Int32) = 12 ∨ ((14 : Int32) = 13 ∧ mX B n i = -1000000000000) ∨ ((14 : Int32) = 14 ∧ mX B n i = mY B n i)
            · rw [if_pos hj]
              refine g_istore h d_Mod_step_261 rfl (by rw [hN]; decide) ?_
              refine g_aload_n h d_Mod_step_263 rfl rfl ?_
              refine gf_Mod_trouble h f_Mod_141 d_Mod_step_264 ?_
              refine g_if_ne (tgt := 301) h d_Mod_step_267 (by decide) (fun c_267 => ?_) (fun c_267 => ?_)
              · exact g_vret h r d_Mod_step_301 (⟨rfl, by rw [show mstepO B n i 14 = mjmp B n i 14 from rfl]; unfold mjmp; first | (rw [if_pos c_267, if_pos hj]; done) | (rw [if_pos c_267, if_neg hj]; done) | (rw [if_neg c_267]; done)⟩)
              · refine g_aload_n h d_Mod_step_270 rfl rfl ?_
                refine gf_Mod_place h f_Mod_50 d_Mod_step_271 ?_
                refine g_iload_n h d_Mod_step_274 rfl rfl ?_
                refine g_iload h d_Mod_step_275 rfl ?_
                refine g_if_eq (tgt := 292) h d_Mod_step_277 (by decide) (fun c_277 => ?_) (fun c_277 => ?_)
                · exact absurd c_277 (by decide)
                · refine g_aload_n h d_Mod_step_280 rfl rfl ?_
                  refine gf_Mod_cs h f_Mod_19 d_Mod_step_281 ?_
                  refine g_iload_n h d_Mod_step_284 rfl rfl ?_
                  refine gi_cs h rfl hi d_Mod_step_285 ?_
                  refine g_bipush (v := 15) h d_Mod_step_286 (by decide) ?_
                  refine g_iand h d_Mod_step_288 ?_
                  rw [and15]
                  refine g_goto (tgt := 300) h d_Mod_step_289 (by decide) ?_
                  refine pi_place h rfl hn d_Mod_step_300 ?_
                  exact g_vret h r d_Mod_step_301 (⟨rfl, by rw [show mstepO B n i 14 = mjmp B n i 14 from rfl]; unfold mjmp; first | (rw [if_pos c_267, if_pos hj]; done) | (rw [if_pos c_267, if_neg hj]; done) | (rw [if_neg c_267]; done)⟩)
            · rw [if_neg hj]
              refine g_istore h d_Mod_step_261 rfl (by rw [hN]; decide) ?_
              refine g_aload_n h d_Mod_step_263 rfl rfl ?_
              refine gf_Mod_trouble h f_Mod_141 d_Mod_step_264 ?_
              refine g_if_ne (tgt := 301) h d_Mod_step_267 (by decide) (fun c_267 => ?_) (fun c_267 => ?_)
              · exact g_vret h r d_Mod_step_301 (⟨rfl, by rw [show mstepO B n i 14 = mjmp B n i 14 from rfl]; unfold mjmp; first | (rw [if_pos c_267, if_pos hj]; done) | (rw [if_pos c_267, if_neg hj]; done) | (rw [if_neg c_267]; done)⟩)
              · refine g_aload_n h d_Mod_step_270 rfl rfl ?_
                refine gf_Mod_place h f_Mod_50 d_Mod_step_271 ?_
                refine g_iload_n h d_Mod_step_274 rfl rfl ?_
                refine g_iload h d_Mod_step_275 rfl ?_
                refine g_if_eq (tgt := 292) h d_Mod_step_277 (by decide) (fun c_277 => ?_) (fun c_277 => ?_)
                · refine g_aload_n h d_Mod_step_292 rfl rfl ?_
                  refine gf_Mod_place h f_Mod_50 d_Mod_step_293 ?_
                  refine g_iload_n h d_Mod_step_296 rfl rfl ?_
                  refine gi_place h rfl hn d_Mod_step_297 ?_
                  refine g_iconst (v := 1) h d_Mod_step_298 (by decide) ?_
                  refine g_iadd h d_Mod_step_299 ?_
                  refine pi_place h rfl hn d_Mod_step_300 ?_
                  exact g_vret h r d_Mod_step_301 (⟨rfl, by rw [show mstepO B n i 14 = mjmp B n i 14 from rfl]; unfold mjmp; first | (rw [if_pos c_267, if_pos hj]; done) | (rw [if_pos c_267, if_neg hj]; done) | (rw [if_neg c_267]; done)⟩)
                · exact absurd rfl c_277
      · exact absurd c_195 (by decide)
  · exact absurd c_174 (by decide)
set_option maxHeartbeats 4000000 in
set_option maxRecDepth 100000 in
theorem g_step_15 {Γ : GT} {u : Nat → ClassId} {ad : Nat → Nat} {B : CS} {n i : Nat} (h : Cx Γ b_Mod_step y_Mod_step.cls { frames := 6, cells := 0, slots := 0, locals := 134 } TB CL (tym u) NL) (hN : gN Γ = 15) (r : Rx Γ 18 ad none (fun v σ2 => v = none ∧ σ2 = mob ad u (mstepO B n i 15)) 0 0) (hok : okM B) (hn : n < 16) (hi : i < 64) : G Γ 0 0 18 ad (mob ad u B) 171 [some (.ref (ad 0)), some (.int (nI n)), some (.int (nI i)), some (.int 15), some (.int (nI (mA B n i))), some (.long (mX B n i)), none, some (.long (mY B n i)), none, some (.long (mZ B n i)), none, some (.int (nI (fmod (B.1 3 i) 6))), none, none, none] [] := by
  have h4 := fmod_lt (B.1 1 i) (m := 4) (by decide)
  have h6 := fmod_lt (B.1 3 i) (m := 6) (by decide)
  refine g_iload_n h d_Mod_step_171 rfl rfl ?_
  refine g_bipush (v := 17) h d_Mod_step_172 (by decide) ?_
  refine g_icmp_ne (tgt := 186) h d_Mod_step_174 (by decide) (fun c_174 => ?_) (fun c_174 => ?_)
  · refine g_iload_n h d_Mod_step_186 rfl rfl ?_
    refine g_bipush (v := 18) h d_Mod_step_187 (by decide) ?_
    refine g_icmp_eq (tgt := 198) h d_Mod_step_189 (by decide) (fun c_189 => ?_) (fun c_189 => ?_)
    · exact absurd c_189 (by decide)
    · refine g_iload_n h d_Mod_step_192 rfl rfl ?_
      refine g_bipush (v := 19) h d_Mod_step_193 (by decide) ?_
      refine g_icmp_ne (tgt := 240) h d_Mod_step_195 (by decide) (fun c_195 => ?_) (fun c_195 => ?_)
      · refine g_iload_n h d_Mod_step_240 rfl rfl ?_
        refine g_bipush (v := 11) h d_Mod_step_241 (by decide) ?_
        refine g_icmp_lt (tgt := 302) h d_Mod_step_243 (by decide) (fun c_243 => ?_) (fun c_243 => ?_)
        · exact absurd c_243 (by decide)
        · refine g_iload_n h d_Mod_step_246 rfl rfl ?_
          refine g_bipush (v := 14) h d_Mod_step_247 (by decide) ?_
          refine g_icmp_gt (tgt := 302) h d_Mod_step_249 (by decide) (fun c_249 => ?_) (fun c_249 => ?_)
          · refine g_aload_n h d_Mod_step_302 rfl rfl ?_
            refine g_iload_n h d_Mod_step_303 rfl rfl ?_
            refine g_bipush (v := 7) h d_Mod_step_304 (by decide) ?_
            refine g_icmp_ne (tgt := 314) h d_Mod_step_306 (by decide) (fun c_306 => ?_) (fun c_306 => ?_)
            · refine g_lload h d_Mod_step_314 rfl ?_
              refine g_dVi h tb_good (c_Mod_tableOf (hok.2.1 3 _)) (q := 0) (by decide) rfl rfl v_Mod_135 nm_Mod_tableOf rfl ⟨rfl, rfl, Nat.le_of_ble_eq_true rfl, Nat.le_of_ble_eq_true rfl, Nat.zero_le _, Nat.zero_le _⟩ rfl (Nat.le_of_ble_eq_true rfl) d_Mod_step_316 ?_
              refine g_istore h d_Mod_step_319 rfl (by rw [hN]; decide) ?_
              refine g_iload_n h d_Mod_step_321 rfl rfl ?_
              refine g_bipush (v := 6) h d_Mod_step_322 (by decide) ?_
              refine g_icmp_eq (tgt := 339) h d_Mod_step_324 (by decide) (fun c_324 => ?_) (fun c_324 => ?_)
              · exact absurd c_324 (by decide)
              · refine g_iload_n h d_Mod_step_327 rfl rfl ?_
                refine g_bipush (v := 7) h d_Mod_step_328 (by decide) ?_
                refine g_icmp_eq (tgt := 339) h d_Mod_step_330 (by decide) (fun c_330 => ?_) (fun c_330 => ?_)
                · exact absurd c_330 (by decide)
                · refine g_iload_n h d_Mod_step_333 rfl rfl ?_
                  refine g_bipush (v := 19) h d_Mod_step_334 (by decide) ?_
                  refine g_icmp_le (tgt := 352) h d_Mod_step_336 (by decide) (fun c_336 => ?_) (fun c_336 => ?_)
                  · refine g_iload_n h d_Mod_step_352 rfl rfl ?_
                    refine g_if_ne (tgt := 369) h d_Mod_step_353 (by decide) (fun c_353 => ?_) (fun c_353 => ?_)
                    · refine g_iload_n h d_Mod_step_369 rfl rfl ?_
                      refine g_iconst (v := 1) h d_Mod_step_370 (by decide) ?_
                      refine g_icmp_ne (tgt := 391) h d_Mod_step_371 (by decide) (fun c_371 => ?_) (fun c_371 => ?_)
                      · refine g_iload_n h d_Mod_step_391 rfl rfl ?_
                        refine g_iconst (v := 2) h d_Mod_step_392 (by decide) ?_
                        refine g_icmp_ne (tgt := 408) h d_Mod_step_393 (by decide) (fun c_393 => ?_) (fun c_393 => ?_)
                        · refine g_iload_n h d_Mod_step_408 rfl rfl ?_
                          refine g_iconst (v := 3) h d_Mod_step_409 (by decide) ?_
                          refine g_icmp_ne (tgt := 430) h d_Mod_step_410 (by decide) (fun c_410 => ?_) (fun c_410 => ?_)
                          · refine g_iload_n h d_Mod_step_430 rfl rfl ?_
                            refine g_iconst (v := 4) h d_Mod_step_431 (by decide) ?_
                            refine g_icmp_ne (tgt := 447) h d_Mod_step_432 (by decide) (fun c_432 => ?_) (fun c_432 => ?_)
                            · refine g_iload_n h d_Mod_step_447 rfl rfl ?_
                              refine g_iconst (v := 5) h d_Mod_step_448 (by decide) ?_
                              refine g_icmp_eq (tgt := 458) h d_Mod_step_449 (by decide) (fun c_449 => ?_) (fun c_449 => ?_)
                              · exact absurd c_449 (by decide)
                              · refine g_iload_n h d_Mod_step_452 rfl rfl ?_
                                refine g_bipush (v := 16) h d_Mod_step_453 (by decide) ?_
                                refine g_icmp_ne (tgt := 512) h d_Mod_step_455 (by decide) (fun c_455 => ?_) (fun c_455 => ?_)
                                · refine g_iload_n h d_Mod_step_512 rfl rfl ?_
                                  refine g_bipush (v := 6) h d_Mod_step_513 (by decide) ?_
                                  refine g_icmp_ne (tgt := 547) h d_Mod_step_515 (by decide) (fun c_515 => ?_) (fun c_515 => ?_)
                                  · refine g_iload_n h d_Mod_step_547 rfl rfl ?_
                                    refine g_bipush (v := 7) h d_Mod_step_548 (by decide) ?_
                                    refine g_icmp_ne (tgt := 566) h d_Mod_step_550 (by decide) (fun c_550 => ?_) (fun c_550 => ?_)
                                    · refine g_iload_n h d_Mod_step_566 rfl rfl ?_
                                      refine g_bipush (v := 11) h d_Mod_step_567 (by decide) ?_
                                      refine g_icmp_ge (tgt := 587) h d_Mod_step_569 (by decide) (fun c_569 => ?_) (fun c_569 => ?_)
                                      · refine g_iload_n h d_Mod_step_587 rfl rfl ?_
                                        refine g_bipush (v := 15) h d_Mod_step_588 (by decide) ?_
                                        refine g_icmp_ne (tgt := 604) h d_Mod_step_590 (by decide) (fun c_590 => ?_) (fun c_590 => ?_)
                                        · exact absurd c_590 (by decide)
                                        · refine g_aload_n h d_Mod_step_593 rfl rfl ?_
                                          refine g_lload h d_Mod_step_594 rfl ?_
                                          refine g_lload h d_Mod_step_596 rfl ?_
                                          refine g_dVv h tb_good (c_Mod_join (hok.2.1 3 _) (hok.2.1 3 _)) (q := 0) (by decide) rfl rfl v_Mod_155 nm_Mod_join rfl ⟨rfl, rfl, Nat.le_of_ble_eq_true rfl, Nat.le_of_ble_eq_true rfl, Nat.zero_le _, Nat.zero_le _⟩ rfl (Nat.le_of_ble_eq_true rfl) d_Mod_step_598 ?_
                                          refine g_goto (tgt := 654) h d_Mod_step_601 (by decide) ?_
                                          refine g_aload_n h d_Mod_step_654 rfl rfl ?_
                                          refine gf_Mod_trouble h f_Mod_141 d_Mod_step_655 ?_
                                          refine g_if_ne (tgt := 671) h d_Mod_step_658 (by decide) (fun c_658 => ?_) (fun c_658 => ?_)
                                          · exact g_vret h r d_Mod_step_671 (⟨rfl, by first | exact congrArg (mob ad u) (if_pos c_658).symm | exact congrArg (mob ad u) (if_neg c_658).symm⟩)
                                          · refine g_aload_n h d_Mod_step_661 rfl rfl ?_
                                            refine gf_Mod_place h f_Mod_50 d_Mod_step_662 ?_
                                            refine g_iload_n h d_Mod_step_665 rfl rfl ?_
                                            refine g_dup2 h d_Mod_step_666 rfl rfl ?_
                                            refine gi_place h rfl hn d_Mod_step_667 ?_
                                            refine g_iconst (v := 1) h d_Mod_step_668 (by decide) ?_
                                            refine g_iadd h d_Mod_step_669 ?_
                                            refine pi_place h rfl hn d_Mod_step_670 ?_
                                            exact g_vret h r d_Mod_step_671 (⟨rfl, by first | exact congrArg (mob ad u) (if_pos c_658).symm | exact congrArg (mob ad u) (if_neg c_658).symm⟩)
                                      · exact absurd c_569 (by decide)
                                    · exact absurd c_550 (by decide)
                                  · exact absurd c_515 (by decide)
                                · exact absurd c_455 (by decide)
                            · exact absurd c_432 (by decide)
                          · exact absurd c_410 (by decide)
                        · exact absurd c_393 (by decide)
                      · exact absurd c_371 (by decide)
                    · exact absurd c_353 (by decide)
                  · exact absurd c_336 (by decide)
            · exact absurd c_306 (by decide)
          · exact absurd c_249 (by decide)
      · exact absurd c_195 (by decide)
  · exact absurd c_174 (by decide)
set_option maxHeartbeats 4000000 in
set_option maxRecDepth 100000 in
theorem g_step_16 {Γ : GT} {u : Nat → ClassId} {ad : Nat → Nat} {B : CS} {n i : Nat} (h : Cx Γ b_Mod_step y_Mod_step.cls { frames := 6, cells := 0, slots := 0, locals := 134 } TB CL (tym u) NL) (hN : gN Γ = 15) (r : Rx Γ 18 ad none (fun v σ2 => v = none ∧ σ2 = mob ad u (mstepO B n i 16)) 0 0) (hok : okM B) (hn : n < 16) (hi : i < 64) : G Γ 0 0 18 ad (mob ad u B) 171 [some (.ref (ad 0)), some (.int (nI n)), some (.int (nI i)), some (.int 16), some (.int (nI (mA B n i))), some (.long (mX B n i)), none, some (.long (mY B n i)), none, some (.long (mZ B n i)), none, some (.int (nI (fmod (B.1 3 i) 6))), none, none, none] [] := by
  have h4 := fmod_lt (B.1 1 i) (m := 4) (by decide)
  have h6 := fmod_lt (B.1 3 i) (m := 6) (by decide)
  refine g_iload_n h d_Mod_step_171 rfl rfl ?_
  refine g_bipush (v := 17) h d_Mod_step_172 (by decide) ?_
  refine g_icmp_ne (tgt := 186) h d_Mod_step_174 (by decide) (fun c_174 => ?_) (fun c_174 => ?_)
  · refine g_iload_n h d_Mod_step_186 rfl rfl ?_
    refine g_bipush (v := 18) h d_Mod_step_187 (by decide) ?_
    refine g_icmp_eq (tgt := 198) h d_Mod_step_189 (by decide) (fun c_189 => ?_) (fun c_189 => ?_)
    · exact absurd c_189 (by decide)
    · refine g_iload_n h d_Mod_step_192 rfl rfl ?_
      refine g_bipush (v := 19) h d_Mod_step_193 (by decide) ?_
      refine g_icmp_ne (tgt := 240) h d_Mod_step_195 (by decide) (fun c_195 => ?_) (fun c_195 => ?_)
      · refine g_iload_n h d_Mod_step_240 rfl rfl ?_
        refine g_bipush (v := 11) h d_Mod_step_241 (by decide) ?_
        refine g_icmp_lt (tgt := 302) h d_Mod_step_243 (by decide) (fun c_243 => ?_) (fun c_243 => ?_)
        · exact absurd c_243 (by decide)
        · refine g_iload_n h d_Mod_step_246 rfl rfl ?_
          refine g_bipush (v := 14) h d_Mod_step_247 (by decide) ?_
          refine g_icmp_gt (tgt := 302) h d_Mod_step_249 (by decide) (fun c_249 => ?_) (fun c_249 => ?_)
          · refine g_aload_n h d_Mod_step_302 rfl rfl ?_
            refine g_iload_n h d_Mod_step_303 rfl rfl ?_
            refine g_bipush (v := 7) h d_Mod_step_304 (by decide) ?_
            refine g_icmp_ne (tgt := 314) h d_Mod_step_306 (by decide) (fun c_306 => ?_) (fun c_306 => ?_)
            · refine g_lload h d_Mod_step_314 rfl ?_
              refine g_dVi h tb_good (c_Mod_tableOf (hok.2.1 3 _)) (q := 0) (by decide) rfl rfl v_Mod_135 nm_Mod_tableOf rfl ⟨rfl, rfl, Nat.le_of_ble_eq_true rfl, Nat.le_of_ble_eq_true rfl, Nat.zero_le _, Nat.zero_le _⟩ rfl (Nat.le_of_ble_eq_true rfl) d_Mod_step_316 ?_
              refine g_istore h d_Mod_step_319 rfl (by rw [hN]; decide) ?_
              refine g_iload_n h d_Mod_step_321 rfl rfl ?_
              refine g_bipush (v := 6) h d_Mod_step_322 (by decide) ?_
              refine g_icmp_eq (tgt := 339) h d_Mod_step_324 (by decide) (fun c_324 => ?_) (fun c_324 => ?_)
              · exact absurd c_324 (by decide)
              · refine g_iload_n h d_Mod_step_327 rfl rfl ?_
                refine g_bipush (v := 7) h d_Mod_step_328 (by decide) ?_
                refine g_icmp_eq (tgt := 339) h d_Mod_step_330 (by decide) (fun c_330 => ?_) (fun c_330 => ?_)
                · exact absurd c_330 (by decide)
                · refine g_iload_n h d_Mod_step_333 rfl rfl ?_
                  refine g_bipush (v := 19) h d_Mod_step_334 (by decide) ?_
                  refine g_icmp_le (tgt := 352) h d_Mod_step_336 (by decide) (fun c_336 => ?_) (fun c_336 => ?_)
                  · refine g_iload_n h d_Mod_step_352 rfl rfl ?_
                    refine g_if_ne (tgt := 369) h d_Mod_step_353 (by decide) (fun c_353 => ?_) (fun c_353 => ?_)
                    · refine g_iload_n h d_Mod_step_369 rfl rfl ?_
                      refine g_iconst (v := 1) h d_Mod_step_370 (by decide) ?_
                      refine g_icmp_ne (tgt := 391) h d_Mod_step_371 (by decide) (fun c_371 => ?_) (fun c_371 => ?_)
                      · refine g_iload_n h d_Mod_step_391 rfl rfl ?_
                        refine g_iconst (v := 2) h d_Mod_step_392 (by decide) ?_
                        refine g_icmp_ne (tgt := 408) h d_Mod_step_393 (by decide) (fun c_393 => ?_) (fun c_393 => ?_)
                        · refine g_iload_n h d_Mod_step_408 rfl rfl ?_
                          refine g_iconst (v := 3) h d_Mod_step_409 (by decide) ?_
                          refine g_icmp_ne (tgt := 430) h d_Mod_step_410 (by decide) (fun c_410 => ?_) (fun c_410 => ?_)
                          · refine g_iload_n h d_Mod_step_430 rfl rfl ?_
                            refine g_iconst (v := 4) h d_Mod_step_431 (by decide) ?_
                            refine g_icmp_ne (tgt := 447) h d_Mod_step_432 (by decide) (fun c_432 => ?_) (fun c_432 => ?_)
                            · refine g_iload_n h d_Mod_step_447 rfl rfl ?_
                              refine g_iconst (v := 5) h d_Mod_step_448 (by decide) ?_
                              refine g_icmp_eq (tgt := 458) h d_Mod_step_449 (by decide) (fun c_449 => ?_) (fun c_449 => ?_)
                              · exact absurd c_449 (by decide)
                              · refine g_iload_n h d_Mod_step_452 rfl rfl ?_
                                refine g_bipush (v := 16) h d_Mod_step_453 (by decide) ?_
                                refine g_icmp_ne (tgt := 512) h d_Mod_step_455 (by decide) (fun c_455 => ?_) (fun c_455 => ?_)
                                · exact absurd c_455 (by decide)
                                · refine g_aload_n h d_Mod_step_458 rfl rfl ?_
                                  refine g_iload_n h d_Mod_step_459 rfl rfl ?_
                                  refine g_iconst (v := 5) h d_Mod_step_460 (by decide) ?_
                                  refine g_icmp_ne (tgt := 468) h d_Mod_step_461 (by decide) (fun c_461 => ?_) (fun c_461 => ?_)
                                  · refine g_iconst (v := 2) h d_Mod_step_468 (by decide) ?_
                                    refine g_aload_n h d_Mod_step_469 rfl rfl ?_
                                    refine gf_Mod_cs h f_Mod_19 d_Mod_step_470 ?_
                                    refine g_iload_n h d_Mod_step_473 rfl rfl ?_
                                    refine gi_cs h rfl hi d_Mod_step_474 ?_
                                    refine g_iconst (v := 3) h d_Mod_step_475 (by decide) ?_
                                    refine g_iand h d_Mod_step_476 ?_
                                    rw [and3]
                                    refine g_dVi h tb_good (c_Mod_create hok) (q := 0) (by decide) rfl rfl v_Mod_127 nm_Mod_create rfl ⟨rfl, rfl, Nat.le_of_ble_eq_true rfl, Nat.le_of_ble_eq_true rfl, Nat.zero_le _, Nat.zero_le _⟩ rfl (Nat.le_of_ble_eq_true rfl) d_Mod_step_477 ?_
                                    rcases hf : (mcreate B 2 (nI (fmod (B.1 3 i) 4))).1 with _ | q <;> simp only [enc]
                                    · refine g_istore h d_Mod_step_480 rfl (by rw [hN]; decide) ?_
                                      refine g_iload h d_Mod_step_482 rfl ?_
                                      refine g_if_ge (tgt := 495) h d_Mod_step_484 (by decide) (fun c_484 => ?_) (fun c_484 => ?_)
                                      · exact absurd c_484 (by decide)
                                      · refine g_aload_n h d_Mod_step_487 rfl rfl ?_
                                        refine g_iconst (v := 2) h d_Mod_step_488 (by decide) ?_
                                        refine pf_Mod_trouble h f_Mod_141 d_Mod_step_489 ?_
                                        refine g_goto (tgt := 509) h d_Mod_step_492 (by decide) ?_
                                        refine g_goto (tgt := 654) h d_Mod_step_509 (by decide) ?_
                                        refine g_aload_n h d_Mod_step_654 rfl rfl ?_
                                        refine gf_Mod_trouble h f_Mod_141 d_Mod_step_655 ?_
                                        refine g_if_ne (tgt := 671) h d_Mod_step_658 (by decide) (fun c_658 => ?_) (fun c_658 => ?_)
                                        · exact g_vret h r d_Mod_step_671 (⟨rfl, by unfold mstepO mT mnew; rw [hf]; first | exact congrArg (mob ad u) (if_pos c_658).symm | exact congrArg (mob ad u) (if_neg c_658).symm⟩)
                                        · refine g_aload_n h d_Mod_step_661 rfl rfl ?_
                                          refine gf_Mod_place h f_Mod_50 d_Mod_step_662 ?_
                                          refine g_iload_n h d_Mod_step_665 rfl rfl ?_
                                          refine g_dup2 h d_Mod_step_666 rfl rfl ?_
                                          refine gi_place h rfl hn d_Mod_step_667 ?_
                                          refine g_iconst (v := 1) h d_Mod_step_668 (by decide) ?_
                                          refine g_iadd h d_Mod_step_669 ?_
                                          refine pi_place h rfl hn d_Mod_step_670 ?_
                                          exact g_vret h r d_Mod_step_671 (⟨rfl, by unfold mstepO mT mnew; rw [hf]; first | exact congrArg (mob ad u) (if_pos c_658).symm | exact congrArg (mob ad u) (if_neg c_658).symm⟩)
                                    · have hq := mcreate_lt hf
                                      refine g_istore h d_Mod_step_480 rfl (by rw [hN]; decide) ?_
                                      refine g_iload h d_Mod_step_482 rfl ?_
                                      refine g_if_ge (tgt := 495) h d_Mod_step_484 (by decide) (fun c_484 => ?_) (fun c_484 => ?_)
                                      · refine g_aload_n h d_Mod_step_495 rfl rfl ?_
                                        refine gf_Mod_registers h f_Mod_44 d_Mod_step_496 ?_
                                        refine g_iload h d_Mod_step_499 rfl ?_
                                        refine g_ldc2 (v := 10000000000) h d_Mod_step_501 k_Mod_72 ?_
                                        refine g_iload h d_Mod_step_504 rfl ?_
                                        refine g_i2l h d_Mod_step_506 ?_
                                        refine g_ladd h d_Mod_step_507 ?_
                                        refine pj_registers h rfl (show n * 4 + fmod (B.1 1 i) 4 < 64 by omega) d_Mod_step_508 ?_
                                        refine g_goto (tgt := 654) h d_Mod_step_509 (by decide) ?_
                                        refine g_aload_n h d_Mod_step_654 rfl rfl ?_
                                        refine gf_Mod_trouble h f_Mod_141 d_Mod_step_655 ?_
                                        refine g_if_ne (tgt := 671) h d_Mod_step_658 (by decide) (fun c_658 => ?_) (fun c_658 => ?_)
                                        · exact g_vret h r d_Mod_step_671 (⟨rfl, by unfold mstepO mT mnew; rw [hf]; first | exact congrArg (mob ad u) (if_pos c_658).symm | exact congrArg (mob ad u) (if_neg c_658).symm⟩)
                                        · refine g_aload_n h d_Mod_step_661 rfl rfl ?_
                                          refine gf_Mod_place h f_Mod_50 d_Mod_step_662 ?_
                                          refine g_iload_n h d_Mod_step_665 rfl rfl ?_
                                          refine g_dup2 h d_Mod_step_666 rfl rfl ?_
                                          refine gi_place h rfl hn d_Mod_step_667 ?_
                                          refine g_iconst (v := 1) h d_Mod_step_668 (by decide) ?_
                                          refine g_iadd h d_Mod_step_669 ?_
                                          refine pi_place h rfl hn d_Mod_step_670 ?_
                                          exact g_vret h r d_Mod_step_671 (⟨rfl, by unfold mstepO mT mnew; rw [hf]; first | exact congrArg (mob ad u) (if_pos c_658).symm | exact congrArg (mob ad u) (if_neg c_658).symm⟩)
                                      · exact absurd (nI_pos' (by omega)) c_484
                                  · exact absurd c_461 (by decide)
                            · exact absurd c_432 (by decide)
                          · exact absurd c_410 (by decide)
                        · exact absurd c_393 (by decide)
                      · exact absurd c_371 (by decide)
                    · exact absurd c_353 (by decide)
                  · exact absurd c_336 (by decide)
            · exact absurd c_306 (by decide)
          · exact absurd c_249 (by decide)
      · exact absurd c_195 (by decide)
  · exact absurd c_174 (by decide)
set_option maxHeartbeats 4000000 in
set_option maxRecDepth 100000 in
theorem g_step_17 {Γ : GT} {u : Nat → ClassId} {ad : Nat → Nat} {B : CS} {n i : Nat} (h : Cx Γ b_Mod_step y_Mod_step.cls { frames := 6, cells := 0, slots := 0, locals := 134 } TB CL (tym u) NL) (hN : gN Γ = 15) (r : Rx Γ 18 ad none (fun v σ2 => v = none ∧ σ2 = mob ad u (mstepO B n i 17)) 0 0) (hok : okM B) (hn : n < 16) (hi : i < 64) : G Γ 0 0 18 ad (mob ad u B) 171 [some (.ref (ad 0)), some (.int (nI n)), some (.int (nI i)), some (.int 17), some (.int (nI (mA B n i))), some (.long (mX B n i)), none, some (.long (mY B n i)), none, some (.long (mZ B n i)), none, some (.int (nI (fmod (B.1 3 i) 6))), none, none, none] [] := by
  have h4 := fmod_lt (B.1 1 i) (m := 4) (by decide)
  have h6 := fmod_lt (B.1 3 i) (m := 6) (by decide)
  refine g_iload_n h d_Mod_step_171 rfl rfl ?_
  refine g_bipush (v := 17) h d_Mod_step_172 (by decide) ?_
  refine g_icmp_ne (tgt := 186) h d_Mod_step_174 (by decide) (fun c_174 => ?_) (fun c_174 => ?_)
  · exact absurd c_174 (by decide)
  · refine g_aload_n h d_Mod_step_177 rfl rfl ?_
    refine g_lload h d_Mod_step_178 rfl ?_
    refine g_lload h d_Mod_step_180 rfl ?_
    refine g_dVv h tb_good (c_Mod_enter hok (hok.2.1 3 _)) (q := 0) (by decide) rfl rfl v_Mod_173 nm_Mod_enter rfl ⟨rfl, rfl, Nat.le_of_ble_eq_true rfl, Nat.le_of_ble_eq_true rfl, Nat.zero_le _, Nat.zero_le _⟩ rfl (Nat.le_of_ble_eq_true rfl) d_Mod_step_182 ?_
    exact g_vret h r d_Mod_step_185 (⟨rfl, rfl⟩)
set_option maxHeartbeats 4000000 in
set_option maxRecDepth 100000 in
theorem g_step_18 {Γ : GT} {u : Nat → ClassId} {ad : Nat → Nat} {B : CS} {n i : Nat} (h : Cx Γ b_Mod_step y_Mod_step.cls { frames := 6, cells := 0, slots := 0, locals := 134 } TB CL (tym u) NL) (hN : gN Γ = 15) (r : Rx Γ 18 ad none (fun v σ2 => v = none ∧ σ2 = mob ad u (mstepO B n i 18)) 0 0) (hok : okM B) (hn : n < 16) (hi : i < 64) {d : Nat} (hokS : okM (mway B n i)) (hdS : (mway B n i).1 13 0 = nI (d + 1)) (hd5 : d < 5) (hlow : ∀ e, d = e + 1 → ∃ f p, f < 4 ∧ p ≤ 15 ∧ (mway B n i).1 8 (mAct (mway B n i) e) = nI f ∧ (mway B n i).1 9 (mAct (mway B n i) e) = nI p) : G Γ 0 0 18 ad (mob ad u B) 171 [some (.ref (ad 0)), some (.int (nI n)), some (.int (nI i)), some (.int 18), some (.int (nI (mA B n i))), some (.long (mX B n i)), none, some (.long (mY B n i)), none, some (.long (mZ B n i)), none, some (.int (nI (fmod (B.1 3 i) 6))), none, none, none] [] := by
  have h4 := fmod_lt (B.1 1 i) (m := 4) (by decide)
  have h6 := fmod_lt (B.1 3 i) (m := 6) (by decide)
  refine g_iload_n h d_Mod_step_171 rfl rfl ?_
  refine g_bipush (v := 17) h d_Mod_step_172 (by decide) ?_
  refine g_icmp_ne (tgt := 186) h d_Mod_step_174 (by decide) (fun c_174 => ?_) (fun c_174 => ?_)
  · refine g_iload_n h d_Mod_step_186 rfl rfl ?_
    refine g_bipush (v := 18) h d_Mod_step_187 (by decide) ?_
    refine g_icmp_eq (tgt := 198) h d_Mod_step_189 (by decide) (fun c_189 => ?_) (fun c_189 => ?_)
    · refine g_aload_n h d_Mod_step_198 rfl rfl ?_
      refine gf_Mod_waits h f_Mod_56 d_Mod_step_199 ?_
      refine g_iload_n h d_Mod_step_202 rfl rfl ?_
      refine g_aload_n h d_Mod_step_203 rfl rfl ?_
      refine gf_Mod_as h f_Mod_13 d_Mod_step_204 ?_
      refine g_iload_n h d_Mod_step_207 rfl rfl ?_
      refine gi_as h rfl hi d_Mod_step_208 ?_
      refine g_iconst (v := 3) h d_Mod_step_209 (by decide) ?_
      refine g_iand h d_Mod_step_210 ?_
      rw [and3]
      refine pi_waits h rfl hn d_Mod_step_211 ?_
      refine g_aload_n h d_Mod_step_212 rfl rfl ?_
      refine gf_Mod_place h f_Mod_50 d_Mod_step_213 ?_
      refine g_iload_n h d_Mod_step_216 rfl rfl ?_
      refine g_dup2 h d_Mod_step_217 rfl rfl ?_
      refine gi_place h rfl hn d_Mod_step_218 ?_
      simp only [sI_1, sI_2, sJ_1, sJ_2, sJ_3, sR_1, sR_2, sR_3, Nat.reduceEqDiff, Nat.zero_ne_one, Nat.one_ne_zero, Nat.succ_ne_zero, reduceCtorEq, false_and, if_false, true_and, and_self, if_true, and_true, and_false, reduceIte]
      refine g_iconst (v := 1) h d_Mod_step_219 (by decide) ?_
      refine g_iadd h d_Mod_step_220 ?_
      refine pi_place h rfl hn d_Mod_step_221 ?_
      refine g_aload_n h d_Mod_step_222 rfl rfl ?_
      refine g_iload_n h d_Mod_step_223 rfl rfl ?_
      refine g_bipush (v := 18) h d_Mod_step_224 (by decide) ?_
      refine g_icmp_ne (tgt := 233) h d_Mod_step_226 (by decide) (fun c_226 => ?_) (fun c_226 => ?_)
      · exact absurd c_226 (by decide)
      · refine g_iconst (v := 1) h d_Mod_step_229 (by decide) ?_
        refine g_goto (tgt := 234) h d_Mod_step_230 (by decide) ?_
        refine g_lload h d_Mod_step_234 rfl ?_
        refine g_dVv h tb_good (c_Mod_leave (M := mway B n i) hokS hdS hd5 hlow) (q := 0) (by decide) rfl rfl v_Mod_176 nm_Mod_leave rfl ⟨rfl, rfl, Nat.le_of_ble_eq_true rfl, Nat.le_of_ble_eq_true rfl, Nat.zero_le _, Nat.zero_le _⟩ rfl (Nat.le_of_ble_eq_true rfl) d_Mod_step_236 ?_
        exact g_vret h r d_Mod_step_239 (⟨rfl, rfl⟩)
    · exact absurd c_189 (by decide)
  · exact absurd c_174 (by decide)
set_option maxHeartbeats 4000000 in
set_option maxRecDepth 100000 in
theorem g_step_19 {Γ : GT} {u : Nat → ClassId} {ad : Nat → Nat} {B : CS} {n i : Nat} (h : Cx Γ b_Mod_step y_Mod_step.cls { frames := 6, cells := 0, slots := 0, locals := 134 } TB CL (tym u) NL) (hN : gN Γ = 15) (r : Rx Γ 18 ad none (fun v σ2 => v = none ∧ σ2 = mob ad u (mstepO B n i 19)) 0 0) (hok : okM B) (hn : n < 16) (hi : i < 64) {d : Nat} (hokS : okM (mway B n i)) (hdS : (mway B n i).1 13 0 = nI (d + 1)) (hd5 : d < 5) (hlow : ∀ e, d = e + 1 → ∃ f p, f < 4 ∧ p ≤ 15 ∧ (mway B n i).1 8 (mAct (mway B n i) e) = nI f ∧ (mway B n i).1 9 (mAct (mway B n i) e) = nI p) : G Γ 0 0 18 ad (mob ad u B) 171 [some (.ref (ad 0)), some (.int (nI n)), some (.int (nI i)), some (.int 19), some (.int (nI (mA B n i))), some (.long (mX B n i)), none, some (.long (mY B n i)), none, some (.long (mZ B n i)), none, some (.int (nI (fmod (B.1 3 i) 6))), none, none, none] [] := by
  have h4 := fmod_lt (B.1 1 i) (m := 4) (by decide)
  have h6 := fmod_lt (B.1 3 i) (m := 6) (by decide)
  refine g_iload_n h d_Mod_step_171 rfl rfl ?_
  refine g_bipush (v := 17) h d_Mod_step_172 (by decide) ?_
  refine g_icmp_ne (tgt := 186) h d_Mod_step_174 (by decide) (fun c_174 => ?_) (fun c_174 => ?_)
  · refine g_iload_n h d_Mod_step_186 rfl rfl ?_
    refine g_bipush (v := 18) h d_Mod_step_187 (by decide) ?_
    refine g_icmp_eq (tgt := 198) h d_Mod_step_189 (by decide) (fun c_189 => ?_) (fun c_189 => ?_)
    · exact absurd c_189 (by decide)
    · refine g_iload_n h d_Mod_step_192 rfl rfl ?_
      refine g_bipush (v := 19) h d_Mod_step_193 (by decide) ?_
      refine g_icmp_ne (tgt := 240) h d_Mod_step_195 (by decide) (fun c_195 => ?_) (fun c_195 => ?_)
      · exact absurd c_195 (by decide)
      · refine g_aload_n h d_Mod_step_198 rfl rfl ?_
        refine gf_Mod_waits h f_Mod_56 d_Mod_step_199 ?_
        refine g_iload_n h d_Mod_step_202 rfl rfl ?_
        refine g_aload_n h d_Mod_step_203 rfl rfl ?_
        refine gf_Mod_as h f_Mod_13 d_Mod_step_204 ?_
        refine g_iload_n h d_Mod_step_207 rfl rfl ?_
        refine gi_as h rfl hi d_Mod_step_208 ?_
        refine g_iconst (v := 3) h d_Mod_step_209 (by decide) ?_
        refine g_iand h d_Mod_step_210 ?_
        rw [and3]
        refine pi_waits h rfl hn d_Mod_step_211 ?_
        refine g_aload_n h d_Mod_step_212 rfl rfl ?_
        refine gf_Mod_place h f_Mod_50 d_Mod_step_213 ?_
        refine g_iload_n h d_Mod_step_216 rfl rfl ?_
        refine g_dup2 h d_Mod_step_217 rfl rfl ?_
        refine gi_place h rfl hn d_Mod_step_218 ?_
        simp only [sI_1, sI_2, sJ_1, sJ_2, sJ_3, sR_1, sR_2, sR_3, Nat.reduceEqDiff, Nat.zero_ne_one, Nat.one_ne_zero, Nat.succ_ne_zero, reduceCtorEq, false_and, if_false, true_and, and_self, if_true, and_true, and_false, reduceIte]
        refine g_iconst (v := 1) h d_Mod_step_219 (by decide) ?_
        refine g_iadd h d_Mod_step_220 ?_
        refine pi_place h rfl hn d_Mod_step_221 ?_
        refine g_aload_n h d_Mod_step_222 rfl rfl ?_
        refine g_iload_n h d_Mod_step_223 rfl rfl ?_
        refine g_bipush (v := 18) h d_Mod_step_224 (by decide) ?_
        refine g_icmp_ne (tgt := 233) h d_Mod_step_226 (by decide) (fun c_226 => ?_) (fun c_226 => ?_)
        · refine g_iconst (v := 3) h d_Mod_step_233 (by decide) ?_
          refine g_lload h d_Mod_step_234 rfl ?_
          refine g_dVv h tb_good (c_Mod_leave (M := mway B n i) hokS hdS hd5 hlow) (q := 0) (by decide) rfl rfl v_Mod_176 nm_Mod_leave rfl ⟨rfl, rfl, Nat.le_of_ble_eq_true rfl, Nat.le_of_ble_eq_true rfl, Nat.zero_le _, Nat.zero_le _⟩ rfl (Nat.le_of_ble_eq_true rfl) d_Mod_step_236 ?_
          exact g_vret h r d_Mod_step_239 (⟨rfl, rfl⟩)
        · exact absurd c_226 (by decide)
  · exact absurd c_174 (by decide)
set_option maxHeartbeats 4000000 in
set_option maxRecDepth 100000 in
theorem g_step_20 {Γ : GT} {u : Nat → ClassId} {ad : Nat → Nat} {B : CS} {n i : Nat} (h : Cx Γ b_Mod_step y_Mod_step.cls { frames := 6, cells := 0, slots := 0, locals := 134 } TB CL (tym u) NL) (hN : gN Γ = 15) (r : Rx Γ 18 ad none (fun v σ2 => v = none ∧ σ2 = mob ad u (mstepO B n i 20)) 0 0) (hok : okM B) (hn : n < 16) (hi : i < 64) : G Γ 0 0 18 ad (mob ad u B) 171 [some (.ref (ad 0)), some (.int (nI n)), some (.int (nI i)), some (.int 20), some (.int (nI (mA B n i))), some (.long (mX B n i)), none, some (.long (mY B n i)), none, some (.long (mZ B n i)), none, some (.int (nI (fmod (B.1 3 i) 6))), none, none, none] [] := by
  have h4 := fmod_lt (B.1 1 i) (m := 4) (by decide)
  have h6 := fmod_lt (B.1 3 i) (m := 6) (by decide)
  refine g_iload_n h d_Mod_step_171 rfl rfl ?_
  refine g_bipush (v := 17) h d_Mod_step_172 (by decide) ?_
  refine g_icmp_ne (tgt := 186) h d_Mod_step_174 (by decide) (fun c_174 => ?_) (fun c_174 => ?_)
  · refine g_iload_n h d_Mod_step_186 rfl rfl ?_
    refine g_bipush (v := 18) h d_Mod_step_187 (by decide) ?_
    refine g_icmp_eq (tgt := 198) h d_Mod_step_189 (by decide) (fun c_189 => ?_) (fun c_189 => ?_)
    · exact absurd c_189 (by decide)
    · refine g_iload_n h d_Mod_step_192 rfl rfl ?_
      refine g_bipush (v := 19) h d_Mod_step_193 (by decide) ?_
      refine g_icmp_ne (tgt := 240) h d_Mod_step_195 (by decide) (fun c_195 => ?_) (fun c_195 => ?_)
      · refine g_iload_n h d_Mod_step_240 rfl rfl ?_
        refine g_bipush (v := 11) h d_Mod_step_241 (by decide) ?_
        refine g_icmp_lt (tgt := 302) h d_Mod_step_243 (by decide) (fun c_243 => ?_) (fun c_243 => ?_)
        · exact absurd c_243 (by decide)
        · refine g_iload_n h d_Mod_step_246 rfl rfl ?_
          refine g_bipush (v := 14) h d_Mod_step_247 (by decide) ?_
          refine g_icmp_gt (tgt := 302) h d_Mod_step_249 (by decide) (fun c_249 => ?_) (fun c_249 => ?_)
          · refine g_aload_n h d_Mod_step_302 rfl rfl ?_
            refine g_iload_n h d_Mod_step_303 rfl rfl ?_
            refine g_bipush (v := 7) h d_Mod_step_304 (by decide) ?_
            refine g_icmp_ne (tgt := 314) h d_Mod_step_306 (by decide) (fun c_306 => ?_) (fun c_306 => ?_)
            · refine g_lload h d_Mod_step_314 rfl ?_
              refine g_dVi h tb_good (c_Mod_tableOf (hok.2.1 3 _)) (q := 0) (by decide) rfl rfl v_Mod_135 nm_Mod_tableOf rfl ⟨rfl, rfl, Nat.le_of_ble_eq_true rfl, Nat.le_of_ble_eq_true rfl, Nat.zero_le _, Nat.zero_le _⟩ rfl (Nat.le_of_ble_eq_true rfl) d_Mod_step_316 ?_
              rcases hf : mOf B 1 (mY B n i) with _ | q <;> simp only [enc]
              · refine g_istore h d_Mod_step_319 rfl (by rw [hN]; decide) ?_
                refine g_iload_n h d_Mod_step_321 rfl rfl ?_
                refine g_bipush (v := 6) h d_Mod_step_322 (by decide) ?_
                refine g_icmp_eq (tgt := 339) h d_Mod_step_324 (by decide) (fun c_324 => ?_) (fun c_324 => ?_)
                · exact absurd c_324 (by decide)
                · refine g_iload_n h d_Mod_step_327 rfl rfl ?_
                  refine g_bipush (v := 7) h d_Mod_step_328 (by decide) ?_
                  refine g_icmp_eq (tgt := 339) h d_Mod_step_330 (by decide) (fun c_330 => ?_) (fun c_330 => ?_)
                  · exact absurd c_330 (by decide)
                  · refine g_iload_n h d_Mod_step_333 rfl rfl ?_
                    refine g_bipush (v := 19) h d_Mod_step_334 (by decide) ?_
                    refine g_icmp_le (tgt := 352) h d_Mod_step_336 (by decide) (fun c_336 => ?_) (fun c_336 => ?_)
                    · exact absurd c_336 (by decide)
                    · refine g_iload h d_Mod_step_339 rfl ?_
                      refine g_if_ge (tgt := 352) h d_Mod_step_341 (by decide) (fun c_341 => ?_) (fun c_341 => ?_)
                      · exact absurd c_341 (by decide)
                      · refine g_aload_n h d_Mod_step_344 rfl rfl ?_
                        refine g_iconst (v := 3) h d_Mod_step_345 (by decide) ?_
                        refine pf_Mod_trouble h f_Mod_141 d_Mod_step_346 ?_
                        refine g_goto (tgt := 654) h d_Mod_step_349 (by decide) ?_
                        refine g_aload_n h d_Mod_step_654 rfl rfl ?_
                        refine gf_Mod_trouble h f_Mod_141 d_Mod_step_655 ?_
                        refine g_if_ne (tgt := 671) h d_Mod_step_658 (by decide) (fun c_658 => ?_) (fun c_658 => ?_)
                        · exact g_vret h r d_Mod_step_671 (⟨rfl, by rw [show mstepO B n i 20 = mT (sI B 22 0 3) n by simp only [mstepO, hf]]; first | exact congrArg (mob ad u) (if_pos c_658).symm | exact congrArg (mob ad u) (if_neg c_658).symm⟩)
                        · refine g_aload_n h d_Mod_step_661 rfl rfl ?_
                          refine gf_Mod_place h f_Mod_50 d_Mod_step_662 ?_
                          refine g_iload_n h d_Mod_step_665 rfl rfl ?_
                          refine g_dup2 h d_Mod_step_666 rfl rfl ?_
                          refine gi_place h rfl hn d_Mod_step_667 ?_
                          refine g_iconst (v := 1) h d_Mod_step_668 (by decide) ?_
                          refine g_iadd h d_Mod_step_669 ?_
                          refine pi_place h rfl hn d_Mod_step_670 ?_
                          exact g_vret h r d_Mod_step_671 (⟨rfl, by rw [show mstepO B n i 20 = mT (sI B 22 0 3) n by simp only [mstepO, hf]]; first | exact congrArg (mob ad u) (if_pos c_658).symm | exact congrArg (mob ad u) (if_neg c_658).symm⟩)
              · have hq := mOf_lt (hok.2.1 3 _) hf
                refine g_istore h d_Mod_step_319 rfl (by rw [hN]; decide) ?_
                refine g_iload_n h d_Mod_step_321 rfl rfl ?_
                refine g_bipush (v := 6) h d_Mod_step_322 (by decide) ?_
                refine g_icmp_eq (tgt := 339) h d_Mod_step_324 (by decide) (fun c_324 => ?_) (fun c_324 => ?_)
                · exact absurd c_324 (by decide)
                · refine g_iload_n h d_Mod_step_327 rfl rfl ?_
                  refine g_bipush (v := 7) h d_Mod_step_328 (by decide) ?_
                  refine g_icmp_eq (tgt := 339) h d_Mod_step_330 (by decide) (fun c_330 => ?_) (fun c_330 => ?_)
                  · exact absurd c_330 (by decide)
                  · refine g_iload_n h d_Mod_step_333 rfl rfl ?_
                    refine g_bipush (v := 19) h d_Mod_step_334 (by decide) ?_
                    refine g_icmp_le (tgt := 352) h d_Mod_step_336 (by decide) (fun c_336 => ?_) (fun c_336 => ?_)
                    · exact absurd c_336 (by decide)
                    · refine g_iload h d_Mod_step_339 rfl ?_
                      refine g_if_ge (tgt := 352) h d_Mod_step_341 (by decide) (fun c_341 => ?_) (fun c_341 => ?_)
                      · refine g_iload_n h d_Mod_step_352 rfl rfl ?_
                        refine g_if_ne (tgt := 369) h d_Mod_step_353 (by decide) (fun c_353 => ?_) (fun c_353 => ?_)
                        · refine g_iload_n h d_Mod_step_369 rfl rfl ?_
                          refine g_iconst (v := 1) h d_Mod_step_370 (by decide) ?_
                          refine g_icmp_ne (tgt := 391) h d_Mod_step_371 (by decide) (fun c_371 => ?_) (fun c_371 => ?_)
                          · refine g_iload_n h d_Mod_step_391 rfl rfl ?_
                            refine g_iconst (v := 2) h d_Mod_step_392 (by decide) ?_
                            refine g_icmp_ne (tgt := 408) h d_Mod_step_393 (by decide) (fun c_393 => ?_) (fun c_393 => ?_)
                            · refine g_iload_n h d_Mod_step_408 rfl rfl ?_
                              refine g_iconst (v := 3) h d_Mod_step_409 (by decide) ?_
                              refine g_icmp_ne (tgt := 430) h d_Mod_step_410 (by decide) (fun c_410 => ?_) (fun c_410 => ?_)
                              · refine g_iload_n h d_Mod_step_430 rfl rfl ?_
                                refine g_iconst (v := 4) h d_Mod_step_431 (by decide) ?_
                                refine g_icmp_ne (tgt := 447) h d_Mod_step_432 (by decide) (fun c_432 => ?_) (fun c_432 => ?_)
                                · refine g_iload_n h d_Mod_step_447 rfl rfl ?_
                                  refine g_iconst (v := 5) h d_Mod_step_448 (by decide) ?_
                                  refine g_icmp_eq (tgt := 458) h d_Mod_step_449 (by decide) (fun c_449 => ?_) (fun c_449 => ?_)
                                  · exact absurd c_449 (by decide)
                                  · refine g_iload_n h d_Mod_step_452 rfl rfl ?_
                                    refine g_bipush (v := 16) h d_Mod_step_453 (by decide) ?_
                                    refine g_icmp_ne (tgt := 512) h d_Mod_step_455 (by decide) (fun c_455 => ?_) (fun c_455 => ?_)
                                    · refine g_iload_n h d_Mod_step_512 rfl rfl ?_
                                      refine g_bipush (v := 6) h d_Mod_step_513 (by decide) ?_
                                      refine g_icmp_ne (tgt := 547) h d_Mod_step_515 (by decide) (fun c_515 => ?_) (fun c_515 => ?_)
                                      · refine g_iload_n h d_Mod_step_547 rfl rfl ?_
                                        refine g_bipush (v := 7) h d_Mod_step_548 (by decide) ?_
                                        refine g_icmp_ne (tgt := 566) h d_Mod_step_550 (by decide) (fun c_550 => ?_) (fun c_550 => ?_)
                                        · refine g_iload_n h d_Mod_step_566 rfl rfl ?_
                                          refine g_bipush (v := 11) h d_Mod_step_567 (by decide) ?_
                                          refine g_icmp_ge (tgt := 587) h d_Mod_step_569 (by decide) (fun c_569 => ?_) (fun c_569 => ?_)
                                          · refine g_iload_n h d_Mod_step_587 rfl rfl ?_
                                            refine g_bipush (v := 15) h d_Mod_step_588 (by decide) ?_
                                            refine g_icmp_ne (tgt := 604) h d_Mod_step_590 (by decide) (fun c_590 => ?_) (fun c_590 => ?_)
                                            · refine g_iload_n h d_Mod_step_604 rfl rfl ?_
                                              refine g_bipush (v := 20) h d_Mod_step_605 (by decide) ?_
                                              refine g_icmp_ne (tgt := 639) h d_Mod_step_607 (by decide) (fun c_607 => ?_) (fun c_607 => ?_)
                                              · exact absurd c_607 (by decide)
                                              · refine g_aload_n h d_Mod_step_610 rfl rfl ?_
                                                refine g_iload h d_Mod_step_611 rfl ?_
                                                refine g_lload h d_Mod_step_613 rfl ?_
                                                refine g_dVl h tb_good (c_Mod_following hok hq) (q := 0) (by decide) rfl rfl v_Mod_188 nm_Mod_following rfl ⟨rfl, rfl, Nat.le_of_ble_eq_true rfl, Nat.le_of_ble_eq_true rfl, Nat.zero_le _, Nat.zero_le _⟩ rfl (Nat.le_of_ble_eq_true rfl) d_Mod_step_615 ?_
                                                refine g_lstore h d_Mod_step_618 rfl (by rw [hN]; decide) ?_
                                                refine g_aload_n h d_Mod_step_620 rfl rfl ?_
                                                refine gf_Mod_trouble h f_Mod_141 d_Mod_step_621 ?_
                                                refine g_if_ne (tgt := 636) h d_Mod_step_624 (by decide) (fun c_624 => ?_) (fun c_624 => ?_)
                                                · refine g_goto (tgt := 654) h d_Mod_step_636 (by decide) ?_
                                                  refine g_aload_n h d_Mod_step_654 rfl rfl ?_
                                                  refine gf_Mod_trouble h f_Mod_141 d_Mod_step_655 ?_
                                                  refine g_if_ne (tgt := 671) h d_Mod_step_658 (by decide) (fun c_658 => ?_) (fun c_658 => ?_)
                                                  · exact g_vret h r d_Mod_step_671 (⟨rfl, by rw [show mstepO B n i 20 = mT (mkeep (mfollow B q (mZ B n i)) (mA B n i)) n by simp only [mstepO, hf]]; unfold mT mkeep; first | (rw [if_pos c_624]; first | exact congrArg (mob ad u) (if_pos c_658).symm | exact congrArg (mob ad u) (if_neg c_658).symm) | (rw [if_neg c_624]; first | exact congrArg (mob ad u) (if_pos c_658).symm | exact congrArg (mob ad u) (if_neg c_658).symm)⟩)
                                                  · refine g_aload_n h d_Mod_step_661 rfl rfl ?_
                                                    refine gf_Mod_place h f_Mod_50 d_Mod_step_662 ?_
                                                    refine g_iload_n h d_Mod_step_665 rfl rfl ?_
                                                    refine g_dup2 h d_Mod_step_666 rfl rfl ?_
                                                    refine gi_place h rfl hn d_Mod_step_667 ?_
                                                    refine g_iconst (v := 1) h d_Mod_step_668 (by decide) ?_
                                                    refine g_iadd h d_Mod_step_669 ?_
                                                    refine pi_place h rfl hn d_Mod_step_670 ?_
                                                    exact g_vret h r d_Mod_step_671 (⟨rfl, by rw [show mstepO B n i 20 = mT (mkeep (mfollow B q (mZ B n i)) (mA B n i)) n by simp only [mstepO, hf]]; unfold mT mkeep; first | (rw [if_pos c_624]; first | exact congrArg (mob ad u) (if_pos c_658).symm | exact congrArg (mob ad u) (if_neg c_658).symm) | (rw [if_neg c_624]; first | exact congrArg (mob ad u) (if_pos c_658).symm | exact congrArg (mob ad u) (if_neg c_658).symm)⟩)
                                                · refine g_aload_n h d_Mod_step_627 rfl rfl ?_
                                                  refine gf_Mod_registers h f_Mod_44 d_Mod_step_628 ?_
                                                  refine g_iload h d_Mod_step_631 rfl ?_
                                                  refine g_lload h d_Mod_step_633 rfl ?_
                                                  refine pj_registers h rfl (show n * 4 + fmod (B.1 1 i) 4 < 64 by omega) d_Mod_step_635 ?_
                                                  refine g_goto (tgt := 654) h d_Mod_step_636 (by decide) ?_
                                                  refine g_aload_n h d_Mod_step_654 rfl rfl ?_
                                                  refine gf_Mod_trouble h f_Mod_141 d_Mod_step_655 ?_
                                                  refine g_if_ne (tgt := 671) h d_Mod_step_658 (by decide) (fun c_658 => ?_) (fun c_658 => ?_)
                                                  · exact g_vret h r d_Mod_step_671 (⟨rfl, by rw [show mstepO B n i 20 = mT (mkeep (mfollow B q (mZ B n i)) (mA B n i)) n by simp only [mstepO, hf]]; unfold mT mkeep; first | (rw [if_pos c_624]; first | exact congrArg (mob ad u) (if_pos c_658).symm | exact congrArg (mob ad u) (if_neg c_658).symm) | (rw [if_neg c_624]; first | exact congrArg (mob ad u) (if_pos c_658).symm | exact congrArg (mob ad u) (if_neg c_658).symm)⟩)
                                                  · refine g_aload_n h d_Mod_step_661 rfl rfl ?_
                                                    refine gf_Mod_place h f_Mod_50 d_Mod_step_662 ?_
                                                    refine g_iload_n h d_Mod_step_665 rfl rfl ?_
                                                    refine g_dup2 h d_Mod_step_666 rfl rfl ?_
                                                    refine gi_place h rfl hn d_Mod_step_667 ?_
                                                    refine g_iconst (v := 1) h d_Mod_step_668 (by decide) ?_
                                                    refine g_iadd h d_Mod_step_669 ?_
                                                    refine pi_place h rfl hn d_Mod_step_670 ?_
                                                    exact g_vret h r d_Mod_step_671 (⟨rfl, by rw [show mstepO B n i 20 = mT (mkeep (mfollow B q (mZ B n i)) (mA B n i)) n by simp only [mstepO, hf]]; unfold mT mkeep; first | (rw [if_pos c_624]; first | exact congrArg (mob ad u) (if_pos c_658).symm | exact congrArg (mob ad u) (if_neg c_658).symm) | (rw [if_neg c_624]; first | exact congrArg (mob ad u) (if_pos c_658).symm | exact congrArg (mob ad u) (if_neg c_658).symm)⟩)
                                            · exact absurd c_590 (by decide)
                                          · exact absurd c_569 (by decide)
                                        · exact absurd c_550 (by decide)
                                      · exact absurd c_515 (by decide)
                                    · exact absurd c_455 (by decide)
                                · exact absurd c_432 (by decide)
                              · exact absurd c_410 (by decide)
                            · exact absurd c_393 (by decide)
                          · exact absurd c_371 (by decide)
                        · exact absurd c_353 (by decide)
                      · exact absurd (nI_pos' (by omega)) c_341
            · exact absurd c_306 (by decide)
          · exact absurd c_249 (by decide)
      · exact absurd c_195 (by decide)
  · exact absurd c_174 (by decide)
set_option maxHeartbeats 4000000 in
set_option maxRecDepth 100000 in
theorem g_step_21 {Γ : GT} {u : Nat → ClassId} {ad : Nat → Nat} {B : CS} {n i : Nat} (h : Cx Γ b_Mod_step y_Mod_step.cls { frames := 6, cells := 0, slots := 0, locals := 134 } TB CL (tym u) NL) (hN : gN Γ = 15) (r : Rx Γ 18 ad none (fun v σ2 => v = none ∧ σ2 = mob ad u (mstepO B n i 21)) 0 0) (hok : okM B) (hn : n < 16) (hi : i < 64) : G Γ 0 0 18 ad (mob ad u B) 171 [some (.ref (ad 0)), some (.int (nI n)), some (.int (nI i)), some (.int 21), some (.int (nI (mA B n i))), some (.long (mX B n i)), none, some (.long (mY B n i)), none, some (.long (mZ B n i)), none, some (.int (nI (fmod (B.1 3 i) 6))), none, none, none] [] := by
  have h4 := fmod_lt (B.1 1 i) (m := 4) (by decide)
  have h6 := fmod_lt (B.1 3 i) (m := 6) (by decide)
  refine g_iload_n h d_Mod_step_171 rfl rfl ?_
  refine g_bipush (v := 17) h d_Mod_step_172 (by decide) ?_
  refine g_icmp_ne (tgt := 186) h d_Mod_step_174 (by decide) (fun c_174 => ?_) (fun c_174 => ?_)
  · refine g_iload_n h d_Mod_step_186 rfl rfl ?_
    refine g_bipush (v := 18) h d_Mod_step_187 (by decide) ?_
    refine g_icmp_eq (tgt := 198) h d_Mod_step_189 (by decide) (fun c_189 => ?_) (fun c_189 => ?_)
    · exact absurd c_189 (by decide)
    · refine g_iload_n h d_Mod_step_192 rfl rfl ?_
      refine g_bipush (v := 19) h d_Mod_step_193 (by decide) ?_
      refine g_icmp_ne (tgt := 240) h d_Mod_step_195 (by decide) (fun c_195 => ?_) (fun c_195 => ?_)
      · refine g_iload_n h d_Mod_step_240 rfl rfl ?_
        refine g_bipush (v := 11) h d_Mod_step_241 (by decide) ?_
        refine g_icmp_lt (tgt := 302) h d_Mod_step_243 (by decide) (fun c_243 => ?_) (fun c_243 => ?_)
        · exact absurd c_243 (by decide)
        · refine g_iload_n h d_Mod_step_246 rfl rfl ?_
          refine g_bipush (v := 14) h d_Mod_step_247 (by decide) ?_
          refine g_icmp_gt (tgt := 302) h d_Mod_step_249 (by decide) (fun c_249 => ?_) (fun c_249 => ?_)
          · refine g_aload_n h d_Mod_step_302 rfl rfl ?_
            refine g_iload_n h d_Mod_step_303 rfl rfl ?_
            refine g_bipush (v := 7) h d_Mod_step_304 (by decide) ?_
            refine g_icmp_ne (tgt := 314) h d_Mod_step_306 (by decide) (fun c_306 => ?_) (fun c_306 => ?_)
            · refine g_lload h d_Mod_step_314 rfl ?_
              refine g_dVi h tb_good (c_Mod_tableOf (hok.2.1 3 _)) (q := 0) (by decide) rfl rfl v_Mod_135 nm_Mod_tableOf rfl ⟨rfl, rfl, Nat.le_of_ble_eq_true rfl, Nat.le_of_ble_eq_true rfl, Nat.zero_le _, Nat.zero_le _⟩ rfl (Nat.le_of_ble_eq_true rfl) d_Mod_step_316 ?_
              rcases hf : mOf B 1 (mY B n i) with _ | q <;> simp only [enc]
              · refine g_istore h d_Mod_step_319 rfl (by rw [hN]; decide) ?_
                refine g_iload_n h d_Mod_step_321 rfl rfl ?_
                refine g_bipush (v := 6) h d_Mod_step_322 (by decide) ?_
                refine g_icmp_eq (tgt := 339) h d_Mod_step_324 (by decide) (fun c_324 => ?_) (fun c_324 => ?_)
                · exact absurd c_324 (by decide)
                · refine g_iload_n h d_Mod_step_327 rfl rfl ?_
                  refine g_bipush (v := 7) h d_Mod_step_328 (by decide) ?_
                  refine g_icmp_eq (tgt := 339) h d_Mod_step_330 (by decide) (fun c_330 => ?_) (fun c_330 => ?_)
                  · exact absurd c_330 (by decide)
                  · refine g_iload_n h d_Mod_step_333 rfl rfl ?_
                    refine g_bipush (v := 19) h d_Mod_step_334 (by decide) ?_
                    refine g_icmp_le (tgt := 352) h d_Mod_step_336 (by decide) (fun c_336 => ?_) (fun c_336 => ?_)
                    · exact absurd c_336 (by decide)
                    · refine g_iload h d_Mod_step_339 rfl ?_
                      refine g_if_ge (tgt := 352) h d_Mod_step_341 (by decide) (fun c_341 => ?_) (fun c_341 => ?_)
                      · exact absurd c_341 (by decide)
                      · refine g_aload_n h d_Mod_step_344 rfl rfl ?_
                        refine g_iconst (v := 3) h d_Mod_step_345 (by decide) ?_
                        refine pf_Mod_trouble h f_Mod_141 d_Mod_step_346 ?_
                        refine g_goto (tgt := 654) h d_Mod_step_349 (by decide) ?_
                        refine g_aload_n h d_Mod_step_654 rfl rfl ?_
                        refine gf_Mod_trouble h f_Mod_141 d_Mod_step_655 ?_
                        refine g_if_ne (tgt := 671) h d_Mod_step_658 (by decide) (fun c_658 => ?_) (fun c_658 => ?_)
                        · exact g_vret h r d_Mod_step_671 (⟨rfl, by rw [show mstepO B n i 21 = mT (sI B 22 0 3) n by simp only [mstepO, hf]]; first | exact congrArg (mob ad u) (if_pos c_658).symm | exact congrArg (mob ad u) (if_neg c_658).symm⟩)
                        · refine g_aload_n h d_Mod_step_661 rfl rfl ?_
                          refine gf_Mod_place h f_Mod_50 d_Mod_step_662 ?_
                          refine g_iload_n h d_Mod_step_665 rfl rfl ?_
                          refine g_dup2 h d_Mod_step_666 rfl rfl ?_
                          refine gi_place h rfl hn d_Mod_step_667 ?_
                          refine g_iconst (v := 1) h d_Mod_step_668 (by decide) ?_
                          refine g_iadd h d_Mod_step_669 ?_
                          refine pi_place h rfl hn d_Mod_step_670 ?_
                          exact g_vret h r d_Mod_step_671 (⟨rfl, by rw [show mstepO B n i 21 = mT (sI B 22 0 3) n by simp only [mstepO, hf]]; first | exact congrArg (mob ad u) (if_pos c_658).symm | exact congrArg (mob ad u) (if_neg c_658).symm⟩)
              · have hq := mOf_lt (hok.2.1 3 _) hf
                refine g_istore h d_Mod_step_319 rfl (by rw [hN]; decide) ?_
                refine g_iload_n h d_Mod_step_321 rfl rfl ?_
                refine g_bipush (v := 6) h d_Mod_step_322 (by decide) ?_
                refine g_icmp_eq (tgt := 339) h d_Mod_step_324 (by decide) (fun c_324 => ?_) (fun c_324 => ?_)
                · exact absurd c_324 (by decide)
                · refine g_iload_n h d_Mod_step_327 rfl rfl ?_
                  refine g_bipush (v := 7) h d_Mod_step_328 (by decide) ?_
                  refine g_icmp_eq (tgt := 339) h d_Mod_step_330 (by decide) (fun c_330 => ?_) (fun c_330 => ?_)
                  · exact absurd c_330 (by decide)
                  · refine g_iload_n h d_Mod_step_333 rfl rfl ?_
                    refine g_bipush (v := 19) h d_Mod_step_334 (by decide) ?_
                    refine g_icmp_le (tgt := 352) h d_Mod_step_336 (by decide) (fun c_336 => ?_) (fun c_336 => ?_)
                    · exact absurd c_336 (by decide)
                    · refine g_iload h d_Mod_step_339 rfl ?_
                      refine g_if_ge (tgt := 352) h d_Mod_step_341 (by decide) (fun c_341 => ?_) (fun c_341 => ?_)
                      · refine g_iload_n h d_Mod_step_352 rfl rfl ?_
                        refine g_if_ne (tgt := 369) h d_Mod_step_353 (by decide) (fun c_353 => ?_) (fun c_353 => ?_)
                        · refine g_iload_n h d_Mod_step_369 rfl rfl ?_
                          refine g_iconst (v := 1) h d_Mod_step_370 (by decide) ?_
                          refine g_icmp_ne (tgt := 391) h d_Mod_step_371 (by decide) (fun c_371 => ?_) (fun c_371 => ?_)
                          · refine g_iload_n h d_Mod_step_391 rfl rfl ?_
                            refine g_iconst (v := 2) h d_Mod_step_392 (by decide) ?_
                            refine g_icmp_ne (tgt := 408) h d_Mod_step_393 (by decide) (fun c_393 => ?_) (fun c_393 => ?_)
                            · refine g_iload_n h d_Mod_step_408 rfl rfl ?_
                              refine g_iconst (v := 3) h d_Mod_step_409 (by decide) ?_
                              refine g_icmp_ne (tgt := 430) h d_Mod_step_410 (by decide) (fun c_410 => ?_) (fun c_410 => ?_)
                              · refine g_iload_n h d_Mod_step_430 rfl rfl ?_
                                refine g_iconst (v := 4) h d_Mod_step_431 (by decide) ?_
                                refine g_icmp_ne (tgt := 447) h d_Mod_step_432 (by decide) (fun c_432 => ?_) (fun c_432 => ?_)
                                · refine g_iload_n h d_Mod_step_447 rfl rfl ?_
                                  refine g_iconst (v := 5) h d_Mod_step_448 (by decide) ?_
                                  refine g_icmp_eq (tgt := 458) h d_Mod_step_449 (by decide) (fun c_449 => ?_) (fun c_449 => ?_)
                                  · exact absurd c_449 (by decide)
                                  · refine g_iload_n h d_Mod_step_452 rfl rfl ?_
                                    refine g_bipush (v := 16) h d_Mod_step_453 (by decide) ?_
                                    refine g_icmp_ne (tgt := 512) h d_Mod_step_455 (by decide) (fun c_455 => ?_) (fun c_455 => ?_)
                                    · refine g_iload_n h d_Mod_step_512 rfl rfl ?_
                                      refine g_bipush (v := 6) h d_Mod_step_513 (by decide) ?_
                                      refine g_icmp_ne (tgt := 547) h d_Mod_step_515 (by decide) (fun c_515 => ?_) (fun c_515 => ?_)
                                      · refine g_iload_n h d_Mod_step_547 rfl rfl ?_
                                        refine g_bipush (v := 7) h d_Mod_step_548 (by decide) ?_
                                        refine g_icmp_ne (tgt := 566) h d_Mod_step_550 (by decide) (fun c_550 => ?_) (fun c_550 => ?_)
                                        · refine g_iload_n h d_Mod_step_566 rfl rfl ?_
                                          refine g_bipush (v := 11) h d_Mod_step_567 (by decide) ?_
                                          refine g_icmp_ge (tgt := 587) h d_Mod_step_569 (by decide) (fun c_569 => ?_) (fun c_569 => ?_)
                                          · refine g_iload_n h d_Mod_step_587 rfl rfl ?_
                                            refine g_bipush (v := 15) h d_Mod_step_588 (by decide) ?_
                                            refine g_icmp_ne (tgt := 604) h d_Mod_step_590 (by decide) (fun c_590 => ?_) (fun c_590 => ?_)
                                            · refine g_iload_n h d_Mod_step_604 rfl rfl ?_
                                              refine g_bipush (v := 20) h d_Mod_step_605 (by decide) ?_
                                              refine g_icmp_ne (tgt := 639) h d_Mod_step_607 (by decide) (fun c_607 => ?_) (fun c_607 => ?_)
                                              · refine g_aload_n h d_Mod_step_639 rfl rfl ?_
                                                refine gf_Mod_registers h f_Mod_44 d_Mod_step_640 ?_
                                                refine g_iload h d_Mod_step_643 rfl ?_
                                                refine g_aload_n h d_Mod_step_645 rfl rfl ?_
                                                refine gf_Mod_size h f_Mod_32 d_Mod_step_646 ?_
                                                refine g_iload h d_Mod_step_649 rfl ?_
                                                refine gi_size h rfl hq d_Mod_step_651 ?_
                                                refine g_i2l h d_Mod_step_652 ?_
                                                refine pj_registers h rfl (show n * 4 + fmod (B.1 1 i) 4 < 64 by omega) d_Mod_step_653 ?_
                                                refine g_aload_n h d_Mod_step_654 rfl rfl ?_
                                                refine gf_Mod_trouble h f_Mod_141 d_Mod_step_655 ?_
                                                refine g_if_ne (tgt := 671) h d_Mod_step_658 (by decide) (fun c_658 => ?_) (fun c_658 => ?_)
                                                · exact g_vret h r d_Mod_step_671 (⟨rfl, by rw [show mstepO B n i 21 = mT (sJ B 3 0 (mA B n i) (B.1 6 q).toInt64) n by simp only [mstepO, hf]]; first | exact congrArg (mob ad u) (if_pos c_658).symm | exact congrArg (mob ad u) (if_neg c_658).symm⟩)
                                                · refine g_aload_n h d_Mod_step_661 rfl rfl ?_
                                                  refine gf_Mod_place h f_Mod_50 d_Mod_step_662 ?_
                                                  refine g_iload_n h d_Mod_step_665 rfl rfl ?_
                                                  refine g_dup2 h d_Mod_step_666 rfl rfl ?_
                                                  refine gi_place h rfl hn d_Mod_step_667 ?_
                                                  refine g_iconst (v := 1) h d_Mod_step_668 (by decide) ?_
                                                  refine g_iadd h d_Mod_step_669 ?_
                                                  refine pi_place h rfl hn d_Mod_step_670 ?_
                                                  exact g_vret h r d_Mod_step_671 (⟨rfl, by rw [show mstepO B n i 21 = mT (sJ B 3 0 (mA B n i) (B.1 6 q).toInt64) n by simp only [mstepO, hf]]; first | exact congrArg (mob ad u) (if_pos c_658).symm | exact congrArg (mob ad u) (if_neg c_658).symm⟩)
                                              · exact absurd c_607 (by decide)
                                            · exact absurd c_590 (by decide)
                                          · exact absurd c_569 (by decide)
                                        · exact absurd c_550 (by decide)
                                      · exact absurd c_515 (by decide)
                                    · exact absurd c_455 (by decide)
                                · exact absurd c_432 (by decide)
                              · exact absurd c_410 (by decide)
                            · exact absurd c_393 (by decide)
                          · exact absurd c_371 (by decide)
                        · exact absurd c_353 (by decide)
                      · exact absurd (nI_pos' (by omega)) c_341
            · exact absurd c_306 (by decide)
          · exact absurd c_249 (by decide)
      · exact absurd c_195 (by decide)
  · exact absurd c_174 (by decide)
