theorem op_jj {B M : CS} {e n f p q : Nat} {a : Nat → Nat} {J : Prop} [Decidable J] (c : Ctx B M e n f p a) (h21 : B.1 21 0 = nI (p + 1)) (hq : q ≤ 16) : KK 0 (sI (if J then sI B 21 0 (nI q) else B) 5 n ((if J then sI B 21 0 (nI q) else B).1 21 0)) (sI M 9 n (if J then nI q else M.1 9 n + 1)) := by
  obtain ⟨t1, t2, -⟩ := ctx_top c
  by_cases z : J
  · simp only [if_pos z]
    exact op_jump (ctx_21 c) sI_self hq
  · simp only [if_neg z]
    have h9 : M.1 9 n + 1 = nI (p + 1) := by rw [← ((c.1.2.2.2.2.1 n t1).2.2.1 t2).2.1, c.2.2.2.2.2.2.2.2.1, nI_1]
    rw [h9]
    exact op_jump c h21 (by have := c.2.2.2.2.2.2.1; omega)
theorem mjmp_o {M : CS} {n i : Nat} {op : Int32} (h : ¬ op = 11) (h22 : M.1 22 0 = 0) : mjmp M n i op = sI M 9 n (if (op = 11 ∧ mX M n i < mY M n i) ∨ op = 12 ∨ (op = 13 ∧ mX M n i = -1000000000000) ∨ (op = 14 ∧ mX M n i = mY M n i) then nI (fmod (M.1 3 i) 16) else M.1 9 n + 1) := by
  have e : mjumpsM M op (mX M n i) (mY M n i) = M := by unfold mjumpsM; rw [if_neg (fun z => h z.1)]
  unfold mjmp
  rw [e, if_pos h22]
theorem op_calc {B M : CS} {e n f p i : Nat} {a : Nat → Nat} {op : Int32} {x y : Int64} (c : Ctx B M e n f p a) (h21 : B.1 21 0 = nI (p + 1)) (hi : i < 4) : KK (ccalc B op n i x y).1 (if (ccalc B op n i x y).1 = 0 then sI (ccalc B op n i x y).2 5 n ((ccalc B op n i x y).2.1 21 0) else (ccalc B op n i x y).2) (mT (mcalc M op (n * 4 + i) x y) n) := by
  unfold ccalc mcalc
  by_cases z : isNum x ∧ isNum y
  · have z' : (-2147483648 ≤ x ∧ x ≤ 2147483647) ∧ (-2147483648 ≤ y ∧ y ≤ 2147483647) := z
    rw [if_pos z, if_pos z']
    simp only [if_true]
    have ev : (if op = 8 then (x + y).toInt32.toInt64 else if op = 9 then (x - y).toInt32.toInt64 else (x * y).toInt32.toInt64) = (if op = 8 then (x.toInt32 + y.toInt32).toInt64 else if op = 9 then (x.toInt32 - y.toInt32).toInt64 else (x.toInt32 * y.toInt32).toInt64) := by rw [Int64.toInt32_add, Int64.toInt32_sub, Int64.toInt32_mul]
    rw [ev]
    refine op_reg c h21 hi ?_ ?_
    · split
      · exact (okV_i _).1
      · split
        · exact (okV_i _).1
        · exact (okV_i _).1
    · split
      · exact (okV_i _).2 B
      · split
        · exact (okV_i _).2 B
        · exact (okV_i _).2 B
  · have z' : ¬ ((-2147483648 ≤ x ∧ x ≤ 2147483647) ∧ (-2147483648 ≤ y ∧ y ≤ 2147483647)) := z
    rw [if_neg z, if_neg z', mT_bad (by decide)]
    simp only [show ¬ (1 : Int32) = 0 by decide, if_false]
    exact op_bad c c.1 rfl rfl (.inr (.inl ⟨rfl, rfl⟩)) (by decide)
theorem op_all {C M : CS} {e n f p o : Nat} {a : Nat → Nat} (c : Ctx C M e n f p a) (ho : o ≤ 21) : KK (cperfO C n (f * 17 + p) o).1 (if (cperfO C n (f * 17 + p) o).1 = 0 then sI (cperfO C n (f * 17 + p) o).2 5 n ((cperfO C n (f * 17 + p) o).2.1 21 0) else (cperfO C n (f * 17 + p) o).2) (mstepO (sI M 18 0 (M.1 18 0 + 1)) n (f * 16 + p) o) := by
  obtain ⟨cB, h21, fr⟩ := beg_ctx c
  obtain ⟨t1, t2, t3, t4, t5, t6, t7, t8⟩ := ctx_top cB
  obtain ⟨-, eA, eB, eC⟩ := cB.1.2.2.2.2.2.2 f p cB.2.2.2.2.2.1 (by have := cB.2.2.2.2.2.2.1; omega)
  rw [fr 10 (by decide) (by decide)] at eA
  rw [fr 11 (by decide) (by decide)] at eB
  rw [fr 12 (by decide) (by decide)] at eC
  have hgl := cB.1.2.2.2.2.2.1.1
  have b22 := cB.2.2.2.2.2.2.2.2.2
  have hok := cB.1.1.2.1
  have hin : (cbeg C n).1 10 (f * 17 + p) = C.1 10 (f * 17 + p) := by rw [fr 10 (by decide) (by decide)]
  have h5n : (cbeg C n).1 5 n = C.1 5 n := by rw [fr 5 (by decide) (by decide)]
  have lgl : ∀ j, j < 6 → lv (cbeg C n) ((cbeg C n).2.1 0 0 j) := fun j hj m hm w => cB.1.2.2.2.1.1 m hm (.inl ⟨j, hj, w⟩)
  have A4 := fmod_lt (C.1 10 (f * 17 + p)) (m := 4) (by decide)
  have B4 := fmod_lt (C.1 11 (f * 17 + p)) (m := 4) (by decide)
  have C4 := fmod_lt (C.1 12 (f * 17 + p)) (m := 4) (by decide)
  have C6 := fmod_lt (C.1 12 (f * 17 + p)) (m := 6) (by decide)
  have C16 := fmod_lt (C.1 12 (f * 17 + p)) (m := 16) (by decide)
  generalize hM1 : sI M 18 0 (M.1 18 0 + 1) = M1 at *
  have eX : mX M1 n (f * 16 + p) = (cbeg C n).2.1 3 n (fmod (C.1 10 (f * 17 + p)) 4) := by show M1.2.1 3 0 (n * 4 + fmod (M1.1 1 (f * 16 + p)) 4) = _; rw [← eA]; exact t6 _ A4
  have eY : mY M1 n (f * 16 + p) = (cbeg C n).2.1 3 n (fmod (C.1 11 (f * 17 + p)) 4) := by show M1.2.1 3 0 (n * 4 + fmod (M1.1 2 (f * 16 + p)) 4) = _; rw [← eB]; exact t6 _ B4
  have eZ : mZ M1 n (f * 16 + p) = (cbeg C n).2.1 3 n (fmod (C.1 12 (f * 17 + p)) 4) := by show M1.2.1 3 0 (n * 4 + fmod (M1.1 3 (f * 16 + p)) 4) = _; rw [← eC]; exact t6 _ C4
  have eA' : mA M1 n (f * 16 + p) = n * 4 + fmod (C.1 10 (f * 17 + p)) 4 := by show n * 4 + fmod (M1.1 1 (f * 16 + p)) 4 = _; rw [← eA]
  have bad1 : KK 1 (cbeg C n) (mT (sI M1 22 0 3) n) := by rw [mT_bad (by decide)]; exact op_bad cB cB.1 rfl rfl (.inr (.inl ⟨rfl, rfl⟩)) (by decide)
  have e2 : ∀ g b i, C.2.1 g b i = (cbeg C n).2.1 g b i := fun _ _ _ => rfl
  match o, ho with
  | 0, _ =>
    show KK 0 (if (0 : Int32) = 0 then _ else _) (mT (sJ M1 3 0 (mA M1 n (f * 16 + p)) _) n)
    rw [if_pos rfl, eA']
    exact op_reg cB h21 A4 okV_nil lv_nil
  | 1, _ =>
    show KK 0 (if (0 : Int32) = 0 then _ else _) (mT (sJ M1 3 0 (mA M1 n (f * 16 + p)) (M1.1 3 (f * 16 + p)).toInt64) n)
    rw [if_pos rfl, eA', ← eC]
    exact op_reg cB h21 A4 (okV_i _).1 ((okV_i _).2 _)
  | 2, _ =>
    show KK 0 (if (0 : Int32) = 0 then _ else _) (mT (sJ M1 3 0 (mA M1 n (f * 16 + p)) (mY M1 n (f * 16 + p))) n)
    rw [if_pos rfl, eA', eY]
    exact op_reg cB h21 A4 (hok _ _ _) (t5 _ B4)
  | 3, _ =>
    show KK 0 (if (0 : Int32) = 0 then _ else _) (mT (sJ M1 3 0 (mA M1 n (f * 16 + p)) (M1.2.1 0 0 (fmod (M1.1 3 (f * 16 + p)) 6))) n)
    rw [if_pos rfl, eA', ← eC, ← hgl _ C6]
    exact op_reg cB h21 A4 (hok _ _ _) (lgl _ C6)
  | 4, _ =>
    show KK 0 (if (0 : Int32) = 0 then _ else _) (mT (sJ M1 0 0 (fmod (M1.1 3 (f * 16 + p)) 6) (mX M1 n (f * 16 + p))) n)
    rw [if_pos rfl, eX, ← eC]
    exact op_glob cB h21 C6 (hok _ _ _) (t5 _ A4)
  | 5, _ =>
    show KK (ckept (ccreate (cbeg C n) 1 0) n (fmod (C.1 10 (f * 17 + p)) 4)).1 _ (mT (mnew (mcreate M1 1 (nI (fmod (M1.1 3 (f * 16 + p)) 4))) (mA M1 n (f * 16 + p))) n)
    rw [eA']
    exact op_new (q := 0) cB h21 A4 (.inl rfl)
  | 6, _ =>
    show KK (ckept (cgetting (cbeg C n) ((cbeg C n).2.1 3 n (fmod (C.1 11 (f * 17 + p)) 4)) ((cbeg C n).2.1 3 n (fmod (C.1 12 (f * 17 + p)) 4))) n (fmod (C.1 10 (f * 17 + p)) 4)).1 (if (ckept (cgetting (cbeg C n) ((cbeg C n).2.1 3 n (fmod (C.1 11 (f * 17 + p)) 4)) ((cbeg C n).2.1 3 n (fmod (C.1 12 (f * 17 + p)) 4))) n (fmod (C.1 10 (f * 17 + p)) 4)).1 = 0 then sI (ckept (cgetting (cbeg C n) ((cbeg C n).2.1 3 n (fmod (C.1 11 (f * 17 + p)) 4)) ((cbeg C n).2.1 3 n (fmod (C.1 12 (f * 17 + p)) 4))) n (fmod (C.1 10 (f * 17 + p)) 4)).2 5 n _ else (ckept (cgetting (cbeg C n) ((cbeg C n).2.1 3 n (fmod (C.1 11 (f * 17 + p)) 4)) ((cbeg C n).2.1 3 n (fmod (C.1 12 (f * 17 + p)) 4))) n (fmod (C.1 10 (f * 17 + p)) 4)).2) (match mOf M1 1 (mY M1 n (f * 16 + p)) with
      | none => mT (sI M1 22 0 3) n
      | some t => mT (mkeep (mgetting M1 (mZ M1 n (f * 16 + p)) 5 t) (mA M1 n (f * 16 + p))) n)
    rw [eA', eY, eZ, isA_mOf cB.1 (hok _ _ _)]
    by_cases ha : isA (cbeg C n) 1 ((cbeg C n).2.1 3 n (fmod (C.1 11 (f * 17 + p)) 4)) = true
    · rw [if_pos ha]
      refine op_found cB h21 A4 ?_
      rcases getting_all (k := (cbeg C n).2.1 3 n (fmod (C.1 12 (f * 17 + p)) 4)) cB.1 (hok _ _ _) (t5 _ B4) ha with ⟨v, v1, v2, v3, v4⟩ | ⟨v1, v2⟩
      · exact .inl ⟨v, v1, v2, v3, v4⟩
      · exact .inr ⟨2, 2, _, _, by decide, by decide, .inr (.inr (.inl ⟨rfl, rfl⟩)), okV_nil, .inl v1, v2⟩
    · have eg : ∀ z, cgetting (cbeg C n) ((cbeg C n).2.1 3 n (fmod (C.1 11 (f * 17 + p)) 4)) z = (1, cbeg C n) := fun z => by unfold cgetting; rw [if_neg ha]
      rw [if_neg ha, eg]
      exact bad1
  | 7, _ =>
    show KK (csetting (cbeg C n) ((cbeg C n).2.1 3 n (fmod (C.1 10 (f * 17 + p)) 4)) ((cbeg C n).2.1 3 n (fmod (C.1 11 (f * 17 + p)) 4)) ((cbeg C n).2.1 3 n (fmod (C.1 12 (f * 17 + p)) 4))).1 (if (csetting (cbeg C n) ((cbeg C n).2.1 3 n (fmod (C.1 10 (f * 17 + p)) 4)) ((cbeg C n).2.1 3 n (fmod (C.1 11 (f * 17 + p)) 4)) ((cbeg C n).2.1 3 n (fmod (C.1 12 (f * 17 + p)) 4))).1 = 0 then sI (csetting (cbeg C n) ((cbeg C n).2.1 3 n (fmod (C.1 10 (f * 17 + p)) 4)) ((cbeg C n).2.1 3 n (fmod (C.1 11 (f * 17 + p)) 4)) ((cbeg C n).2.1 3 n (fmod (C.1 12 (f * 17 + p)) 4))).2 5 n _ else (csetting (cbeg C n) ((cbeg C n).2.1 3 n (fmod (C.1 10 (f * 17 + p)) 4)) ((cbeg C n).2.1 3 n (fmod (C.1 11 (f * 17 + p)) 4)) ((cbeg C n).2.1 3 n (fmod (C.1 12 (f * 17 + p)) 4))).2) (match mOf M1 1 (mX M1 n (f * 16 + p)) with
      | none => mT (sI M1 22 0 3) n
      | some t => mT (msetting M1 t (mY M1 n (f * 16 + p)) (mZ M1 n (f * 16 + p))) n)
    rw [eX, eY, eZ, isA_mOf cB.1 (hok _ _ _)]
    by_cases ha : isA (cbeg C n) 1 ((cbeg C n).2.1 3 n (fmod (C.1 10 (f * 17 + p)) 4)) = true
    · rw [if_pos ha]
      obtain ⟨w1, w2, w3⟩ := setting_all (k := (cbeg C n).2.1 3 n (fmod (C.1 11 (f * 17 + p)) 4)) (v := (cbeg C n).2.1 3 n (fmod (C.1 12 (f * 17 + p)) 4)) cB.1 (hok _ _ _) (t5 _ A4) (hok _ _ _) (t5 _ B4) (hok _ _ _) (t5 _ C4) ha b22
      exact op_tab cB h21 w1 w2 w3
    · have eg : ∀ y z, csetting (cbeg C n) ((cbeg C n).2.1 3 n (fmod (C.1 10 (f * 17 + p)) 4)) y z = (1, cbeg C n) := fun y z => by unfold csetting; rw [if_neg (fun w => ha w.1)]
      rw [if_neg ha, eg]
      exact bad1
  | 8, _ =>
    show KK (ccalc (cbeg C n) 8 n _ _ _).1 _ (mT (mcalc M1 8 (mA M1 n (f * 16 + p)) (mY M1 n (f * 16 + p)) (mZ M1 n (f * 16 + p))) n)
    rw [eA', eY, eZ]
    exact op_calc cB h21 A4
  | 9, _ =>
    show KK (ccalc (cbeg C n) 9 n _ _ _).1 _ (mT (mcalc M1 9 (mA M1 n (f * 16 + p)) (mY M1 n (f * 16 + p)) (mZ M1 n (f * 16 + p))) n)
    rw [eA', eY, eZ]
    exact op_calc cB h21 A4
  | 10, _ =>
    show KK (ccalc (cbeg C n) 10 n _ _ _).1 _ (mT (mcalc M1 10 (mA M1 n (f * 16 + p)) (mY M1 n (f * 16 + p)) (mZ M1 n (f * 16 + p))) n)
    rw [eA', eY, eZ]
    exact op_calc cB h21 A4
  | 11, _ =>
    show KK (cbelow (cbeg C n) ((cbeg C n).2.1 3 n (fmod (C.1 10 (f * 17 + p)) 4)) ((cbeg C n).2.1 3 n (fmod (C.1 11 (f * 17 + p)) 4)) (C.1 12 (f * 17 + p))).1 (if (cbelow (cbeg C n) ((cbeg C n).2.1 3 n (fmod (C.1 10 (f * 17 + p)) 4)) ((cbeg C n).2.1 3 n (fmod (C.1 11 (f * 17 + p)) 4)) (C.1 12 (f * 17 + p))).1 = 0 then sI (cbelow (cbeg C n) ((cbeg C n).2.1 3 n (fmod (C.1 10 (f * 17 + p)) 4)) ((cbeg C n).2.1 3 n (fmod (C.1 11 (f * 17 + p)) 4)) (C.1 12 (f * 17 + p))).2 5 n ((cbelow (cbeg C n) ((cbeg C n).2.1 3 n (fmod (C.1 10 (f * 17 + p)) 4)) ((cbeg C n).2.1 3 n (fmod (C.1 11 (f * 17 + p)) 4)) (C.1 12 (f * 17 + p))).2.1 21 0) else (cbelow (cbeg C n) ((cbeg C n).2.1 3 n (fmod (C.1 10 (f * 17 + p)) 4)) ((cbeg C n).2.1 3 n (fmod (C.1 11 (f * 17 + p)) 4)) (C.1 12 (f * 17 + p))).2) (mjmp M1 n (f * 16 + p) 11)
    unfold mjmp
    rw [eX, eY]
    generalize (cbeg C n).2.1 3 n (fmod (C.1 10 (f * 17 + p)) 4) = x
    generalize (cbeg C n).2.1 3 n (fmod (C.1 11 (f * 17 + p)) 4) = y
    unfold cbelow
    by_cases z : isNum x ∧ isNum y
    · have ej0 : mjumpsM M1 11 x y = M1 := by unfold mjumpsM; rw [if_neg (fun w => w.2 z)]
      rw [if_pos z, ej0, if_pos b22]
      simp only [if_true]
      have := op_jj (J := x < y) (q := fmod (C.1 12 (f * 17 + p)) 16) cB h21 (by omega)
      rw [eC] at this ⊢
      have ej : ((True ∧ x < y) ∨ (11 : Int32) = 12 ∨ ((11 : Int32) = 13 ∧ x = -1000000000000) ∨ ((11 : Int32) = 14 ∧ x = y)) ↔ x < y := by
        have n1 : ¬ (11 : Int32) = 12 := by decide
        have n2 : ¬ (11 : Int32) = 13 := by decide
        have n3 : ¬ (11 : Int32) = 14 := by decide
        simp [n1, n2, n3]
      simp only [ej]
      exact this
    · have nz : ¬ ((-2147483648 ≤ x ∧ x ≤ 2147483647) ∧ (-2147483648 ≤ y ∧ y ≤ 2147483647)) := z
      have ej0 : mjumpsM M1 11 x y = sI M1 22 0 3 := by unfold mjumpsM; rw [if_pos ⟨rfl, nz⟩]
      rw [if_neg z, ej0]
      simp only [sI_self, show ¬ (3 : Int32) = 0 by decide, show ¬ (1 : Int32) = 0 by decide, if_false]
      exact op_bad cB cB.1 rfl rfl (.inr (.inl ⟨rfl, rfl⟩)) (by decide)
  | 12, _ =>
    show KK 0 (if (0 : Int32) = 0 then sI (sI (cbeg C n) 21 0 (nI (fmod (C.1 12 (f * 17 + p)) 16))) 5 n _ else _) (mjmp M1 n (f * 16 + p) 12)
    rw [if_pos rfl, mjmp_o (by decide) b22, if_pos (.inr (.inl rfl)), ← eC]
    exact op_jump (ctx_21 cB) sI_self (by omega)
  | 13, _ =>
    show KK 0 (if (0 : Int32) = 0 then _ else _) (mjmp M1 n (f * 16 + p) 13)
    rw [if_pos rfl, mjmp_o (by decide) b22, eX, eY, ← eC]
    have ej : (((13 : Int32) = 11 ∧ (cbeg C n).2.1 3 n (fmod (C.1 10 (f * 17 + p)) 4) < (cbeg C n).2.1 3 n (fmod (C.1 11 (f * 17 + p)) 4)) ∨ (13 : Int32) = 12 ∨ (True ∧ (cbeg C n).2.1 3 n (fmod (C.1 10 (f * 17 + p)) 4) = -1000000000000) ∨ ((13 : Int32) = 14 ∧ (cbeg C n).2.1 3 n (fmod (C.1 10 (f * 17 + p)) 4) = (cbeg C n).2.1 3 n (fmod (C.1 11 (f * 17 + p)) 4))) ↔ (cbeg C n).2.1 3 n (fmod (C.1 10 (f * 17 + p)) 4) = -1000000000000 := by
      have n1 : ¬ (13 : Int32) = 12 := by decide
      have n2 : ¬ (13 : Int32) = 11 := by decide
      have n3 : ¬ (13 : Int32) = 14 := by decide
      simp [n1, n2, n3]
    simp only [ej]
    exact op_jj (q := fmod (C.1 12 (f * 17 + p)) 16) (J := (cbeg C n).2.1 3 n (fmod (C.1 10 (f * 17 + p)) 4) = -1000000000000) cB h21 (by omega)
  | 14, _ =>
    show KK 0 (if (0 : Int32) = 0 then _ else _) (mjmp M1 n (f * 16 + p) 14)
    rw [if_pos rfl, mjmp_o (by decide) b22, eX, eY, ← eC]
    have ej : (((14 : Int32) = 11 ∧ (cbeg C n).2.1 3 n (fmod (C.1 10 (f * 17 + p)) 4) < (cbeg C n).2.1 3 n (fmod (C.1 11 (f * 17 + p)) 4)) ∨ (14 : Int32) = 12 ∨ ((14 : Int32) = 13 ∧ (cbeg C n).2.1 3 n (fmod (C.1 10 (f * 17 + p)) 4) = -1000000000000) ∨ (True ∧ (cbeg C n).2.1 3 n (fmod (C.1 10 (f * 17 + p)) 4) = (cbeg C n).2.1 3 n (fmod (C.1 11 (f * 17 + p)) 4))) ↔ (cbeg C n).2.1 3 n (fmod (C.1 10 (f * 17 + p)) 4) = (cbeg C n).2.1 3 n (fmod (C.1 11 (f * 17 + p)) 4) := by
      have n1 : ¬ (14 : Int32) = 12 := by decide
      have n2 : ¬ (14 : Int32) = 11 := by decide
      have n3 : ¬ (14 : Int32) = 13 := by decide
      simp [n1, n2, n3]
    simp only [ej]
    exact op_jj (q := fmod (C.1 12 (f * 17 + p)) 16) (J := (cbeg C n).2.1 3 n (fmod (C.1 10 (f * 17 + p)) 4) = (cbeg C n).2.1 3 n (fmod (C.1 11 (f * 17 + p)) 4)) cB h21 (by omega)
  | 15, _ =>
    show KK (csetMeta (cbeg C n) ((cbeg C n).2.1 3 n (fmod (C.1 10 (f * 17 + p)) 4)) ((cbeg C n).2.1 3 n (fmod (C.1 11 (f * 17 + p)) 4))).1 _ (mT (mjoin M1 (mX M1 n (f * 16 + p)) (mY M1 n (f * 16 + p))) n)
    rw [eX, eY]
    obtain ⟨w1, w2, w3⟩ := meta_all (t := (cbeg C n).2.1 3 n (fmod (C.1 10 (f * 17 + p)) 4)) (m := (cbeg C n).2.1 3 n (fmod (C.1 11 (f * 17 + p)) 4)) cB.1 (hok _ _ _) (t5 _ A4) (hok _ _ _) (t5 _ B4) b22
    exact op_tab cB h21 w1 w2 w3
  | 16, _ =>
    show KK (ckept (ccreate (cbeg C n) 2 (nI (fmod (C.1 12 (f * 17 + p)) 4))) n (fmod (C.1 10 (f * 17 + p)) 4)).1 _ (mT (mnew (mcreate M1 2 (nI (fmod (M1.1 3 (f * 16 + p)) 4))) (mA M1 n (f * 16 + p))) n)
    rw [eA', ← eC]
    exact op_new (q := fmod (C.1 12 (f * 17 + p)) 4) cB h21 A4 (.inr ⟨rfl, C4, rfl, rfl⟩)
  | 17, _ =>
    show KK (center (sI (sI (cbeg C n) 21 0 (C.1 5 n)) 8 n (nI (fmod (C.1 10 (f * 17 + p)) 4))) ((cbeg C n).2.1 3 n (fmod (C.1 11 (f * 17 + p)) 4)) ((cbeg C n).2.1 3 n (fmod (C.1 12 (f * 17 + p)) 4))).1 _ (menter M1 (mY M1 n (f * 16 + p)) (mZ M1 n (f * 16 + p)))
    rw [eY, eZ]
    have := op_enter (i := fmod (C.1 10 (f * 17 + p)) 4) (y := (cbeg C n).2.1 3 n (fmod (C.1 11 (f * 17 + p)) 4)) (z := (cbeg C n).2.1 3 n (fmod (C.1 12 (f * 17 + p)) 4)) cB (by rw [hin]) A4 (hok _ _ _) (t5 _ B4) (hok _ _ _) (t5 _ C4)
    rw [h5n] at this
    exact this
  | 18, _ =>
    show KK 0 (if (0 : Int32) = 0 then _ else _) (mleave (mway M1 n (f * 16 + p)) 1 (mX M1 n (f * 16 + p)))
    rw [if_pos rfl, eX]
    unfold mway
    rw [← eA]
    exact op_yield (B := cbeg C n) (X := sI (sI (cbeg C n) 6 n 1) 7 n (nI (fmod (C.1 10 (f * 17 + p)) 4))) cB h21 A4 (.inl ⟨rfl, rfl⟩)
  | 19, _ =>
    show KK 0 (if (0 : Int32) = 0 then _ else _) (mleave (mway M1 n (f * 16 + p)) 3 (mX M1 n (f * 16 + p)))
    rw [if_pos rfl, eX]
    unfold mway
    rw [← eA]
    exact op_yield (B := cbeg C n) (X := sI (cbeg C n) 6 n 3) cB h21 A4 (.inr ⟨rfl, rfl⟩)
  | 20, _ =>
    show KK (ckept (ckeyAfter (cbeg C n) ((cbeg C n).2.1 3 n (fmod (C.1 11 (f * 17 + p)) 4)) ((cbeg C n).2.1 3 n (fmod (C.1 12 (f * 17 + p)) 4))) n (fmod (C.1 10 (f * 17 + p)) 4)).1 (if (ckept (ckeyAfter (cbeg C n) ((cbeg C n).2.1 3 n (fmod (C.1 11 (f * 17 + p)) 4)) ((cbeg C n).2.1 3 n (fmod (C.1 12 (f * 17 + p)) 4))) n (fmod (C.1 10 (f * 17 + p)) 4)).1 = 0 then sI (ckept (ckeyAfter (cbeg C n) ((cbeg C n).2.1 3 n (fmod (C.1 11 (f * 17 + p)) 4)) ((cbeg C n).2.1 3 n (fmod (C.1 12 (f * 17 + p)) 4))) n (fmod (C.1 10 (f * 17 + p)) 4)).2 5 n _ else (ckept (ckeyAfter (cbeg C n) ((cbeg C n).2.1 3 n (fmod (C.1 11 (f * 17 + p)) 4)) ((cbeg C n).2.1 3 n (fmod (C.1 12 (f * 17 + p)) 4))) n (fmod (C.1 10 (f * 17 + p)) 4)).2) (match mOf M1 1 (mY M1 n (f * 16 + p)) with
      | none => mT (sI M1 22 0 3) n
      | some t => mT (mkeep (mfollow M1 t (mZ M1 n (f * 16 + p))) (mA M1 n (f * 16 + p))) n)
    rw [eA', eY, eZ, isA_mOf cB.1 (hok _ _ _)]
    by_cases ha : isA (cbeg C n) 1 ((cbeg C n).2.1 3 n (fmod (C.1 11 (f * 17 + p)) 4)) = true
    · rw [if_pos ha]
      refine op_found cB h21 A4 ?_
      rcases follow_all (k := (cbeg C n).2.1 3 n (fmod (C.1 12 (f * 17 + p)) 4)) cB.1 (hok _ _ _) (t5 _ B4) ha with ⟨v, v1, v2, v3, v4⟩ | ⟨v1, v2⟩
      · exact .inl ⟨v, v1, v2, v3, v4⟩
      · exact .inr ⟨1, 3, _, _, by decide, by decide, .inr (.inl ⟨rfl, rfl⟩), okV_nil, .inr v1, v2⟩
    · have eg : ∀ z, ckeyAfter (cbeg C n) ((cbeg C n).2.1 3 n (fmod (C.1 11 (f * 17 + p)) 4)) z = (1, cbeg C n) := fun z => by unfold ckeyAfter; rw [if_neg ha]
      rw [if_neg ha, eg]
      exact bad1
  | 21, _ =>
    show KK (ckept (chowMany (cbeg C n) ((cbeg C n).2.1 3 n (fmod (C.1 11 (f * 17 + p)) 4))) n (fmod (C.1 10 (f * 17 + p)) 4)).1 (if (ckept (chowMany (cbeg C n) ((cbeg C n).2.1 3 n (fmod (C.1 11 (f * 17 + p)) 4))) n (fmod (C.1 10 (f * 17 + p)) 4)).1 = 0 then sI (ckept (chowMany (cbeg C n) ((cbeg C n).2.1 3 n (fmod (C.1 11 (f * 17 + p)) 4))) n (fmod (C.1 10 (f * 17 + p)) 4)).2 5 n _ else (ckept (chowMany (cbeg C n) ((cbeg C n).2.1 3 n (fmod (C.1 11 (f * 17 + p)) 4))) n (fmod (C.1 10 (f * 17 + p)) 4)).2) (match mOf M1 1 (mY M1 n (f * 16 + p)) with
      | none => mT (sI M1 22 0 3) n
      | some t => mT (sJ M1 3 0 (mA M1 n (f * 16 + p)) (M1.1 6 t).toInt64) n)
    rw [eA', eY, isA_mOf cB.1 (hok _ _ _)]
    by_cases ha : isA (cbeg C n) 1 ((cbeg C n).2.1 3 n (fmod (C.1 11 (f * 17 + p)) 4)) = true
    · rw [if_pos ha]
      have := op_found (i := fmod (C.1 10 (f * 17 + p)) 4) cB h21 A4 (.inl ⟨_, (okV_i _).1, (okV_i _).2 _, many_all cB.1 (hok _ _ _) (t5 _ B4) ha, rfl⟩)
      have em : ∀ v : Int64, mkeep (v, M1) (n * 4 + fmod (C.1 10 (f * 17 + p)) 4) = sJ M1 3 0 (n * 4 + fmod (C.1 10 (f * 17 + p)) 4) v := fun v => by unfold mkeep; simp only; rw [if_pos b22]
      rw [em] at this
      exact this
    · have eg : chowMany (cbeg C n) ((cbeg C n).2.1 3 n (fmod (C.1 11 (f * 17 + p)) 4)) = (1, cbeg C n) := by unfold chowMany; rw [if_neg ha]
      rw [if_neg ha, eg]
      exact bad1
  | o + 22, h => exact absurd h (by omega)
