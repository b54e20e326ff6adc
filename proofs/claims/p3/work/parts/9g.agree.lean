/-! each call of the face on both sides: what the wrapper answers, what the reference notes, and that the two states stay side by side -/
theorem RR_21 {C M : CS} {v : Int32} (h : RR C M) : RR C (sI M 21 0 v) := ⟨HH_M (by omega) (okM_keep (by decide) h.1.2.1) h.1, Stk_of (C := C) rfl rfl rfl rfl (sI_f (by decide)) (sI_f (by decide)) h.2⟩
theorem RR_22 {C M : CS} {v : Int32} (h : RR C M) : RR C (sI M 22 0 v) := ⟨HH_M (by omega) (okM_keep (by decide) h.1.2.1) h.1, Stk_of (C := C) rfl rfl rfl rfl (sI_f (by decide)) (sI_f (by decide)) h.2⟩
theorem RR_gl {C M : CS} {j : Nat} (h : RR C M) (hj : j < 6) : okV (C.2.1 0 0 j) ∧ lv C (C.2.1 0 0 j) ∧ M.2.1 0 0 j = C.2.1 0 0 j := ⟨h.1.1.2.1 _ _ _, fun m hm w => h.1.2.2.2.1.1 m hm (.inl ⟨j, hj, w⟩), (h.1.2.2.2.2.2.1.1 j hj).symm⟩
theorem RR_glob {C M : CS} {i : Nat} {v : Int64} (h : RR C M) (hi : i < 6) (hv : okV v) (l : lv C v) : RR (sJ C 0 0 i v) (sJ M 0 0 i v) := ⟨HH_glob h.1 hi hv l, Stk_of (C := C) (M := M) rfl rfl rfl rfl rfl rfl h.2⟩
theorem RR_4 {C M : CS} {i : Nat} {v : Int64} (h : RR C M) (hv : okV v) : RR (sJ C 4 0 i v) M := ⟨HH_CJ (.inl rfl) hv h.1, Stk_of (C := C) (M := M) rfl rfl rfl rfl rfl rfl h.2⟩
theorem RR_keep {C C' M M' : CS} (h : RR C M) (k : tkeep C' C M' M) (hh : HH C' M') : RR C' M' := ⟨hh, Stk_of (k.1 0 (by decide) (by decide) (by decide)) (k.1 6 (by decide) (by decide) (by decide)) (k.1 19 (by decide) (by decide) (by decide)) k.2.1 (k.2.2.1 12 (by decide) (by decide) (by decide) (by decide)) (k.2.2.1 13 (by decide) (by decide) (by decide) (by decide)) h.2⟩
theorem lv_4 {C : CS} {f n i : Nat} {v w : Int64} (h : lv C w) : lv (sJ C f n i v) w := fun m hm z => by
  rw [show live (sJ C f n i v) = live C from live_fn rfl rfl rfl rfl]
  exact h m hm z
theorem g_of {g : Int32} (h : ¬ (g < 0 ∨ 5 < g)) : ∃ j, j < 6 ∧ g = nI j ∧ (nI j).toNatClampNeg = j := by
  obtain ⟨a, b⟩ := gl_num h
  exact ⟨_, a, b, nI_clamp (by omega)⟩
theorem r_of {g : Int32} {m : Nat} (hm : m < 2 ^ 31) (h1 : ¬ g < 0) (h2 : ¬ nI m < g) : ∃ j, j ≤ m ∧ g = nI j ∧ (nI j).toNatClampNeg = j := by
  obtain ⟨a, b⟩ := i32_num hm h1 h2
  exact ⟨_, a, b, nI_clamp (by omega)⟩
/-- -1, or a number up to m -/
theorem e_of {g : Int32} {m : Nat} (hm : m < 2 ^ 31) (h1 : ¬ g < -1) (h2 : ¬ nI m < g) : (g = -1 ∧ g < 0) ∨ ∃ j, j ≤ m ∧ g = nI j ∧ (nI j).toNatClampNeg = j ∧ ¬ g < 0 := by
  by_cases z : g < 0
  · refine .inl ⟨Int32.toInt_inj.mp ?_, z⟩
    have a := mt Int32.lt_iff_toInt_lt.mpr h1
    have b := Int32.lt_iff_toInt_lt.mp z
    rw [Int32.toInt_zero] at b
    rw [show (-1 : Int32).toInt = -1 from rfl] at a ⊢
    omega
  · obtain ⟨j, a, b, c⟩ := r_of hm z h2
    exact .inr ⟨j, a, b, c, z⟩
theorem s21 {M : CS} {i : Nat} {v : Int64} {x : Int32} : (sJ (sI M 21 0 x) 0 0 i v).1 21 0 = x := by rw [sJ_1]; exact sI_self
abbrev Tr (l : Launch) : Prop := l.stackTraces = false
theorem A_number {C M : CS} (h : RR C M) (g v : Int32) : ∃ (r : Int32) (C2 : CS), (∀ (l : Launch) (D : va_G) (t : Nat → ClassId) (ad : Nat → Nat), Tr l → Cw l D t ad y_Law_number b_Law_number 4 [(0, 6, 9, 13)] [.ref (ad (ix 0 0)), .int g, .int v] C r C2) ∧ RR C2 (mnumber M g v) ∧ (mnumber M g v).1 21 0 = r := by
  unfold mnumber
  by_cases hg : g < 0 ∨ 5 < g
  · rw [if_pos hg]
    exact ⟨1, C, fun l D t ad htr => w_Law_number_IAE (x_TCM_number htr hg) ⟨rfl, rfl, by decide, by decide, by decide, by decide⟩, RR_21 h, sI_self⟩
  · rw [if_neg hg]
    obtain ⟨j, hj, rfl, ej⟩ := g_of hg
    rw [ej]
    exact ⟨0, _, fun l D t ad htr => w_Law_number (c_TCM_number hj) ⟨rfl, rfl, by decide, by decide, by decide, by decide⟩, RR_glob (RR_21 h) hj (okV_i v).1 ((okV_i v).2 _), s21⟩
theorem A_move {C M : CS} (h : RR C M) (g k : Int32) : ∃ (r : Int32) (C2 : CS), (∀ (l : Launch) (D : va_G) (t : Nat → ClassId) (ad : Nat → Nat), Tr l → Cw l D t ad y_Law_move b_Law_move 4 [(0, 6, 9, 13)] [.ref (ad (ix 0 0)), .int g, .int k] C r C2) ∧ RR C2 (mmove M g k) ∧ (mmove M g k).1 21 0 = r := by
  unfold mmove
  by_cases hg : g < 0 ∨ 5 < g
  · rw [if_pos (.inl hg)]
    exact ⟨1, C, fun l D t ad htr => w_Law_move_IAE (x_TCM_move1 htr hg) ⟨rfl, rfl, by decide, by decide, by decide, by decide⟩, RR_21 h, sI_self⟩
  by_cases hk : k < -1 ∨ 5 < k
  · rw [if_pos (.inr hk)]
    exact ⟨1, C, fun l D t ad htr => w_Law_move_IAE (x_TCM_move2 htr hg hk) ⟨rfl, rfl, by decide, by decide, by decide, by decide⟩, RR_21 h, sI_self⟩
  rw [if_neg (fun z => z.elim hg hk)]
  obtain ⟨j, hj, rfl, ej⟩ := g_of hg
  rw [ej]
  rcases e_of (m := 5) (by decide) (fun z => hk (.inl z)) (fun z => hk (.inr z)) with ⟨rfl, hk0⟩ | ⟨i, hi, rfl, ei, hk0⟩
  · rw [if_pos hk0]
    exact ⟨0, _, fun l D t ad htr => w_Law_move (c_TCM_move (k := none) hj (fun _ z => by cases z)) ⟨rfl, rfl, by decide, by decide, by decide, by decide⟩, RR_glob (RR_21 h) hj okV_nil lv_nil, s21⟩
  · rw [if_neg hk0, ei]
    obtain ⟨q1, q2, q3⟩ := RR_gl h (show i < 6 by omega)
    rw [q3]
    exact ⟨0, _, fun l D t ad htr => w_Law_move (c_TCM_move (k := some i) hj (fun _ z => by cases z; omega)) ⟨rfl, rfl, by decide, by decide, by decide, by decide⟩, RR_glob (RR_21 h) hj q1 q2, s21⟩
theorem A_global {C M : CS} (h : RR C M) (g : Int32) : ∃ (r : Int32) (C2 : CS) (F : (Nat → Int64) → Nat → Int64), (∀ (l : Launch) (D : va_G) (t : Nat → ClassId) (ad : Nat → Nat) (f0 : Nat → Int64), Tr l → Cwo l D t ad y_Law_global b_Law_global 4 [(0, 8, 11, 13)] [.ref (ad (ix 0 0)), .int g, .ref (ad 171)] C f0 r C2 (F f0)) ∧ RR C2 (mglobal M g).2 ∧ (mglobal M g).2.1 21 0 = r ∧ (r = 0 → ∀ f0, F f0 0 = (mglobal M g).1) := by
  unfold mglobal
  by_cases hg : g < 0 ∨ 5 < g
  · rw [if_pos hg]
    exact ⟨1, C, fun f0 => f0, fun l D t ad f0 htr => w_Law_global_IAE (x_TCM_global htr hg) ⟨rfl, rfl, by decide, by decide, by decide, by decide⟩, RR_21 h, sI_self, fun z => absurd z (by decide)⟩
  · rw [if_neg hg]
    obtain ⟨j, hj, rfl, ej⟩ := g_of hg
    rw [ej]
    exact ⟨0, C, fun f0 => vp_updL f0 0 (C.2.1 0 0 j), fun l D t ad f0 htr => w_Law_global (c_TCM_global hj) ⟨rfl, rfl, by decide, by decide, by decide, by decide⟩, RR_21 h, sI_self, fun _ f0 => pk_uLs.trans (RR_gl h hj).2.2.symm⟩
/-- the instructions, written on both sides -/
theorem HH_ins {C M C' M' : CS} (h : HH C M) (i1 : ∀ f, f ≠ 9 → f ≠ 10 → f ≠ 11 → f ≠ 12 → C'.1 f = C.1 f) (i2 : C'.2 = C.2) (k1 : ∀ f, 4 ≤ f → f ≠ 21 → M'.1 f = M.1 f) (k2 : M'.2 = M.2) (s4 : Sm4 C') (ri : Ri C' M') : HH C' M' := by
  obtain ⟨h1, h2, ⟨s1, s2, s3, -⟩, h4, r1, r2, -⟩ := h
  have I := fun f a b c d => i1 f a b c d
  refine ⟨?_, ?_, ⟨?_, ?_, ?_, s4⟩, ?_, ?_, ?_, ri⟩
  · unfold okC
    rw [i1 2 (by decide) (by decide) (by decide) (by decide), i1 3 (by decide) (by decide) (by decide) (by decide), i1 4 (by decide) (by decide) (by decide) (by decide), i1 5 (by decide) (by decide) (by decide) (by decide), i1 7 (by decide) (by decide) (by decide) (by decide), i1 8 (by decide) (by decide) (by decide) (by decide), i1 14 (by decide) (by decide) (by decide) (by decide), i1 19 (by decide) (by decide) (by decide) (by decide), i2]
    exact h1
  · unfold okM
    rw [k1 6 (by decide) (by decide), k1 7 (by decide) (by decide), k1 9 (by decide) (by decide), k1 11 (by decide) (by decide), k1 15 (by decide) (by decide), k1 13 (by decide) (by decide), k1 12 (by decide) (by decide), k2]
    exact h2
  · unfold Sm1
    rw [i1 0 (by decide) (by decide) (by decide) (by decide), i1 1 (by decide) (by decide) (by decide) (by decide), i1 6 (by decide) (by decide) (by decide) (by decide)]
    exact s1
  · unfold Sm2 cSw
    rw [i1 1 (by decide) (by decide) (by decide) (by decide), i1 13 (by decide) (by decide) (by decide) (by decide), i1 14 (by decide) (by decide) (by decide) (by decide)]
    exact s2
  · unfold Sm3
    rw [i1 0 (by decide) (by decide) (by decide) (by decide), i1 15 (by decide) (by decide) (by decide) (by decide), i1 16 (by decide) (by decide) (by decide) (by decide)]
    exact s3
  · exact Safe_fn (i1 0 (by decide) (by decide) (by decide) (by decide)) (i1 1 (by decide) (by decide) (by decide) (by decide)) (i1 2 (by decide) (by decide) (by decide) (by decide)) (i1 3 (by decide) (by decide) (by decide) (by decide)) (i1 6 (by decide) (by decide) (by decide) (by decide)) (i1 13 (by decide) (by decide) (by decide) (by decide)) (i1 14 (by decide) (by decide) (by decide) (by decide)) (by rw [i2]) (by rw [i2]) (by rw [i2]) (by rw [i2]) h4
  · unfold Rk
    rw [i1 0 (by decide) (by decide) (by decide) (by decide), i1 1 (by decide) (by decide) (by decide) (by decide), i1 2 (by decide) (by decide) (by decide) (by decide), i1 3 (by decide) (by decide) (by decide) (by decide), i1 4 (by decide) (by decide) (by decide) (by decide), i1 5 (by decide) (by decide) (by decide) (by decide), i1 6 (by decide) (by decide) (by decide) (by decide), i1 7 (by decide) (by decide) (by decide) (by decide), k1 4 (by decide) (by decide), k1 5 (by decide) (by decide), k1 6 (by decide) (by decide), k1 7 (by decide) (by decide), k1 8 (by decide) (by decide), k1 9 (by decide) (by decide), k1 10 (by decide) (by decide), k1 11 (by decide) (by decide), i2, k2]
    exact r1
  · unfold Rg
    rw [i1 13 (by decide) (by decide) (by decide) (by decide), i1 14 (by decide) (by decide) (by decide) (by decide), i1 15 (by decide) (by decide) (by decide) (by decide), i1 16 (by decide) (by decide) (by decide) (by decide), i1 17 (by decide) (by decide) (by decide) (by decide), i1 18 (by decide) (by decide) (by decide) (by decide), i1 20 (by decide) (by decide) (by decide) (by decide), k1 14 (by decide) (by decide), k1 15 (by decide) (by decide), k1 16 (by decide) (by decide), k1 17 (by decide) (by decide), k1 19 (by decide) (by decide), k1 20 (by decide) (by decide), k1 18 (by decide) (by decide), i2, k2]
    exact r2
theorem ins_ne {f f' i i' : Nat} (hi : i < 16) (hi' : i' < 16) : (f' * 17 + i' = f * 17 + i) ↔ (f' * 16 + i' = f * 16 + i) := by omega
theorem A_code {C M : CS} (h : RR C M) (f i op a b c : Int32) : ∃ (r : Int32) (C2 : CS), (∀ (l : Launch) (D : va_G) (t : Nat → ClassId) (ad : Nat → Nat), Tr l → Cw l D t ad y_Law_code b_Law_code 8 [(0, 13, 16, 13)] [.ref (ad (ix 0 0)), .int f, .int i, .int op, .int a, .int b, .int c] C r C2) ∧ RR C2 (mcode M f i op a b c) ∧ (mcode M f i op a b c).1 21 0 = r := by
  unfold mcode
  by_cases hf : f < 0 ∨ 3 < f
  · rw [if_pos (hf.elim .inl (fun z => .inr (.inl z)))]
    exact ⟨1, C, fun l D t ad htr => w_Law_code_IAE (x_TCM_code1 htr hf) ⟨rfl, rfl, by decide, by decide, by decide, by decide⟩, RR_21 h, sI_self⟩
  have hf1 := fun z => hf (.inl z)
  have hf2 := fun z => hf (.inr z)
  by_cases hi : i < 0 ∨ 15 < i
  · rw [if_pos (.inr (.inr (hi.elim .inl (fun z => .inr (.inl z)))))]
    exact ⟨1, C, fun l D t ad htr => w_Law_code_IAE (x_TCM_code2 htr hf1 hf2 hi) ⟨rfl, rfl, by decide, by decide, by decide, by decide⟩, RR_21 h, sI_self⟩
  have hi1 := fun z => hi (.inl z)
  have hi2 := fun z => hi (.inr z)
  by_cases ho : op < -1 ∨ 21 < op
  · rw [if_pos (.inr (.inr (.inr (.inr ho))))]
    exact ⟨1, C, fun l D t ad htr => w_Law_code_IAE (x_TCM_code3 htr hf1 hf2 hi1 hi2 ho) ⟨rfl, rfl, by decide, by decide, by decide, by decide⟩, RR_21 h, sI_self⟩
  have ho1 := fun z => ho (.inl z)
  have ho2 := fun z => ho (.inr z)
  rw [if_neg (fun z => z.elim hf1 (fun z => z.elim hf2 (fun z => z.elim hi1 (fun z => z.elim hi2 (fun z => z.elim ho1 ho2)))))]
  obtain ⟨f, hf, rfl, ef⟩ := r_of (m := 3) (by decide) hf1 hf2
  obtain ⟨i, hi, rfl, ei⟩ := r_of (m := 15) (by decide) hi1 hi2
  unfold mcodeAt
  rw [ef, ei]
  refine ⟨0, _, fun l D t ad htr => w_Law_code (c_TCM_code (by omega) (by omega) ho1 ho2) ⟨rfl, rfl, by decide, by decide, by decide, by decide⟩, ⟨?_, ?_⟩, ?_⟩
  · have z4 := h.1.2.2.1.2.2.2
    have zi := h.1.2.2.2.2.2.2
    refine HH_ins h.1 (fun g g9 g10 g11 g12 => by rw [sI_f g12, sI_f g11, sI_f g10, sI_f g9]) rfl (fun g g4 g21 => by rw [sI_f (by omega), sI_f (by omega), sI_f (by omega), sI_f (by omega), sI_f g21]) rfl ⟨fun k hk => ?_, fun f' hf' => ?_⟩ (fun f' i' hf' hi' => ?_)
    · rw [sI_e (by decide), sI_e (by decide), sI_e (by decide), sI_1]
      split
      · rcases e_of (m := 21) (by decide) ho1 ho2 with ⟨z, -⟩ | ⟨o, o1, o2, -⟩
        · exact .inl z
        · exact .inr ⟨o, o1, o2⟩
      · exact z4.1 k hk
    · rw [sI_e (by decide), sI_e (by decide), sI_e (by decide), sI_1, if_neg (by rintro ⟨-, z⟩; omega)]
      exact z4.2 f' hf'
    · obtain ⟨q1, q2, q3, q4⟩ := zi f' i' hf' hi'
      have e := ins_ne (f := f) (f' := f') (i := i) (i' := i') (by omega) hi'
      by_cases z : f' * 17 + i' = f * 17 + i
      · have z' := e.1 z
        refine ⟨?_, ?_, ?_, ?_⟩ <;> simp [sI_1, z, z']
      · have z' : ¬ f' * 16 + i' = f * 16 + i := fun y => z (e.2 y)
        refine ⟨?_, ?_, ?_, ?_⟩ <;> simp [sI_1, z, z', q1, q2, q3, q4]
  · exact Stk_of (by rw [sI_f (by decide), sI_f (by decide), sI_f (by decide), sI_f (by decide)]) (by rw [sI_f (by decide), sI_f (by decide), sI_f (by decide), sI_f (by decide)]) (by rw [sI_f (by decide), sI_f (by decide), sI_f (by decide), sI_f (by decide)]) rfl (by rw [sI_f (by decide), sI_f (by decide), sI_f (by decide), sI_f (by decide), sI_f (by decide)]) (by rw [sI_f (by decide), sI_f (by decide), sI_f (by decide), sI_f (by decide), sI_f (by decide)]) h.2
  · rw [sI_e (by decide), sI_e (by decide), sI_e (by decide), sI_e (by decide)]; exact sI_self
theorem coll_all {d : Nat} {a : Nat → Nat} : ∀ (c : Nat) (x : Int32) (C M : CS), HH C M → Stk C M d a → HH (ccoll c C) (mcoll c x M).2 ∧ Stk (ccoll c C) (mcoll c x M).2 d a ∧ (ccoll c C).1 16 0 + x = C.1 16 0 + (mcoll c x M).1 ∧ (mcoll c x M).2.1 21 0 = M.1 21 0
  | 0, x, C, M, h, s => ⟨h, s, rfl, rfl⟩
  | c + 1, x, C, M, h, s => by
    obtain ⟨u1, u2, u3⟩ := unit_all h s
    obtain ⟨v1, v2, v3, v4⟩ := coll_all c (x + (munit M).1) _ _ u1 u2
    refine ⟨v1, v2, ?_, v4.trans (munit_e (by decide))⟩
    rw [u3] at v3
    show (ccoll c (cunit C)).1 16 0 + x = C.1 16 0 + (mcoll c (x + (munit M).1) (munit M).2).1
    have : (ccoll c (cunit C)).1 16 0 + (x + (munit M).1) = (C.1 16 0 + (mcoll c (x + (munit M).1) (munit M).2).1) + (munit M).1 := by rw [v3, Int32.add_assoc, Int32.add_comm (munit M).1, ← Int32.add_assoc]
    rw [← Int32.add_assoc] at this
    rw [← Int32.add_sub_cancel ((ccoll c (cunit C)).1 16 0 + x) (munit M).1, this, Int32.add_sub_cancel]
theorem A_collect {C M : CS} (h : RR C M) (n : Int32) : ∃ (r : Int32) (C2 : CS) (F : (Nat → Int64) → Nat → Int64), (∀ (l : Launch) (D : va_G) (t : Nat → ClassId) (ad : Nat → Nat) (f0 : Nat → Int64), Tr l → Cwo l D t ad y_Law_collect b_Law_collect 4 [(0, 9, 12, 13)] [.ref (ad (ix 0 0)), .int n, .ref (ad 171)] C f0 r C2 (F f0)) ∧ RR C2 (mcollect M n).2 ∧ (mcollect M n).2.1 21 0 = r ∧ (r = 0 → ∀ f0, F f0 0 = (mcollect M n).1.toInt64) := by
  unfold mcollect
  by_cases hn : n < 1 ∨ 100 < n
  · rw [if_pos hn]
    exact ⟨1, C, fun f0 => f0, fun l D t ad f0 htr => w_Law_collect_IAE (x_TCM_collect htr hn) ⟨rfl, rfl, by decide, by decide, by decide, by decide⟩, RR_21 h, sI_self, fun z => absurd z (by decide)⟩
  · rw [if_neg hn]
    obtain ⟨j, hj, rfl, ej⟩ := r_of (m := 100) (by decide) (fun z => hn (.inl (Int32.lt_trans z (by decide)))) (fun z => hn (.inr z))
    have j1 : 1 ≤ j := by
      rcases Nat.eq_zero_or_pos j with z | z
      · subst z; exact absurd (.inl (by decide)) hn
      · exact z
    rw [ej]
    have h' := RR_21 (v := 0) h
    obtain ⟨u1, u2, u3, u4⟩ := coll_all j 0 _ _ h'.1 h'.2
    refine ⟨0, ccoll j C, fun f0 => vp_updL f0 0 ((ccoll j C).1 16 0 - C.1 16 0).toInt64, fun l D t ad f0 htr => w_Law_collect (c_TCM_collect h.1.1 j1 hj) ⟨rfl, rfl, by decide, by decide, by decide, by decide⟩, ⟨u1, u2⟩, u4.trans sI_self, fun _ f0 => pk_uLs.trans ?_⟩
    rw [Int32.add_zero] at u3
    rw [u3, Int32.add_comm, Int32.add_sub_cancel]
theorem A_full {C M : CS} (h : RR C M) : RR (cfull C) (mwhole (sI M 21 0 0)).2 ∧ (cfull C).1 16 0 - C.1 16 0 = (mwhole (sI M 21 0 0)).1 := by
  have h' := RR_21 (v := 0) h
  obtain ⟨u1, u2, u3, -⟩ := full_all h'.1 h'.2
  refine ⟨⟨u1, u2⟩, ?_⟩
  rw [u3, Int32.add_comm, Int32.add_sub_cancel]
