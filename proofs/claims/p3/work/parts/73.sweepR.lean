/-! SWEEPING on both sides; a UNIT; a FULL COLLECTION -/
theorem sw_end {i : Nat} (hi : i < 16) : (nI (i + 1) = 16) ↔ i = 15 := by
  constructor
  · intro z
    have := (nI_eq (a := i + 1) (b := 16) (by omega) (by omega)).1 z
    omega
  · intro z; rw [z]; rfl
theorem csweep_f {C : CS} {i : Nat} (hi : i < 16) (hk : C.1 14 0 = nI i) : ((csweep C).1 0 = fun b => if (¬ C.1 0 i = 0 ∧ C.1 1 i = 0) ∧ b = i then 0 else C.1 0 b) ∧ ((csweep C).1 1 = fun b => if b = i then 0 else C.1 1 b) ∧ (csweep C).1 13 0 = (if i = 15 then 0 else C.1 13 0) ∧ (csweep C).1 14 0 = (if i = 15 then 0 else nI (i + 1)) ∧ (csweep C).1 16 0 = (if ¬ C.1 0 i = 0 ∧ C.1 1 i = 0 then C.1 16 0 + 1 else C.1 16 0) := by
  have ec : (nI i).toNatClampNeg = i := nI_clamp (by omega)
  have ee := sw_end hi
  unfold csweep
  simp only [hk, ec, nI_1, ee]
  by_cases c : ¬ C.1 0 i = 0 ∧ C.1 1 i = 0
  · obtain ⟨c1, c2⟩ := c
    by_cases e : i = 15
    · subst e
      refine ⟨funext fun b => ?_, funext fun b => ?_, ?_, ?_, ?_⟩ <;> simp [sI_1, c1, c2]
    · refine ⟨funext fun b => ?_, funext fun b => ?_, ?_, ?_, ?_⟩ <;> simp [sI_1, c1, c2, e]
  · by_cases e : i = 15
    · refine ⟨funext fun b => ?_, funext fun b => ?_, ?_, ?_, ?_⟩ <;> simp only [if_neg c, if_pos e, sI_1, false_and, if_false] <;> simp <;> (intro w1 w2; exact (c ⟨w1, w2⟩).elim)
    · refine ⟨funext fun b => ?_, funext fun b => ?_, ?_, ?_, ?_⟩ <;> simp only [if_neg c, if_neg e, sI_1, false_and, if_false] <;> simp <;> (intro w1 w2; exact (c ⟨w1, w2⟩).elim)
theorem msweep_f {M : CS} {i : Nat} (hi : i < 16) (hk : M.1 15 0 = nI i) : ((msweep M).2.1 4 = fun b => if (¬ M.1 4 i = 0 ∧ M.1 5 i = 0) ∧ b = i then 0 else M.1 4 b) ∧ ((msweep M).2.1 5 = fun b => if b = i then 0 else M.1 5 b) ∧ (msweep M).2.1 14 0 = (if i = 15 then 0 else M.1 14 0) ∧ (msweep M).2.1 15 0 = (if i = 15 then 0 else nI (i + 1)) ∧ (msweep M).2.1 17 0 = (if ¬ M.1 4 i = 0 ∧ M.1 5 i = 0 then M.1 17 0 + 1 else M.1 17 0) ∧ (msweep M).1 = (if ¬ M.1 4 i = 0 ∧ M.1 5 i = 0 then 1 else 0) := by
  have ec : (nI i).toNatClampNeg = i := nI_clamp (by omega)
  have ee := sw_end hi
  unfold msweep
  simp only [hk, ec, nI_1, ee]
  by_cases c : ¬ M.1 4 i = 0 ∧ M.1 5 i = 0
  · obtain ⟨c1, c2⟩ := c
    by_cases e : i = 15
    · subst e
      refine ⟨funext fun b => ?_, funext fun b => ?_, ?_, ?_, ?_, ?_⟩ <;> simp [sI_1, c1, c2]
    · refine ⟨funext fun b => ?_, funext fun b => ?_, ?_, ?_, ?_, ?_⟩ <;> simp [sI_1, c1, c2, e]
  · by_cases e : i = 15
    · refine ⟨funext fun b => ?_, funext fun b => ?_, ?_, ?_, ?_, ?_⟩ <;> simp only [if_neg c, if_pos e, sI_1, false_and, if_false] <;> simp <;> (intro w1 w2; exact (c ⟨w1, w2⟩).elim)
    · refine ⟨funext fun b => ?_, funext fun b => ?_, ?_, ?_, ?_, ?_⟩ <;> simp only [if_neg c, if_neg e, sI_1, false_and, if_false] <;> simp <;> (intro w1 w2; exact (c ⟨w1, w2⟩).elim)
theorem msweep_2 (M : CS) : (msweep M).2.2 = M.2 := by unfold msweep; simp only; split <;> split <;> rfl
theorem msweep_1 (M : CS) (f : Nat) (h0 : f ≠ 4) (h1 : f ≠ 5) (h2 : f ≠ 14) (h3 : f ≠ 15) (h4 : f ≠ 17) : (msweep M).2.1 f = M.1 f := by
  unfold msweep
  simp only
  split <;> split <;> simp only [sI_f h0, sI_f h1, sI_f h2, sI_f h3, sI_f h4]
theorem csweep_g (C : CS) (f : Nat) (h0 : f ≠ 0) (h1 : f ≠ 1) (h2 : f ≠ 13) (h3 : f ≠ 14) (h4 : f ≠ 16) : (csweep C).1 f = C.1 f := funext fun m => csweep_1 C f m h0 h1 h2 h3 h4
theorem refs_of {C' C : CS} {n m : Nat} (h0 : C'.1 0 n = C.1 0 n) (h2 : C'.1 2 n = C.1 2 n) (h3 : C'.1 3 n = C.1 3 n) (k : C'.2.1 = C.2.1) : refsC C' n m ↔ refsC C n m := by unfold refsC cPairs; rw [h0, h2, h3, k]
theorem meta_refs {C : CS} {n m : Nat} (hm : m < 16) (h0 : C.1 0 n = 1) (h : C.1 3 n = nI m) : refsC C n m := .inr ⟨by rw [h0]; decide, .inr ⟨by rw [h]; exact nI_pos (by omega), by rw [h, nI_clamp (by omega)]⟩⟩
theorem okM_sweep {M : CS} {i : Nat} (hi : i < 16) (hk : M.1 15 0 = nI i) (h : okM M) : okM (msweep M).2 := by
  obtain ⟨-, -, -, f15, -, -⟩ := msweep_f hi hk
  obtain ⟨a, b, c, d, e⟩ := h
  unfold okM
  rw [msweep_1 M 6 (by decide) (by decide) (by decide) (by decide) (by decide), msweep_1 M 7 (by decide) (by decide) (by decide) (by decide) (by decide), msweep_1 M 9 (by decide) (by decide) (by decide) (by decide) (by decide), msweep_1 M 11 (by decide) (by decide) (by decide) (by decide) (by decide), msweep_1 M 12 (by decide) (by decide) (by decide) (by decide) (by decide), msweep_1 M 13 (by decide) (by decide) (by decide) (by decide) (by decide), msweep_2, f15]
  refine ⟨a, b, ?_, d, e⟩
  split
  · exact ⟨0, by omega, rfl⟩
  · exact ⟨i + 1, by omega, rfl⟩
theorem sweep_all {C M : CS} {d : Nat} {a : Nat → Nat} (h : HH C M) (s : Stk C M d a) (hp : C.1 13 0 = 2) : HH (cunit1 C) (munit1 M).2 ∧ Stk (cunit1 C) (munit1 M).2 d a ∧ (cunit1 C).1 16 0 = C.1 16 0 + (munit1 M).1 := by
  obtain ⟨h1, h2, ⟨m1, m2, m3, m4⟩, ⟨f1, f2, f3, f4⟩, h5⟩ := h
  obtain ⟨i, hi, hk⟩ := h1.2.2.1
  have hkM : M.1 15 0 = nI i := by rw [← h5.2.1.2.2.1]; exact hk
  obtain ⟨a0, a1, a13, a14, a16⟩ := csweep_f hi hk
  obtain ⟨b4, b5, b14, b15, b17, bw⟩ := msweep_f hi hkM
  have q14 : M.1 14 0 = 2 := by rw [← h5.2.1.2.1]; exact hp
  rw [← (h5.1 i hi).1.1, ← (h5.1 i hi).1.2] at b4 b17 bw
  have esw : cSw C = i := by unfold cSw; rw [hk]; exact nI_clamp (by omega)
  have esw' : cSw (csweep C) = if i = 15 then 0 else i + 1 := by
    unfold cSw
    rw [a14]
    split
    · rfl
    · exact nI_clamp (by omega)
  have eC : cunit1 C = csweep C := by unfold cunit1; rw [if_pos hp]
  have eM : munit1 M = msweep M := by unfold munit1; rw [if_neg (by rw [q14]; decide), if_neg (by rw [q14]; decide)]
  rw [eC, eM]
  have kk : ∀ n, ¬ (csweep C).1 0 n = 0 → (csweep C).1 0 n = C.1 0 n := fun n z => by
    rw [a0] at z ⊢
    simp only at z ⊢
    split
    · rename_i w
      rw [if_pos w] at z
      exact (z rfl).elim
    · rfl
  have hl : ∀ m, m < 16 → (live (csweep C) m ↔ live C m) := fun m hm => by
    unfold live
    rw [esw', esw, a13, a0, a1]
    simp only
    by_cases e : i = 15
    · rw [if_pos e, if_pos e]
      by_cases q : m = i
      · subst q
        by_cases c : ¬ C.1 0 m = 0 ∧ C.1 1 m = 0
        · rw [if_pos ⟨c, rfl⟩]
          exact ⟨fun z => (z.1 rfl).elim, fun z => ((z.2 hp).elim (fun y => y c.2) (fun y => Nat.lt_irrefl _ y)).elim⟩
        · rw [if_neg (fun z => c z.1)]
          exact ⟨fun z => ⟨z.1, fun _ => .inl (fun y => c ⟨z.1, y⟩)⟩, fun z => ⟨z.1, fun y => absurd y (by decide)⟩⟩
      · rw [if_neg (fun z => q z.2)]
        exact ⟨fun z => ⟨z.1, fun _ => .inr (by omega)⟩, fun z => ⟨z.1, fun y => absurd y (by decide)⟩⟩
    · rw [if_neg e, if_neg e]
      by_cases q : m = i
      · subst q
        by_cases c : ¬ C.1 0 m = 0 ∧ C.1 1 m = 0
        · rw [if_pos ⟨c, rfl⟩]
          exact ⟨fun z => (z.1 rfl).elim, fun z => ((z.2 hp).elim (fun y => y c.2) (fun y => Nat.lt_irrefl _ y)).elim⟩
        · rw [if_neg (fun z => c z.1)]
          exact ⟨fun z => ⟨z.1, fun _ => .inl (fun y => c ⟨z.1, y⟩)⟩, fun z => ⟨z.1, fun _ => .inr (by omega)⟩⟩
      · rw [if_neg (fun z => q z.2), if_neg q]
        exact ⟨fun z => ⟨z.1, fun y => (z.2 y).elim .inl (fun w => .inr (by omega))⟩, fun z => ⟨z.1, fun y => (z.2 y).elim .inl (fun w => .inr (by omega))⟩⟩
  have g6 := csweep_g C 6 (by decide) (by decide) (by decide) (by decide) (by decide)
  have g2 := csweep_g C 2 (by decide) (by decide) (by decide) (by decide) (by decide)
  have g3 := csweep_g C 3 (by decide) (by decide) (by decide) (by decide) (by decide)
  have ca : ∀ n, n < 16 → (cactive (csweep C) n = true ↔ cactive C n = true) := fun n hn => by
    rw [cactive_iff, cactive_iff, g6]
    constructor
    · rintro ⟨z, y⟩
      rw [kk n (by rw [z]; decide)] at z
      exact ⟨z, y⟩
    · rintro ⟨z, y⟩
      have : live C n := f1 n hn (.inr ⟨n, hn, cactive_iff.2 ⟨z, y⟩, .inl rfl⟩)
      have l' := (hl n hn).2 this
      rw [kk n l'.1]
      exact ⟨z, y⟩
  refine ⟨⟨?_, okM_sweep hi hkM h2, ⟨?_, ⟨?_, ?_, ?_, ?_⟩, ?_, ?_⟩, ⟨?_, ?_, ?_, ?_⟩, ⟨?_, ?_, ?_⟩⟩, ?_, ?_⟩
  · exact okC_of h1 (fun f hf n => csweep_1 _ f n (by omega) (by omega) (by omega) (by omega) (by omega)) (csweep_2 _) (csweep_14 _ hi hk)
  · intro n hn
    obtain ⟨k1, k2, k3, k4⟩ := m1 n hn
    rw [a0, a1, g6]
    simp only
    refine ⟨?_, ?_, ?_, k4⟩
    · split
      · exact .inl rfl
      · exact k1
    · split
      · exact .inl rfl
      · exact k2
    · intro z
      by_cases q : n = i
      · rw [if_pos q]
      · rw [if_neg q]
        rw [if_neg (fun y => q y.2)] at z
        exact k3 z
  · rw [a13]
    split
    · exact .inl rfl
    · exact m2.1
  · rw [a13, a14]
    intro z
    split
    · rfl
    · rename_i e
      rw [if_neg e] at z
      exact (z hp).elim
  · rw [a13, a1]
    intro z n hn
    by_cases e : i = 15
    · by_cases q : n = i
      · simp only [if_pos q]
      · simp only [if_neg q]
        exact m2.2.2.2 hp n (by omega)
    · rw [if_neg e, hp] at z
      exact absurd z (by decide)
  · rw [a13, a1, esw']
    intro z n hn
    by_cases e : i = 15
    · rw [if_pos e] at z
      exact absurd z (by decide)
    · rw [if_neg e] at hn
      by_cases q : n = i
      · simp only [if_pos q]
      · simp only [if_neg q]
        exact m2.2.2.2 hp n (by omega)
  · unfold Sm3
    rw [csweep_g C 15 (by decide) (by decide) (by decide) (by decide) (by decide), a16, a0]
    by_cases c : ¬ C.1 0 i = 0 ∧ C.1 1 i = 0
    · rw [if_pos c]
      have hcu : cntK (C.1 0) = cntK (fun b => if (¬ C.1 0 i = 0 ∧ C.1 1 i = 0) ∧ b = i then 0 else C.1 0 b) + 1 := cntK_up hi (if_pos ⟨c, rfl⟩) c.1 (fun j hj => (if_neg (fun z => hj z.2)).symm)
      have e3 : C.1 15 0 - C.1 16 0 = nI (cntK (fun b => if (¬ C.1 0 i = 0 ∧ C.1 1 i = 0) ∧ b = i then 0 else C.1 0 b) + 1) := by rw [← hcu]; exact m3
      rw [← nI_1] at e3
      generalize nI (cntK fun b => if (¬ C.1 0 i = 0 ∧ C.1 1 i = 0) ∧ b = i then 0 else C.1 0 b) = X at e3 ⊢
      generalize C.1 15 0 = A at e3 ⊢
      generalize C.1 16 0 = B at e3 ⊢
      grind
    · rw [if_neg c]
      have : (fun b => if (¬ C.1 0 i = 0 ∧ C.1 1 i = 0) ∧ b = i then 0 else C.1 0 b) = C.1 0 := funext fun b => if_neg (fun z => c z.1)
      rw [this]
      exact m3
  · unfold Sm4
    rw [csweep_g C 9 (by decide) (by decide) (by decide) (by decide) (by decide)]
    exact m4
  · intro m hm z
    refine (hl m hm).2 (f1 m hm ?_)
    unfold rootsC at z ⊢
    rw [csweep_2] at z
    rcases z with z | ⟨n, hn, y, z⟩
    · exact .inl z
    · exact .inr ⟨n, hn, (ca n hn).1 y, z⟩
  · intro n m hn hm l z
    rw [refs_of (kk n l.1) (by rw [g2]) (by rw [g3]) (by rw [csweep_2])] at z
    exact (hl m hm).2 (f2 n m hn hm ((hl n hn).1 l) z)
  · rw [a13]
    intro z
    by_cases e : i = 15
    · rw [if_pos e] at z; exact absurd z (by decide)
    · rw [if_neg e, hp] at z; exact absurd z (by decide)
  · intro n m hn hm l z y
    rw [kk n l.1] at z
    rw [g3] at y
    have ln := (hl n hn).1 l
    have lm := (hl m hm).2 (f2 n m hn hm ln (meta_refs hm z y))
    rw [kk m lm.1]
    exact f4 n m hn hm ln z y
  · intro n hn
    obtain ⟨⟨r1, r2⟩, r3, r4, r5, r6⟩ := h5.1 n hn
    rw [g2, g3, g6, csweep_g C 4 (by decide) (by decide) (by decide) (by decide) (by decide), csweep_g C 5 (by decide) (by decide) (by decide) (by decide) (by decide), csweep_g C 7 (by decide) (by decide) (by decide) (by decide) (by decide), csweep_2, msweep_1 M 6 (by decide) (by decide) (by decide) (by decide) (by decide), msweep_1 M 7 (by decide) (by decide) (by decide) (by decide) (by decide), msweep_1 M 8 (by decide) (by decide) (by decide) (by decide) (by decide), msweep_1 M 9 (by decide) (by decide) (by decide) (by decide) (by decide), msweep_1 M 10 (by decide) (by decide) (by decide) (by decide) (by decide), msweep_1 M 11 (by decide) (by decide) (by decide) (by decide) (by decide), msweep_2]
    refine ⟨⟨?_, ?_⟩, fun z => r3 ?_, fun z => r4 ?_, fun z => r5 ?_, r6⟩
    · rw [a0, b4]
      simp only
      split
      · rfl
      · exact r1
    · rw [a1, b5]
      simp only
      split
      · rfl
      · exact r2
    · rw [kk n (by rw [z]; decide)] at z; exact z
    · rw [kk n (by rw [z]; decide)] at z; exact z
    · rw [kk n (by rw [z]; decide)] at z; exact z
  · obtain ⟨g0, p1, p2, p3, p4, p5, p6, p7⟩ := h5.2.1
    unfold Rg
    rw [csweep_2, msweep_2, a13, b14, a14, b15, a16, b17, csweep_g C 15 (by decide) (by decide) (by decide) (by decide) (by decide), csweep_g C 17 (by decide) (by decide) (by decide) (by decide) (by decide), csweep_g C 18 (by decide) (by decide) (by decide) (by decide) (by decide), csweep_g C 20 (by decide) (by decide) (by decide) (by decide) (by decide), msweep_1 M 16 (by decide) (by decide) (by decide) (by decide) (by decide), msweep_1 M 18 (by decide) (by decide) (by decide) (by decide) (by decide), msweep_1 M 19 (by decide) (by decide) (by decide) (by decide) (by decide), msweep_1 M 20 (by decide) (by decide) (by decide) (by decide) (by decide), ← p1, ← p4]
    exact ⟨g0, rfl, rfl, p3, rfl, p5, p6, p7⟩
  · unfold Ri
    rw [csweep_g C 9 (by decide) (by decide) (by decide) (by decide) (by decide), csweep_g C 10 (by decide) (by decide) (by decide) (by decide) (by decide), csweep_g C 11 (by decide) (by decide) (by decide) (by decide) (by decide), csweep_g C 12 (by decide) (by decide) (by decide) (by decide) (by decide), msweep_1 M 0 (by decide) (by decide) (by decide) (by decide) (by decide), msweep_1 M 1 (by decide) (by decide) (by decide) (by decide) (by decide), msweep_1 M 2 (by decide) (by decide) (by decide) (by decide) (by decide), msweep_1 M 3 (by decide) (by decide) (by decide) (by decide) (by decide)]
    exact h5.2.2
  · obtain ⟨s1, s2, s3, s4, s5, s6⟩ := s
    unfold Stk
    rw [csweep_g C 19 (by decide) (by decide) (by decide) (by decide) (by decide), msweep_1 M 12 (by decide) (by decide) (by decide) (by decide) (by decide), msweep_1 M 13 (by decide) (by decide) (by decide) (by decide) (by decide), csweep_2]
    refine ⟨s1, s2, s3, fun j hj => ?_, s5, fun n hn z => s6 n hn ((ca n hn).1 z)⟩
    obtain ⟨t1, t2, t3, t4⟩ := s4 j hj
    exact ⟨t1, t2, t3, (ca _ t1).2 t4⟩
  · rw [a16, bw]
    split
    · rfl
    · rw [Int32.add_zero]
theorem unit1_all {C M : CS} {d : Nat} {a : Nat → Nat} (h : HH C M) (s : Stk C M d a) : HH (cunit1 C) (munit1 M).2 ∧ Stk (cunit1 C) (munit1 M).2 d a ∧ (cunit1 C).1 16 0 = C.1 16 0 + (munit1 M).1 := by
  rcases h.2.2.1.2.1.1 with z | z | z
  · exact start_all h s z
  · exact mark_all h s z
  · exact sweep_all h s z
theorem unit_all {C M : CS} {d : Nat} {a : Nat → Nat} (h : HH C M) (s : Stk C M d a) : HH (cunit C) (munit M).2 ∧ Stk (cunit C) (munit M).2 d a ∧ (cunit C).1 16 0 = C.1 16 0 + (munit M).1 := by
  rw [cunit_1, munit_1]
  have e : C.1 17 0 + 1 = M.1 19 0 + 1 := by rw [h.2.2.2.2.2.1.2.2.2.2.2.1]
  rw [e]
  have h' := HH_cnt (f := 17) (g := 19) (v := M.1 19 0 + 1) (.inl ⟨rfl, rfl⟩) h
  have s' : Stk (sI C 17 0 (M.1 19 0 + 1)) (sI M 19 0 (M.1 19 0 + 1)) d a := Stk_of (sI_f (by decide)) (sI_f (by decide)) (sI_f (by decide)) rfl (sI_f (by decide)) (sI_f (by decide)) s
  obtain ⟨u1, u2, u3⟩ := unit1_all h' s'
  exact ⟨u1, u2, by rw [u3, sI_e (by decide)]⟩
theorem while_all {d : Nat} {a : Nat → Nat} : ∀ (c : Nat) (x : Int32) (C M : CS), HH C M → Stk C M d a → HH (cwhile c C) (mwhile c x M).2 ∧ Stk (cwhile c C) (mwhile c x M).2 d a ∧ (cwhile c C).1 16 0 + x = C.1 16 0 + (mwhile c x M).1
  | 0, x, C, M, h, s => ⟨h, s, rfl⟩
  | c + 1, x, C, M, h, s => by
    have e : C.1 13 0 = M.1 14 0 := h.2.2.2.2.2.1.2.1
    unfold cwhile mwhile
    by_cases z : C.1 13 0 = 0
    · rw [if_pos z, if_pos (by rw [← e]; exact z)]
      exact ⟨h, s, rfl⟩
    · rw [if_neg z, if_neg (by rw [← e]; exact z)]
      obtain ⟨u1, u2, u3⟩ := unit_all h s
      obtain ⟨w1, w2, w3⟩ := while_all c (x + (munit M).1) (cunit C) (munit M).2 u1 u2
      refine ⟨w1, w2, ?_⟩
      rw [u3] at w3
      generalize (cwhile c (cunit C)).1 16 0 = P at w3 ⊢
      generalize (mwhile c (x + (munit M).1) (munit M).2).1 = Q at w3 ⊢
      generalize (munit M).1 = W at w3 ⊢
      generalize C.1 16 0 = G at w3 ⊢
      grind
theorem mwhile_end : ∀ (c : Nat) (x : Int32) (M : CS), okM M → mu M ≤ c → (mwhile c x M).2.1 14 0 = 0
  | 0, x, M, h, z => mu_0 (M := M) h (Nat.le_zero.1 z)
  | c + 1, x, M, h, z => by
    unfold mwhile
    by_cases y : M.1 14 0 = 0
    · rw [if_pos y]; exact y
    · rw [if_neg y]
      exact mwhile_end c _ _ (okM_unit h) (by have := mu_unit h y; omega)
theorem full_all {C M : CS} {d : Nat} {a : Nat → Nat} (h : HH C M) (s : Stk C M d a) : HH (cfull C) (mwhole M).2 ∧ Stk (cfull C) (mwhole M).2 d a ∧ (cfull C).1 16 0 = C.1 16 0 + (mwhole M).1 ∧ (cfull C).1 13 0 = 0 := by
  have e : C.1 18 0 + 1 = M.1 20 0 + 1 := by rw [h.2.2.2.2.2.1.2.2.2.2.2.2.1]
  have h' := HH_cnt (f := 18) (g := 20) (v := M.1 20 0 + 1) (.inr (.inl ⟨rfl, rfl⟩)) h
  have s' : Stk (sI C 18 0 (M.1 20 0 + 1)) (sI M 20 0 (M.1 20 0 + 1)) d a := Stk_of (sI_f (by decide)) (sI_f (by decide)) (sI_f (by decide)) rfl (sI_f (by decide)) (sI_f (by decide)) s
  obtain ⟨w1, w2, w3⟩ := while_all 1000 0 _ _ h' s'
  obtain ⟨u1, u2, u3⟩ := unit_all w1 w2
  obtain ⟨v1, v2, v3⟩ := while_all 1000 ((mwhile 1000 0 (sI M 20 0 (M.1 20 0 + 1))).1 + (munit (mwhile 1000 0 (sI M 20 0 (M.1 20 0 + 1))).2).1) _ _ u1 u2
  unfold cfull mwhole
  rw [e]
  refine ⟨v1, v2, ?_, ?_⟩
  · show (cwhile 1000 (cunit (cwhile 1000 (sI C 18 0 (M.1 20 0 + 1))))).1 16 0 = C.1 16 0 + (mwhile 1000 ((mwhile 1000 0 (sI M 20 0 (M.1 20 0 + 1))).1 + (munit (mwhile 1000 0 (sI M 20 0 (M.1 20 0 + 1))).2).1) (munit (mwhile 1000 0 (sI M 20 0 (M.1 20 0 + 1))).2).2).1
    rw [u3] at v3
    rw [sI_e (by decide)] at w3
    generalize (mwhile 1000 ((mwhile 1000 0 (sI M 20 0 (M.1 20 0 + 1))).1 + (munit (mwhile 1000 0 (sI M 20 0 (M.1 20 0 + 1))).2).1) (munit (mwhile 1000 0 (sI M 20 0 (M.1 20 0 + 1))).2).2).1 = R at v3 ⊢
    generalize (cwhile 1000 (cunit (cwhile 1000 (sI C 18 0 (M.1 20 0 + 1))))).1 16 0 = T at v3 ⊢
    generalize (munit (mwhile 1000 0 (sI M 20 0 (M.1 20 0 + 1))).2).1 = W at v3 ⊢
    generalize (mwhile 1000 0 (sI M 20 0 (M.1 20 0 + 1))).1 = X at v3 w3 ⊢
    generalize (cwhile 1000 (sI C 18 0 (M.1 20 0 + 1))).1 16 0 = Y at v3 w3 ⊢
    generalize C.1 16 0 = G at w3 ⊢
    grind
  · have := mwhile_end 1000 ((mwhile 1000 0 (sI M 20 0 (M.1 20 0 + 1))).1 + (munit (mwhile 1000 0 (sI M 20 0 (M.1 20 0 + 1))).2).1) (munit (mwhile 1000 0 (sI M 20 0 (M.1 20 0 + 1))).2).2 u1.2.1 (by have := mu_50 (munit (mwhile 1000 0 (sI M 20 0 (M.1 20 0 + 1))).2).2; omega)
    rw [← v1.2.2.2.2.2.1.2.1] at this
    exact this
/-! what a UNIT leaves as it was -/
theorem cunit_e {C : CS} {f : Nat} (hf : f ≠ 0 ∧ f ≠ 1 ∧ f ≠ 13 ∧ f ≠ 14 ∧ f ≠ 16 ∧ f ≠ 17) : (cunit C).1 f = C.1 f := by
  obtain ⟨f0, f1, f13, f14, f16, f17⟩ := hf
  rw [cunit_1]
  have e : (sI C 17 0 (C.1 17 0 + 1)).1 f = C.1 f := sI_f f17
  generalize sI C 17 0 (C.1 17 0 + 1) = D at e
  rw [← e]
  unfold cunit1
  split
  · exact csweep_g D f f0 f1 f13 f14 f16
  · split
    · exact eq1_fn (eq1_blacken D _) f f1
    · rw [sI_f f13]; exact eq1_fn (eq1_roots D) f f1
theorem cunit_2 {C : CS} : (cunit C).2 = C.2 := by
  rw [cunit_1]
  show (cunit1 (sI C 17 0 (C.1 17 0 + 1))).2 = (sI C 17 0 (C.1 17 0 + 1)).2
  generalize sI C 17 0 (C.1 17 0 + 1) = D
  unfold cunit1
  split
  · exact csweep_2 D
  · split
    · exact cblacken_2 D _
    · exact cshadeRoots_2 D
theorem cwhile_e {f : Nat} (hf : f ≠ 0 ∧ f ≠ 1 ∧ f ≠ 13 ∧ f ≠ 14 ∧ f ≠ 16 ∧ f ≠ 17) : ∀ (c : Nat) (C : CS), (cwhile c C).1 f = C.1 f ∧ (cwhile c C).2 = C.2
  | 0, _ => ⟨rfl, rfl⟩
  | c + 1, C => by
    unfold cwhile
    split
    · exact ⟨rfl, rfl⟩
    · obtain ⟨h1, h2⟩ := cwhile_e hf c (cunit C)
      exact ⟨h1.trans (cunit_e hf), h2.trans cunit_2⟩
theorem cfull_e {C : CS} {f : Nat} (hf : f ≠ 0 ∧ f ≠ 1 ∧ f ≠ 13 ∧ f ≠ 14 ∧ f ≠ 16 ∧ f ≠ 17) (h18 : f ≠ 18) : (cfull C).1 f = C.1 f := by
  unfold cfull
  rw [(cwhile_e hf _ _).1, cunit_e hf, (cwhile_e hf _ _).1, sI_f h18]
theorem cfull_2 {C : CS} : (cfull C).2 = C.2 := by
  unfold cfull
  rw [(cwhile_e (f := 2) (by decide) _ _).2, cunit_2, (cwhile_e (f := 2) (by decide) _ _).2]
  rfl
theorem mwhile_e {g b : Nat} (hg : g ≠ 4 ∧ g ≠ 5 ∧ g ≠ 14 ∧ g ≠ 15 ∧ g ≠ 17 ∧ g ≠ 19) : ∀ (c : Nat) (x : Int32) (M : CS), (mwhile c x M).2.1 g b = M.1 g b
  | 0, _, _ => rfl
  | c + 1, x, M => by
    unfold mwhile
    split
    · rfl
    · rw [mwhile_e hg c]; exact munit_e hg
theorem mwhole_e {M : CS} {g b : Nat} (hg : g ≠ 4 ∧ g ≠ 5 ∧ g ≠ 14 ∧ g ≠ 15 ∧ g ≠ 17 ∧ g ≠ 19) (h20 : g ≠ 20) : (mwhole M).2.1 g b = M.1 g b := by
  unfold mwhole
  simp only
  rw [mwhile_e hg, munit_e hg, mwhile_e hg, sI_e h20]
