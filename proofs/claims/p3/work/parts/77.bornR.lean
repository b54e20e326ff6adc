/-! A NEW OBJECT on both sides -/
theorem okC_4 {C : CS} {n q : Nat} (h : okC C) (hq : q < 4) : okC (sI C 4 n (nI q)) := by
  obtain ⟨a, b, c, d⟩ := h
  refine ⟨fun m hm => ?_, b, ?_, ?_⟩
  · obtain ⟨a1, a2, a3, a4⟩ := a m hm
    refine ⟨a1, a2, ?_, a4⟩
    rw [sI_1]
    split
    · exact ⟨q, hq, rfl⟩
    · exact a3
  · rw [sI_o (by decide)]; exact c
  · rw [sI_o (by decide)]; exact d
theorem okC_5 {C : CS} {n q : Nat} (h : okC C) (hq : q ≤ 16) : okC (sI C 5 n (nI q)) := by
  obtain ⟨a, b, c, d⟩ := h
  refine ⟨fun m hm => ?_, b, ?_, ?_⟩
  · obtain ⟨a1, a2, a3, a4, a5⟩ := a m hm
    refine ⟨a1, a2, a3, ?_, a5⟩
    rw [sI_1]
    split
    · exact ⟨q, hq, rfl⟩
    · exact a4
  · rw [sI_o (by decide)]; exact c
  · rw [sI_o (by decide)]; exact d
def cborn (C : CS) (n : Nat) (k f : Int32) : CS :=
    let C1 := sI C 0 n k
    let C2 := sI C1 1 n (cbirth C1 n)
    let C3 := if k = 1 then tclear C2 n else cclear C2 n f
    sJ (sI C3 15 0 (C3.1 15 0 + 1)) 4 0 0 (10000000000 + (nI n).toInt64)
/-- what a birth makes of the class's state, field by field -/
def bornC (D C : CS) (n : Nat) (k f : Int32) : Prop :=
  (D.1 0 = fun b => if b = n then k else C.1 0 b) ∧ (D.1 1 = fun b => if b = n then cbirth C n else C.1 1 b) ∧ (∀ g, g ≠ 0 → g ≠ 1 → g ≠ 15 → ∀ b, b ≠ n → D.1 g b = C.1 g b) ∧ (∀ g, 8 ≤ g → g ≠ 15 → D.1 g = C.1 g) ∧ D.1 15 0 = C.1 15 0 + 1 ∧
  (k = 1 → D.1 2 n = 0 ∧ D.1 3 n = -1 ∧ D.1 6 n = C.1 6 n) ∧ (k = 2 → D.1 4 n = f ∧ D.1 5 n = 0 ∧ D.1 6 n = 0 ∧ D.1 7 n = 0 ∧ ∀ i, i < 4 → D.2.1 3 n i = -1000000000000) ∧
  (∀ g, g ≠ 3 → g ≠ 4 → D.2.1 g = C.2.1 g) ∧ (∀ b, b ≠ n → D.2.1 3 b = C.2.1 3 b) ∧ D.2.1 4 0 0 = 10000000000 + (nI n).toInt64 ∧ D.2.2 = C.2.2
theorem cbirth_0 {C : CS} {n : Nat} {k : Int32} : cbirth (sI C 0 n k) n = cbirth C n := by unfold cbirth; rw [sI_e (by decide), sI_e (by decide)]
theorem cborn_f {C : CS} {n : Nat} {k f : Int32} (hk : k = 1 ∨ k = 2) : bornC (cborn C n k f) C n k f := by
  rcases hk with rfl | rfl
  · unfold cborn
    simp only [if_true, cbirth_0]
    unfold tclear
    refine ⟨?_, ?_, ?_, ?_, ?_, ?_, ?_, ?_, ?_, ?_, rfl⟩
    · funext b
      rw [sJ_1, sI_e (by decide), sI_e (by decide), sI_e (by decide), sI_e (by decide), sI_1]
      simp
    · funext b
      rw [sJ_1, sI_e (by decide), sI_e (by decide), sI_e (by decide), sI_1, sI_e (by decide)]
      simp
    · intro g h0 h1 h15 b hb
      rw [sJ_1, sI_e h15, sI_n hb, sI_n hb, sI_n hb, sI_n hb]
    · intro g h8 h15
      rw [sJ_1, sI_f h15, sI_f (by omega), sI_f (by omega), sI_f (by omega), sI_f (by omega)]
    · rw [sJ_1, sI_self, sI_e (by decide), sI_e (by decide), sI_e (by decide), sI_e (by decide)]
    · intro _
      rw [sJ_1]
      exact ⟨by rw [sI_e (by decide), sI_e (by decide), sI_self], by rw [sI_e (by decide), sI_self], by rw [sI_e (by decide), sI_e (by decide), sI_e (by decide), sI_e (by decide), sI_e (by decide)]⟩
    · intro z
      exact absurd z (by decide)
    · intro g h3 h4
      rw [sJ_f h4]
      rfl
    · intro b hb
      rw [sJ_f (by decide)]
      rfl
    · rw [sJ_2, if_pos ⟨rfl, rfl, rfl⟩]
  · unfold cborn
    simp only [show ¬ (2 : Int32) = 1 by decide, if_false, cbirth_0]
    unfold cclear
    refine ⟨?_, ?_, ?_, ?_, ?_, ?_, ?_, ?_, ?_, ?_, rfl⟩
    · funext b
      rw [sJ_1, sI_e (by decide), sI_e (by decide), sI_e (by decide), sI_e (by decide), sI_e (by decide), sR_1, sI_e (by decide), sI_1]
      simp
    · funext b
      rw [sJ_1, sI_e (by decide), sI_e (by decide), sI_e (by decide), sI_e (by decide), sI_e (by decide), sR_1, sI_1, sI_e (by decide)]
      simp
    · intro g h0 h1 h15 b hb
      rw [sJ_1, sI_e h15, sI_n hb, sI_n hb, sI_n hb, sI_n hb, sR_1, sI_n hb, sI_n hb]
    · intro g h8 h15
      rw [sJ_1, sI_f h15, sI_f (by omega), sI_f (by omega), sI_f (by omega), sI_f (by omega), sR_1, sI_f (by omega), sI_f (by omega)]
    · rw [sJ_1, sI_self, sI_e (by decide), sI_e (by decide), sI_e (by decide), sI_e (by decide), sR_1, sI_e (by decide), sI_e (by decide)]
    · intro z
      exact absurd z (by decide)
    · intro _
      rw [sJ_1]
      refine ⟨by rw [sI_e (by decide), sI_e (by decide), sI_e (by decide), sI_e (by decide), sI_self], by rw [sI_e (by decide), sI_e (by decide), sI_e (by decide), sI_self], by rw [sI_e (by decide), sI_e (by decide), sI_self], by rw [sI_e (by decide), sI_self], fun i hi => ?_⟩
      rw [sJ_f (by decide), sI_2f, sI_2f, sI_2f, sI_2f, sI_2f, sR_2, if_pos ⟨rfl, rfl⟩]
      unfold fil
      rw [if_pos hi]
    · intro g h3 h4
      rw [sJ_f h4, sI_2f, sI_2f, sI_2f, sI_2f, sI_2f, sR_f h3]
      rfl
    · intro b hb
      rw [sJ_f (by decide), sI_2f, sI_2f, sI_2f, sI_2f, sI_2f, sR_n hb]
      rfl
    · rw [sJ_2, if_pos ⟨rfl, rfl, rfl⟩]
def bornM (E M : CS) (n : Nat) (k g : Int32) : Prop :=
  (E.1 4 = fun b => if b = n then k else M.1 4 b) ∧ (E.1 5 = fun b => if b = n then (if M.1 14 0 = 1 ∨ (M.1 14 0 = 2 ∧ ¬ nI n < M.1 15 0) then 2 else 0) else M.1 5 b) ∧ (∀ q, q ≠ 16 → ∀ b, b ≠ n → E.1 q b = M.1 q b) ∧ (∀ q, q < 4 ∨ 10 < q → q ≠ 16 → E.1 q = M.1 q) ∧ E.1 16 0 = M.1 16 0 + 1 ∧
  (E.1 6 n = 0 ∧ E.1 7 n = -1 ∧ E.1 8 n = g ∧ E.1 9 n = 0 ∧ E.1 10 n = 0) ∧ (∀ q, q ≠ 3 → E.2.1 q = M.2.1 q) ∧ (∀ x, E.2.1 3 0 x = if n * 4 ≤ x ∧ x < n * 4 + 4 then -1000000000000 else M.2.1 3 0 x) ∧ E.2.2 = M.2.2
theorem mfill_f {n : Nat} {M : CS} : (mfill n 4 0 M).1 = M.1 ∧ (∀ q, q ≠ 3 → (mfill n 4 0 M).2.1 q = M.2.1 q) ∧ (∀ x, (mfill n 4 0 M).2.1 3 0 x = if n * 4 ≤ x ∧ x < n * 4 + 4 then -1000000000000 else M.2.1 3 0 x) ∧ (mfill n 4 0 M).2.2 = M.2.2 := by
  refine ⟨rfl, fun q hq => ?_, fun x => ?_, rfl⟩
  · show (sJ (sJ (sJ (sJ M 3 0 (n * 4 + 0) (-1000000000000)) 3 0 (n * 4 + 1) (-1000000000000)) 3 0 (n * 4 + 2) (-1000000000000)) 3 0 (n * 4 + 3) (-1000000000000)).2.1 q = _
    rw [sJ_f hq, sJ_f hq, sJ_f hq, sJ_f hq]
  · show (sJ (sJ (sJ (sJ M 3 0 (n * 4 + 0) (-1000000000000)) 3 0 (n * 4 + 1) (-1000000000000)) 3 0 (n * 4 + 2) (-1000000000000)) 3 0 (n * 4 + 3) (-1000000000000)).2.1 3 0 x = _
    simp only [sJ_2]
    grind
theorem mborn_f {M : CS} {n : Nat} {k g : Int32} : bornM (mborn M n k g) M n k g := by
  unfold bornM mborn
  simp only
  generalize (if M.1 14 0 = 1 ∨ M.1 14 0 = 2 ∧ ¬nI n < M.1 15 0 then (2 : Int32) else 0) = w
  obtain ⟨a1, a2, a3, a4⟩ := mfill_f (n := n) (M := sI (sI (sI (sI (sI (sI (sI M 4 n k) 5 n w) 6 n 0) 7 n (-1)) 8 n g) 9 n 0) 10 n 0)
  refine ⟨?_, ?_, ?_, ?_, ?_, ⟨?_, ?_, ?_, ?_, ?_⟩, ?_, ?_, ?_⟩
  · funext b
    rw [sI_e (by decide), a1, sI_e (by decide), sI_e (by decide), sI_e (by decide), sI_e (by decide), sI_e (by decide), sI_e (by decide), sI_1]
    simp
  · funext b
    rw [sI_e (by decide), a1, sI_e (by decide), sI_e (by decide), sI_e (by decide), sI_e (by decide), sI_e (by decide), sI_1, sI_e (by decide)]
    simp
  · intro q hq b hb
    rw [sI_e hq, a1, sI_n hb, sI_n hb, sI_n hb, sI_n hb, sI_n hb, sI_n hb, sI_n hb]
  · intro q hq h16
    rw [sI_f h16, a1, sI_f (by omega), sI_f (by omega), sI_f (by omega), sI_f (by omega), sI_f (by omega), sI_f (by omega), sI_f (by omega)]
  · rw [sI_self, a1, sI_e (by decide), sI_e (by decide), sI_e (by decide), sI_e (by decide), sI_e (by decide), sI_e (by decide), sI_e (by decide)]
  · rw [sI_e (by decide), a1, sI_e (by decide), sI_e (by decide), sI_e (by decide), sI_e (by decide), sI_self]
  · rw [sI_e (by decide), a1, sI_e (by decide), sI_e (by decide), sI_e (by decide), sI_self]
  · rw [sI_e (by decide), a1, sI_e (by decide), sI_e (by decide), sI_self]
  · rw [sI_e (by decide), a1, sI_e (by decide), sI_self]
  · rw [sI_e (by decide), a1, sI_self]
  · exact a2
  · exact a3
  · exact a4
theorem oV_nnil : ∀ m, m < 16 → ¬ (-1000000000000 : Int64) = oV m := by decide
theorem okC_born {C : CS} {n q : Nat} {k f : Int32} (h : okC C) (hn : n < 16) (hk : k = 1 ∨ (k = 2 ∧ q < 4 ∧ f = nI q)) : okC (cborn C n k f) := by
  have h1 := okC_I (f := 1) (n := n) (v := cbirth (sI C 0 n k) n) (okC_I (f := 0) (n := n) (v := k) h (by decide) (by decide) (by decide) (by decide) (by decide) (by decide) (by decide) (by decide)) (by decide) (by decide) (by decide) (by decide) (by decide) (by decide) (by decide) (by decide)
  unfold cborn
  simp only
  refine okC_J (okC_I ?_ (by decide) (by decide) (by decide) (by decide) (by decide) (by decide) (by decide) (by decide)) (okV_o hn)
  rcases hk with rfl | ⟨rfl, hq, rfl⟩
  · rw [if_pos rfl]
    exact okC_3 (okC_2 (p := 0) h1 (by omega)) (.inl rfl)
  · rw [if_neg (by decide)]
    unfold cclear
    exact okC_7 (a := 0) (okC_I (okC_5 (q := 0) (okC_4 (okC_R h1 (fun i => by unfold fil; split <;> first | exact okV_nil | exact h1.2.1 _ _ _)) hq) (by omega)) (by decide) (by decide) (by decide) (by decide) (by decide) (by decide) (by decide) (by decide)) (by omega)
theorem okM_born {E M : CS} {n : Nat} {k g : Int32} (h : okM M) (b : bornM E M n k g) : okM E := by
  obtain ⟨b4, b5, b1, b2, b16, ⟨b6, b7, b8, b9, b10⟩, bj, b3, -⟩ := b
  obtain ⟨h1, h2, h3, h4, h5⟩ := h
  refine ⟨fun m hm => ?_, fun f j => ?_, ?_, ?_, fun j hj => ?_⟩
  · obtain ⟨c1, c2, c3, c4⟩ := h1 m hm
    rw [b2 11 (by omega) (by decide)]
    by_cases q : m = n
    · subst q
      rw [b6, b7, b9]
      exact ⟨⟨0, by omega, rfl⟩, .inl rfl, ⟨0, by omega, rfl⟩, c4⟩
    · rw [b1 6 (by decide) m q, b1 7 (by decide) m q, b1 9 (by decide) m q]
      exact ⟨c1, c2, c3, c4⟩
  · by_cases q : f = 3
    · subst q
      rw [b3]
      split
      · exact okV_nil
      · exact h2 _ _
    · rw [bj f q]; exact h2 _ _
  · rw [b2 15 (by omega) (by decide)]; exact h3
  · rw [b2 13 (by omega) (by decide)]; exact h4
  · rw [b2 12 (by omega) (by decide)]; exact h5 j hj
theorem born_all {C M D E : CS} {n d q : Nat} {a : Nat → Nat} {k f g : Int32} (h : HH C M) (s : Stk C M d a) (nb : NB C) (hn : n < 16) (h0 : C.1 0 n = 0) (hk : k = 1 ∨ (k = 2 ∧ q < 4 ∧ f = nI q ∧ g = nI q)) (oD : okC D) (bD : bornC D C n k f) (bE : bornM E M n k g) : HH D E ∧ Stk D E d a ∧ NB D ∧ live D n := by
  have oE := okM_born h.2.1 bE
  obtain ⟨h1, h2, ⟨m1, m2, m3, m4⟩, ⟨f1, f2, f3, f4⟩, h5⟩ := h
  obtain ⟨d0, d1, d2, d3, d15, dk1, dk2, dj, dr, -, dst⟩ := bD
  obtain ⟨e4, e5, e2, e3, e16, ⟨e6, e7, e8, e9, e10⟩, ej, er, -⟩ := bE
  have k12 : k = 1 ∨ k = 2 := hk.imp id (fun z => z.1)
  have kn : ¬ k = 0 := by rcases k12 with z | z <;> rw [z] <;> decide
  obtain ⟨sw, hsw, hsw2⟩ := h1.2.2.1
  have esw : cSw C = sw := by unfold cSw; rw [hsw2]; exact nI_clamp (by omega)
  have eswD : cSw D = sw := by unfold cSw; rw [d3 14 (by omega) (by decide), hsw2]; exact nI_clamp (by omega)
  have d13 : D.1 13 = C.1 13 := d3 13 (by omega) (by decide)
  have cb : cbirth C n = 2 ∨ cbirth C n = 0 := by unfold cbirth; split <;> simp
  have cb0 : C.1 13 0 = 0 → cbirth C n = 0 := fun z => by
    unfold cbirth
    rw [if_neg]
    rintro (w | w)
    · rw [z] at w; exact absurd w (by decide)
    · rw [z] at w; exact absurd w.1 (by decide)
  have cb2 : C.1 13 0 = 2 → ((n < sw → cbirth C n = 0) ∧ (¬ n < sw → cbirth C n = 2)) := fun z => by
    unfold cbirth
    rw [hsw2]
    refine ⟨fun y => ?_, fun y => ?_⟩
    · rw [if_neg]
      rintro (w | w)
      · rw [z] at w; exact absurd w (by decide)
      · exact absurd w.2 (nI_ge y (by omega))
    · rw [if_pos (.inr ⟨z, nI_le (by omega) (by omega)⟩)]
  have hlive : ∀ m, m ≠ n → (live D m ↔ live C m) := fun m hm => by
    unfold live
    rw [eswD, esw, d13, d0, d1]
    simp only [if_neg hm]
  have lD : live D n := by
    refine ⟨by rw [d0]; simp only [if_true]; exact kn, fun z => ?_⟩
    rw [d13] at z
    rw [eswD, d1]
    simp only [if_true]
    by_cases y : n < sw
    · exact .inr y
    · rw [(cb2 z).2 y]; exact .inl (by decide)
  have lne : ∀ m, live C m → m ≠ n := fun m l e => by subst e; exact l.1 h0
  have hact : ∀ b, cactive D b = true ↔ cactive C b = true := fun b => by
    rw [cactive_iff, cactive_iff]
    by_cases q : b = n
    · subst q
      rw [h0, d0]
      simp only [if_true]
      refine ⟨fun z => ?_, fun z => absurd z.1 (by decide)⟩
      have := (dk2 z.1).2.2.1
      rw [this] at z
      exact absurd z.2 (by decide)
    · rw [d2 6 (by decide) (by decide) (by decide) b q, d0]
      simp only [if_neg q]
  have hroots : ∀ m, rootsC D m → rootsC C m := fun m z => by
    rcases z with ⟨j, hj, z⟩ | ⟨b, hb, y, z⟩
    · exact .inl ⟨j, hj, by rw [← dj 0 (by decide) (by decide)]; exact z⟩
    · have y' := (hact b).1 y
      have bn : b ≠ n := fun e => by subst e; rw [cactive_iff] at y'; rw [h0] at y'; exact absurd y'.1 (by decide)
      rw [dr b bn] at z
      exact .inr ⟨b, hb, y', z⟩
  have hrefs : ∀ b m, b ≠ n → (refsC D b m ↔ refsC C b m) := fun b m hb => by
    unfold refsC cPairs
    rw [d2 2 (by decide) (by decide) (by decide) b hb, d2 3 (by decide) (by decide) (by decide) b hb, dr b hb, dj 1 (by decide) (by decide), dj 2 (by decide) (by decide), d0]
    simp only [if_neg hb]
  have hnone : ∀ m, m < 16 → ¬ refsC D n m := fun m hm z => by
    unfold refsC at z
    rcases k12 with y | y
    · obtain ⟨x1, x2, -⟩ := dk1 y
      rw [d0] at z
      simp only [if_true, y, x2] at z
      rcases z with ⟨z, -⟩ | ⟨-, ⟨j, hj, -⟩ | ⟨z, -⟩⟩
      · exact absurd z (by decide)
      · unfold cPairs at hj; rw [x1] at hj; exact absurd hj (Nat.not_lt_zero _)
      · exact absurd (by decide) z
    · obtain ⟨-, -, -, -, x5⟩ := dk2 y
      rw [d0] at z
      simp only [if_true, y] at z
      rcases z with ⟨-, j, hj, z⟩ | ⟨z, -⟩
      · rw [x5 j hj] at z; exact oV_nnil m hm z
      · exact z trivial
  refine ⟨⟨oD, oE, ⟨fun b hb => ?_, ⟨?_, ?_, ?_, ?_⟩, ?_, ?_⟩, ⟨?_, ?_, ?_, ?_⟩, ⟨fun b hb => ?_, ?_, ?_⟩⟩, ?_, ?_, lD⟩
  · obtain ⟨c1, c2, c3, c4⟩ := m1 b hb
    rw [d0, d1]
    by_cases q : b = n
    · subst q
      simp only [if_true]
      refine ⟨.inr k12, cb.elim (fun z => .inr (.inr z)) .inl, fun z => (kn z).elim, ?_⟩
      rcases k12 with y | y
      · rw [(dk1 y).2.2]; exact c4
      · rw [(dk2 y).2.2.1]; exact .inl rfl
    · simp only [if_neg q]
      rw [d2 6 (by decide) (by decide) (by decide) b q]
      exact ⟨c1, c2, c3, c4⟩
  · rw [d13]; exact m2.1
  · rw [d13, d3 14 (by omega) (by decide)]; exact m2.2.1
  · rw [d13, d1]
    intro z b hb
    by_cases q : b = n
    · simp only [if_pos q]; exact cb0 z
    · simp only [if_neg q]; exact m2.2.2.1 z b hb
  · rw [d13, d1, eswD]
    intro z b hb
    by_cases q : b = n
    · simp only [if_pos q]; exact (cb2 z).1 (by omega)
    · simp only [if_neg q]; exact m2.2.2.2 z b (by rw [esw]; exact hb)
  · unfold Sm3
    rw [d15, d3 16 (by omega) (by decide)]
    have hcu : cntK (D.1 0) = cntK (C.1 0) + 1 := cntK_up hn h0 (by rw [d0]; simp only [if_true]; exact kn) (fun i hi => by rw [d0]; simp only [if_neg hi])
    rw [hcu, ← nI_1]
    have e3 : C.1 15 0 - C.1 16 0 = nI (cntK (C.1 0)) := m3
    rw [← e3]
    generalize C.1 15 0 = A
    generalize C.1 16 0 = B
    grind
  · unfold Sm4
    rw [d3 9 (by omega) (by decide)]
    exact m4
  · intro m hm z
    have l := f1 m hm (hroots m z)
    exact (hlive m (lne m l)).2 l
  · intro b m hb hm l z
    by_cases q : b = n
    · subst q; exact (hnone m hm z).elim
    · have l' := f2 b m hb hm ((hlive b q).1 l) ((hrefs b m q).1 z)
      exact (hlive m (lne m l')).2 l'
  · rw [d13, d1]
    intro hp b m hb hm z y
    by_cases q : b = n
    · subst q; exact (hnone m hm y).elim
    · simp only [if_neg q] at z
      have := f3 hp b m hb hm z ((hrefs b m q).1 y)
      by_cases w : m = n
      · subst w; exact (this ((m1 m hm).2.2.1 h0)).elim
      · simp only [if_neg w]; exact this
  · intro b m hb hm l z y
    by_cases q : b = n
    · subst q
      rcases k12 with w | w
      · rw [(dk1 w).2.1] at y
        have := congrArg (fun x => decide (x < 0)) y
        simp only [decide_eq_decide] at this
        exact absurd (this.1 (by decide)) (nI_pos (by omega))
      · rw [d0] at z
        simp only [if_true] at z
        rw [w] at z
        exact absurd z (by decide)
    · rw [d0] at z ⊢
      simp only [if_neg q] at z ⊢
      rw [d2 3 (by decide) (by decide) (by decide) b q] at y
      have km := f4 b m hb hm ((hlive b q).1 l) z y
      have w : m ≠ n := fun w => by subst w; rw [h0] at km; exact absurd km (by decide)
      rw [if_neg w]
      exact km
  · obtain ⟨⟨r1, r2⟩, r3, r4, r5, r6⟩ := h5.1 b hb
    rw [dj 1 (by decide) (by decide), dj 2 (by decide) (by decide), ej 1 (by decide), ej 2 (by decide), d0, d1, e4, e5]
    by_cases q : b = n
    · subst q
      simp only [if_true]
      refine ⟨⟨trivial, ?_⟩, fun z => ?_, fun z => ?_, fun z i hi => ?_, r6⟩
      · unfold cbirth
        rw [← h5.2.1.2.1, ← h5.2.1.2.2.1, hsw2]
        have : (nI sw ≤ nI b) ↔ ¬ nI b < nI sw := by rw [nI_leI (by omega) (by omega), nI_ltI (by omega) (by omega)]; omega
        simp only [this]
      · obtain ⟨x1, x2, -⟩ := dk1 z
        rw [x1, x2, e6, e7]
        exact ⟨rfl, rfl⟩
      · obtain ⟨x1, x2, x3, x4, -⟩ := dk2 z
        rw [x1, x2, x3, x4, e8, e9, e10]
        refine ⟨?_, rfl, rfl, fun _ => rfl, fun y => absurd y (by decide)⟩
        rcases hk with y | ⟨-, -, y, w⟩
        · rw [z] at y; exact absurd y (by decide)
        · rw [y, w]
      · rw [(dk2 z).2.2.2.2 i hi, er, if_pos (by omega)]
    · simp only [if_neg q]
      rw [d2 2 (by decide) (by decide) (by decide) b q, d2 3 (by decide) (by decide) (by decide) b q, d2 4 (by decide) (by decide) (by decide) b q, d2 5 (by decide) (by decide) (by decide) b q, d2 6 (by decide) (by decide) (by decide) b q, d2 7 (by decide) (by decide) (by decide) b q, e2 6 (by decide) b q, e2 7 (by decide) b q, e2 8 (by decide) b q, e2 9 (by decide) b q, e2 10 (by decide) b q, e2 11 (by decide) b q, dr b q]
      refine ⟨⟨r1, r2⟩, r3, r4, fun z i hi => ?_, r6⟩
      rw [er, if_neg (by omega)]
      exact r5 z i hi
  · obtain ⟨g0, p1, p2, p3, p4, p5, p6, p7⟩ := h5.2.1
    unfold Rg
    rw [dj 0 (by decide) (by decide), ej 0 (by decide), d13, d15, e16, d3 14 (by omega) (by decide), d3 16 (by omega) (by decide), d3 17 (by omega) (by decide), d3 18 (by omega) (by decide), d3 20 (by omega) (by decide), e3 14 (by omega) (by decide), e3 15 (by omega) (by decide), e3 17 (by omega) (by decide), e3 18 (by omega) (by decide), e3 19 (by omega) (by decide), e3 20 (by omega) (by decide), p3]
    exact ⟨g0, p1, p2, rfl, p4, p5, p6, p7⟩
  · unfold Ri
    rw [d3 9 (by omega) (by decide), d3 10 (by omega) (by decide), d3 11 (by omega) (by decide), d3 12 (by omega) (by decide), e3 0 (by omega) (by decide), e3 1 (by omega) (by decide), e3 2 (by omega) (by decide), e3 3 (by omega) (by decide)]
    exact h5.2.2
  · obtain ⟨s1, s2, s3, s4, s5, s6⟩ := s
    unfold Stk
    rw [d3 19 (by omega) (by decide), e3 12 (by omega) (by decide), e3 13 (by omega) (by decide), dst]
    refine ⟨s1, s2, s3, fun j hj => ?_, s5, fun b hb z => s6 b hb ((hact b).1 z)⟩
    obtain ⟨t1, t2, t3, t4⟩ := s4 j hj
    exact ⟨t1, t2, t3, (hact _).2 t4⟩
  · unfold NB
    rw [d13, d1]
    intro hp b hb z y
    have z' := (hact b).1 z
    have bn : b ≠ n := fun e => by subst e; rw [cactive_iff] at z'; rw [h0] at z'; exact absurd z'.1 (by decide)
    simp only [if_neg bn] at y
    exact nb hp b hb z' y
