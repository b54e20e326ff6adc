/-! A UNIT on both sides -/
theorem sI_id {C : CS} {f n : Nat} {v : Int32} (h : C.1 f n = v) : sI C f n v = C := by
  unfold sI
  refine Prod.ext ?_ rfl
  funext a b
  show (if a = f ∧ b = n then v else C.1 a b) = C.1 a b
  split
  · rename_i z
    rw [z.1, z.2, h]
  · rfl
theorem lst_none_of {p : Nat → Bool} : ∀ (c i : Nat), (∀ j, i ≤ j → j < i + c → p j = false) → lst p c i = none
  | 0, _, _ => rfl
  | c + 1, i, h => by
    unfold lst
    rw [if_neg (by rw [h i (Nat.le_refl _) (by omega)]; decide)]
    exact lst_none_of c (i + 1) (fun j h1 h2 => h j (by omega) (by omega))
theorem Rel_ph {C M : CS} {v : Int32} (r : Rel C M) : Rel (sI C 13 0 v) (sI M 14 0 v) := by
  obtain ⟨r1, ⟨g0, g1, g2, g3, g4, g5, g6, g7⟩, r3⟩ := r
  exact ⟨r1, ⟨g0, by rw [sI_self, sI_self], g2, g3, g4, g5, g6, g7⟩, r3⟩
theorem HH_ph {C M C' M' : CS} {p : Int32} (h : HH C M) (e : eq1 C' C) (g : eq5 M' M) (hp : ¬ C.1 13 0 = 2) (hp1 : p = 1 ∨ p = 2) (hcM : ∀ n, n < 16 → C'.1 1 n = M'.1 5 n) (hc : ∀ n, n < 16 → (C'.1 1 n = 0 ∨ C'.1 1 n = 1 ∨ C'.1 1 n = 2) ∧ (C.1 0 n = 0 → C'.1 1 n = 0))
    (hs1 : p = 1 → ∀ n m, n < 16 → m < 16 → C'.1 1 n = 2 → refsC C n m → ¬ C'.1 1 m = 0) (hs2 : p = 2 → (∀ m, m < 16 → rootsC C m → ¬ C'.1 1 m = 0) ∧ (∀ n m, n < 16 → m < 16 → ¬ C'.1 1 n = 0 → refsC C n m → ¬ C'.1 1 m = 0)) : HH (sI C' 13 0 p) (sI M' 14 0 p) := by
  obtain ⟨h1, h2, ⟨m1, m2, m3, m4⟩, ⟨f1, f2, f3, f4⟩, h5⟩ := h
  have f := eq1_fn e
  have o14 : C.1 14 0 = 0 := m2.2.1 hp
  have q14 : (sI C' 13 0 p).1 14 0 = 0 := by rw [sI_e (by decide), f 14 (by decide)]; exact o14
  have q13 : (sI C' 13 0 p).1 13 0 = p := sI_self
  have qsw : cSw (sI C' 13 0 p) = 0 := by unfold cSw; rw [q14]; rfl
  have q0 : (sI C' 13 0 p).1 0 = C.1 0 := by rw [sI_f (by decide), f 0 (by decide)]
  have q1 : (sI C' 13 0 p).1 1 = C'.1 1 := by rw [sI_f (by decide)]
  have q3 : (sI C' 13 0 p).1 3 = C.1 3 := by rw [sI_f (by decide), f 3 (by decide)]
  have q6 : (sI C' 13 0 p).1 6 = C.1 6 := by rw [sI_f (by decide), f 6 (by decide)]
  have q9 : (sI C' 13 0 p).1 9 = C.1 9 := by rw [sI_f (by decide), f 9 (by decide)]
  have q15 : (sI C' 13 0 p).1 15 = C.1 15 := by rw [sI_f (by decide), f 15 (by decide)]
  have q16 : (sI C' 13 0 p).1 16 = C.1 16 := by rw [sI_f (by decide), f 16 (by decide)]
  have p0 : ¬ p = 0 := by rcases hp1 with z | z <;> rw [z] <;> decide
  refine ⟨okC_I (okC_col h1 e) (by decide) (by decide) (by decide) (by decide) (by decide) (by decide) (by decide) (by decide), okM_keep (by decide) (okM_eq5 g h2), ⟨?_, ⟨?_, ?_, ?_, ?_⟩, ?_, ?_⟩, ⟨?_, ?_, ?_, ?_⟩, Rel_ph (Rel_col h5 e g hcM)⟩
  · unfold Sm1
    rw [q0, q1, q6]
    exact fun n hn => ⟨(m1 n hn).1, (hc n hn).1, (hc n hn).2, (m1 n hn).2.2.2⟩
  · rw [q13]; exact .inr hp1
  · exact fun _ => q14
  · rw [q13]; exact fun z => (p0 z).elim
  · rw [qsw]; exact fun _ n hn => by omega
  · unfold Sm3; rw [q0, q15, q16]; exact m3
  · unfold Sm4; rw [q9]; exact m4
  · rw [rootsC_fn q0 q6 (by rw [sI_2f, e.1]) (by rw [sI_2f, e.1])]
    intro m hm z
    refine ⟨by rw [q0]; exact (f1 m hm z).1, fun y => .inl ?_⟩
    rw [q1]
    exact (hs2 (q13.symm.trans y)).1 m hm z
  · rw [refsC_fn q0 (by rw [sI_f (by decide), f 2 (by decide)]) q3 (by rw [sI_2f, e.1]) (by rw [sI_2f, e.1]) (by rw [sI_2f, e.1])]
    intro n m hn hm l z
    have ln : live C n := (live_n2 hp).2 (by have := l.1; rw [q0] at this; exact this)
    refine ⟨by rw [q0]; exact (f2 n m hn hm ln z).1, fun y => .inl ?_⟩
    rw [q1]
    refine (hs2 (q13.symm.trans y)).2 n m hn hm ?_ z
    rcases l.2 y with w | w
    · rw [q1] at w; exact w
    · rw [qsw] at w; omega
  · rw [refsC_fn q0 (by rw [sI_f (by decide), f 2 (by decide)]) q3 (by rw [sI_2f, e.1]) (by rw [sI_2f, e.1]) (by rw [sI_2f, e.1]), q13, q1]
    exact hs1
  · intro n m hn hm l
    have ln : live C n := (live_n2 hp).2 (by have := l.1; rw [q0] at this; exact this)
    rw [q0, q3]
    exact f4 n m hn hm ln
theorem Stk_ph {C C' M M' : CS} {d : Nat} {a : Nat → Nat} {v w : Int32} (e : eq1 C' C) (g : eq5 M' M) (h : Stk C M d a) : Stk (sI C' 13 0 v) (sI M' 14 0 w) d a := Stk_of (by rw [sI_f (by decide)]; exact eq1_fn e 0 (by decide)) (by rw [sI_f (by decide)]; exact eq1_fn e 6 (by decide)) (by rw [sI_f (by decide)]; exact eq1_fn e 19 (by decide)) (by rw [sI_2g, e.1]) (by rw [sI_f (by decide)]; exact eq5_fn g 12 (by decide)) (by rw [sI_f (by decide)]; exact eq5_fn g 13 (by decide)) h
def cunit1 (C : CS) : CS := if C.1 13 0 = 2 then csweep C else match cgray C with
    | some n => cblacken C n
    | none => sI (cshadeRoots C).2 13 0 (if C.1 13 0 = 0 ∨ 0 < (cshadeRoots C).1 then 1 else 2)
theorem cunit_1 (C : CS) : cunit C = cunit1 (sI C 17 0 (C.1 17 0 + 1)) := by
  simp only [cunit, cunit1, sI_e (show (13 : Nat) ≠ 17 by decide)]
  rfl
def msweep (M : CS) : Int32 × CS :=
    let i := (M.1 15 0).toNatClampNeg
    let M2 := if ¬ M.1 4 i = 0 ∧ M.1 5 i = 0 then sI (sI M 4 i 0) 17 0 (M.1 17 0 + 1) else M
    let M3 := sI (sI M2 5 i 0) 15 0 (M.1 15 0 + 1)
    (if ¬ M.1 4 i = 0 ∧ M.1 5 i = 0 then 1 else 0, if M.1 15 0 + 1 = 16 then sI (sI M3 15 0 0) 14 0 0 else M3)
def munit1 (M : CS) : Int32 × CS := if M.1 14 0 = 0 then (0, sI (mshadeRoots M) 14 0 1)
  else if M.1 14 0 = 1 then match mgray M with
    | some n => (0, mblacken M n)
    | none => match mgray (mshadeRoots M) with
      | some _ => (0, mshadeRoots M)
      | none => (0, sI (sI (mshadeRoots M) 14 0 2) 15 0 0)
  else msweep M
theorem munit_1 (M : CS) : munit M = munit1 (sI M 19 0 (M.1 19 0 + 1)) := by
  simp only [munit, munit1, msweep, sI_e (show (14 : Nat) ≠ 19 by decide), sI_e (show (15 : Nat) ≠ 19 by decide), sI_e (show (4 : Nat) ≠ 19 by decide), sI_e (show (5 : Nat) ≠ 19 by decide), sI_e (show (17 : Nat) ≠ 19 by decide)]
  rfl
/-- the colours after shading are colours, and free ones stay white -/
theorem col_shd {C : CS} {S : Nat → Prop} {c : Nat → Int32} (m1 : Sm1 C) (h : Shd S (C.1 1) c) (hs : ∀ n, n < 16 → S n → ¬ C.1 0 n = 0) : ∀ n, n < 16 → (c n = 0 ∨ c n = 1 ∨ c n = 2) ∧ (C.1 0 n = 0 → c n = 0) := by
  intro n hn
  obtain ⟨-, k2, k3, -⟩ := m1 n hn
  by_cases z : C.1 1 n = 0 ∧ S n
  · rw [(h n hn).1 z.1 z.2]
    exact ⟨.inr (.inl rfl), fun y => (hs n hn z.2 y).elim⟩
  · rw [(h n hn).2 z]
    exact ⟨k2, k3⟩
theorem start_all {C M : CS} {d : Nat} {a : Nat → Nat} (h : HH C M) (s : Stk C M d a) (hp : C.1 13 0 = 0) : HH (cunit1 C) (munit1 M).2 ∧ Stk (cunit1 C) (munit1 M).2 d a ∧ (cunit1 C).1 16 0 = C.1 16 0 + (munit1 M).1 := by
  have h' := h
  obtain ⟨h1, h2, ⟨m1, m2, m3, m4⟩, ⟨f1, f2, f3, f4⟩, h5⟩ := h
  have c0 := m2.2.2.1 hp
  have hg : cgray C = none := lst_none_of 16 0 (fun j _ hj => by rw [c0 j (by omega)]; decide)
  have sc := (Shc_cRoots h1.2.1).1
  have sm := Shd_mRoots h2
  have eC : cunit1 C = sI (cshadeRoots C).2 13 0 1 := by
    unfold cunit1
    rw [if_neg (by rw [hp]; decide), hg]
    simp only
    rw [if_pos (.inl hp)]
  have eM : munit1 M = (0, sI (mshadeRoots M) 14 0 1) := by
    unfold munit1
    rw [if_pos (by rw [← h5.2.1.2.1]; exact hp)]
  rw [eC, eM]
  have e1 := eq1_roots C
  have e5 := eq5_shadeRoots (eq5_refl M)
  refine ⟨HH_ph h' e1 e5 (by rw [hp]; decide) (.inl rfl) (Shd_same sc sm (fun n hn => (h5.1 n hn).1.2) (roots_eq h5 s)) (col_shd m1 sc (fun n hn z => (f1 n hn z).1)) (fun _ n m hn hm z => ?_) (fun z => absurd z (by decide)), Stk_ph e1 e5 s, ?_⟩
  · have := Shd_2 sc hn z
    rw [c0 n hn] at this
    exact absurd this (by decide)
  · show (sI (cshadeRoots C).2 13 0 1).1 16 0 = C.1 16 0 + 0
    rw [sI_e (by decide), e1.2 16 (by decide), Int32.add_zero]
theorem gray_eq {C M : CS} (m1 : Sm1 C) (r : Rel C M) : mgray M = cgray C := by
  refine lst_congr 16 0 (fun j _ hj => ?_)
  obtain ⟨⟨r1, r2⟩, -⟩ := r.1 j (by omega)
  obtain ⟨-, -, k3, -⟩ := m1 j (by omega)
  rw [← r1, ← r2]
  by_cases z : C.1 0 j = 0
  · rw [z, k3 z]; decide
  · have : (C.1 0 j == 0) = false := by simp [z]
    rw [this]
    rfl
theorem mark_all {C M : CS} {d : Nat} {a : Nat → Nat} (h : HH C M) (s : Stk C M d a) (hp : C.1 13 0 = 1) : HH (cunit1 C) (munit1 M).2 ∧ Stk (cunit1 C) (munit1 M).2 d a ∧ (cunit1 C).1 16 0 = C.1 16 0 + (munit1 M).1 := by
  have h' := h
  obtain ⟨h1, h2, ⟨m1, m2, m3, m4⟩, ⟨f1, f2, f3, f4⟩, h5⟩ := h
  have p2 : ¬ C.1 13 0 = 2 := by rw [hp]; decide
  have p0 : ¬ C.1 13 0 = 0 := by rw [hp]; decide
  have q14 : M.1 14 0 = 1 := by rw [← h5.2.1.2.1]; exact hp
  have q0 : ¬ M.1 14 0 = 0 := by rw [q14]; decide
  have hge := gray_eq m1 h5
  unfold cunit1 munit1
  rw [if_neg p2, if_neg q0, if_pos q14, hge]
  cases hg : cgray C with
  | some n =>
    have hn := cgray_lt hg
    have hc : C.1 1 n = 1 := by
      have := (lst_lt _ _ _ hg).2.2
      exact eq_of_beq this
    have hk : C.1 0 n = 1 ∨ C.1 0 n = 2 := by
      obtain ⟨k1, -, k3, -⟩ := m1 n hn
      rcases k1 with z | z
      · exact absurd (k3 z) (by rw [hc]; decide)
      · exact z
    have sc := Shd_cBlacken h1 hn
    have sm := Shd_mBlacken h2 hn
    have e1 := eq1_blacken C n
    have e5 := eq5_blacken (n := n) (eq5_refl M)
    have ln : live C n := (live_n2 p2).2 (by rcases hk with z | z <;> rw [z] <;> decide)
    simp only
    have k13 : (cblacken C n).1 13 0 = 1 := by rw [e1.2 13 (by decide)]; exact hp
    have k14 : (mblacken M n).1 14 0 = 1 := by rw [e5.2 14 (by decide)]; exact q14
    have hsame : ∀ b, b < 16 → (sI C 1 n 2).1 1 b = (sI M 5 n 2).1 5 b := fun b hb => by
      rw [sI_1, sI_1]
      by_cases z : b = n
      · rw [if_pos ⟨rfl, z⟩, if_pos ⟨rfl, z⟩]
      · rw [if_neg (fun y => z y.2), if_neg (fun y => z y.2)]
        exact (h5.1 b hb).1.2
    have base : ∀ b, b < 16 → ((sI C 1 n 2).1 1 b = 0 ∨ (sI C 1 n 2).1 1 b = 1 ∨ (sI C 1 n 2).1 1 b = 2) ∧ (C.1 0 b = 0 → (sI C 1 n 2).1 1 b = 0) := fun b hb => by
      rw [sI_1]
      by_cases z : b = n
      · rw [if_pos ⟨rfl, z⟩]
        exact ⟨.inr (.inr rfl), fun y => absurd y (by rw [z]; exact ln.1)⟩
      · rw [if_neg (fun y => z y.2)]
        exact ⟨(m1 b hb).2.1, (m1 b hb).2.2.1⟩
    have hcol : ∀ b, b < 16 → ((cblacken C n).1 1 b = 0 ∨ (cblacken C n).1 1 b = 1 ∨ (cblacken C n).1 1 b = 2) ∧ (C.1 0 b = 0 → (cblacken C n).1 1 b = 0) := fun b hb => by
      by_cases z : (sI C 1 n 2).1 1 b = 0 ∧ refsC C n b
      · rw [(sc b hb).1 z.1 z.2]
        exact ⟨.inr (.inl rfl), fun y => absurd y (f2 n b hn hb ln z.2).1⟩
      · rw [(sc b hb).2 z]
        exact base b hb
    have hh := HH_ph (p := 1) h' e1 e5 p2 (.inl rfl) (Shd_same sc sm hsame (refs_eq h1 h5 hn hk)) hcol (fun _ j m hj hm z y => by
      by_cases q : j = n
      · subst q; exact Shd_nw sc hm y
      · have z2 := Shd_2 sc hj z
        rw [sI_1, if_neg (fun w => q w.2)] at z2
        refine Shd_up0 sc hm ?_
        rw [sI_1]
        split
        · decide
        · exact f3 hp j m hj hm z2 y) (fun z => absurd z (by decide))
    rw [sI_id k13, sI_id k14] at hh
    exact ⟨hh, Stk_col e1 e5 s, by show (cblacken C n).1 16 0 = C.1 16 0 + 0; rw [e1.2 16 (by decide), Int32.add_zero]⟩
  | none =>
    simp only
    have hgn : ∀ n, n < 16 → ¬ C.1 1 n = 1 := fun n hn z => by
      have := lst_none 16 0 hg n (by omega) (by omega)
      rw [z] at this
      exact absurd this (by decide)
    obtain ⟨sc, k, hk, hk2, hk3⟩ := Shc_cRoots h1.2.1
    have sm := Shd_mRoots h2
    have e1 := eq1_roots C
    have e5 := eq5_shadeRoots (eq5_refl M)
    have hcM := Shd_same sc sm (fun n hn => (h5.1 n hn).1.2) (roots_eq h5 s)
    have hcol := col_shd m1 sc (fun n hn z => (f1 n hn z).1)
    have hcnt : (0 < (cshadeRoots C).1) ↔ ¬ k = 0 := by
      rw [hk2, Int32.zero_add]
      constructor
      · intro z y
        rw [y] at z
        exact absurd z (by decide)
      · intro z
        exact nI_lt (a := 0) (by omega) (by omega)
    have k13 : (cshadeRoots C).2.1 13 0 = 1 := by rw [e1.2 13 (by decide)]; exact hp
    have k14 : (mshadeRoots M).1 14 0 = 1 := by rw [e5.2 14 (by decide)]; exact q14
    have k15 : (sI (mshadeRoots M) 14 0 2).1 15 0 = 0 := by rw [sI_e (by decide), e5.2 15 (by decide), ← h5.2.1.2.2.1]; exact m2.2.1 p2
    have hg16 : ∀ v, (sI (cshadeRoots C).2 13 0 v).1 16 0 = C.1 16 0 + 0 := fun v => by rw [sI_e (by decide), e1.2 16 (by decide), Int32.add_zero]
    by_cases hk0 : k = 0
    · have c0 := Shd_k0 sc (by rw [hk0] at hk3; exact hk3)
      have hm : mgray (mshadeRoots M) = none := lst_none_of 16 0 (fun j _ hj => by
        rw [← hcM j (by omega), c0 j (by omega)]
        have : (C.1 1 j == 1) = false := by have := hgn j (by omega); simp [this]
        rw [this, Bool.and_false])
      rw [if_neg (fun z => z.elim p0 (fun y => hcnt.1 y hk0)), hm]
      simp only
      rw [sI_id k15]
      refine ⟨HH_ph h' e1 e5 p2 (.inr rfl) hcM hcol (fun z => absurd z (by decide)) (fun _ => ⟨fun m hm z => Shd_nw sc hm z, fun n m hn hm z y => ?_⟩), Stk_ph e1 e5 s, hg16 2⟩
      rw [c0 n hn] at z
      rw [c0 m hm]
      refine f3 hp n m hn hm ?_ y
      rcases (m1 n hn).2.1 with w | w | w
      · exact (z w).elim
      · exact (hgn n hn w).elim
      · exact w
    · obtain ⟨j, hj, j0, js⟩ := hk3.2 hk0
      have hm : ∃ q, mgray (mshadeRoots M) = some q := by
        cases hq : mgray (mshadeRoots M) with
        | some q => exact ⟨q, rfl⟩
        | none =>
          have z := lst_none 16 0 hq j (by omega) (by omega)
          have kj : ¬ (mshadeRoots M).1 4 j = 0 := by rw [e5.2 4 (by decide), ← (h5.1 j hj).1.1]; exact (f1 j hj js).1
          rw [← hcM j hj, (sc j hj).1 j0 js] at z
          have : ((mshadeRoots M).1 4 j == 0) = false := by simp [kj]
          rw [this] at z
          exact absurd z (by decide)
      obtain ⟨q, hm⟩ := hm
      rw [if_pos (.inr (hcnt.2 hk0)), hm]
      simp only
      have hh := HH_ph (p := 1) h' e1 e5 p2 (.inl rfl) hcM hcol (fun _ n m hn hm z y => Shd_up0 sc hm (f3 hp n m hn hm (Shd_2 sc hn z) y)) (fun z => absurd z (by decide))
      rw [sI_id k14] at hh
      refine ⟨hh, ?_, hg16 1⟩
      have := Stk_ph (v := 1) (w := 1) e1 e5 s
      rw [sI_id k14] at this
      exact this
