/-! SHADING, on both sides: the white ones of a set become gray -/
def Shd (S : Nat → Prop) (c d : Nat → Int32) : Prop := ∀ n, n < 16 → (c n = 0 → S n → d n = 1) ∧ (¬ (c n = 0 ∧ S n) → d n = c n)
def Cnt (S : Nat → Prop) (c : Nat → Int32) (k : Nat) : Prop := (k = 0 → ∀ m, m < 16 → S m → c m ≠ 0) ∧ (k ≠ 0 → ∃ m, m < 16 ∧ c m = 0 ∧ S m)
theorem Shd_none (c : Nat → Int32) : Shd (fun _ => False) c c := fun _ _ => ⟨fun _ h => h.elim, fun _ => rfl⟩
theorem Shd_trans {S T : Nat → Prop} {c d e : Nat → Int32} (h : Shd S c d) (g : Shd T d e) : Shd (fun n => S n ∨ T n) c e := by
  intro n hn
  obtain ⟨h1, h2⟩ := h n hn
  obtain ⟨g1, g2⟩ := g n hn
  refine ⟨fun c0 st => ?_, fun no => ?_⟩
  · by_cases s : S n
    · have d1 := h1 c0 s
      rw [g2 (fun z => absurd z.1 (by rw [d1]; decide)), d1]
    · have d0 := h2 (fun z => s z.2)
      exact g1 (d0.trans c0) (st.resolve_left s)
  · have d0 := h2 (fun z => no ⟨z.1, .inl z.2⟩)
    rw [g2 (fun z => no ⟨d0.symm.trans z.1, .inr z.2⟩), d0]
theorem Shd_congr {S T : Nat → Prop} {c d : Nat → Int32} (h : Shd S c d) (e : ∀ n, n < 16 → (S n ↔ T n)) : Shd T c d := fun n hn => ⟨fun c0 t => (h n hn).1 c0 ((e n hn).2 t), fun no => (h n hn).2 (fun z => no ⟨z.1, (e n hn).1 z.2⟩)⟩
theorem Shd_same {S T : Nat → Prop} {c d c' d' : Nat → Int32} (h : Shd S c d) (g : Shd T c' d') (e : ∀ n, n < 16 → c n = c' n) (s : ∀ n, n < 16 → (S n ↔ T n)) : ∀ n, n < 16 → d n = d' n := by
  intro n hn
  by_cases z : c n = 0 ∧ S n
  · rw [(h n hn).1 z.1 z.2, (g n hn).1 ((e n hn).symm.trans z.1) ((s n hn).1 z.2)]
  · rw [(h n hn).2 z, (g n hn).2 (fun y => z ⟨(e n hn).trans y.1, (s n hn).2 y.2⟩), e n hn]
theorem Shd_nw {S : Nat → Prop} {c d : Nat → Int32} {n : Nat} (h : Shd S c d) (hn : n < 16) (s : S n) : d n ≠ 0 := by
  by_cases z : c n = 0
  · rw [(h n hn).1 z s]; decide
  · rw [(h n hn).2 (fun y => z y.1)]; exact z
theorem Shd_up {S : Nat → Prop} {c d : Nat → Int32} {n : Nat} (h : Shd S c d) (hn : n < 16) (z : c n ≠ 0) : d n = c n := (h n hn).2 (fun y => z y.1)
theorem Shd_up0 {S : Nat → Prop} {c d : Nat → Int32} {n : Nat} (h : Shd S c d) (hn : n < 16) (z : c n ≠ 0) : d n ≠ 0 := by rw [Shd_up h hn z]; exact z
theorem Shd_2 {S : Nat → Prop} {c d : Nat → Int32} {n : Nat} (h : Shd S c d) (hn : n < 16) (z : d n = 2) : c n = 2 := by
  by_cases y : c n = 0 ∧ S n
  · rw [(h n hn).1 y.1 y.2] at z; exact absurd z (by decide)
  · rw [← (h n hn).2 y]; exact z
theorem Shd_no {S : Nat → Prop} {c d : Nat → Int32} {n : Nat} (h : Shd S c d) (hn : n < 16) (s : ¬ S n) : d n = c n := (h n hn).2 (fun y => s y.2)
theorem Shd_k0 {S : Nat → Prop} {c d : Nat → Int32} (h : Shd S c d) (k : Cnt S c 0) : ∀ n, n < 16 → d n = c n := fun n hn => (h n hn).2 (fun y => k.1 rfl n hn y.2 y.1)
theorem Cnt_trans {S T : Nat → Prop} {c d : Nat → Int32} {k l : Nat} (h : Shd S c d) (p : Cnt S c k) (q : Cnt T d l) : Cnt (fun n => S n ∨ T n) c (k + l) := by
  refine ⟨fun z m hm st => ?_, fun z => ?_⟩
  · have k0 : k = 0 := by omega
    have l0 : l = 0 := by omega
    subst k0; subst l0
    rcases st with s | t
    · exact p.1 rfl m hm s
    · have := q.1 rfl m hm t
      rw [Shd_k0 h p m hm] at this
      exact this
  · by_cases k0 : k = 0
    · subst k0
      obtain ⟨m, hm, m0, t⟩ := q.2 (by omega)
      exact ⟨m, hm, by rw [← Shd_k0 h p m hm]; exact m0, .inr t⟩
    · obtain ⟨m, hm, m0, s⟩ := p.2 k0
      exact ⟨m, hm, m0, .inl s⟩
def Shc (S : Nat → Prop) (C : CS) (a : Int32) (B : Nat) (r : Int32 × CS) : Prop := Shd S (C.1 1) (r.2.1 1) ∧ ∃ k, k ≤ B ∧ r.1 = a + nI k ∧ Cnt S (C.1 1) k
theorem Shc_trans {S T : Nat → Prop} {C : CS} {a : Int32} {B B2 : Nat} {r r2 : Int32 × CS} (h : Shc S C a B r) (g : Shc T r.2 r.1 B2 r2) : Shc (fun n => S n ∨ T n) C a (B + B2) r2 := by
  obtain ⟨h1, k, hk, hk2, hk3⟩ := h
  obtain ⟨g1, l, hl, hl2, hl3⟩ := g
  exact ⟨Shd_trans h1 g1, k + l, by omega, by rw [hl2, hk2, Int32.add_assoc, nI_add], Cnt_trans h1 hk3 hl3⟩
theorem Shc_congr {S T : Nat → Prop} {C : CS} {a : Int32} {B B2 : Nat} {r : Int32 × CS} (h : Shc S C a B r) (hB : B ≤ B2) (e : ∀ n, n < 16 → (S n ↔ T n)) : Shc T C a B2 r := by
  obtain ⟨h1, k, hk, hk2, hk3⟩ := h
  refine ⟨Shd_congr h1 e, k, by omega, hk2, fun z m hm t => hk3.1 z m hm ((e m hm).2 t), fun z => ?_⟩
  obtain ⟨m, hm, m0, s⟩ := hk3.2 z
  exact ⟨m, hm, m0, (e m hm).1 s⟩
theorem Shc_acc {S : Nat → Prop} {C : CS} {a : Int32} {B : Nat} {r : Int32 × CS} (h : Shc S C 0 B r) : Shc S C a B (a + r.1, r.2) := by
  obtain ⟨h1, k, hk, hk2, hk3⟩ := h
  exact ⟨h1, k, hk, by show a + r.1 = _; rw [hk2, Int32.zero_add], hk3⟩
theorem oV_iff {v : Int64} {m : Nat} (hv : okV v) (hm : m < 16) : (¬ v < 10000000000 ∧ on v = m) ↔ v = oV m := by
  refine ⟨fun z => ?_, fun z => ?_⟩
  · rw [(okV_on hv z.1).2.1, z.2]
  · subst z; exact ⟨oV_ge m hm, on_oV hm⟩
theorem oV_inj {n m : Nat} (hn : n < 16) (hm : m < 16) : oV n = oV m ↔ n = m := ⟨fun z => by rw [← on_oV hn, z, on_oV hm], fun z => by rw [z]⟩
theorem oV_nI {n : Nat} (hn : n < 16) : (10000000000 : Int64) + (nI n).toInt64 = oV n := by rw [nI_l (by omega)]; rfl
theorem Shd_v {C : CS} {v : Int64} {f : Nat} (hv : okV v) : Shd (fun m => v = oV m) (C.1 f) ((if ¬ v < 10000000000 ∧ C.1 f (on v) = 0 then sI C f (on v) 1 else C).1 f) := by
  intro n hn
  have e := oV_iff hv hn
  by_cases z : ¬ v < 10000000000 ∧ C.1 f (on v) = 0
  · rw [if_pos z]
    by_cases q : n = on v
    · have : v = oV n := e.1 ⟨z.1, q.symm⟩
      exact ⟨fun _ _ => by rw [sI_1, if_pos ⟨rfl, q⟩], fun no => (no ⟨by rw [q]; exact z.2, this⟩).elim⟩
    · rw [sI_1, if_neg (fun y => q y.2)]
      exact ⟨fun _ s => (q (e.2 s).2.symm).elim, fun _ => rfl⟩
  · rw [if_neg z]
    exact ⟨fun c0 s => (z ⟨(e.2 s).1, by rw [(e.2 s).2]; exact c0⟩).elim, fun _ => rfl⟩
theorem Shc_v {C : CS} {v : Int64} {a : Int32} (hv : okV v) : Shc (fun m => v = oV m) C a 1 (if ¬ v < 10000000000 ∧ C.1 1 (on v) = 0 then (a + 1, sI C 1 (on v) 1) else (a, C)) := by
  have hs := Shd_v (C := C) (f := 1) hv
  by_cases z : ¬ v < 10000000000 ∧ C.1 1 (on v) = 0
  · rw [if_pos z] at hs ⊢
    exact ⟨hs, 1, Nat.le_refl _, rfl, fun y => absurd y (by decide), fun _ => ⟨on v, (okV_on hv z.1).1, z.2, (okV_on hv z.1).2.1⟩⟩
  · rw [if_neg z] at hs ⊢
    exact ⟨hs, 0, by omega, by rw [nI_0, Int32.add_zero], fun _ m hm s c0 => z ⟨((oV_iff hv hm).2 s).1, by rw [((oV_iff hv hm).2 s).2]; exact c0⟩, fun y => absurd rfl y⟩
theorem Shc_row {row : Nat → Int64} (ho : ∀ j, okV (row j)) : ∀ (c i : Nat) (a : Int32) (C : CS), Shc (fun m => ∃ j, i ≤ j ∧ j < i + c ∧ row j = oV m) C a c (cshadeRow row c i a C)
  | 0, i, a, C => ⟨Shd_congr (Shd_none _) (fun n _ => ⟨False.elim, fun ⟨j, h1, h2, _⟩ => by omega⟩), 0, Nat.le_refl _, by show a = _; rw [nI_0, Int32.add_zero], fun _ m _ ⟨j, h1, h2, _⟩ => by omega, fun y => absurd rfl y⟩
  | c + 1, i, a, C => by
    have one := Shc_v (C := C) (a := a) (ho i)
    have e : ∀ n, n < 16 → ((row i = oV n ∨ ∃ j, i + 1 ≤ j ∧ j < i + 1 + c ∧ row j = oV n) ↔ ∃ j, i ≤ j ∧ j < i + (c + 1) ∧ row j = oV n) := fun n _ => by
      constructor
      · rintro (h | ⟨j, h1, h2, h3⟩)
        · exact ⟨i, Nat.le_refl _, by omega, h⟩
        · exact ⟨j, by omega, by omega, h3⟩
      · rintro ⟨j, h1, h2, h3⟩
        by_cases q : j = i
        · subst q; exact .inl h3
        · exact .inr ⟨j, by omega, by omega, h3⟩
    unfold cshadeRow
    by_cases z : ¬ row i < 10000000000 ∧ C.1 1 (on (row i)) = 0
    · rw [if_pos z] at one ⊢
      exact Shc_congr (Shc_trans one (Shc_row ho c (i + 1) (a + 1) (sI C 1 (on (row i)) 1))) (by omega) e
    · rw [if_neg z] at one ⊢
      exact Shc_congr (Shc_trans one (Shc_row ho c (i + 1) a C)) (by omega) e
theorem Shc_one {C : CS} {n : Nat} {a : Int32} (hn : n < 16) : Shc (fun m => m = n) C a 1 (a + (cshade C n).1, (cshade C n).2) := by
  unfold cshade
  by_cases z : C.1 1 n = 0
  · rw [if_pos z]
    refine ⟨fun m hm => ?_, 1, Nat.le_refl _, rfl, fun y => absurd y (by decide), fun _ => ⟨n, hn, z, rfl⟩⟩
    show _ ∧ (_ → (sI C 1 n 1).1 1 m = _)
    by_cases q : m = n
    · exact ⟨fun _ _ => by show (sI C 1 n 1).1 1 m = 1; rw [sI_1, if_pos ⟨rfl, q⟩], fun no => (no ⟨by rw [q]; exact z, q⟩).elim⟩
    · exact ⟨fun _ s => (q s).elim, fun _ => by rw [sI_1, if_neg (fun y => q y.2)]⟩
  · rw [if_neg z]
    exact ⟨fun m hm => ⟨fun c0 s => by subst s; exact (z c0).elim, fun _ => rfl⟩, 0, by omega, by show a + 0 = _; rw [nI_0], fun _ m hm s => by subst s; exact z, fun y => absurd rfl y⟩
theorem cactive_of {C' C : CS} {n : Nat} (h0 : C'.1 0 n = C.1 0 n) (h6 : C'.1 6 n = C.1 6 n) : cactive C' n = cactive C n := by unfold cactive; rw [h0, h6]
theorem cactive_iff {C : CS} {n : Nat} : cactive C n = true ↔ C.1 0 n = 2 ∧ C.1 6 n = 2 := by simp [cactive]
theorem Shc_roots : ∀ (c n : Nat) (a : Int32) (C : CS), n + c ≤ 16 → (∀ f n i, okV (C.2.1 f n i)) → Shc (fun m => ∃ j, n ≤ j ∧ j < n + c ∧ cactive C j = true ∧ (m = j ∨ ∃ i, i < 4 ∧ C.2.1 3 j i = oV m)) C a (5 * c) (croots c n a C)
  | 0, n, a, C, _, _ => ⟨Shd_congr (Shd_none _) (fun m _ => ⟨False.elim, fun ⟨j, h1, h2, _⟩ => by omega⟩), 0, Nat.le_refl _, by show a = _; rw [nI_0, Int32.add_zero], fun _ m _ ⟨j, h1, h2, _⟩ => by omega, fun y => absurd rfl y⟩
  | c + 1, n, a, C, hc, ho => by
    unfold croots
    by_cases z : cactive C n = true
    · rw [if_pos z]
      have s1 := Shc_one (C := C) (n := n) (a := a) (by omega)
      have s2 : Shc (fun m => ∃ j, 0 ≤ j ∧ j < 0 + 4 ∧ C.2.1 3 n j = oV m) (cshade C n).2 (a + (cshade C n).1) 4 (a + (cshade C n).1 + (cshadeRow (C.2.1 3 n) 4 0 0 (cshade C n).2).1, (cshadeRow (C.2.1 3 n) 4 0 0 (cshade C n).2).2) := Shc_acc (Shc_row (fun j => ho 3 n j) 4 0 0 (cshade C n).2)
      have e2 : (cshadeRow (C.2.1 3 n) 4 0 0 (cshade C n).2).2.2 = C.2 := by rw [cshadeRow_2, cshade_2]
      have e1 : ∀ f m, f ≠ 1 → (cshadeRow (C.2.1 3 n) 4 0 0 (cshade C n).2).2.1 f m = C.1 f m := fun f m hf => by rw [cshadeRow_1 _ _ _ _ _ _ _ hf, cshade_1 _ _ _ _ hf]
      have s3 := Shc_roots c (n + 1) (a + (cshade C n).1 + (cshadeRow (C.2.1 3 n) 4 0 0 (cshade C n).2).1) (cshadeRow (C.2.1 3 n) 4 0 0 (cshade C n).2).2 (by omega) (by rw [e2]; exact ho)
      refine Shc_congr (Shc_trans (Shc_trans s1 s2) s3) (by omega) (fun m hm => ?_)
      rw [e2]
      constructor
      · rintro ((h | ⟨j, -, h2, h3⟩) | ⟨j, h1, h2, h3, h4⟩)
        · exact ⟨n, Nat.le_refl _, by omega, z, .inl h⟩
        · exact ⟨n, Nat.le_refl _, by omega, z, .inr ⟨j, by omega, h3⟩⟩
        · exact ⟨j, by omega, by omega, by rw [← cactive_of (e1 0 j (by decide)) (e1 6 j (by decide))]; exact h3, h4⟩
      · rintro ⟨j, h1, h2, h3, h4⟩
        by_cases q : j = n
        · subst q
          rcases h4 with h | ⟨i, hi, h⟩
          · exact .inl (.inl h)
          · exact .inl (.inr ⟨i, by omega, by omega, h⟩)
        · exact .inr ⟨j, by omega, by omega, by rw [cactive_of (e1 0 j (by decide)) (e1 6 j (by decide))]; exact h3, h4⟩
    · rw [if_neg z]
      refine Shc_congr (Shc_roots c (n + 1) a C (by omega) ho) (by omega) (fun m hm => ?_)
      constructor
      · rintro ⟨j, h1, h2, h3, h4⟩
        exact ⟨j, by omega, by omega, h3, h4⟩
      · rintro ⟨j, h1, h2, h3, h4⟩
        by_cases q : j = n
        · subst q; exact (z h3).elim
        · exact ⟨j, by omega, by omega, h3, h4⟩
/-- what the class's ROOTS are; what an object REFERS to -/
def rootsC (C : CS) (m : Nat) : Prop := (∃ j, j < 6 ∧ C.2.1 0 0 j = oV m) ∨ ∃ n, n < 16 ∧ cactive C n = true ∧ (m = n ∨ ∃ i, i < 4 ∧ C.2.1 3 n i = oV m)
def refsC (C : CS) (n m : Nat) : Prop := (C.1 0 n = 2 ∧ ∃ i, i < 4 ∧ C.2.1 3 n i = oV m) ∨ (¬ C.1 0 n = 2 ∧ ((∃ j, j < cPairs C n ∧ (C.2.1 1 n j = oV m ∨ C.2.1 2 n j = oV m)) ∨ (¬ C.1 3 n < 0 ∧ m = (C.1 3 n).toNatClampNeg)))
theorem Shc_cRoots {C : CS} (ho : ∀ f n i, okV (C.2.1 f n i)) : Shc (rootsC C) C 0 86 (cshadeRoots C) := by
  have s1 := Shc_row (fun j => ho 0 0 j) 6 0 0 C
  have e2 : (cshadeRow (C.2.1 0 0) 6 0 0 C).2.2 = C.2 := by rw [cshadeRow_2]
  have e1 : ∀ f m, f ≠ 1 → (cshadeRow (C.2.1 0 0) 6 0 0 C).2.1 f m = C.1 f m := fun f m hf => by rw [cshadeRow_1 _ _ _ _ _ _ _ hf]
  have s2 := Shc_roots 16 0 (cshadeRow (C.2.1 0 0) 6 0 0 C).1 (cshadeRow (C.2.1 0 0) 6 0 0 C).2 (by omega) (by rw [e2]; exact ho)
  refine Shc_congr (Shc_trans s1 s2) (by omega) (fun m hm => ?_)
  rw [e2]
  unfold rootsC
  constructor
  · rintro (⟨j, h1, h2, h3⟩ | ⟨j, h1, h2, h3, h4⟩)
    · exact .inl ⟨j, by omega, h3⟩
    · exact .inr ⟨j, by omega, by rw [← cactive_of (e1 0 j (by decide)) (e1 6 j (by decide))]; exact h3, h4⟩
  · rintro (⟨j, h1, h2⟩ | ⟨j, h1, h3, h4⟩)
    · exact .inl ⟨j, by omega, by omega, h2⟩
    · exact .inr ⟨j, by omega, by omega, by rw [cactive_of (e1 0 j (by decide)) (e1 6 j (by decide))]; exact h3, h4⟩
theorem Shd_cBlacken {C : CS} {n : Nat} (hok : okC C) (hn : n < 16) : Shd (refsC C n) ((sI C 1 n 2).1 1) ((cblacken C n).1 1) := by
  have ho := hok.2.1
  unfold cblacken
  simp only
  by_cases z : C.1 0 n = 2
  · rw [if_pos z]
    refine Shd_congr (Shc_row (fun j => ho 3 n j) 4 0 0 (sI C 1 n 2)).1 (fun m hm => ?_)
    unfold refsC
    constructor
    · rintro ⟨j, h1, h2, h3⟩
      exact .inl ⟨z, j, by omega, h3⟩
    · rintro (⟨-, j, h1, h3⟩ | ⟨h, -⟩)
      · exact ⟨j, by omega, by omega, h3⟩
      · exact (h z).elim
  · rw [if_neg z]
    have s1 := (Shc_row (fun j => ho 1 n j) (cPairs C n) 0 0 (sI C 1 n 2)).1
    have s2 := Shd_trans s1 (Shc_row (fun j => ho 2 n j) (cPairs C n) 0 0 (cshadeRow (C.2.1 1 n) (cPairs C n) 0 0 (sI C 1 n 2)).2).1
    obtain ⟨-, hm3, -⟩ := hok.1 n hn
    by_cases y : C.1 3 n < 0
    · rw [if_pos y]
      refine Shd_congr s2 (fun m hm => ?_)
      unfold refsC
      constructor
      · rintro (⟨j, h1, h2, h3⟩ | ⟨j, h1, h2, h3⟩)
        · exact .inr ⟨z, .inl ⟨j, by omega, .inl h3⟩⟩
        · exact .inr ⟨z, .inl ⟨j, by omega, .inr h3⟩⟩
      · rintro (⟨h, -⟩ | ⟨-, ⟨j, h1, h3 | h3⟩ | ⟨h, -⟩⟩)
        · exact (z h).elim
        · exact .inl ⟨j, by omega, by omega, h3⟩
        · exact .inr ⟨j, by omega, by omega, h3⟩
        · exact (h y).elim
    · rw [if_neg y]
      have hlt : (C.1 3 n).toNatClampNeg < 16 := by
        rcases hm3 with h | ⟨q, hq, h⟩
        · rw [h] at y; exact absurd (by decide) y
        · rw [h, nI_clamp (by omega)]; exact hq
      have s3 := Shd_trans s2 (Shc_one (a := 0) (C := (cshadeRow (C.2.1 2 n) (cPairs C n) 0 0 (cshadeRow (C.2.1 1 n) (cPairs C n) 0 0 (sI C 1 n 2)).2).2) hlt).1
      refine Shd_congr s3 (fun m hm => ?_)
      unfold refsC
      constructor
      · rintro ((⟨j, h1, h2, h3⟩ | ⟨j, h1, h2, h3⟩) | h)
        · exact .inr ⟨z, .inl ⟨j, by omega, .inl h3⟩⟩
        · exact .inr ⟨z, .inl ⟨j, by omega, .inr h3⟩⟩
        · exact .inr ⟨z, .inr ⟨y, h⟩⟩
      · rintro (⟨h, -⟩ | ⟨-, ⟨j, h1, h3 | h3⟩ | ⟨-, h⟩⟩)
        · exact (z h).elim
        · exact .inl (.inl ⟨j, by omega, by omega, h3⟩)
        · exact .inl (.inr ⟨j, by omega, by omega, h3⟩)
        · exact .inr h
/-! the reference's -/
theorem Shd_m {M : CS} {v : Int64} (hv : okV v) : Shd (fun m => v = oV m) (M.1 5) ((mshade M v).1 5) := Shd_v hv
theorem Shd_ms {row : Nat → Int64} (ho : ∀ j, okV (row j)) : ∀ (c i : Nat) (M : CS), Shd (fun m => ∃ j, i ≤ j ∧ j < i + c ∧ row j = oV m) (M.1 5) ((mshades row c i M).1 5)
  | 0, i, M => Shd_congr (Shd_none _) (fun n _ => ⟨False.elim, fun ⟨j, h1, h2, _⟩ => by omega⟩)
  | c + 1, i, M => by
    refine Shd_congr (Shd_trans (Shd_m (M := M) (ho i)) (Shd_ms ho c (i + 1) (mshade M (row i)))) (fun n _ => ?_)
    constructor
    · rintro (h | ⟨j, h1, h2, h3⟩)
      · exact ⟨i, Nat.le_refl _, by omega, h⟩
      · exact ⟨j, by omega, by omega, h3⟩
    · rintro ⟨j, h1, h2, h3⟩
      by_cases q : j = i
      · subst q; exact .inl h3
      · exact .inr ⟨j, by omega, by omega, h3⟩
theorem Shd_mkv {ks vs : Nat → Int64} (ho : ∀ j, okV (ks j)) (hp : ∀ j, okV (vs j)) : ∀ (c i : Nat) (M : CS), Shd (fun m => ∃ j, i ≤ j ∧ j < i + c ∧ (ks j = oV m ∨ vs j = oV m)) (M.1 5) ((mshadeKV ks vs c i M).1 5)
  | 0, i, M => Shd_congr (Shd_none _) (fun n _ => ⟨False.elim, fun ⟨j, h1, h2, _⟩ => by omega⟩)
  | c + 1, i, M => by
    refine Shd_congr (Shd_trans (Shd_trans (Shd_m (M := M) (ho i)) (Shd_m (M := mshade M (ks i)) (hp i))) (Shd_mkv ho hp c (i + 1) (mshade (mshade M (ks i)) (vs i)))) (fun n _ => ?_)
    constructor
    · rintro (h | ⟨j, h1, h2, h3⟩)
      · exact ⟨i, Nat.le_refl _, by omega, h⟩
      · exact ⟨j, by omega, by omega, h3⟩
    · rintro ⟨j, h1, h2, h3⟩
      by_cases q : j = i
      · subst q; exact .inl h3
      · exact .inr ⟨j, by omega, by omega, h3⟩
def rootsM (M : CS) (m : Nat) : Prop := (∃ j, j < 6 ∧ M.2.1 0 0 j = oV m) ∨ ∃ k, k < mDepth M ∧ (10000000000 + (M.1 12 k).toInt64 = oV m ∨ ∃ i, i < 4 ∧ M.2.1 3 0 (mAct M k * 4 + i) = oV m)
def refsM (M : CS) (n m : Nat) : Prop := (M.1 4 n = 2 ∧ ∃ i, i < 4 ∧ M.2.1 3 0 (n * 4 + i) = oV m) ∨ (¬ M.1 4 n = 2 ∧ ((∃ j, j < mSize M n ∧ (M.2.1 1 0 (n * 6 + j) = oV m ∨ M.2.1 2 0 (n * 6 + j) = oV m)) ∨ (¬ M.1 7 n < 0 ∧ 10000000000 + (M.1 7 n).toInt64 = oV m)))
theorem Shd_mr : ∀ (c k : Nat) (M : CS), k + c ≤ 6 → okM M → Shd (fun m => ∃ j, k ≤ j ∧ j < k + c ∧ (10000000000 + (M.1 12 j).toInt64 = oV m ∨ ∃ i, i < 4 ∧ M.2.1 3 0 (mAct M j * 4 + i) = oV m)) (M.1 5) ((mroots c k M).1 5)
  | 0, k, M, _, _ => Shd_congr (Shd_none _) (fun n _ => ⟨False.elim, fun ⟨j, h1, h2, _⟩ => by omega⟩)
  | c + 1, k, M, hc, hok => by
    obtain ⟨n, hn, hk⟩ := hok.2.2.2.2 k (by omega)
    have s1 := Shd_m (M := M) (v := 10000000000 + (M.1 12 k).toInt64) (by rw [hk]; exact okV_o hn)
    have s2 := Shd_trans s1 (Shd_ms (row := fun r => M.2.1 3 0 (mAct M k * 4 + r)) (fun j => hok.2.1 3 _) 4 0 (mshade M (10000000000 + (M.1 12 k).toInt64)))
    have e5 := eq5_shades (row := fun r => M.2.1 3 0 (mAct M k * 4 + r)) 4 0 (eq5_shade (v := 10000000000 + (M.1 12 k).toInt64) (eq5_refl M))
    have s3 := Shd_trans s2 (Shd_mr c (k + 1) (mshades (fun r => M.2.1 3 0 (mAct M k * 4 + r)) 4 0 (mshade M (10000000000 + (M.1 12 k).toInt64))) (by omega) (okM_eq5 e5 hok))
    refine Shd_congr s3 (fun m hm => ?_)
    have ea : ∀ j, mAct (mshades (fun r => M.2.1 3 0 (mAct M k * 4 + r)) 4 0 (mshade M (10000000000 + (M.1 12 k).toInt64))) j = mAct M j := fun j => congrArg Int32.toNatClampNeg (e5.2 12 (by decide) j)
    simp only [ea, e5.1, e5.2 12 (by decide)]
    constructor
    · rintro ((h | ⟨j, h1, h2, h3⟩) | ⟨j, h1, h2, h3⟩)
      · exact ⟨k, Nat.le_refl _, by omega, .inl h⟩
      · exact ⟨k, Nat.le_refl _, by omega, .inr ⟨j, by omega, h3⟩⟩
      · exact ⟨j, by omega, by omega, h3⟩
    · rintro ⟨j, h1, h2, h3⟩
      by_cases q : j = k
      · subst q
        rcases h3 with h | ⟨i, hi, h⟩
        · exact .inl (.inl h)
        · exact .inl (.inr ⟨i, by omega, by omega, h⟩)
      · exact .inr ⟨j, by omega, by omega, h3⟩
theorem mDepth_eq {M : CS} {d : Nat} (h : M.1 13 0 = nI d) (hd : d ≤ 5) : mDepth M = d := by unfold mDepth; rw [h]; exact nI_clamp (by omega)
theorem Shd_mRoots {M : CS} (hok : okM M) : Shd (rootsM M) (M.1 5) ((mshadeRoots M).1 5) := by
  obtain ⟨d, hd, hd2⟩ := hok.2.2.2.1
  have s1 := Shd_ms (row := M.2.1 0 0) (fun j => hok.2.1 0 j) 6 0 M
  have e5 := eq5_shades (row := M.2.1 0 0) 6 0 (eq5_refl M)
  have ed : mDepth M = d := mDepth_eq hd2 hd
  have s2 := Shd_trans s1 (Shd_mr (mDepth M) 0 (mshades (M.2.1 0 0) 6 0 M) (by omega) (okM_eq5 e5 hok))
  refine Shd_congr s2 (fun m hm => ?_)
  have ea : ∀ j, mAct (mshades (M.2.1 0 0) 6 0 M) j = mAct M j := fun j => congrArg Int32.toNatClampNeg (e5.2 12 (by decide) j)
  simp only [ea, e5.1, e5.2 12 (by decide), rootsM]
  constructor
  · rintro (⟨j, h1, h2, h3⟩ | ⟨j, h1, h2, h3⟩)
    · exact .inl ⟨j, by omega, h3⟩
    · exact .inr ⟨j, by omega, h3⟩
  · rintro (⟨j, h1, h3⟩ | ⟨j, h1, h3⟩)
    · exact .inl ⟨j, by omega, by omega, h3⟩
    · exact .inr ⟨j, by omega, by omega, h3⟩
theorem Shd_mBlacken {M : CS} {n : Nat} (hok : okM M) (hn : n < 16) : Shd (refsM M n) ((sI M 5 n 2).1 5) ((mblacken M n).1 5) := by
  unfold mblacken
  by_cases z : M.1 4 n = 2
  · rw [if_pos z]
    refine Shd_congr (Shd_ms (row := fun r => M.2.1 3 0 (n * 4 + r)) (fun j => hok.2.1 3 _) 4 0 (sI M 5 n 2)) (fun m hm => ?_)
    unfold refsM
    constructor
    · rintro ⟨j, h1, h2, h3⟩
      exact .inl ⟨z, j, by omega, h3⟩
    · rintro (⟨-, j, h1, h3⟩ | ⟨h, -⟩)
      · exact ⟨j, by omega, by omega, h3⟩
      · exact (h z).elim
  · rw [if_neg z]
    obtain ⟨-, hm3, -⟩ := hok.1 n hn
    by_cases y : M.1 7 n < 0
    · rw [if_pos y]
      refine Shd_congr (Shd_mkv (ks := fun p => M.2.1 1 0 (n * 6 + p)) (vs := fun p => M.2.1 2 0 (n * 6 + p)) (fun j => hok.2.1 1 _) (fun j => hok.2.1 2 _) (mSize M n) 0 (sI M 5 n 2)) (fun m hm => ?_)
      unfold refsM
      constructor
      · rintro ⟨j, h1, h2, h3⟩
        exact .inr ⟨z, .inl ⟨j, by omega, h3⟩⟩
      · rintro (⟨h, -⟩ | ⟨-, ⟨j, h1, h3⟩ | ⟨h, -⟩⟩)
        · exact (z h).elim
        · exact ⟨j, by omega, by omega, h3⟩
        · exact (h y).elim
    · rw [if_neg y]
      have hv : okV (10000000000 + (M.1 7 n).toInt64) := by
        rcases hm3 with h | ⟨q, hq, h⟩
        · rw [h] at y; exact absurd (by decide) y
        · rw [h]; exact okV_o hq
      refine Shd_congr (Shd_trans (Shd_m (M := sI M 5 n 2) hv) (Shd_mkv (ks := fun p => M.2.1 1 0 (n * 6 + p)) (vs := fun p => M.2.1 2 0 (n * 6 + p)) (fun j => hok.2.1 1 _) (fun j => hok.2.1 2 _) (mSize M n) 0 (mshade (sI M 5 n 2) (10000000000 + (M.1 7 n).toInt64)))) (fun m hm => ?_)
      unfold refsM
      constructor
      · rintro (h | ⟨j, h1, h2, h3⟩)
        · exact .inr ⟨z, .inr ⟨y, h⟩⟩
        · exact .inr ⟨z, .inl ⟨j, by omega, h3⟩⟩
      · rintro (⟨h, -⟩ | ⟨-, ⟨j, h1, h3⟩ | ⟨-, h⟩⟩)
        · exact (z h).elim
        · exact .inr ⟨j, by omega, by omega, h3⟩
        · exact .inl h
