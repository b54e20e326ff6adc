/-! THE TWO STATES SIDE BY SIDE: the relation, and what the class keeps true -/
def Rk (C M : CS) : Prop := ∀ n, n < 16 →
  (C.1 0 n = M.1 4 n ∧ C.1 1 n = M.1 5 n) ∧
  (C.1 0 n = 1 → C.1 2 n = M.1 6 n ∧ C.1 3 n = M.1 7 n) ∧
  (C.1 0 n = 2 → C.1 4 n = M.1 8 n ∧ C.1 5 n = M.1 9 n ∧ C.1 6 n = M.1 10 n ∧ (C.1 6 n = 0 → C.1 7 n = 0) ∧ (C.1 6 n = 1 → C.1 7 n = M.1 11 n)) ∧
  (C.1 0 n = 2 → ∀ i, i < 4 → C.2.1 3 n i = M.2.1 3 0 (n * 4 + i)) ∧
  (∀ i, i < 6 → C.2.1 1 n i = M.2.1 1 0 (n * 6 + i) ∧ C.2.1 2 n i = M.2.1 2 0 (n * 6 + i))
def Rg (C M : CS) : Prop := (∀ i, i < 6 → C.2.1 0 0 i = M.2.1 0 0 i) ∧ C.1 13 0 = M.1 14 0 ∧ C.1 14 0 = M.1 15 0 ∧ C.1 15 0 = M.1 16 0 ∧ C.1 16 0 = M.1 17 0 ∧ C.1 17 0 = M.1 19 0 ∧ C.1 18 0 = M.1 20 0 ∧ C.1 20 0 = M.1 18 0
def Ri (C M : CS) : Prop := ∀ f i, f < 4 → i < 16 → C.1 9 (f * 17 + i) = M.1 0 (f * 16 + i) ∧ C.1 10 (f * 17 + i) = M.1 1 (f * 16 + i) ∧ C.1 11 (f * 17 + i) = M.1 2 (f * 16 + i) ∧ C.1 12 (f * 17 + i) = M.1 3 (f * 16 + i)
def Rel (C M : CS) : Prop := Rk C M ∧ Rg C M ∧ Ri C M
def cSw (C : CS) : Nat := (C.1 14 0).toNatClampNeg
def cntK (k : Nat → Int32) : Nat := sumN (fun n => if k n = 0 then 0 else 1) 16
def Sm1 (C : CS) : Prop := ∀ n, n < 16 → (C.1 0 n = 0 ∨ C.1 0 n = 1 ∨ C.1 0 n = 2) ∧ (C.1 1 n = 0 ∨ C.1 1 n = 1 ∨ C.1 1 n = 2) ∧ (C.1 0 n = 0 → C.1 1 n = 0) ∧ (C.1 6 n = 0 ∨ C.1 6 n = 1 ∨ C.1 6 n = 2 ∨ C.1 6 n = 3)
def Sm2 (C : CS) : Prop := (C.1 13 0 = 0 ∨ C.1 13 0 = 1 ∨ C.1 13 0 = 2) ∧ (¬ C.1 13 0 = 2 → C.1 14 0 = 0) ∧ (C.1 13 0 = 0 → ∀ n, n < 16 → C.1 1 n = 0) ∧ (C.1 13 0 = 2 → ∀ n, n < cSw C → C.1 1 n = 0)
def Sm3 (C : CS) : Prop := C.1 15 0 - C.1 16 0 = nI (cntK (C.1 0))
def Sm4 (C : CS) : Prop := (∀ k, k < 68 → C.1 9 k = -1 ∨ ∃ o, o ≤ 21 ∧ C.1 9 k = nI o) ∧ (∀ f, f < 4 → C.1 9 (f * 17 + 16) = -1)
def Sm (C : CS) : Prop := Sm1 C ∧ Sm2 C ∧ Sm3 C ∧ Sm4 C
/-- there, and not doomed -/
def live (C : CS) (n : Nat) : Prop := ¬ C.1 0 n = 0 ∧ (C.1 13 0 = 2 → ¬ C.1 1 n = 0 ∨ n < cSw C)
def Safe (C : CS) : Prop := (∀ m, m < 16 → rootsC C m → live C m) ∧ (∀ n m, n < 16 → m < 16 → live C n → refsC C n m → live C m) ∧ (C.1 13 0 = 1 → ∀ n m, n < 16 → m < 16 → C.1 1 n = 2 → refsC C n m → ¬ C.1 1 m = 0) ∧ (∀ n m, n < 16 → m < 16 → live C n → C.1 0 n = 1 → C.1 3 n = nI m → C.1 0 m = 1)
def HH (C M : CS) : Prop := okC C ∧ okM M ∧ Sm C ∧ Safe C ∧ Rel C M
def Stk (C M : CS) (d : Nat) (a : Nat → Nat) : Prop := d ≤ 5 ∧ C.1 19 0 = nI d ∧ M.1 13 0 = nI d ∧ (∀ i, i < d → a i < 16 ∧ C.2.2 i = some (a i) ∧ M.1 12 i = nI (a i) ∧ cactive C (a i) = true) ∧ (∀ i j, i < d → j < d → a i = a j → i = j) ∧ (∀ n, n < 16 → cactive C n = true → ∃ i, i < d ∧ a i = n)
/-- no ACTIVE one is black while it marks -/
def NB (C : CS) : Prop := C.1 13 0 = 1 → ∀ n, n < 16 → cactive C n = true → ¬ C.1 1 n = 2
def lv (C : CS) (v : Int64) : Prop := ∀ m, m < 16 → v = oV m → live C m
def eq1 (C' C : CS) : Prop := C'.2 = C.2 ∧ ∀ f, f ≠ 1 → ∀ b, C'.1 f b = C.1 f b
theorem eq1_fn {C' C : CS} (e : eq1 C' C) : ∀ f, f ≠ 1 → C'.1 f = C.1 f := fun f hf => funext (e.2 f hf)
theorem eq5_fn {C' C : CS} (e : eq5 C' C) : ∀ f, f ≠ 5 → C'.1 f = C.1 f := fun f hf => funext (e.2 f hf)
theorem nm_of {n : Nat} : ∀ m, n < m → n ≠ m := fun _ h => by omega
/-! which fields a word looks at -/
theorem cactive_fn {C' C : CS} (h0 : C'.1 0 = C.1 0) (h6 : C'.1 6 = C.1 6) : cactive C' = cactive C := by funext n; unfold cactive; rw [h0, h6]
theorem rootsC_fn {C' C : CS} (h0 : C'.1 0 = C.1 0) (h6 : C'.1 6 = C.1 6) (hg : C'.2.1 0 0 = C.2.1 0 0) (hr : C'.2.1 3 = C.2.1 3) : rootsC C' = rootsC C := by funext m; unfold rootsC; rw [cactive_fn h0 h6, hg, hr]
theorem refsC_fn {C' C : CS} (h0 : C'.1 0 = C.1 0) (h2 : C'.1 2 = C.1 2) (h3 : C'.1 3 = C.1 3) (k1 : C'.2.1 1 = C.2.1 1) (k2 : C'.2.1 2 = C.2.1 2) (k3 : C'.2.1 3 = C.2.1 3) : refsC C' = refsC C := by funext n m; unfold refsC cPairs; rw [h0, h2, h3, k1, k2, k3]
theorem cSw_fn {C' C : CS} (h : C'.1 14 = C.1 14) : cSw C' = cSw C := by unfold cSw; rw [h]
theorem live_fn {C' C : CS} (h0 : C'.1 0 = C.1 0) (h1 : C'.1 1 = C.1 1) (h13 : C'.1 13 = C.1 13) (h14 : C'.1 14 = C.1 14) : live C' = live C := by funext n; unfold live; rw [cSw_fn h14, h0, h1, h13]
theorem Safe_fn {C' C : CS} (h0 : C'.1 0 = C.1 0) (h1 : C'.1 1 = C.1 1) (h2 : C'.1 2 = C.1 2) (h3 : C'.1 3 = C.1 3) (h6 : C'.1 6 = C.1 6) (h13 : C'.1 13 = C.1 13) (h14 : C'.1 14 = C.1 14) (hg : C'.2.1 0 0 = C.2.1 0 0) (k1 : C'.2.1 1 = C.2.1 1) (k2 : C'.2.1 2 = C.2.1 2) (k3 : C'.2.1 3 = C.2.1 3) (h : Safe C) : Safe C' := by
  unfold Safe
  rw [rootsC_fn h0 h6 hg k3, refsC_fn h0 h2 h3 k1 k2 k3, live_fn h0 h1 h13 h14, h0, h1, h3, h13]
  exact h
theorem Sm_fn {C' C : CS} (h0 : C'.1 0 = C.1 0) (h1 : C'.1 1 = C.1 1) (h6 : C'.1 6 = C.1 6) (h9 : C'.1 9 = C.1 9) (h13 : C'.1 13 = C.1 13) (h14 : C'.1 14 = C.1 14) (h15 : C'.1 15 = C.1 15) (h16 : C'.1 16 = C.1 16) (h : Sm C) : Sm C' := by
  unfold Sm Sm1 Sm2 Sm3 Sm4
  rw [cSw_fn h14, h0, h1, h6, h9, h13, h14, h15, h16]
  exact h
theorem sI_f {C : CS} {f n g : Nat} {v : Int32} (h : g ≠ f) : (sI C f n v).1 g = C.1 g := funext fun b => sI_e h
theorem sJ_f {C : CS} {f n i g : Nat} {v : Int64} (h : g ≠ f) : (sJ C f n i v).2.1 g = C.2.1 g := by funext b c; rw [sJ_2, if_neg (fun z => h z.1)]
theorem sI_2f {C : CS} {f n : Nat} {v : Int32} : (sI C f n v).2.1 = C.2.1 := rfl
theorem sI_2g {C : CS} {f n : Nat} {v : Int32} : (sI C f n v).2.2 = C.2.2 := rfl
/-- a class field that neither the relation nor the invariant looks at -/
theorem HH_C {C M : CS} {f n : Nat} {v : Int32} (hf : f = 8 ∨ f = 19 ∨ f = 21) (ho : okC (sI C f n v)) (h : HH C M) : HH (sI C f n v) M := by
  obtain ⟨h1, h2, h3, h4, h5⟩ := h
  refine ⟨ho, h2, Sm_fn (sI_f (by omega)) (sI_f (by omega)) (sI_f (by omega)) (sI_f (by omega)) (sI_f (by omega)) (sI_f (by omega)) (sI_f (by omega)) (sI_f (by omega)) h3, Safe_fn (sI_f (by omega)) (sI_f (by omega)) (sI_f (by omega)) (sI_f (by omega)) (sI_f (by omega)) (sI_f (by omega)) (sI_f (by omega)) rfl rfl rfl rfl h4, ?_⟩
  unfold Rel Rk Rg Ri
  simp only [sI_2f]
  rw [sI_f (g := 0) (by omega), sI_f (g := 1) (by omega), sI_f (g := 2) (by omega), sI_f (g := 3) (by omega), sI_f (g := 4) (by omega), sI_f (g := 5) (by omega), sI_f (g := 6) (by omega), sI_f (g := 7) (by omega), sI_f (g := 9) (by omega), sI_f (g := 10) (by omega), sI_f (g := 11) (by omega), sI_f (g := 12) (by omega), sI_f (g := 13) (by omega), sI_f (g := 14) (by omega), sI_f (g := 15) (by omega), sI_f (g := 16) (by omega), sI_f (g := 17) (by omega), sI_f (g := 18) (by omega), sI_f (g := 20) (by omega)]
  exact h5
theorem HH_CJ {C M : CS} {f n i : Nat} {v : Int64} (hf : f = 4 ∨ f = 5) (hv : okV v) (h : HH C M) : HH (sJ C f n i v) M := by
  obtain ⟨h1, h2, h3, h4, h5⟩ := h
  refine ⟨okC_J h1 hv, h2, h3, Safe_fn (C := C) rfl rfl rfl rfl rfl rfl rfl (by rw [sJ_f (by omega)]) (sJ_f (by omega)) (sJ_f (by omega)) (sJ_f (by omega)) h4, ?_⟩
  unfold Rel Rk Rg Ri
  rw [sJ_1, sJ_f (g := 0) (by omega), sJ_f (g := 1) (by omega), sJ_f (g := 2) (by omega), sJ_f (g := 3) (by omega)]
  exact h5
/-- a reference field that the relation doesn't look at -/
theorem HH_M {C M : CS} {f n : Nat} {v : Int32} (hf : f = 12 ∨ f = 13 ∨ f = 21 ∨ f = 22) (ho : okM (sI M f n v)) (h : HH C M) : HH C (sI M f n v) := by
  obtain ⟨h1, h2, h3, h4, h5⟩ := h
  refine ⟨h1, ho, h3, h4, ?_⟩
  unfold Rel Rk Rg Ri
  simp only [sI_2f]
  rw [sI_f (g := 0) (by omega), sI_f (g := 1) (by omega), sI_f (g := 2) (by omega), sI_f (g := 3) (by omega), sI_f (g := 4) (by omega), sI_f (g := 5) (by omega), sI_f (g := 6) (by omega), sI_f (g := 7) (by omega), sI_f (g := 8) (by omega), sI_f (g := 9) (by omega), sI_f (g := 10) (by omega), sI_f (g := 11) (by omega), sI_f (g := 14) (by omega), sI_f (g := 15) (by omega), sI_f (g := 16) (by omega), sI_f (g := 17) (by omega), sI_f (g := 18) (by omega), sI_f (g := 19) (by omega), sI_f (g := 20) (by omega)]
  exact h5
theorem okM_J {M : CS} {f i : Nat} {v : Int64} (h : okM M) (hv : okV v) : okM (sJ M f 0 i v) := by
  obtain ⟨a, b, c, d⟩ := h
  refine ⟨a, fun f' i' => ?_, c, d⟩
  rw [sJ_2]
  split
  · exact hv
  · exact b _ _
theorem HH_MJ {C M : CS} {i : Nat} {v : Int64} (hv : okV v) (h : HH C M) : HH C (sJ M 4 0 i v) := by
  obtain ⟨h1, h2, h3, h4, h5⟩ := h
  refine ⟨h1, okM_J h2 hv, h3, h4, ?_⟩
  unfold Rel Rk Rg Ri
  rw [sJ_1, sJ_f (g := 0) (by omega), sJ_f (g := 1) (by omega), sJ_f (g := 2) (by omega), sJ_f (g := 3) (by omega)]
  exact h5
/-- a counter on both sides -/
theorem HH_cnt {C M : CS} {f g : Nat} {v : Int32} (hf : (f = 17 ∧ g = 19) ∨ (f = 18 ∧ g = 20) ∨ (f = 20 ∧ g = 18)) (h : HH C M) : HH (sI C f 0 v) (sI M g 0 v) := by
  obtain ⟨h1, h2, h3, h4, h5⟩ := h
  refine ⟨okC_I h1 (by omega) (by omega) (by omega) (by omega) (by omega) (by omega) (by omega) (by omega), okM_keep (by omega) h2, Sm_fn (sI_f (by omega)) (sI_f (by omega)) (sI_f (by omega)) (sI_f (by omega)) (sI_f (by omega)) (sI_f (by omega)) (sI_f (by omega)) (sI_f (by omega)) h3, Safe_fn (sI_f (by omega)) (sI_f (by omega)) (sI_f (by omega)) (sI_f (by omega)) (sI_f (by omega)) (sI_f (by omega)) (sI_f (by omega)) rfl rfl rfl rfl h4, ?_⟩
  obtain ⟨r1, ⟨g0, g1, g2, g3, g4, g5, g6, g7⟩, r3⟩ := h5
  refine ⟨?_, ?_, ?_⟩
  · unfold Rk
    simp only [sI_2f]
    rw [sI_f (C := C) (g := 0) (by omega), sI_f (C := C) (g := 1) (by omega), sI_f (C := C) (g := 2) (by omega), sI_f (C := C) (g := 3) (by omega), sI_f (C := C) (g := 4) (by omega), sI_f (C := C) (g := 5) (by omega), sI_f (C := C) (g := 6) (by omega), sI_f (C := C) (g := 7) (by omega), sI_f (C := M) (g := 4) (by omega), sI_f (C := M) (g := 5) (by omega), sI_f (C := M) (g := 6) (by omega), sI_f (C := M) (g := 7) (by omega), sI_f (C := M) (g := 8) (by omega), sI_f (C := M) (g := 9) (by omega), sI_f (C := M) (g := 10) (by omega), sI_f (C := M) (g := 11) (by omega)]
    exact r1
  · refine ⟨g0, ?_, ?_, ?_, ?_, ?_, ?_, ?_⟩
    · rw [sI_e (by omega), sI_e (by omega)]; exact g1
    · rw [sI_e (by omega), sI_e (by omega)]; exact g2
    · rw [sI_e (by omega), sI_e (by omega)]; exact g3
    · rw [sI_e (by omega), sI_e (by omega)]; exact g4
    · rcases hf with ⟨rfl, rfl⟩ | ⟨rfl, rfl⟩ | ⟨rfl, rfl⟩
      · rw [sI_self, sI_self]
      · rw [sI_e (by omega), sI_e (by omega)]; exact g5
      · rw [sI_e (by omega), sI_e (by omega)]; exact g5
    · rcases hf with ⟨rfl, rfl⟩ | ⟨rfl, rfl⟩ | ⟨rfl, rfl⟩
      · rw [sI_e (by omega), sI_e (by omega)]; exact g6
      · rw [sI_self, sI_self]
      · rw [sI_e (by omega), sI_e (by omega)]; exact g6
    · rcases hf with ⟨rfl, rfl⟩ | ⟨rfl, rfl⟩ | ⟨rfl, rfl⟩
      · rw [sI_e (by omega), sI_e (by omega)]; exact g7
      · rw [sI_e (by omega), sI_e (by omega)]; exact g7
      · rw [sI_self, sI_self]
  · unfold Ri
    rw [sI_f (C := C) (g := 9) (by omega), sI_f (C := C) (g := 10) (by omega), sI_f (C := C) (g := 11) (by omega), sI_f (C := C) (g := 12) (by omega), sI_f (C := M) (g := 0) (by omega), sI_f (C := M) (g := 1) (by omega), sI_f (C := M) (g := 2) (by omega), sI_f (C := M) (g := 3) (by omega)]
    exact r3
theorem Stk_of {C C' M M' : CS} {d : Nat} {a : Nat → Nat} (h0 : C'.1 0 = C.1 0) (h6 : C'.1 6 = C.1 6) (h19 : C'.1 19 = C.1 19) (hs : C'.2.2 = C.2.2) (m12 : M'.1 12 = M.1 12) (m13 : M'.1 13 = M.1 13) (h : Stk C M d a) : Stk C' M' d a := by
  unfold Stk
  rw [cactive_fn h0 h6, h19, hs, m12, m13]
  exact h
/-! the roots and what is referred to are the same on both sides -/
theorem mAct_eq {M : CS} {k n : Nat} (h : M.1 12 k = nI n) (hn : n < 16) : mAct M k = n := by unfold mAct; rw [h]; exact nI_clamp (by omega)
theorem roots_eq {C M : CS} {d : Nat} {a : Nat → Nat} (r : Rel C M) (s : Stk C M d a) : ∀ m, m < 16 → (rootsC C m ↔ rootsM M m) := by
  intro m hm
  obtain ⟨s1, s2, s3, s4, s5, s6⟩ := s
  unfold rootsC rootsM
  rw [mDepth_eq s3 s1]
  constructor
  · rintro (⟨j, hj, h⟩ | ⟨n, hn, ha, h⟩)
    · exact .inl ⟨j, hj, by rw [← r.2.1.1 j hj]; exact h⟩
    · obtain ⟨i, hi, e⟩ := s6 n hn ha
      subst e
      obtain ⟨-, -, h12, -⟩ := s4 i hi
      refine .inr ⟨i, hi, ?_⟩
      rw [mAct_eq h12 hn, h12, oV_nI hn, oV_inj hn hm]
      rcases h with h | ⟨j, hj, h⟩
      · exact .inl h.symm
      · exact .inr ⟨j, hj, by rw [← (r.1 _ hn).2.2.2.1 (cactive_iff.1 ha).1 j hj]; exact h⟩
  · rintro (⟨j, hj, h⟩ | ⟨i, hi, h⟩)
    · exact .inl ⟨j, hj, by rw [r.2.1.1 j hj]; exact h⟩
    · obtain ⟨hn, -, h12, ha⟩ := s4 i hi
      rw [mAct_eq h12 hn, h12, oV_nI hn, oV_inj hn hm] at h
      refine .inr ⟨a i, hn, ha, ?_⟩
      rcases h with h | ⟨j, hj, h⟩
      · exact .inl h.symm
      · exact .inr ⟨j, hj, by rw [(r.1 _ hn).2.2.2.1 (cactive_iff.1 ha).1 j hj]; exact h⟩
theorem refs_eq {C M : CS} {n : Nat} (hok : okC C) (r : Rel C M) (hn : n < 16) (hk : C.1 0 n = 1 ∨ C.1 0 n = 2) : ∀ m, m < 16 → (refsC C n m ↔ refsM M n m) := by
  intro m hm
  obtain ⟨⟨r1, r2⟩, r3, r4, r5, r6⟩ := r.1 n hn
  obtain ⟨⟨P, hP, hP2⟩, hM, -⟩ := hok.1 n hn
  unfold refsC refsM
  rw [← r1]
  rcases hk with hk | hk
  · have n2 : ¬ C.1 0 n = 2 := by rw [hk]; decide
    obtain ⟨e6, e7⟩ := r3 hk
    have eP : cPairs C n = P := cPairs_eq hP2 hP
    have eQ : mSize M n = P := mSize_eq (by rw [← e6]; exact hP2) hP
    rw [eP, eQ, ← e7]
    constructor
    · rintro (⟨h, -⟩ | ⟨-, h⟩)
      · exact (n2 h).elim
      · refine .inr ⟨n2, ?_⟩
        rcases h with ⟨j, hj, h⟩ | ⟨h1, h2⟩
        · exact .inl ⟨j, hj, by rw [← (r6 j (by omega)).1, ← (r6 j (by omega)).2]; exact h⟩
        · refine .inr ⟨h1, ?_⟩
          rcases hM with h | ⟨q, hq, h⟩
          · rw [h] at h1; exact absurd (by decide) h1
          · rw [h, oV_nI hq, oV_inj hq hm]
            rw [h, nI_clamp (by omega)] at h2
            exact h2.symm
    · rintro (⟨h, -⟩ | ⟨-, h⟩)
      · exact (n2 h).elim
      · refine .inr ⟨n2, ?_⟩
        rcases h with ⟨j, hj, h⟩ | ⟨h1, h2⟩
        · exact .inl ⟨j, hj, by rw [(r6 j (by omega)).1, (r6 j (by omega)).2]; exact h⟩
        · refine .inr ⟨h1, ?_⟩
          rcases hM with h | ⟨q, hq, h⟩
          · rw [h] at h1; exact absurd (by decide) h1
          · rw [h, oV_nI hq, oV_inj hq hm] at h2
            rw [h, nI_clamp (by omega)]
            exact h2.symm
  · constructor
    · rintro (⟨-, j, hj, h⟩ | ⟨h, -⟩)
      · exact .inl ⟨hk, j, hj, by rw [← r5 hk j hj]; exact h⟩
      · exact (h hk).elim
    · rintro (⟨-, j, hj, h⟩ | ⟨h, -⟩)
      · exact .inl ⟨hk, j, hj, by rw [r5 hk j hj]; exact h⟩
      · exact (h hk).elim
/-! only the colours change -/
theorem Rel_col {C C' M M' : CS} (r : Rel C M) (e : eq1 C' C) (g : eq5 M' M) (hc : ∀ n, n < 16 → C'.1 1 n = M'.1 5 n) : Rel C' M' := by
  have f := eq1_fn e
  have k := eq5_fn g
  refine ⟨fun n hn => ?_, ?_, ?_⟩
  · obtain ⟨⟨r1, r2⟩, r3⟩ := r.1 n hn
    rw [f 0 (by decide), f 2 (by decide), f 3 (by decide), f 4 (by decide), f 5 (by decide), f 6 (by decide), f 7 (by decide), e.1, k 4 (by decide), k 6 (by decide), k 7 (by decide), k 8 (by decide), k 9 (by decide), k 10 (by decide), k 11 (by decide), g.1]
    exact ⟨⟨r1, hc n hn⟩, r3⟩
  · unfold Rg
    rw [f 13 (by decide), f 14 (by decide), f 15 (by decide), f 16 (by decide), f 17 (by decide), f 18 (by decide), f 20 (by decide), e.1, k 14 (by decide), k 15 (by decide), k 16 (by decide), k 17 (by decide), k 18 (by decide), k 19 (by decide), k 20 (by decide), g.1]
    exact r.2.1
  · unfold Ri
    rw [f 9 (by decide), f 10 (by decide), f 11 (by decide), f 12 (by decide), k 0 (by decide), k 1 (by decide), k 2 (by decide), k 3 (by decide)]
    exact r.2.2
theorem live_n2 {C : CS} {n : Nat} (h : ¬ C.1 13 0 = 2) : live C n ↔ ¬ C.1 0 n = 0 := ⟨fun z => z.1, fun z => ⟨z, fun y => (h y).elim⟩⟩
theorem Safe_col {C C' : CS} (h : Safe C) (e : eq1 C' C) (hp : ¬ C.1 13 0 = 2) (hc : C.1 13 0 = 1 → ∀ n m, n < 16 → m < 16 → C'.1 1 n = 2 → refsC C n m → ¬ C'.1 1 m = 0) : Safe C' := by
  have f := eq1_fn e
  have hp' : ¬ C'.1 13 0 = 2 := by rw [f 13 (by decide)]; exact hp
  have hl : ∀ n, live C' n ↔ live C n := fun n => by rw [live_n2 hp, live_n2 hp', f 0 (by decide)]
  unfold Safe
  rw [rootsC_fn (f 0 (by decide)) (f 6 (by decide)) (by rw [e.1]) (by rw [e.1]), refsC_fn (f 0 (by decide)) (f 2 (by decide)) (f 3 (by decide)) (by rw [e.1]) (by rw [e.1]) (by rw [e.1]), f 0 (by decide), f 3 (by decide), f 13 (by decide)]
  obtain ⟨h1, h2, h3, h4⟩ := h
  exact ⟨fun m hm z => (hl m).2 (h1 m hm z), fun n m hn hm z y => (hl m).2 (h2 n m hn hm ((hl n).1 z) y), hc, fun n m hn hm z => h4 n m hn hm ((hl n).1 z)⟩
theorem Sm_col {C C' : CS} (h : Sm C) (e : eq1 C' C) (hp : ¬ C.1 13 0 = 2) (hc : ∀ n, n < 16 → (C'.1 1 n = 0 ∨ C'.1 1 n = 1 ∨ C'.1 1 n = 2) ∧ (C.1 0 n = 0 → C'.1 1 n = 0)) (h0 : C.1 13 0 = 0 → ∀ n, n < 16 → C'.1 1 n = 0) : Sm C' := by
  have f := eq1_fn e
  obtain ⟨h1, h2, h3, h4⟩ := h
  unfold Sm Sm1 Sm2 Sm3 Sm4
  rw [f 0 (by decide), f 6 (by decide), f 9 (by decide), f 13 (by decide), f 14 (by decide), f 15 (by decide), f 16 (by decide)]
  exact ⟨fun n hn => ⟨(h1 n hn).1, (hc n hn).1, (hc n hn).2, (h1 n hn).2.2.2⟩, ⟨h2.1, h2.2.1, h0, fun z => (hp z).elim⟩, h3, h4⟩
theorem okC_col {C C' : CS} (h : okC C) (e : eq1 C' C) : okC C' := okC_of h (fun f hf n => e.2 f (by omega) n) e.1 (by rw [e.2 14 (by decide)]; exact h.2.2.1)
theorem Stk_col {C C' M M' : CS} {d : Nat} {a : Nat → Nat} (e : eq1 C' C) (g : eq5 M' M) (h : Stk C M d a) : Stk C' M' d a := Stk_of (eq1_fn e 0 (by decide)) (eq1_fn e 6 (by decide)) (eq1_fn e 19 (by decide)) (by rw [e.1]) (eq5_fn g 12 (by decide)) (eq5_fn g 13 (by decide)) h
theorem eq1_blacken (C : CS) (n : Nat) : eq1 (cblacken C n) C := ⟨cblacken_2 C n, fun f hf b => cblacken_1 C n f b hf⟩
theorem eq1_roots (C : CS) : eq1 (cshadeRoots C).2 C := ⟨cshadeRoots_2 C, fun f hf b => cshadeRoots_1 C f b hf⟩
theorem lst_congr {p q : Nat → Bool} : ∀ (c i : Nat), (∀ j, i ≤ j → j < i + c → p j = q j) → lst p c i = lst q c i
  | 0, _, _ => rfl
  | c + 1, i, h => by
    unfold lst
    rw [h i (Nat.le_refl _) (by omega), lst_congr c (i + 1) (fun j h1 h2 => h j (by omega) (by omega))]
theorem sumN_congr {f g : Nat → Nat} : ∀ n, (∀ i, i < n → f i = g i) → sumN f n = sumN g n
  | 0, _ => rfl
  | n + 1, h => by
    show sumN f n + f n = sumN g n + g n
    rw [sumN_congr n (fun i hi => h i (by omega)), h n (by omega)]
theorem sumN_up1 {f g : Nat → Nat} {k : Nat} (hk : g k = f k + 1) (h : ∀ i, i ≠ k → g i = f i) : ∀ n, k < n → sumN g n = sumN f n + 1
  | 0, z => absurd z (Nat.not_lt_zero _)
  | n + 1, z => by
    show sumN g n + g n = sumN f n + f n + 1
    by_cases e : k = n
    · subst e
      rw [sumN_congr k (fun i hi => h i (by omega)), hk]
      omega
    · rw [sumN_up1 hk h n (by omega), h n (by omega)]
      omega
theorem cntK_up {k k' : Nat → Int32} {n : Nat} (hn : n < 16) (h0 : k n = 0) (h1 : ¬ k' n = 0) (h : ∀ i, i ≠ n → k' i = k i) : cntK k' = cntK k + 1 := by
  unfold cntK
  refine sumN_up1 (k := n) ?_ (fun i hi => by rw [h i hi]) 16 hn
  rw [if_pos h0, if_neg h1]
