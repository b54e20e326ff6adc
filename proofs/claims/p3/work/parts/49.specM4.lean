theorem i32_num {g : Int32} {m : Nat} (hm : m < 2 ^ 31) (h1 : ¬ g < 0) (h2 : ¬ nI m < g) : g.toNatClampNeg ≤ m ∧ g = nI g.toNatClampNeg := by
  have a : 0 ≤ g.toInt := by
    have := mt Int32.lt_iff_toInt_lt.mpr h1
    rw [Int32.toInt_zero] at this
    omega
  have b : g.toInt ≤ m := by
    have := mt Int32.lt_iff_toInt_lt.mpr h2
    rw [nI_toInt hm] at this
    omega
  have e : g.toNatClampNeg = g.toInt.toNat := rfl
  refine ⟨by omega, Int32.toInt_inj.mp ?_⟩
  rw [nI_toInt (by omega), e]
  omega
theorem gl_num {g : Int32} (h : ¬ (g < 0 ∨ 5 < g)) : g.toNatClampNeg < 6 ∧ g = nI g.toNatClampNeg := by
  obtain ⟨a, b⟩ := i32_num (m := 5) (by decide) (fun z => h (.inl z)) (fun z => h (.inr z))
  exact ⟨by omega, b⟩
theorem munit_e {M : CS} {g b : Nat} (hg : g ≠ 4 ∧ g ≠ 5 ∧ g ≠ 14 ∧ g ≠ 15 ∧ g ≠ 17 ∧ g ≠ 19) : (munit M).2.1 g b = M.1 g b := by
  obtain ⟨g4, g5, g14, g15, g17, g19⟩ := hg
  have e1 : (sI M 19 0 (M.1 19 0 + 1)).1 g b = M.1 g b := sI_e g19
  have er : (mshadeRoots (sI M 19 0 (M.1 19 0 + 1))).1 g b = M.1 g b := ((eq5_shadeRoots (eq5_refl _)).2 g g5 b).trans e1
  simp only [munit]
  split
  · exact (sI_e g14).trans er
  · split
    · split
      · exact ((eq5_blacken (eq5_refl _)).2 g g5 b).trans e1
      · split
        · exact er
        · exact (sI_e g15).trans ((sI_e g14).trans er)
    · have e2 : (if ¬ M.1 4 (M.1 15 0).toNatClampNeg = 0 ∧ M.1 5 (M.1 15 0).toNatClampNeg = 0 then sI (sI (sI M 19 0 (M.1 19 0 + 1)) 4 (M.1 15 0).toNatClampNeg 0) 17 0 (M.1 17 0 + 1) else sI M 19 0 (M.1 19 0 + 1)).1 g b = M.1 g b := by
        split
        · exact (sI_e g17).trans ((sI_e g4).trans e1)
        · exact e1
      by_cases hs : M.1 15 0 + 1 = 16
      · rw [if_pos hs]
        exact (sI_e g14).trans ((sI_e g15).trans ((sI_e g15).trans ((sI_e g5).trans e2)))
      · rw [if_neg hs]
        exact (sI_e g15).trans ((sI_e g5).trans e2)
def mnumber (M : CS) (g v : Int32) : CS := if g < 0 ∨ 5 < g then sI M 21 0 1 else sJ (sI M 21 0 0) 0 0 g.toNatClampNeg v.toInt64
def mmove (M : CS) (g h : Int32) : CS := if (g < 0 ∨ 5 < g) ∨ h < -1 ∨ 5 < h then sI M 21 0 1 else sJ (sI M 21 0 0) 0 0 g.toNatClampNeg (if h < 0 then -1000000000000 else M.2.1 0 0 h.toNatClampNeg)
def mglobal (M : CS) (g : Int32) : Int64 × CS := if g < 0 ∨ 5 < g then (0, sI M 21 0 1) else (M.2.1 0 0 g.toNatClampNeg, sI M 21 0 0)
def mcodeBad (f i op : Int32) : Prop := f < 0 ∨ 3 < f ∨ i < 0 ∨ 15 < i ∨ op < -1 ∨ 21 < op
def mcodeAt (f i : Int32) : Nat := f.toNatClampNeg * 16 + i.toNatClampNeg
def mcode (M : CS) (f i op a b c : Int32) : CS := if f < 0 ∨ 3 < f ∨ i < 0 ∨ 15 < i ∨ op < -1 ∨ 21 < op then sI M 21 0 1 else sI (sI (sI (sI (sI M 21 0 0) 0 (mcodeAt f i) op) 1 (mcodeAt f i) a) 2 (mcodeAt f i) b) 3 (mcodeAt f i) c
def mmake (M : CS) (g f : Int32) : Int32 × CS := if (g < 0 ∨ 5 < g) ∨ f < -1 ∨ 3 < f then (0, sI M 21 0 1) else
  match (mcreate (sI M 21 0 0) (if f < 0 then 1 else 2) f).1 with
  | none => (0, sI (mcreate (sI M 21 0 0) (if f < 0 then 1 else 2) f).2 21 0 2)
  | some n => (nI n, sJ (sI (mcreate (sI M 21 0 0) (if f < 0 then 1 else 2) f).2 21 0 0) 0 0 g.toNatClampNeg (10000000000 + (nI n).toInt64))
theorem mcreate_lt {M : CS} {k f : Int32} {n : Nat} (h : (mcreate M k f).1 = some n) : n < 16 := by
  simp only [mcreate] at h
  split at h
  · cases h
  · rename_i j hj
    cases h
    exact mfree_lt hj
def mcoll : Nat → Int32 → CS → Int32 × CS
  | 0, a, M => (a, M)
  | c + 1, a, M => mcoll c (a + (munit M).1) (munit M).2
def mcollect (M : CS) (n : Int32) : Int32 × CS := if n < 1 ∨ 100 < n then (0, sI M 21 0 1) else mcoll n.toNatClampNeg 0 (sI M 21 0 0)
