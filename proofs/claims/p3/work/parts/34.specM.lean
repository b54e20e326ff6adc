/-! THE REFERENCE AS FUNCTIONS on its own state: ints by (array, place) and (field, 0), longs by (array, 0, place) -/
theorem nI_at6 (a b : Nat) : nI a * 6 + nI b = nI (a * 6 + b) := by
  rw [← nI_add]
  congr 1
  exact (Int32.ofNat_mul a 6).symm
theorem nI_at4 (a b : Nat) : nI a * 4 + nI b = nI (a * 4 + b) := by
  rw [← nI_add]
  congr 1
  exact (Int32.ofNat_mul a 4).symm
theorem nI_at16 (a b : Nat) : nI a * 16 + nI b = nI (a * 16 + b) := by
  rw [← nI_add]
  congr 1
  exact (Int32.ofNat_mul a 16).symm
def mObj (v : Int64) : Option Nat := if v < 10000000000 then none else some (on v)
def mOf (M : CS) (k : Int32) (v : Int64) : Option Nat := if ¬ v < 10000000000 ∧ M.1 4 (on v) = k then some (on v) else none
def mshade (M : CS) (v : Int64) : CS := if ¬ v < 10000000000 ∧ M.1 5 (on v) = 0 then sI M 5 (on v) 1 else M
def mtouch (M : CS) (n : Nat) : CS := if M.1 14 0 = 1 ∧ M.1 5 n = 2 then sI M 5 n 1 else M
def mfree (M : CS) : Option Nat := lst (fun n => M.1 4 n == 0) 16 0
def mgray (M : CS) : Option Nat := lst (fun n => !(M.1 4 n == 0) && M.1 5 n == 1) 16 0
def mSize (M : CS) (n : Nat) : Nat := (M.1 6 n).toNatClampNeg
def mpair (M : CS) (t : Nat) (key : Int64) : Option Nat := lst (fun i => M.2.1 1 0 (t * 6 + i) == key) (mSize M t) 0
def mnext (M : CS) (t : Nat) (key : Int64) : Option Nat :=
  if M.1 7 t < 0 then none else match mpair M (M.1 7 t).toNatClampNeg key with
    | none => none
    | some p => mOf M 1 (M.2.1 2 0 ((M.1 7 t).toNatClampNeg * 6 + p))
/-- what the reference keeps true of its numbers -/
def okM (M : CS) : Prop := (∀ n, n < 16 → (∃ P, P ≤ 6 ∧ M.1 6 n = nI P) ∧ (M.1 7 n = -1 ∨ ∃ j, j < 16 ∧ M.1 7 n = nI j) ∧ (∃ p, p ≤ 16 ∧ M.1 9 n = nI p) ∧ (∃ a, a < 4 ∧ M.1 11 n = nI a)) ∧ (∀ f j, okV (M.2.1 f 0 j)) ∧ (∃ i, i < 16 ∧ M.1 15 0 = nI i) ∧ (∃ d, d ≤ 5 ∧ M.1 13 0 = nI d) ∧ (∀ k, k < 6 → ∃ n, n < 16 ∧ M.1 12 k = nI n)
theorem mSize_eq {M : CS} {n P : Nat} (hp : M.1 6 n = nI P) (hP : P ≤ 6) : mSize M n = P := by unfold mSize; rw [hp]; exact nI_clamp (by omega)
theorem mpair_lt {M : CS} {t P p : Nat} {key : Int64} (hp : M.1 6 t = nI P) (hP : P ≤ 6) (h : mpair M t key = some p) : p < P := by
  unfold mpair at h
  rw [mSize_eq hp hP] at h
  have := (lst_lt _ _ _ h).2.1
  omega
theorem mOf_lt {M : CS} {k : Int32} {v : Int64} {n : Nat} (hv : okV v) (h : mOf M k v = some n) : n < 16 := by
  unfold mOf at h
  split at h
  · rename_i hc
    cases h
    exact (okV_on hv hc.1).1
  · cases h
theorem okV_o {n : Nat} (h : n < 16) : okV (10000000000 + (nI n).toInt64) := .inr ⟨n, h, by rw [nI_l (by omega)]; rfl⟩
/-- all but the colours is as it was -/
def eq5 (M2 M : CS) : Prop := M2.2 = M.2 ∧ ∀ f, f ≠ 5 → ∀ b, M2.1 f b = M.1 f b
theorem eq5_refl (M : CS) : eq5 M M := ⟨rfl, fun _ _ _ => rfl⟩
theorem eq5_sI {M2 M : CS} {n : Nat} {v : Int32} (h : eq5 M2 M) : eq5 (sI M2 5 n v) M := ⟨h.1, fun f hf b => by rw [sI_1, if_neg (fun z => hf z.1)]; exact h.2 f hf b⟩
theorem eq5_shade {M2 M : CS} {v : Int64} (h : eq5 M2 M) : eq5 (mshade M2 v) M := by
  unfold mshade
  split
  · exact eq5_sI h
  · exact h
theorem eq5_trans {A B D : CS} (h : eq5 A B) (g : eq5 B D) : eq5 A D := ⟨h.1.trans g.1, fun f hf b => (h.2 f hf b).trans (g.2 f hf b)⟩
def mshades (row : Nat → Int64) : Nat → Nat → CS → CS
  | 0, _, M => M
  | c + 1, i, M => mshades row c (i + 1) (mshade M (row i))
theorem eq5_shades {row : Nat → Int64} : ∀ (c i : Nat) {M2 M : CS}, eq5 M2 M → eq5 (mshades row c i M2) M
  | 0, _, _, _, h => h
  | c + 1, i, _, _, h => eq5_shades c (i + 1) (eq5_shade h)
def mDepth (M : CS) : Nat := (M.1 13 0).toNatClampNeg
def mAct (M : CS) (k : Nat) : Nat := (M.1 12 k).toNatClampNeg
def mroots : Nat → Nat → CS → CS
  | 0, _, M => M
  | c + 1, k, M => mroots c (k + 1) (mshades (fun r => M.2.1 3 0 (mAct M k * 4 + r)) 4 0 (mshade M (10000000000 + (M.1 12 k).toInt64)))
def mshadeRoots (M : CS) : CS := mroots (mDepth M) 0 (mshades (M.2.1 0 0) 6 0 M)
theorem eq5_roots : ∀ (c k : Nat) {M2 M : CS}, eq5 M2 M → eq5 (mroots c k M2) M
  | 0, _, _, _, h => h
  | c + 1, k, _, _, h => eq5_roots c (k + 1) (eq5_shades 4 0 (eq5_shade h))
theorem eq5_shadeRoots {M2 M : CS} (h : eq5 M2 M) : eq5 (mshadeRoots M2) M := eq5_roots _ _ (eq5_shades 6 0 h)
def mshadeKV (ks vs : Nat → Int64) : Nat → Nat → CS → CS
  | 0, _, M => M
  | c + 1, i, M => mshadeKV ks vs c (i + 1) (mshade (mshade M (ks i)) (vs i))
theorem eq5_shadeKV {ks vs : Nat → Int64} : ∀ (c i : Nat) {M2 M : CS}, eq5 M2 M → eq5 (mshadeKV ks vs c i M2) M
  | 0, _, _, _, h => h
  | c + 1, i, _, _, h => eq5_shadeKV c (i + 1) (eq5_shade (eq5_shade h))
def mblacken (M : CS) (n : Nat) : CS :=
  if M.1 4 n = 2 then mshades (fun r => M.2.1 3 0 (n * 4 + r)) 4 0 (sI M 5 n 2)
  else mshadeKV (fun p => M.2.1 1 0 (n * 6 + p)) (fun p => M.2.1 2 0 (n * 6 + p)) (mSize M n) 0 (if M.1 7 n < 0 then sI M 5 n 2 else mshade (sI M 5 n 2) (10000000000 + (M.1 7 n).toInt64))
theorem eq5_blacken {M2 M : CS} {n : Nat} (h : eq5 M2 M) : eq5 (mblacken M2 n) M := by
  unfold mblacken
  split
  · exact eq5_shades _ _ (eq5_sI h)
  · refine eq5_shadeKV _ _ ?_
    split
    · exact eq5_sI h
    · exact eq5_shade (eq5_sI h)
theorem okM_eq5 {M2 M : CS} (e : eq5 M2 M) (h : okM M) : okM M2 := by
  obtain ⟨h1, h2, h3, h4, h5⟩ := h
  refine ⟨fun n hn => ?_, fun f j => ?_, ?_, ?_, fun k hk => ?_⟩
  · rw [e.2 6 (by decide), e.2 7 (by decide), e.2 9 (by decide), e.2 11 (by decide)]; exact h1 n hn
  · rw [e.1]; exact h2 f j
  · rw [e.2 15 (by decide)]; exact h3
  · rw [e.2 13 (by decide)]; exact h4
  · rw [e.2 12 (by decide)]; exact h5 k hk
theorem okM_keep {M : CS} {f n : Nat} {v : Int32} (hf : f ≠ 6 ∧ f ≠ 7 ∧ f ≠ 9 ∧ f ≠ 11 ∧ f ≠ 12 ∧ f ≠ 13 ∧ f ≠ 15) (h : okM M) : okM (sI M f n v) := by
  obtain ⟨h1, h2, h3, h4, h5⟩ := h
  have e : ∀ g b, g ≠ f → (sI M f n v).1 g b = M.1 g b := fun g b hg => by rw [sI_1, if_neg (fun z => hg z.1)]
  obtain ⟨f6, f7, f9, f11, f12, f13, f15⟩ := hf
  refine ⟨fun n hn => ?_, fun f j => h2 f j, ?_, ?_, fun k hk => ?_⟩
  · rw [e 6 _ f6.symm, e 7 _ f7.symm, e 9 _ f9.symm, e 11 _ f11.symm]; exact h1 n hn
  · rw [e 15 _ f15.symm]; exact h3
  · rw [e 13 _ f13.symm]; exact h4
  · rw [e 12 _ f12.symm]; exact h5 k hk
def munit (M : CS) : Int32 × CS :=
  let M1 := sI M 19 0 (M.1 19 0 + 1)
  if M.1 14 0 = 0 then (0, sI (mshadeRoots M1) 14 0 1)
  else if M.1 14 0 = 1 then match mgray M1 with
    | some n => (0, mblacken M1 n)
    | none => match mgray (mshadeRoots M1) with
      | some _ => (0, mshadeRoots M1)
      | none => (0, sI (sI (mshadeRoots M1) 14 0 2) 15 0 0)
  else
    let i := (M.1 15 0).toNatClampNeg
    let M2 := if ¬ M.1 4 i = 0 ∧ M.1 5 i = 0 then sI (sI M1 4 i 0) 17 0 (M.1 17 0 + 1) else M1
    let M3 := sI (sI M2 5 i 0) 15 0 (M.1 15 0 + 1)
    (if ¬ M.1 4 i = 0 ∧ M.1 5 i = 0 then 1 else 0, if M.1 15 0 + 1 = 16 then sI (sI M3 15 0 0) 14 0 0 else M3)
theorem mgray_lt {M : CS} {n : Nat} (h : mgray M = some n) : n < 16 := by have := (lst_lt _ _ _ h).2.1; omega
theorem mfree_lt {M : CS} {n : Nat} (h : mfree M = some n) : n < 16 := by have := (lst_lt _ _ _ h).2.1; omega
/-- GETTING: its trouble and its value -/
def mgetting (M : CS) (key : Int64) : Nat → Nat → Int64 × CS
  | 0, _ => (-1000000000000, sI M 22 0 2)
  | c + 1, n => if key = -1000000000000 then (-1000000000000, M) else match mpair M n key with
    | some p => (M.2.1 2 0 (n * 6 + p), M)
    | none => match mnext M n 0 with
      | none => (-1000000000000, M)
      | some m => mgetting M key c m
theorem mnext_lt {M : CS} {n m : Nat} {key : Int64} (hok : okM M) (h : mnext M n key = some m) : m < 16 := by
  unfold mnext at h
  split at h
  · cases h
  · split at h
    · cases h
    · exact mOf_lt (hok.2.1 _ _) h
