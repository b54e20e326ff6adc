/-! THE REFERENCE AS FUNCTIONS on its own state: ints by (array, place) and (field, 0), longs by (array, 0, place) -/
theorem nI_at6 (a b : Nat) : nI a * 6 + nI b = nI (a * 6 + b) := by
  rw [← nI_add]
  congr 1
  exact (Int32.ofNat_mul a 6).symm
theorem nI_at4 (a b : Nat) : nI a * 4 + nI b = nI (a * 4 + b) := by
  rw [← nI_add]
  congr 1
  exact (Int32.ofNat_mul a 4).symm
theorem nI_at16 (a b : Nat) : nI a * 16 + nI b = nI (a * 16 + b) := by
  rw [← nI_add]
  congr 1
  exact (Int32.ofNat_mul a 16).symm
def mObj (v : Int64) : Option Nat := if v < 10000000000 then none else some (on v)
def mOf (M : CS) (k : Int32) (v : Int64) : Option Nat := if ¬ v < 10000000000 ∧ M.1 4 (on v) = k then some (on v) else none
def mshade (M : CS) (v : Int64) : CS := if ¬ v < 10000000000 ∧ M.1 5 (on v) = 0 then sI M 5 (on v) 1 else M
def mtouch (M : CS) (n : Nat) : CS := if M.1 14 0 = 1 ∧ M.1 5 n = 2 then sI M 5 n 1 else M
def mfree (M : CS) : Option Nat := lst (fun n => M.1 4 n == 0) 16 0
def mgray (M : CS) : Option Nat := lst (fun n => !(M.1 4 n == 0) && M.1 5 n == 1) 16 0
def mSize (M : CS) (n : Nat) : Nat := (M.1 6 n).toNatClampNeg
def mpair (M : CS) (t : Nat) (key : Int64) : Option Nat := lst (fun i => M.2.1 1 0 (t * 6 + i) == key) (mSize M t) 0
def mnext (M : CS) (t : Nat) (key : Int64) : Option Nat :=
  if M.1 7 t < 0 then none else match mpair M (M.1 7 t).toNatClampNeg key with
    | none => none
    | some p => mOf M 1 (M.2.1 2 0 ((M.1 7 t).toNatClampNeg * 6 + p))
/-- what the reference keeps true of its numbers -/
def okM (M : CS) : Prop := (∀ n, n < 16 → (∃ P, P ≤ 6 ∧ M.1 6 n = nI P) ∧ (M.1 7 n = -1 ∨ ∃ j, j < 16 ∧ M.1 7 n = nI j)) ∧ (∀ f j, okV (M.2.1 f 0 j)) ∧ (∃ i, i < 16 ∧ M.1 15 0 = nI i)
theorem mSize_eq {M : CS} {n P : Nat} (hp : M.1 6 n = nI P) (hP : P ≤ 6) : mSize M n = P := by unfold mSize; rw [hp]; exact nI_clamp (by omega)
theorem mpair_lt {M : CS} {t P p : Nat} {key : Int64} (hp : M.1 6 t = nI P) (hP : P ≤ 6) (h : mpair M t key = some p) : p < P := by
  unfold mpair at h
  rw [mSize_eq hp hP] at h
  have := (lst_lt _ _ _ h).2.1
  omega
theorem mOf_lt {M : CS} {k : Int32} {v : Int64} {n : Nat} (hv : okV v) (h : mOf M k v = some n) : n < 16 := by
  unfold mOf at h
  split at h
  · rename_i hc
    cases h
    exact (okV_on hv hc.1).1
  · cases h
