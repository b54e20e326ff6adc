theorem mOf_sI {M : CS} {f n : Nat} {x k : Int32} {v : Int64} (h : 4 ≠ f) : mOf (sI M f n x) k v = mOf M k v := by
  unfold mOf
  rw [sI_e h]
theorem i32_lt {g : Int32} {m : Nat} (hm : m < 2 ^ 31) (h1 : ¬ g < 0) (h2 : g < nI m) : g.toNatClampNeg < m ∧ g = nI g.toNatClampNeg := by
  obtain ⟨a, b⟩ := i32_num hm h1 (fun z => Int32.lt_irrefl (Int32.lt_trans h2 z))
  refine ⟨?_, b⟩
  rcases Nat.lt_or_eq_of_le a with a | a
  · exact a
  · rw [b, a] at h2
    exact (Int32.lt_irrefl h2).elim
def mgl (M : CS) (g : Int32) : Int64 := M.2.1 0 0 g.toNatClampNeg
def mset (M : CS) (t k v : Int32) : CS := if (t < 0 ∨ 5 < t) ∨ (k < 0 ∨ 5 < k) ∨ (v < 0 ∨ 5 < v) then sI M 21 0 1 else
  match mOf M 1 (mgl M t) with
  | none => sI M 21 0 3
  | some n => sI (msetting (sI (sI M 21 0 0) 22 0 0) n (mgl M k) (mgl M v)) 21 0 ((msetting (sI (sI M 21 0 0) 22 0 0) n (mgl M k) (mgl M v)).1 22 0)
def mget (M : CS) (t k v : Int32) : Int64 × CS := if (t < 0 ∨ 5 < t) ∨ (k < 0 ∨ 5 < k) ∨ (v < 0 ∨ 5 < v) then (0, sI M 21 0 1) else
  match mOf M 1 (mgl M t) with
  | none => (0, sI M 21 0 3)
  | some n =>
    let A := mgetting (sI (sI M 21 0 0) 22 0 0) (mgl M k) 5 n
    if A.2.1 22 0 = 0 then (A.1, sJ (sI A.2 21 0 (A.2.1 22 0)) 0 0 v.toNatClampNeg A.1) else (0, sI A.2 21 0 (A.2.1 22 0))
def mmeta (M : CS) (t m : Int32) : CS := if (t < 0 ∨ 5 < t) ∨ (m < 0 ∨ 5 < m) then sI M 21 0 1 else
  sI (mjoin (sI (sI M 21 0 0) 22 0 0) (mgl M t) (mgl M m)) 21 0 (if (mjoin (sI (sI M 21 0 0) 22 0 0) (mgl M t) (mgl M m)).1 22 0 = 0 then 0 else 2)
def mobject (M : CS) (n w : Int32) : Int32 × CS := if n < 0 ∨ 15 < n ∨ w < 0 ∨ 3 < w then (0, sI M 21 0 1) else
  if 0 < w ∧ M.1 4 n.toNatClampNeg = 0 then (0, sI M 21 0 2) else
  (if w = 0 then M.1 4 n.toNatClampNeg else if w = 1 then M.1 5 n.toNatClampNeg else if w = 2 then (if M.1 4 n.toNatClampNeg = 1 then M.1 6 n.toNatClampNeg else M.1 9 n.toNatClampNeg) else if M.1 4 n.toNatClampNeg = 1 then M.1 7 n.toNatClampNeg else M.1 10 n.toNatClampNeg, sI M 21 0 0)
def mrows (M : CS) (n : Nat) (b : Int32) : Int32 := if M.1 4 n = 0 then 0 else if M.1 4 n = 1 then M.1 6 n else if b = 0 then 4 else 0
def minside (M : CS) (n i b : Int32) : Int64 × CS := if n < 0 ∨ 15 < n then (0, sI M 21 0 1) else
  if i < 0 ∨ ¬ i < mrows M n.toNatClampNeg b then (0, sI M 21 0 2) else
  (if M.1 4 n.toNatClampNeg = 2 then M.2.1 3 0 (n.toNatClampNeg * 4 + i.toNatClampNeg) else if b = 0 then M.2.1 1 0 (n.toNatClampNeg * 6 + i.toNatClampNeg) else M.2.1 2 0 (n.toNatClampNeg * 6 + i.toNatClampNeg), sI M 21 0 0)
