/-! THE CLASS AS FUNCTIONS: its state (ints by field and object; longs by field, object and place; which coroutines are active), and what each method makes of it -/
abbrev CS : Type := (Nat → Nat → Int32) × (Nat → Nat → Nat → Int64) × (Nat → Option Nat)
def sI (C : CS) (f n : Nat) (v : Int32) : CS := (fun a b => if a = f ∧ b = n then v else C.1 a b, C.2.1, C.2.2)
def sJ (C : CS) (f n i : Nat) (v : Int64) : CS := (C.1, fun a b c => if a = f ∧ b = n ∧ c = i then v else C.2.1 a b c, C.2.2)
def sR (C : CS) (f n : Nat) (g : Nat → Int64) : CS := (C.1, fun a b c => if a = f ∧ b = n then g c else C.2.1 a b c, C.2.2)
def sA (C : CS) (i n : Nat) : CS := (C.1, C.2.1, va_up C.2.2 i (some n))
theorem sI_1 (C : CS) (f n a b : Nat) (v : Int32) : (sI C f n v).1 a b = if a = f ∧ b = n then v else C.1 a b := rfl
theorem sI_2 (C : CS) (f n : Nat) (v : Int32) : (sI C f n v).2 = C.2 := rfl
theorem sJ_1 (C : CS) (f n i : Nat) (v : Int64) : (sJ C f n i v).1 = C.1 := rfl
theorem sJ_2 (C : CS) (f n i a b c : Nat) (v : Int64) : (sJ C f n i v).2.1 a b c = if a = f ∧ b = n ∧ c = i then v else C.2.1 a b c := rfl
theorem sJ_3 (C : CS) (f n i : Nat) (v : Int64) : (sJ C f n i v).2.2 = C.2.2 := rfl
theorem sR_1 (C : CS) (f n : Nat) (g : Nat → Int64) : (sR C f n g).1 = C.1 := rfl
theorem sR_2 (C : CS) (f n a b c : Nat) (g : Nat → Int64) : (sR C f n g).2.1 a b c = if a = f ∧ b = n then g c else C.2.1 a b c := rfl
theorem sR_3 (C : CS) (f n : Nat) (g : Nat → Int64) : (sR C f n g).2.2 = C.2.2 := rfl
theorem sA_1 (C : CS) (i n : Nat) : (sA C i n).1 = C.1 := rfl
theorem sA_2 (C : CS) (i n : Nat) : (sA C i n).2.1 = C.2.1 := rfl
theorem sA_3 (C : CS) (i n : Nat) : (sA C i n).2.2 = va_up C.2.2 i (some n) := rfl
/-- the value of object n; the number of an object's value -/
def oV (n : Nat) : Int64 := 10000000000 + lN n
def on (v : Int64) : Nat := (v - 10000000000).toInt32.toNatClampNeg
def okV (v : Int64) : Prop := v < 10000000000 ∨ ∃ n, n < 16 ∧ v = oV n
theorem oV_sub : ∀ n, n < 16 → (oV n - 10000000000).toInt32 = nI n := by decide
theorem oV_ge : ∀ n, n < 16 → ¬ oV n < 10000000000 := by decide
theorem on_oV {n : Nat} (h : n < 16) : on (oV n) = n := by unfold on; rw [oV_sub n h]; exact nI_clamp (by omega)
theorem okV_on {v : Int64} (h : okV v) (hv : ¬ v < 10000000000) : on v < 16 ∧ v = oV (on v) ∧ (v - 10000000000).toInt32 = nI (on v) := by
  rcases h with h | ⟨n, hn, rfl⟩
  · exact absurd h hv
  · rw [on_oV hn]; exact ⟨hn, rfl, oV_sub n hn⟩
/-- an answer that is a place, or -1 -/
def enc : Option Nat → Int32
  | none => -1
  | some i => nI i
/-- the first place from i on, of c, where p holds -/
def lst (p : Nat → Bool) : Nat → Nat → Option Nat
  | 0, _ => none
  | c + 1, i => if p i = true then some i else lst p c (i + 1)
theorem lst_lt {p : Nat → Bool} : ∀ (c i j : Nat), lst p c i = some j → i ≤ j ∧ j < i + c ∧ p j = true
  | 0, i, j, h => by cases h
  | c + 1, i, j, h => by
    unfold lst at h
    by_cases hp : p i = true
    · rw [if_pos hp] at h
      cases h
      exact ⟨Nat.le_refl _, by omega, hp⟩
    · rw [if_neg hp] at h
      obtain ⟨h1, h2, h3⟩ := lst_lt c (i + 1) j h
      exact ⟨by omega, by omega, h3⟩
def cPairs (C : CS) (n : Nat) : Nat := (C.1 2 n).toNatClampNeg
def tfind (C : CS) (n : Nat) (key : Int64) : Option Nat := lst (fun i => C.2.1 1 n i == key) (cPairs C n) 0
def isA (C : CS) (k : Int32) (v : Int64) : Bool := !decide (v < 10000000000) && decide (C.1 0 (on v) = k)
def tlinked (C : CS) (mt : Int32) (link : Int64) : Option Nat :=
  if mt < 0 then none else match tfind C mt.toNatClampNeg link with
    | none => none
    | some j => if isA C 1 (C.2.1 2 mt.toNatClampNeg j) = true then some (on (C.2.1 2 mt.toNatClampNeg j)) else none
def tlast (C : CS) (key link : Int64) : Nat → Nat → Option Nat
  | 0, _ => none
  | c + 1, n => match (if (tfind C n key).isSome = true then none else tlinked C (C.1 3 n) link) with
    | none => some n
    | some m => tlast C key link c m
def ctouch (C : CS) (n : Nat) : CS := if C.1 13 0 = 1 ∧ C.1 1 n = 2 then sI C 1 n 1 else C
def tclear (C : CS) (n : Nat) : CS := sI (sI C 2 n 0) 3 n (-1)
/-- a row whose first k places are v -/
def fil (v : Int64) (k : Nat) (f : Nat → Int64) : Nat → Int64 := fun i => if i < k then v else f i
def cclear (C : CS) (n : Nat) (f : Int32) : CS := sI (sI (sI (sI (sR C 3 n (fil (-1000000000000) 4 (C.2.1 3 n))) 4 n f) 5 n 0) 6 n 0) 7 n 0
def tappend (C : CS) (n : Nat) (key value : Int64) : CS := sI (sJ (sJ C 1 n (cPairs C n) key) 2 n (cPairs C n) value) 2 n (C.1 2 n + 1)
def ttake (C : CS) (n pair : Nat) : CS := sI (sR (sR C 1 n (va_cpy (C.2.1 1 n) (C.2.1 1 n) (pair + 1) pair (cPairs C n - pair - 1))) 2 n (va_cpy (C.2.1 2 n) (C.2.1 2 n) (pair + 1) pair (cPairs C n - pair - 1))) 2 n (C.1 2 n - 1)
def cbirth (C : CS) (n : Nat) : Int32 := if C.1 13 0 = 1 ∨ (C.1 13 0 = 2 ∧ C.1 14 0 ≤ nI n) then 2 else 0
def cfree (C : CS) : Option Nat := lst (fun n => C.1 0 n == 0) 16 0
def cgray (C : CS) : Option Nat := lst (fun n => C.1 1 n == 1) 16 0
def cactive (C : CS) (n : Nat) : Bool := decide (C.1 0 n = 2) && decide (C.1 6 n = 2)
/-- a row of values: the white objects in it become gray; how many -/
def cshade (C : CS) (n : Nat) : Int32 × CS := if C.1 1 n = 0 then (1, sI C 1 n 1) else (0, C)
def cshadeRow (row : Nat → Int64) : Nat → Nat → Int32 → CS → Int32 × CS
  | 0, _, a, C => (a, C)
  | c + 1, i, a, C => if ¬ row i < 10000000000 ∧ C.1 1 (on (row i)) = 0 then cshadeRow row c (i + 1) (a + 1) (sI C 1 (on (row i)) 1) else cshadeRow row c (i + 1) a C
def croots : Nat → Nat → Int32 → CS → Int32 × CS
  | 0, _, a, C => (a, C)
  | c + 1, n, a, C => if cactive C n = true then
      croots c (n + 1) (a + (cshade C n).1 + (cshadeRow (C.2.1 3 n) 4 0 0 (cshade C n).2).1) (cshadeRow (C.2.1 3 n) 4 0 0 (cshade C n).2).2
    else croots c (n + 1) a C
def cshadeRoots (C : CS) : Int32 × CS := croots 16 0 (cshadeRow (C.2.1 0 0) 6 0 0 C).1 (cshadeRow (C.2.1 0 0) 6 0 0 C).2
def cblacken (C : CS) (n : Nat) : CS :=
  let C1 := sI C 1 n 2
  if C.1 0 n = 2 then (cshadeRow (C.2.1 3 n) 4 0 0 C1).2
  else
    let C3 := (cshadeRow (C.2.1 2 n) (cPairs C n) 0 0 (cshadeRow (C.2.1 1 n) (cPairs C n) 0 0 C1).2).2
    if C.1 3 n < 0 then C3 else (cshade C3 (C.1 3 n).toNatClampNeg).2
def csweep (C : CS) : CS :=
  let i := (C.1 14 0).toNatClampNeg
  let C1 := if ¬ C.1 0 i = 0 ∧ C.1 1 i = 0 then sI (sI C 0 i 0) 16 0 (C.1 16 0 + 1) else C
  let C2 := sI (sI C1 1 i 0) 14 0 (C.1 14 0 + 1)
  if C.1 14 0 + 1 = 16 then sI (sI C2 14 0 0) 13 0 0 else C2
def cunit (C : CS) : CS :=
  let C1 := sI C 17 0 (C.1 17 0 + 1)
  if C.1 13 0 = 2 then csweep C1 else match cgray C1 with
    | some n => cblacken C1 n
    | none => sI (cshadeRoots C1).2 13 0 (if C.1 13 0 = 0 ∨ 0 < (cshadeRoots C1).1 then 1 else 2)
def cwhile : Nat → CS → CS
  | 0, C => C
  | c + 1, C => if C.1 13 0 = 0 then C else cwhile c (cunit C)
def cfull (C : CS) : CS := cwhile 1000 (cunit (cwhile 1000 (sI C 18 0 (C.1 18 0 + 1))))
def ccreate (C : CS) (kind f : Int32) : Int32 × CS :=
  let C0 := if (cfree C).isSome = true then C else cfull C
  match cfree C0 with
  | none => (3, C0)
  | some n =>
    let C1 := sI C0 0 n kind
    let C2 := sI C1 1 n (cbirth C1 n)
    let C3 := if kind = 1 then tclear C2 n else cclear C2 n f
    (0, sJ (sI C3 15 0 (C3.1 15 0 + 1)) 4 0 0 (10000000000 + (nI n).toInt64))
def cgetting (C : CS) (t k : Int64) : Int32 × CS :=
  if isA C 1 t = true then
    let C1 := sJ C 4 0 0 (-1000000000000)
    if k = -1000000000000 then (0, C1) else match tlast C1 k 0 5 (on t) with
      | none => (2, C1)
      | some n => match tfind C1 n k with
        | none => (0, C1)
        | some j => (0, sJ C1 4 0 0 (C1.2.1 2 n j))
  else (1, C)
def csetting (C : CS) (t k v : Int64) : Int32 × CS :=
  if isA C 1 t = true ∧ ¬ k = -1000000000000 then match tlast C k 1 5 (on t) with
    | none => (2, C)
    | some n => match tfind C n k with
      | none => if v = -1000000000000 then (0, C) else if C.1 2 n = 6 then (3, C) else (0, ctouch (tappend C n k v) n)
      | some j => if v = -1000000000000 then (0, ctouch (ttake C n j) n) else (0, ctouch (sJ C 2 n j v) n)
  else (1, C)
def csetMeta (C : CS) (t m : Int64) : Int32 × CS :=
  if isA C 1 t = true ∧ (m = -1000000000000 ∨ isA C 1 m = true) then (0, ctouch (sI C 3 (on t) (if m = -1000000000000 then -1 else nI (on m))) (on t)) else (1, C)
def ckeyAfter (C : CS) (t k : Int64) : Int32 × CS :=
  if isA C 1 t = true then
    if k = -1000000000000 then (0, sJ C 4 0 0 (if 0 < cPairs C (on t) then C.2.1 1 (on t) 0 else -1000000000000))
    else match tfind C (on t) k with
      | none => (1, C)
      | some j => (0, sJ C 4 0 0 (if j + 1 < cPairs C (on t) then C.2.1 1 (on t) (j + 1) else -1000000000000))
  else (1, C)
def chowMany (C : CS) (t : Int64) : Int32 × CS := if isA C 1 t = true then (0, sJ C 4 0 0 (C.1 2 (on t)).toInt64) else (1, C)
/-! the processor -/
def cDepth (C : CS) : Nat := (C.1 19 0).toNatClampNeg
def centerOk (C : CS) (v : Int64) : Int32 := if isA C 2 v = true ∧ ¬ C.1 6 (on v) = 3 ∧ ¬ C.1 6 (on v) = 2 then (if C.1 19 0 = 5 then 2 else 0) else 1
def center (C : CS) (v x : Int64) : Int32 × CS :=
  if centerOk C v = 0 then (0, sI (sA (ctouch (sI (sJ C 3 (on v) (C.1 7 (on v)).toNatClampNeg x) 6 (on v) 2) (on v)) (cDepth C) (on v)) 19 0 (C.1 19 0 + 1)) else (centerOk C v, C)
/-- the active coroutine at place i of the stack -/
def cact (C : CS) (i : Nat) : Nat := (C.2.2 i).getD 0
def cleave (C : CS) (x : Int64) : CS :=
  if C.1 19 0 - 1 = 0 then sJ (sI C 19 0 (C.1 19 0 - 1)) 5 0 0 x
  else
    let n := cact C (cDepth C - 2)
    let C1 := sJ (sI C 19 0 (C.1 19 0 - 1)) 3 n (C.1 8 n).toNatClampNeg x
    sI C1 5 n (C1.1 5 n + 1)
def cend : Nat → Nat → CS → CS
  | 0, _, C => sI C 19 0 0
  | c + 1, i, C => cend c (i + 1) (sI C 6 (cact C i) 3)
def fmod (x : Int32) (m : Nat) : Nat := (x.toInt % (m : Int)).toNat
def isNum (v : Int64) : Prop := -2147483648 ≤ v ∧ v ≤ 2147483647
def ckeep (C : CS) (n a : Nat) (tr : Int32) : CS := if tr = 0 then sJ C 3 n a (C.2.1 4 0 0) else C
noncomputable def ccalc (C : CS) (op : Int32) (n a : Nat) (x y : Int64) : Int32 × CS := by
  classical
  exact if isNum x ∧ isNum y then (0, sJ C 3 n a (if op = 8 then (x.toInt32 + y.toInt32).toInt64 else if op = 9 then (x.toInt32 - y.toInt32).toInt64 else (x.toInt32 * y.toInt32).toInt64)) else (1, C)
noncomputable def cbelow (C : CS) (x y : Int64) (p : Int32) : Int32 × CS := by
  classical
  exact if isNum x ∧ isNum y then (0, if x < y then sI C 21 0 (nI (fmod p 16)) else C) else (1, C)
/-- an INSTRUCTION begun: it counts, and the next place is one more -/
def cbeg (C : CS) (n : Nat) : CS := sI (sI C 20 0 (C.1 20 0 + 1)) 21 0 (C.1 5 n + 1)
def ckept (r : Int32 × CS) (n a : Nat) : Int32 × CS := (r.1, ckeep r.2 n a r.1)
/-- instruction k done by coroutine n, its op the number o -/
noncomputable def cperfO (C : CS) (n k : Nat) : Nat → Int32 × CS
  | 0 => (0, sJ (cbeg C n) 3 n (fmod (C.1 10 k) 4) (-1000000000000))
  | 1 => (0, sJ (cbeg C n) 3 n (fmod (C.1 10 k) 4) (C.1 12 k).toInt64)
  | 2 => (0, sJ (cbeg C n) 3 n (fmod (C.1 10 k) 4) (C.2.1 3 n (fmod (C.1 11 k) 4)))
  | 3 => (0, sJ (cbeg C n) 3 n (fmod (C.1 10 k) 4) (C.2.1 0 0 (fmod (C.1 12 k) 6)))
  | 4 => (0, sJ (cbeg C n) 0 0 (fmod (C.1 12 k) 6) (C.2.1 3 n (fmod (C.1 10 k) 4)))
  | 5 => ckept (ccreate (cbeg C n) 1 0) n (fmod (C.1 10 k) 4)
  | 6 => ckept (cgetting (cbeg C n) (C.2.1 3 n (fmod (C.1 11 k) 4)) (C.2.1 3 n (fmod (C.1 12 k) 4))) n (fmod (C.1 10 k) 4)
  | 7 => csetting (cbeg C n) (C.2.1 3 n (fmod (C.1 10 k) 4)) (C.2.1 3 n (fmod (C.1 11 k) 4)) (C.2.1 3 n (fmod (C.1 12 k) 4))
  | 8 => ccalc (cbeg C n) 8 n (fmod (C.1 10 k) 4) (C.2.1 3 n (fmod (C.1 11 k) 4)) (C.2.1 3 n (fmod (C.1 12 k) 4))
  | 9 => ccalc (cbeg C n) 9 n (fmod (C.1 10 k) 4) (C.2.1 3 n (fmod (C.1 11 k) 4)) (C.2.1 3 n (fmod (C.1 12 k) 4))
  | 10 => ccalc (cbeg C n) 10 n (fmod (C.1 10 k) 4) (C.2.1 3 n (fmod (C.1 11 k) 4)) (C.2.1 3 n (fmod (C.1 12 k) 4))
  | 11 => cbelow (cbeg C n) (C.2.1 3 n (fmod (C.1 10 k) 4)) (C.2.1 3 n (fmod (C.1 11 k) 4)) (C.1 12 k)
  | 12 => (0, sI (cbeg C n) 21 0 (nI (fmod (C.1 12 k) 16)))
  | 13 => (0, if C.2.1 3 n (fmod (C.1 10 k) 4) = -1000000000000 then sI (cbeg C n) 21 0 (nI (fmod (C.1 12 k) 16)) else cbeg C n)
  | 14 => (0, if C.2.1 3 n (fmod (C.1 10 k) 4) = C.2.1 3 n (fmod (C.1 11 k) 4) then sI (cbeg C n) 21 0 (nI (fmod (C.1 12 k) 16)) else cbeg C n)
  | 15 => csetMeta (cbeg C n) (C.2.1 3 n (fmod (C.1 10 k) 4)) (C.2.1 3 n (fmod (C.1 11 k) 4))
  | 16 => ckept (ccreate (cbeg C n) 2 (nI (fmod (C.1 12 k) 4))) n (fmod (C.1 10 k) 4)
  | 17 => center (sI (sI (cbeg C n) 21 0 (C.1 5 n)) 8 n (nI (fmod (C.1 10 k) 4))) (C.2.1 3 n (fmod (C.1 11 k) 4)) (C.2.1 3 n (fmod (C.1 12 k) 4))
  | 18 => (0, cleave (sI (sI (cbeg C n) 6 n 1) 7 n (nI (fmod (C.1 10 k) 4))) (C.2.1 3 n (fmod (C.1 10 k) 4)))
  | 19 => (0, cleave (sI (cbeg C n) 6 n 3) (C.2.1 3 n (fmod (C.1 10 k) 4)))
  | 20 => ckept (ckeyAfter (cbeg C n) (C.2.1 3 n (fmod (C.1 11 k) 4)) (C.2.1 3 n (fmod (C.1 12 k) 4))) n (fmod (C.1 10 k) 4)
  | 21 => ckept (chowMany (cbeg C n) (C.2.1 3 n (fmod (C.1 11 k) 4))) n (fmod (C.1 10 k) 4)
  | _ => (1, cbeg C n)
