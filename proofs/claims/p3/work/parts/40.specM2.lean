theorem nI_x6 (a : Nat) : nI a * 6 = nI (a * 6) := (Int32.ofNat_mul a 6).symm
theorem mtouch_1 {M : CS} {n f b : Nat} (h : f ≠ 5) : (mtouch M n).1 f b = M.1 f b := by
  unfold mtouch
  split
  · rw [sI_1, if_neg (fun z => h z.1)]
  · rfl
theorem mtouch_2 {M : CS} {n : Nat} : (mtouch M n).2 = M.2 := by
  unfold mtouch
  split <;> rfl
theorem mtouch_13 {M : CS} {n b : Nat} : (mtouch M n).1 13 b = M.1 13 b := mtouch_1 (by decide)
def mjoin (M : CS) (t m : Int64) : CS := match mOf M 1 t with
  | none => sI M 22 0 3
  | some n => if m = -1000000000000 then mtouch (sI M 7 n (-1)) n else match mOf M 1 m with
    | none => sI M 22 0 3
    | some j => mtouch (sI M 7 n (nI j)) n
def menter (M : CS) (v x : Int64) : CS := match mOf M 2 v with
  | none => sI M 22 0 3
  | some n => if 1 < M.1 10 n then sI M 22 0 3 else if M.1 13 0 = 5 then sI M 22 0 2 else
    sI (sI (sI (mtouch (sJ M 3 0 (n * 4 + (if M.1 10 n = 1 then (M.1 11 n).toNatClampNeg else 0)) x) n) 10 n 2) 12 (mDepth M) (nI n)) 13 0 (M.1 13 0 + 1)
def mcalc (M : CS) (op : Int32) (a : Nat) (b c : Int64) : CS := if (-2147483648 ≤ b ∧ b ≤ 2147483647) ∧ (-2147483648 ≤ c ∧ c ≤ 2147483647) then sJ M 3 0 a (if op = 8 then (b + c).toInt32.toInt64 else if op = 9 then (b - c).toInt32.toInt64 else (b * c).toInt32.toInt64) else sI M 22 0 3
def mfollow (M : CS) (n : Nat) (key : Int64) : Int64 × CS := if key = -1000000000000 then (if 0 < mSize M n then M.2.1 1 0 (n * 6) else -1000000000000, M) else match mpair M n key with
  | none => (-1000000000000, sI M 22 0 3)
  | some p => (if p + 1 < mSize M n then M.2.1 1 0 (n * 6 + p + 1) else -1000000000000, M)
def mjumps (op : Int32) (a b : Int64) : Prop := (op = 11 ∧ a < b) ∨ op = 12 ∨ (op = 13 ∧ a = -1000000000000) ∨ (op = 14 ∧ a = b)
def mjumpsM (M : CS) (op : Int32) (a b : Int64) : CS := if op = 11 ∧ ¬ ((-2147483648 ≤ a ∧ a ≤ 2147483647) ∧ (-2147483648 ≤ b ∧ b ≤ 2147483647)) then sI M 22 0 3 else M
def msetAt (M : CS) (key : Int64) : Nat → Nat → Option Nat
  | 0, _ => none
  | c + 1, n => if (mpair M n key).isSome = true then some n else match mnext M n 1 with
    | none => some n
    | some m => msetAt M key c m
theorem msetAt_lt {M : CS} {key : Int64} (hok : okM M) : ∀ (c n m : Nat), n < 16 → msetAt M key c n = some m → m < 16
  | 0, _, _, _, h => by cases h
  | c + 1, n, m, hn, h => by
    unfold msetAt at h
    split at h
    · cases h; exact hn
    · split at h
      · cases h; exact hn
      · rename_i j hj
        exact msetAt_lt hok c j m (mnext_lt hok hj) h
def mshift (n : Nat) : Nat → Nat → CS → CS
  | 0, _, M => M
  | c + 1, k, M => mshift n c (k + 1) (sJ (sJ M 1 0 (n * 6 + k) (M.2.1 1 0 (n * 6 + k + 1))) 2 0 (n * 6 + k) (M.2.1 2 0 (n * 6 + k + 1)))
def mset1 (M : CS) (n : Nat) (key v : Int64) : CS := match mpair M n key with
  | none => if v = -1000000000000 then M else if M.1 6 n = 6 then sI M 22 0 2 else mtouch (sI (sJ (sJ M 1 0 (n * 6 + mSize M n) key) 2 0 (n * 6 + mSize M n) v) 6 n (M.1 6 n + 1)) n
  | some p => if v = -1000000000000 then mtouch (mshift n (mSize M n - 1 - p) p (sI M 6 n (M.1 6 n - 1))) n else mtouch (sJ M 2 0 (n * 6 + p) v) n
def msetting (M : CS) (n0 : Nat) (key v : Int64) : CS := if key = -1000000000000 then sI M 22 0 3 else match msetAt M key 5 n0 with
  | none => sI M 22 0 2
  | some n => mset1 M n key v
