theorem rem6_pos {x : Int32} (h : 0 ≤ x - x / 6 * 6) : x - x / 6 * 6 = nI (fmod x 6) := by
  obtain ⟨a, b⟩ := fm_rem x (m := 6) (.inr (.inl rfl))
  have h1 := Int.emod_nonneg x.toInt (show ((6 : Nat) : Int) ≠ 0 by omega)
  have h2 := Int.emod_lt_of_pos x.toInt (show (0 : Int) < ((6 : Nat) : Int) by omega)
  have h3 : 0 ≤ (x - x / nI 6 * nI 6).toInt := by
    have := Int32.le_iff_toInt_le.mp h
    rw [Int32.toInt_zero] at this
    exact this
  apply Int32.toInt_inj.mp
  show (x - x / nI 6 * nI 6).toInt = _
  rw [fmod_int x (by omega) (by omega), a]
  rw [a] at h3
  by_cases c : 0 ≤ x.toInt ∨ ((6 : Nat) : Int) ∣ x.toInt
  · rw [if_pos c] at b; exact b
  · rw [if_neg c] at b; omega
theorem rem6_neg {x : Int32} (h : ¬ 0 ≤ x - x / 6 * 6) : x - x / 6 * 6 + 6 = nI (fmod x 6) := by
  obtain ⟨a, b⟩ := fm_rem x (m := 6) (.inr (.inl rfl))
  have h1 := Int.emod_nonneg x.toInt (show ((6 : Nat) : Int) ≠ 0 by omega)
  have h2 := Int.emod_lt_of_pos x.toInt (show (0 : Int) < ((6 : Nat) : Int) by omega)
  have h3 : ¬ 0 ≤ (x - x / nI 6 * nI 6).toInt := by
    have := mt Int32.le_iff_toInt_le.mpr h
    rw [Int32.toInt_zero] at this
    exact this
  apply Int32.toInt_inj.mp
  show (x - x / nI 6 * nI 6 + nI 6).toInt = _
  rw [fmod_int x (by omega) (by omega), Int32.toInt_add, a, nI_toInt (by decide)]
  rw [a] at h3
  by_cases c : 0 ≤ x.toInt ∨ ((6 : Nat) : Int) ∣ x.toInt
  · rw [if_pos c] at b; omega
  · rw [if_neg c] at b
    rw [b, show x.toInt % ((6 : Nat) : Int) - ((6 : Nat) : Int) + ((6 : Nat) : Int) = x.toInt % ((6 : Nat) : Int) by omega]
    exact fm_bm _ (by omega) (by omega)
abbrev mA (M : CS) (n i : Nat) : Nat := n * 4 + fmod (M.1 1 i) 4
abbrev mX (M : CS) (n i : Nat) : Int64 := M.2.1 3 0 (n * 4 + fmod (M.1 1 i) 4)
abbrev mY (M : CS) (n i : Nat) : Int64 := M.2.1 3 0 (n * 4 + fmod (M.1 2 i) 4)
abbrev mZ (M : CS) (n i : Nat) : Int64 := M.2.1 3 0 (n * 4 + fmod (M.1 3 i) 4)
/-- an INSTRUCTION is through: the next place, if there was no TROUBLE -/
def mT (M : CS) (n : Nat) : CS := if M.1 22 0 = 0 then sI M 9 n (M.1 9 n + 1) else M
def mkeep (r : Int64 × CS) (a : Nat) : CS := if r.2.1 22 0 = 0 then sJ r.2 3 0 a r.1 else r.2
def mnew (r : Option Nat × CS) (a : Nat) : CS := match r.1 with
  | none => sI r.2 22 0 2
  | some m => sJ r.2 3 0 a (10000000000 + (nI m).toInt64)
def mjmp (M : CS) (n i : Nat) (op : Int32) : CS :=
  if (mjumpsM M op (mX M n i) (mY M n i)).1 22 0 = 0 then sI (mjumpsM M op (mX M n i) (mY M n i)) 9 n (if (op = 11 ∧ mX M n i < mY M n i) ∨ op = 12 ∨ (op = 13 ∧ mX M n i = -1000000000000) ∨ (op = 14 ∧ mX M n i = mY M n i) then nI (fmod ((mjumpsM M op (mX M n i) (mY M n i)).1 3 i) 16) else (mjumpsM M op (mX M n i) (mY M n i)).1 9 n + 1)
  else mjumpsM M op (mX M n i) (mY M n i)
def mway (M : CS) (n i : Nat) : CS := sI (sI M 11 n (nI (fmod (M.1 1 i) 4))) 9 n (M.1 9 n + 1)
/-- INSTRUCTION i done by coroutine n, its op the number o (done is counted already) -/
def mstepO (M : CS) (n i : Nat) : Nat → CS
  | 0 => mT (sJ M 3 0 (mA M n i) (-1000000000000)) n
  | 1 => mT (sJ M 3 0 (mA M n i) (M.1 3 i).toInt64) n
  | 2 => mT (sJ M 3 0 (mA M n i) (mY M n i)) n
  | 3 => mT (sJ M 3 0 (mA M n i) (M.2.1 0 0 (fmod (M.1 3 i) 6))) n
  | 4 => mT (sJ M 0 0 (fmod (M.1 3 i) 6) (mX M n i)) n
  | 5 => mT (mnew (mcreate M 1 (nI (fmod (M.1 3 i) 4))) (mA M n i)) n
  | 6 => match mOf M 1 (mY M n i) with
    | none => mT (sI M 22 0 3) n
    | some t => mT (mkeep (mgetting M (mZ M n i) 5 t) (mA M n i)) n
  | 7 => match mOf M 1 (mX M n i) with
    | none => mT (sI M 22 0 3) n
    | some t => mT (msetting M t (mY M n i) (mZ M n i)) n
  | 8 => mT (mcalc M 8 (mA M n i) (mY M n i) (mZ M n i)) n
  | 9 => mT (mcalc M 9 (mA M n i) (mY M n i) (mZ M n i)) n
  | 10 => mT (mcalc M 10 (mA M n i) (mY M n i) (mZ M n i)) n
  | 11 => mjmp M n i 11
  | 12 => mjmp M n i 12
  | 13 => mjmp M n i 13
  | 14 => mjmp M n i 14
  | 15 => mT (mjoin M (mX M n i) (mY M n i)) n
  | 16 => mT (mnew (mcreate M 2 (nI (fmod (M.1 3 i) 4))) (mA M n i)) n
  | 17 => menter M (mY M n i) (mZ M n i)
  | 18 => mleave (mway M n i) 1 (mX M n i)
  | 19 => mleave (mway M n i) 3 (mX M n i)
  | 20 => match mOf M 1 (mY M n i) with
    | none => mT (sI M 22 0 3) n
    | some t => mT (mkeep (mfollow M t (mZ M n i)) (mA M n i)) n
  | _ => match mOf M 1 (mY M n i) with
    | none => mT (sI M 22 0 3) n
    | some t => mT (sJ M 3 0 (mA M n i) (M.1 6 t).toInt64) n
