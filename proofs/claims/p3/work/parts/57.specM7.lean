theorem and_mod {x : Int32} {k : Nat} (hk : k = 2 ∨ k = 4) : (x &&& nI (2 ^ k - 1)) = nI (fmod x (2 ^ k)) := by
  have e1 : (x &&& nI (2 ^ k - 1)).toBitVec.toNat = x.toBitVec.toNat % 2 ^ k := by
    rw [Int32.toBitVec_and, BitVec.toNat_and]
    have : (nI (2 ^ k - 1)).toBitVec.toNat = 2 ^ k - 1 := by rcases hk with rfl | rfl <;> rfl
    rw [this, Nat.and_two_pow_sub_one_eq_mod]
  have e2 : (nI (fmod x (2 ^ k))).toBitVec.toNat = fmod x (2 ^ k) := by
    have h := fmod_lt x (m := 2 ^ k) (by rcases hk with rfl | rfl <;> decide)
    have h2 : fmod x (2 ^ k) < 2 ^ 32 := by rcases hk with rfl | rfl <;> omega
    show (BitVec.ofNat 32 (fmod x (2 ^ k))).toNat = _
    rw [BitVec.toNat_ofNat, Nat.mod_eq_of_lt h2]
  apply Int32.toBitVec_inj.mp
  apply BitVec.eq_of_toNat_eq
  rw [e1, e2]
  unfold fmod
  have h3 : x.toInt = if 2 * x.toBitVec.toNat < 2 ^ 32 then (x.toBitVec.toNat : Int) else (x.toBitVec.toNat : Int) - (2 ^ 32 : Nat) := BitVec.toInt_eq_toNat_cond x.toBitVec
  rw [h3]
  rcases hk with rfl | rfl
  · split <;> omega
  · split <;> omega
theorem and3 (x : Int32) : x &&& 3 = nI (fmod x 4) := and_mod (k := 2) (.inl rfl)
theorem and15 (x : Int32) : x &&& 15 = nI (fmod x 16) := and_mod (k := 4) (.inr rfl)
def mIns (M : CS) (n : Nat) : Nat := (M.1 8 n).toNatClampNeg * 16 + (M.1 9 n).toNatClampNeg
def mleaveA (M : CS) (s : Int32) (v : Int64) : CS := sJ (sI (sI M 13 0 (M.1 13 0 - 1)) 10 (mAct M (mDepth M - 1)) s) 4 0 0 v
def mleave (M : CS) (s : Int32) (v : Int64) : CS := if mDepth M = 1 then mleaveA M s v else
  sI (sJ (mleaveA M s v) 3 0 (mAct M (mDepth M - 2) * 4 + fmod (M.1 1 (mIns M (mAct M (mDepth M - 2)))) 4) v) 9 (mAct M (mDepth M - 2)) (M.1 9 (mAct M (mDepth M - 2)) + 1)
