theorem mu_0 {M : CS} (h : okM M) (e : mu M = 0) : M.1 14 0 = 0 := by
  obtain ⟨i, hi, hk⟩ := h.2.2.1
  unfold mu at e
  rw [hk, nI_clamp (show i < 2 ^ 31 by omega)] at e
  by_cases h0 : M.1 14 0 = 0
  · exact h0
  · rw [if_neg h0] at e
    split at e <;> omega
def mfill (n : Nat) : Nat → Nat → CS → CS
  | 0, _, M => M
  | c + 1, k, M => mfill n c (k + 1) (sJ M 3 0 (n * 4 + k) (-1000000000000))
theorem mfill_1 {n : Nat} : ∀ (c k : Nat) (M : CS), (mfill n c k M).1 = M.1
  | 0, _, _ => rfl
  | c + 1, k, M => mfill_1 c (k + 1) (sJ M 3 0 (n * 4 + k) (-1000000000000))
def mborn (M : CS) (n : Nat) (k f : Int32) : CS :=
  let A := mfill n 4 0 (sI (sI (sI (sI (sI (sI (sI M 4 n k) 5 n (if M.1 14 0 = 1 ∨ (M.1 14 0 = 2 ∧ ¬ nI n < M.1 15 0) then 2 else 0)) 6 n 0) 7 n (-1)) 8 n f) 9 n 0) 10 n 0)
  sI A 16 0 (A.1 16 0 + 1)
def mcreate (M : CS) (k f : Int32) : Option Nat × CS :=
  let M0 := if (mfree M).isSome = true then M else (mwhole M).2
  match mfree M0 with
  | none => (none, M0)
  | some n => (some n, mborn M0 n k f)
