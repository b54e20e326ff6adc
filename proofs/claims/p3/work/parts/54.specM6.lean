def mcnt (M : CS) : Nat → Nat → Int32 → Int32 → Int32 × Int32
  | 0, _, a, g => (a, g)
  | c + 1, i, a, g => mcnt M c (i + 1) (if M.1 4 i = 0 then a else a + 1) (if ¬ M.1 4 i = 0 ∧ M.1 5 i = 1 then g + 1 else g)
def mcountO (M : CS) : Nat → Int32
  | 0 => (mcnt M 16 0 0 0).1
  | 1 => M.1 14 0
  | 2 => M.1 15 0
  | 3 => M.1 16 0
  | 4 => M.1 17 0
  | 5 => M.1 18 0
  | 6 => (mcnt M 16 0 0 0).2
  | 7 => M.1 19 0
  | 8 => M.1 20 0
  | _ => -1
def mcount (M : CS) (w : Int32) : Int32 := if w.toInt < 0 ∨ 8 < w.toInt then -1 else mcountO M w.toInt.toNat
theorem i32_cases {w : Int32} (h : ¬ (w.toInt < 0 ∨ 8 < w.toInt)) : w = 0 ∨ w = 1 ∨ w = 2 ∨ w = 3 ∨ w = 4 ∨ w = 5 ∨ w = 6 ∨ w = 7 ∨ w = 8 := by
  have e : ∀ k : Int32, w.toInt = k.toInt → w = k := fun k z => Int32.toInt_inj.mp z
  have h1 : w.toInt = 0 ∨ w.toInt = 1 ∨ w.toInt = 2 ∨ w.toInt = 3 ∨ w.toInt = 4 ∨ w.toInt = 5 ∨ w.toInt = 6 ∨ w.toInt = 7 ∨ w.toInt = 8 := by omega
  rcases h1 with z | z | z | z | z | z | z | z | z
  · exact .inl (e 0 z)
  · exact .inr (.inl (e 1 z))
  · exact .inr (.inr (.inl (e 2 z)))
  · exact .inr (.inr (.inr (.inl (e 3 z))))
  · exact .inr (.inr (.inr (.inr (.inl (e 4 z)))))
  · exact .inr (.inr (.inr (.inr (.inr (.inl (e 5 z))))))
  · exact .inr (.inr (.inr (.inr (.inr (.inr (.inl (e 6 z)))))))
  · exact .inr (.inr (.inr (.inr (.inr (.inr (.inr (.inl (e 7 z))))))))
  · exact .inr (.inr (.inr (.inr (.inr (.inr (.inr (.inr (e 8 z))))))))
