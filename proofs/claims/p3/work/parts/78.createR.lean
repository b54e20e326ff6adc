/-- what the rest of a run looks at, and a step leaves as it was -/
def rkeep (C' C M' M : CS) (d : Nat) (a : Nat → Nat) : Prop := (∀ i, i < d → C'.1 4 (a i) = C.1 4 (a i) ∧ C'.1 5 (a i) = C.1 5 (a i) ∧ C'.1 8 (a i) = C.1 8 (a i)) ∧ C'.1 10 = C.1 10 ∧ C'.1 21 0 = C.1 21 0 ∧ M'.1 22 0 = M.1 22 0
theorem ccreate_e (C : CS) (k f : Int32) : ccreate C k f = match cfree (if (cfree C).isSome = true then C else cfull C) with
    | none => (3, if (cfree C).isSome = true then C else cfull C)
    | some n => (0, cborn (if (cfree C).isSome = true then C else cfull C) n k f) := rfl
theorem free_eq {C M : CS} (h : HH C M) : mfree M = cfree C := lst_congr 16 0 (fun j _ hj => by rw [HH_kind h (by omega)])
theorem create_all {C M : CS} {d q : Nat} {a : Nat → Nat} {k f g : Int32} (h : HH C M) (s : Stk C M d a) (nb : NB C) (hk : k = 1 ∨ (k = 2 ∧ q < 4 ∧ f = nI q ∧ g = nI q)) :
    (((ccreate C k f).1 = 3 ∧ (mcreate M k g).1 = none) ∨ ∃ n, n < 16 ∧ (ccreate C k f).1 = 0 ∧ (mcreate M k g).1 = some n ∧ (ccreate C k f).2.2.1 4 0 0 = oV n ∧ live (ccreate C k f).2 n) ∧ HH (ccreate C k f).2 (mcreate M k g).2 ∧ Stk (ccreate C k f).2 (mcreate M k g).2 d a ∧ NB (ccreate C k f).2 ∧ rkeep (ccreate C k f).2 C (mcreate M k g).2 M d a := by
  have base : HH (if (cfree C).isSome = true then C else cfull C) (if (mfree M).isSome = true then M else (mwhole M).2) ∧ Stk (if (cfree C).isSome = true then C else cfull C) (if (mfree M).isSome = true then M else (mwhole M).2) d a ∧ NB (if (cfree C).isSome = true then C else cfull C) ∧ rkeep (if (cfree C).isSome = true then C else cfull C) C (if (mfree M).isSome = true then M else (mwhole M).2) M d a := by
    rw [free_eq h]
    by_cases z : (cfree C).isSome = true
    · rw [if_pos z, if_pos z]
      exact ⟨h, s, nb, fun _ _ => ⟨rfl, rfl, rfl⟩, rfl, rfl, rfl⟩
    · rw [if_neg z, if_neg z]
      obtain ⟨u1, u2, -, u4⟩ := full_all h s
      refine ⟨u1, u2, fun y => absurd (u4.symm.trans y) (by decide), fun i _ => ⟨?_, ?_, ?_⟩, ?_, ?_, ?_⟩
      · rw [cfull_e (by decide) (by decide)]
      · rw [cfull_e (by decide) (by decide)]
      · rw [cfull_e (by decide) (by decide)]
      · exact cfull_e (by decide) (by decide)
      · rw [cfull_e (by decide) (by decide)]
      · exact mwhole_e (by decide) (by decide)
  rw [ccreate_e]
  unfold mcreate
  simp only
  generalize (if (cfree C).isSome = true then C else cfull C) = C0 at base
  generalize (if (mfree M).isSome = true then M else (mwhole M).2) = M0 at base
  obtain ⟨b1, b2, b3, b4⟩ := base
  rw [free_eq b1]
  cases hf : cfree C0 with
  | none => exact ⟨.inl ⟨rfl, rfl⟩, b1, b2, b3, b4⟩
  | some n =>
    have hn := cfree_lt hf
    have h0 : C0.1 0 n = 0 := eq_of_beq (lst_lt _ _ _ hf).2.2
    have bD := cborn_f (C := C0) (n := n) (f := f) (hk.imp id (fun z => z.1))
    have oD := okC_born (q := q) b1.1 hn (hk.imp id (fun z => ⟨z.1, z.2.1, z.2.2.1⟩))
    have bE := mborn_f (M := M0) (n := n) (k := k) (g := g)
    obtain ⟨w1, w2, w3, w4⟩ := born_all b1 b2 b3 hn h0 hk oD bD bE
    simp only
    refine ⟨.inr ⟨n, hn, by first | rfl | trivial, by first | rfl | trivial, ?_, w4⟩, w1, w2, w3, ?_⟩
    · obtain ⟨-, -, -, -, -, -, -, -, -, x, -⟩ := bD
      rw [x, oV_nI hn]
    · obtain ⟨c1, c2, c3, c4⟩ := b4
      obtain ⟨-, -, d2, d3, -⟩ := bD
      obtain ⟨-, -, -, e3, -⟩ := bE
      refine ⟨fun i hi => ?_, ?_, ?_, ?_⟩
      · have an : a i ≠ n := fun e => by
          have := (b2.2.2.2.1 i hi).2.2.2
          rw [e, cactive_iff, h0] at this
          exact absurd this.1 (by decide)
        rw [d2 4 (by decide) (by decide) (by decide) _ an, d2 5 (by decide) (by decide) (by decide) _ an, d2 8 (by decide) (by decide) (by decide) _ an]
        exact c1 i hi
      · rw [d3 10 (by omega) (by decide)]; exact c2
      · rw [d3 21 (by omega) (by decide)]; exact c3
      · rw [e3 22 (by omega) (by decide)]; exact c4
