def mrun : Nat → CS → CS
  | 0, M => if M.1 22 0 = 0 ∧ ¬ M.1 13 0 ≤ 0 then sI M 22 0 2 else M
  | c + 1, M => if M.1 22 0 = 0 ∧ ¬ M.1 13 0 ≤ 0 then mrun c (mstep M) else M
def mend : Nat → Nat → CS → CS
  | 0, _, M => M
  | c + 1, k, M => mend c (k + 1) (sI M 10 (mAct M k) 3)
def mres0 (M : CS) (g v : Int32) : CS := menter (sI (sI (sI M 21 0 0) 22 0 0) 13 0 0) (mgl M g) (mgl M v)
def mresE (A : CS) : CS := sI (mend (mDepth A) 0 (sI A 21 0 (A.1 22 0))) 13 0 0
def mresume (M : CS) (g v w : Int32) : Int64 × CS := if (g < 0 ∨ 5 < g) ∨ (v < 0 ∨ 5 < v) ∨ (w < 0 ∨ 5 < w) then (0, sI M 21 0 1) else
  if (mrun 200 (mres0 M g v)).1 22 0 = 0 then ((mresE (mrun 200 (mres0 M g v))).2.1 4 0 0, sJ (mresE (mrun 200 (mres0 M g v))) 0 0 w.toNatClampNeg ((mresE (mrun 200 (mres0 M g v))).2.1 4 0 0)) else (0, mresE (mrun 200 (mres0 M g v)))
/-- what step asks of a state, beside okM -/
def mpre (X : CS) : Prop := ∃ d f, X.1 13 0 = nI (d + 1) ∧ d < 5 ∧ f < 4 ∧ X.1 8 (mAct X d) = nI f ∧ (∀ i, i < 64 → X.1 0 i = -1 ∨ ∃ o, o ≤ 21 ∧ X.1 0 i = nI o) ∧ (∀ e, d = e + 1 → ∃ f p, f < 4 ∧ p ≤ 15 ∧ X.1 8 (mAct X e) = nI f ∧ X.1 9 (mAct X e) = nI p) ∧ (∀ e, d = e + 1 → mAct X e ≠ mAct X d)
theorem okM_run {I : CS → Prop} (hI : ∀ X, I X → okM X) (hst : ∀ X, I X → X.1 22 0 = 0 → ¬ X.1 13 0 ≤ 0 → I (mstep X)) : ∀ (c : Nat) (X : CS), I X → okM (mrun c X)
  | 0, X, h => by
    unfold mrun
    split
    · exact okM_keep (by decide) (hI X h)
    · exact hI X h
  | c + 1, X, h => by
    unfold mrun
    split
    · rename_i z
      exact okM_run hI hst c _ (hst X h z.1 z.2)
    · exact hI X h
theorem okM_13 {M : CS} {p : Nat} (hp : p ≤ 5) (h : okM M) : okM (sI M 13 0 (nI p)) := by
  obtain ⟨h1, h2, h3, -, h5⟩ := h
  refine ⟨fun m hm => ?_, fun f j => h2 f j, ?_, ⟨p, hp, sI_self⟩, fun k hk => ?_⟩
  · rw [sI_e (g := 6) (by decide), sI_e (g := 7) (by decide), sI_e (g := 9) (by decide), sI_e (g := 11) (by decide)]
    exact h1 m hm
  · rw [sI_e (by decide)]; exact h3
  · rw [sI_e (by decide)]; exact h5 k hk
