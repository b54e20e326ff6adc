def mstep (M : CS) : CS := if 15 < M.1 9 (mAct M (mDepth M - 1)) ∨ M.1 0 (mIns M (mAct M (mDepth M - 1))) < 0 then sI M 22 0 3 else
  mstepO (sI M 18 0 (M.1 18 0 + 1)) (mAct M (mDepth M - 1)) (mIns M (mAct M (mDepth M - 1))) (M.1 0 (mIns M (mAct M (mDepth M - 1)))).toNatClampNeg
theorem okM_9 {M : CS} {n p : Nat} (hp : p ≤ 16) (h : okM M) : okM (sI M 9 n (nI p)) := by
  obtain ⟨h1, h2, h3, h4, h5⟩ := h
  refine ⟨fun m hm => ?_, fun f j => h2 f j, ?_, ?_, fun k hk => ?_⟩
  · obtain ⟨a1, a2, a3, a4⟩ := h1 m hm
    rw [sI_e (g := 6) (by decide), sI_e (g := 7) (by decide), sI_e (g := 11) (by decide)]
    refine ⟨a1, a2, ?_, a4⟩
    rw [sI_1]
    split
    · exact ⟨p, hp, rfl⟩
    · exact a3
  · rw [sI_e (by decide)]; exact h3
  · rw [sI_e (by decide)]; exact h4
  · rw [sI_e (by decide)]; exact h5 k hk
theorem okM_11 {M : CS} {n a : Nat} (ha : a < 4) (h : okM M) : okM (sI M 11 n (nI a)) := by
  obtain ⟨h1, h2, h3, h4, h5⟩ := h
  refine ⟨fun m hm => ?_, fun f j => h2 f j, ?_, ?_, fun k hk => ?_⟩
  · obtain ⟨a1, a2, a3, a4⟩ := h1 m hm
    rw [sI_e (g := 6) (by decide), sI_e (g := 7) (by decide), sI_e (g := 9) (by decide)]
    refine ⟨a1, a2, a3, ?_⟩
    rw [sI_1]
    split
    · exact ⟨a, ha, rfl⟩
    · exact a4
  · rw [sI_e (by decide)]; exact h3
  · rw [sI_e (by decide)]; exact h4
  · rw [sI_e (by decide)]; exact h5 k hk
theorem okM_way {M : CS} {n i p : Nat} (hp : p ≤ 15) (hp9 : M.1 9 n = nI p) (h : okM M) : okM (mway M n i) := by
  unfold mway
  rw [hp9, nI_1]
  exact okM_9 (by omega) (okM_11 (fmod_lt _ (by decide)) h)
