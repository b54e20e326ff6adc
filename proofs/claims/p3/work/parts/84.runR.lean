/-! a whole run on both sides -/
noncomputable def cperf (C : CS) (n k : Nat) : Int32 × CS := if C.1 9 k = -1 then (1, C) else cperfO C n k (C.1 9 k).toNatClampNeg
def cself (C : CS) : Nat := cact C (cDepth C - 1)
def cidx (C : CS) (n : Nat) : Nat := (C.1 4 n).toNatClampNeg * 17 + (C.1 5 n).toNatClampNeg
noncomputable def cstep (C : CS) : Int32 × CS := ((cperf C (cself C) (cidx C (cself C))).1, if (cperf C (cself C) (cidx C (cself C))).1 = 0 then sI (cperf C (cself C) (cidx C (cself C))).2 5 (cself C) ((cperf C (cself C) (cidx C (cself C))).2.1 21 0) else (cperf C (cself C) (cidx C (cself C))).2)
noncomputable def crun : Nat → Int32 → CS → Int32 × CS
  | 0, tr, C => (tr, C)
  | c + 1, tr, C => if tr = 0 ∧ 0 < C.1 19 0 then crun c (cstep C).1 (cstep C).2 else (tr, C)
theorem nI_pos0 {d : Nat} (h : d < 2 ^ 31) : (0 < nI d) ↔ d ≠ 0 := by
  have := nI_ltI (a := 0) (b := d) (by omega) h
  rw [nI_0] at this
  rw [this]; omega
theorem depth_eq {C M : CS} {d : Nat} {a : Nat → Nat} (s : Stk C M d a) : ((0 < C.1 19 0) ↔ d ≠ 0) ∧ ((¬ M.1 13 0 ≤ 0) ↔ d ≠ 0) := by
  obtain ⟨s1, s2, s3, -⟩ := s
  rw [s2, s3]
  refine ⟨nI_pos0 (by omega), ?_⟩
  by_cases z : d = 0
  · subst z; exact ⟨fun w => absurd (by decide) w, fun w => absurd rfl w⟩
  · exact ⟨fun _ => z, fun _ => nI_nle (by omega) (by omega)⟩
theorem step_pre {C M : CS} {e : Nat} {a : Nat → Nat} (h : HH C M) (s : Stk C M (e + 1) a) : ∃ f p, f < 4 ∧ p ≤ 16 ∧ C.1 4 (a e) = nI f ∧ C.1 5 (a e) = nI p ∧ cself C = a e ∧ cidx C (a e) = f * 17 + p ∧ mAct M (mDepth M - 1) = a e ∧ mIns M (a e) = f * 16 + p ∧ M.1 8 (a e) = nI f ∧ M.1 9 (a e) = nI p ∧ a e < 16 := by
  obtain ⟨s1, s2, s3, s4, -⟩ := s
  obtain ⟨t1, t2, t3, t4⟩ := s4 e (by omega)
  obtain ⟨-, -, ⟨f, hf, hf2⟩, ⟨p, hp, hp2⟩, -⟩ := h.1.1 (a e) t1
  obtain ⟨x1, x2, -⟩ := (h.2.2.2.2.1 (a e) t1).2.2.1 (cactive_iff.1 t4).1
  rw [hf2] at x1
  rw [hp2] at x2
  refine ⟨f, p, hf, hp, hf2, hp2, ?_, ?_, ?_, ?_, x1.symm, x2.symm, t1⟩
  · unfold cself cact
    rw [cDepth_eq s2 s1, Nat.add_sub_cancel, t2]
    rfl
  · unfold cidx
    rw [hf2, hp2, nI_clamp (by omega), nI_clamp (by omega)]
  · rw [mDepth_eq s3 s1, Nat.add_sub_cancel]
    exact mAct_eq t3 t1
  · unfold mIns
    rw [← x1, ← x2, nI_clamp (by omega), nI_clamp (by omega)]
theorem step_all {C M : CS} (h : KK 0 C M) (hd : 0 < C.1 19 0) : KK (cstep C).1 (cstep C).2 (mstep M) := by
  obtain ⟨d, a, h, s, nb, low, ht, -⟩ := h
  obtain ⟨e, rfl⟩ : ∃ e, d = e + 1 := ⟨d - 1, by have := (depth_eq s).1.1 hd; omega⟩
  have h22 : M.1 22 0 = 0 := (tr_0 ht).1 rfl
  obtain ⟨f, p, hf, hp, h4, h5, es, ei, em, eim, h8, h9, hn⟩ := step_pre h s
  have bad : KK 1 C (sI M 22 0 3) := ⟨e + 1, a, HH_M (by omega) (okM_keep (by decide) h.2.1) h, Stk_of (C := C) rfl rfl rfl rfl (sI_f (by decide)) (sI_f (by decide)) s, nb, low, by rw [sI_self]; exact .inr (.inl ⟨rfl, rfl⟩), fun w => absurd w (by decide)⟩
  unfold cstep
  rw [es, ei]
  by_cases p16 : p = 16
  · have eC : cperf C (a e) (f * 17 + p) = (1, C) := by unfold cperf; rw [if_pos (by rw [p16]; exact h.2.2.1.2.2.2.2 f hf)]
    have eM : mstep M = sI M 22 0 3 := by
      unfold mstep
      rw [em, eim, h9, if_pos (.inl (by rw [p16]; decide))]
    rw [eC, eM]
    simp only [show ¬ (1 : Int32) = 0 by decide, if_false]
    exact bad
  · have hp15 : p ≤ 15 := by omega
    have eo := (h.2.2.2.2.2.2 f p hf (by omega)).1
    rcases h.2.2.1.2.2.2.1 (f * 17 + p) (by omega) with w | ⟨o, ho, w⟩
    · have eC : cperf C (a e) (f * 17 + p) = (1, C) := by unfold cperf; rw [if_pos w]
      have eM : mstep M = sI M 22 0 3 := by
        unfold mstep
        rw [em, eim, h9, if_pos (.inr (by rw [← eo, w]; decide))]
      rw [eC, eM]
      simp only [show ¬ (1 : Int32) = 0 by decide, if_false]
      exact bad
    · have nw : ¬ C.1 9 (f * 17 + p) = -1 := by
        rw [w]
        intro z
        exact absurd (by rw [z]; decide) (nI_pos (n := o) (by omega))
      have eC : cperf C (a e) (f * 17 + p) = cperfO C (a e) (f * 17 + p) o := by unfold cperf; rw [if_neg nw, w, nI_clamp (by omega)]
      have eM : mstep M = mstepO (sI M 18 0 (M.1 18 0 + 1)) (a e) (f * 16 + p) o := by
        unfold mstep
        rw [em, eim, h9, if_neg (fun z => z.elim (fun y => absurd y (nI_nlt (a := 15) (b := p) hp15 (by omega))) (fun y => absurd y (by rw [← eo, w]; exact nI_pos (by omega)))), ← eo, w, nI_clamp (by omega)]
      rw [eC, eM]
      exact op_all ⟨h, s, nb, low, rfl, hf, hp15, h4, h5, h22⟩ ho
theorem run_all : ∀ (c : Nat) (tr : Int32) (C M : CS), KK tr C M → KK (if (crun c tr C).1 = 0 ∧ 0 < (crun c tr C).2.1 19 0 then 2 else (crun c tr C).1) (crun c tr C).2 (mrun c M)
  | 0, tr, C, M, h => by
    have h' := h
    obtain ⟨d, a, h1, s, nb, low, ht, ho⟩ := h
    obtain ⟨d1, d2⟩ := depth_eq s
    show KK (if tr = 0 ∧ 0 < C.1 19 0 then 2 else tr) C (mrun 0 M)
    unfold mrun
    by_cases z : tr = 0 ∧ 0 < C.1 19 0
    · rw [if_pos z, if_pos ⟨(tr_0 ht).1 z.1, d2.2 (d1.1 z.2)⟩]
      exact ⟨d, a, HH_M (by omega) (okM_keep (by decide) h1.2.1) h1, Stk_of (C := C) rfl rfl rfl rfl (sI_f (by decide)) (sI_f (by decide)) s, nb, low, by rw [sI_self]; exact .inr (.inr (.inl ⟨rfl, rfl⟩)), fun w => absurd w (by decide)⟩
    · rw [if_neg z, if_neg (fun y => z ⟨(tr_0 ht).2 y.1, d1.2 (d2.1 y.2)⟩)]
      exact h'
  | c + 1, tr, C, M, h => by
    have h' := h
    obtain ⟨d, a, h1, s, nb, low, ht, ho⟩ := h
    obtain ⟨d1, d2⟩ := depth_eq s
    by_cases z : tr = 0 ∧ 0 < C.1 19 0
    · have eC : crun (c + 1) tr C = crun c (cstep C).1 (cstep C).2 := if_pos z
      have eM : mrun (c + 1) M = mrun c (mstep M) := if_pos ⟨(tr_0 ht).1 z.1, d2.2 (d1.1 z.2)⟩
      rw [eC, eM]
      exact run_all c _ _ _ (step_all (by rw [z.1] at h'; exact h') z.2)
    · have eC : crun (c + 1) tr C = (tr, C) := if_neg z
      have eM : mrun (c + 1) M = M := if_neg (fun y => z ⟨(tr_0 ht).2 y.1, d1.2 (d2.1 y.2)⟩)
      rw [eC, eM]
      show KK (if tr = 0 ∧ 0 < C.1 19 0 then 2 else tr) C M
      rw [if_neg z]
      exact h'
