/-! between calls: nothing is ACTIVE -/
def RR (C M : CS) : Prop := HH C M ∧ Stk C M 0 (fun _ => 0)
theorem NB_0 {C M : CS} {a : Nat → Nat} (s : Stk C M 0 a) : NB C := fun _ n hn z => by
  obtain ⟨i, hi, -⟩ := s.2.2.2.2.2 n hn z
  omega
theorem Low_0 {C : CS} {a : Nat → Nat} : Low C 0 a := fun i hi => by omega
theorem KK_mpre {tr : Int32} {C X : CS} (h : KK tr C X) (hd : ¬ X.1 13 0 ≤ 0) : mpre X := by
  obtain ⟨d, a, h, s, nb, low, ht, -⟩ := h
  obtain ⟨e, rfl⟩ : ∃ e, d = e + 1 := ⟨d - 1, by have := (depth_eq s).2.1 hd; omega⟩
  obtain ⟨f, p, hf, hp, h4, h5, es, ei, em, eim, h8, h9, hn⟩ := step_pre h s
  obtain ⟨s1, s2, s3, s4, s5, s6⟩ := s
  have am : ∀ i, i < e + 1 → mAct X i = a i := fun i hi => mAct_eq (s4 i hi).2.2.1 (s4 i hi).1
  refine ⟨e, f, s3, by omega, hf, by rw [am e (by omega)]; exact h8, fun i hi => ?_, fun r hr => ?_, fun r hr => ?_⟩
  · have q := (h.2.2.2.2.2.2 (i / 16) (i % 16) (by omega) (by omega)).1
    rw [show i / 16 * 16 + i % 16 = i by omega] at q
    rw [← q]
    exact h.2.2.1.2.2.2.1 _ (by omega)
  · obtain ⟨f', p', l1, l2, l3, l4, -⟩ := low r (by omega)
    obtain ⟨t1, -, -, t4⟩ := s4 r (by omega)
    obtain ⟨x1, x2, -⟩ := (h.2.2.2.2.1 (a r) t1).2.2.1 (cactive_iff.1 t4).1
    rw [am r (by omega)]
    exact ⟨f', p', l1, l2, by rw [← x1]; exact l3, by rw [← x2]; exact l4⟩
  · rw [am r (by omega), am e (by omega)]
    intro z
    have := s5 r e (by omega) (by omega) z
    omega
theorem KK_okM {tr : Int32} {C X : CS} (h : KK tr C X) : okM X := by
  obtain ⟨d, a, h, -⟩ := h
  exact h.2.1
/-- what the reference's resume asks for -/
def Irun (X : CS) : Prop := ∃ tr C, KK tr C X
theorem Irun_step {X : CS} (h : Irun X) (h22 : X.1 22 0 = 0) (hd : ¬ X.1 13 0 ≤ 0) : Irun (mstep X) := by
  obtain ⟨tr, C, h⟩ := h
  have h' := h
  obtain ⟨d, a, h1, s, nb, low, ht, -⟩ := h
  have z : tr = 0 := (tr_0 ht).2 h22
  subst z
  exact ⟨_, _, step_all h' ((depth_eq s).1.2 ((depth_eq s).2.1 hd))⟩
theorem start_KK {C M : CS} {g v : Int32} (h : RR C M) (hg : g.toNatClampNeg < 6) (hv : v.toNatClampNeg < 6) : KK (center C (C.2.1 0 0 g.toNatClampNeg) (C.2.1 0 0 v.toNatClampNeg)).1 (center C (C.2.1 0 0 g.toNatClampNeg) (C.2.1 0 0 v.toNatClampNeg)).2 (mres0 M g v) := by
  obtain ⟨h, s⟩ := h
  have h' : HH C (sI (sI (sI M 21 0 0) 22 0 0) 13 0 0) := HH_M (by omega) (okM_13 (p := 0) (by omega) (okM_keep (by decide) (okM_keep (by decide) h.2.1))) (HH_M (by omega) (okM_keep (by decide) (okM_keep (by decide) h.2.1)) (HH_M (by omega) (okM_keep (by decide) h.2.1) h))
  have s' : Stk C (sI (sI (sI M 21 0 0) 22 0 0) 13 0 0) 0 (fun _ => 0) := by
    obtain ⟨s1, s2, s3, s4, s5, s6⟩ := s
    exact ⟨s1, s2, sI_self, fun i hi => by omega, s5, s6⟩
  have lg : ∀ j, j < 6 → lv C (C.2.1 0 0 j) := fun j hj m hm w => h.2.2.2.1.1 m hm (.inl ⟨j, hj, w⟩)
  have h22 : (sI (sI (sI M 21 0 0) 22 0 0) 13 0 0).1 22 0 = 0 := by rw [sI_e (by decide), sI_self]
  unfold mres0 mgl
  rw [← h.2.2.2.2.2.1.1 _ hg, ← h.2.2.2.2.2.1.1 _ hv]
  rcases enter_all h' s' (NB_0 s') (h.1.2.1 _ _ _) (lg _ hg) (h.1.2.1 _ _ _) (lg _ hv) with ⟨q1, q2, t, q3, q4⟩ | ⟨q1, q2, m, q3, q4, q5, q6, q7, q8, q9⟩
  · rw [q2, q3]
    exact ⟨0, fun _ => 0, HH_M (by omega) (okM_keep (by decide) h'.2.1) h', Stk_of (C := C) rfl rfl rfl rfl (sI_f (by decide)) (sI_f (by decide)) s', NB_0 s', Low_0, by rw [sI_self]; exact q4, fun w => (q1 w).elim⟩
  · rw [q1]
    exact ⟨1, _, q5, q6, q7, fun i hi => by omega, by rw [q9]; exact .inl ⟨rfl, h22⟩, fun _ w => by omega⟩
theorem mends_21 {c i : Nat} {M : CS} : (mend c i M).2 = M.2 ∧ ∀ f, f ≠ 10 → (mend c i M).1 f = M.1 f := by
  induction c generalizing i M with
  | zero => exact ⟨rfl, fun _ _ => rfl⟩
  | succ c ih =>
    obtain ⟨a, b⟩ := ih (i := i + 1) (M := sI M 10 (mAct M i) 3)
    exact ⟨a, fun f hf => (b f hf).trans (sI_f hf)⟩
/-- the end of a run -/
theorem end_KK {tr : Int32} {C M : CS} (h : KK tr C M) : RR (cend (cDepth C) 0 C) (mresE M) ∧ (mresE M).1 21 0 = M.1 22 0 ∧ trR tr (M.1 22 0) ∧ (tr = 0 → C.1 19 0 = 0 → (cend (cDepth C) 0 C).2.1 5 0 0 = (mresE M).2.1 4 0 0 ∧ lv (cend (cDepth C) 0 C) ((cend (cDepth C) 0 C).2.1 5 0 0)) := by
  obtain ⟨d, a, h, s, nb, low, ht, ho⟩ := h
  have h' : HH C (sI M 21 0 (M.1 22 0)) := HH_M (by omega) (okM_keep (by decide) h.2.1) h
  obtain ⟨s1, s2, s3, s4, s5, s6⟩ := s
  obtain ⟨u1, u2, u3, u4, u5, u6, u7⟩ := end_loop (a := a) d 0 C (sI M 21 0 (M.1 22 0)) (by omega) s1 h' (fun j hj => by
    obtain ⟨t1, t2, t3, t4⟩ := s4 j hj
    exact ⟨t1, t2, by rw [sI_e (by decide)]; exact t3, (cactive_iff.1 t4).1⟩) (fun b hb z => by
    obtain ⟨i, hi, e⟩ := s6 b hb z
    exact ⟨i, by omega, hi, e⟩)
  unfold mresE
  rw [cDepth_eq s2 s1, mDepth_eq s3 s1]
  refine ⟨⟨u1, by omega, u3, sI_self, fun i hi => by omega, fun i j hi => by omega, fun b hb z => (u2 b hb z).elim⟩, ?_, ht, fun z w => ?_⟩
  · rw [sI_e (by decide), u7 21 (by decide), sI_self]
  · have d0 : d = 0 := by
      rw [s2] at w
      rcases Nat.eq_zero_or_pos d with y | y
      · exact y
      · exact absurd w (nI_ne0 y (by omega))
    obtain ⟨o1, o2⟩ := ho z d0
    rw [u4]
    refine ⟨?_, fun m hm y => ?_⟩
    · show C.2.1 5 0 0 = (mend d 0 (sI M 21 0 (M.1 22 0))).2.1 4 0 0
      rw [u5]
      exact o1
    · rw [live_fn (C' := cend d 0 C) (C := C) (u6 0 (by decide) (by decide)) (u6 1 (by decide) (by decide)) (u6 13 (by decide) (by decide)) (u6 14 (by decide) (by decide))]
      exact o2 m hm y
