/-! resume, object, inside on both sides -/
theorem A_resume {C M : CS} (h : RR C M) (a b c : Int32) : ∃ (r : Int32) (C2 : CS) (F : (Nat → Int64) → Nat → Int64), (∀ (l : Launch) (D : va_G) (t : Nat → ClassId) (ad : Nat → Nat) (f0 : Nat → Int64), Tr l → Cwo l D t ad y_Law_resume b_Law_resume 6 [(0, 11, 14, 13), (0, 11, 18, 26), (0, 11, 22, 32)] [.ref (ad (ix 0 0)), .int a, .int b, .int c, .ref (ad 171)] C f0 r C2 (F f0)) ∧ RR C2 (mresume M a b c).2 ∧ (mresume M a b c).2.1 21 0 = r ∧ (r = 0 → ∀ f0, F f0 0 = (mresume M a b c).1) := by
  unfold mresume
  by_cases hb : (a < 0 ∨ 5 < a) ∨ (b < 0 ∨ 5 < b) ∨ (c < 0 ∨ 5 < c)
  · rw [if_pos hb]
    exact ⟨1, C, fun f0 => f0, fun l D t ad f0 htr => bad3 hb (fun z => w_Law_resume_IAE (x_TCM_resume1 htr z) ⟨rfl, rfl, by decide, by decide, by decide, by decide⟩) (fun z w => w_Law_resume_IAE (x_TCM_resume2 htr z w) ⟨rfl, rfl, by decide, by decide, by decide, by decide⟩) (fun z w y => w_Law_resume_IAE (x_TCM_resume3 htr z w y) ⟨rfl, rfl, by decide, by decide, by decide, by decide⟩), RR_21 h, sI_self, fun z => absurd z (by decide)⟩
  rw [if_neg hb]
  obtain ⟨a, ha, rfl, ea⟩ := g_of (fun z => hb (.inl z))
  obtain ⟨b, hb', rfl, eb⟩ := g_of (fun z => hb (.inr (.inl z)))
  obtain ⟨c, hc, rfl, ec⟩ := g_of (fun z => hb (.inr (.inr z)))
  rw [ec]
  have kk := run_all 200 _ _ _ (start_KN h ha hb')
  obtain ⟨r1, r2, r3, r4⟩ := end_KK kk
  have d0 : ∀ d (a' : Nat → Nat), Stk (crun 200 (center C (C.2.1 0 0 a) (C.2.1 0 0 b)).1 (center C (C.2.1 0 0 a) (C.2.1 0 0 b)).2).2 (mrun 200 (mres0 M (nI a) (nI b))) d a' → (crunT C (C.2.1 0 0 a) (C.2.1 0 0 b)).1 = 0 → (crun 200 (center C (C.2.1 0 0 a) (C.2.1 0 0 b)).1 (center C (C.2.1 0 0 a) (C.2.1 0 0 b)).2).2.1 19 0 = 0 := by
    intro d a' s z
    unfold crunT at z
    simp only at z
    have nz : ¬ 0 < (crun 200 (center C (C.2.1 0 0 a) (C.2.1 0 0 b)).1 (center C (C.2.1 0 0 a) (C.2.1 0 0 b)).2).2.1 19 0 := fun w => by
      by_cases y : (crun 200 (center C (C.2.1 0 0 a) (C.2.1 0 0 b)).1 (center C (C.2.1 0 0 a) (C.2.1 0 0 b)).2).1 = 0
      · rw [if_pos ⟨y, w⟩] at z
        exact absurd z (by decide)
      · rw [if_neg (fun q => y q.1)] at z
        exact y z
    rw [s.2.1] at nz ⊢
    have := s.1
    have z0 : d = 0 := Decidable.byContradiction fun q => nz ((nI_pos0 (by omega)).2 q)
    rw [z0]
    rfl
  have e1 : (if (crun 200 (center C (C.2.1 0 0 a) (C.2.1 0 0 b)).1 (center C (C.2.1 0 0 a) (C.2.1 0 0 b)).2).1 = 0 ∧ 0 < (crun 200 (center C (C.2.1 0 0 a) (C.2.1 0 0 b)).1 (center C (C.2.1 0 0 a) (C.2.1 0 0 b)).2).2.1 19 0 then 2 else (crun 200 (center C (C.2.1 0 0 a) (C.2.1 0 0 b)).1 (center C (C.2.1 0 0 a) (C.2.1 0 0 b)).2).1) = (crunT C (C.2.1 0 0 a) (C.2.1 0 0 b)).1 := rfl
  have e2 : cend (cDepth (crun 200 (center C (C.2.1 0 0 a) (C.2.1 0 0 b)).1 (center C (C.2.1 0 0 a) (C.2.1 0 0 b)).2).2) 0 (crun 200 (center C (C.2.1 0 0 a) (C.2.1 0 0 b)).1 (center C (C.2.1 0 0 a) (C.2.1 0 0 b)).2).2 = (crunT C (C.2.1 0 0 a) (C.2.1 0 0 b)).2 := rfl
  rw [e1] at r3 r4
  rw [e2] at r1 r4
  by_cases hz : (mrun 200 (mres0 M (nI a) (nI b))).1 22 0 = 0
  · rw [if_pos hz]
    have q1 := (tr_0 r3).2 hz
    obtain ⟨dd, aa, -, ss, -⟩ := kk
    obtain ⟨v1, v2⟩ := r4 q1 (d0 dd aa ss q1)
    have rr := RR_glob r1 hc (r1.1.1.2.1 5 0 0) v2
    rw [← v1]
    exact ⟨0, _, fun f0 => vp_updL f0 0 ((crunT C (C.2.1 0 0 a) (C.2.1 0 0 b)).2.2.1 5 0 0), fun l D t ad f0 htr => w_Law_resume (c_TCM_resume h ha hb' hc q1) ⟨rfl, rfl, by decide, by decide, by decide, by decide⟩, rr, by rw [sJ_1, r2]; exact hz, fun _ f0 => pk_uLs⟩
  · rw [if_neg hz]
    refine ⟨_, _, fun f0 => f0, fun l D t ad f0 htr => ?_, r1, r2, fun z => (hz z).elim⟩
    rcases r3 with ⟨q1, q2⟩ | ⟨q1, q2⟩ | ⟨q1, q2⟩ | ⟨q1, q2⟩
    · exact (hz q2).elim
    · rw [q2]
      have hx := x_TCM_resumeR (l := l) (D := D) (t := t) (ad := ad) htr h ha hb' hc (by rw [q1]; decide)
      rw [xR1 q1] at hx
      exact w_Law_resume_UOE hx ⟨rfl, rfl, by decide, by decide, by decide, by decide⟩
    · rw [q2]
      have hx := x_TCM_resumeR (l := l) (D := D) (t := t) (ad := ad) htr h ha hb' hc (by rw [q1]; decide)
      rw [xR2 (by rw [q1]; decide)] at hx
      exact w_Law_resume_ISE hx ⟨rfl, rfl, by decide, by decide, by decide, by decide⟩
    · rw [q2]
      have hx := x_TCM_resumeR (l := l) (D := D) (t := t) (ad := ad) htr h ha hb' hc (by rw [q1]; decide)
      rw [xR2 (by rw [q1]; decide)] at hx
      exact w_Law_resume_ISE hx ⟨rfl, rfl, by decide, by decide, by decide, by decide⟩
/-- the reference's resume, whatever it is given -/
theorem M_resume {l : Launch} {D : va_G} {u : Nat → ClassId} {ad : Nat → Nat} {C M : CS} (h : RR C M) (a b c : Int32) : Cm l D u ad y_Mod_resume b_Mod_resume 6 (some .long) { frames := 7, cells := 0, slots := 0, locals := 168 } [.ref (ad 0), .int a, .int b, .int c] M (some (.long (mresume M a b c).1)) (mresume M a b c).2 := by
  by_cases hb : (a < 0 ∨ 5 < a) ∨ (b < 0 ∨ 5 < b) ∨ (c < 0 ∨ 5 < c)
  · have := c_Mod_resumeB (l := l) (D := D) (u := u) (ad := ad) h.1.2.1 hb
    rw [show mresume M a b c = (0, sI M 21 0 1) from if_pos hb]
    exact this
  · obtain ⟨a', ha, ea, -⟩ := g_of (fun z => hb (.inl z))
    obtain ⟨b', hb', eb, -⟩ := g_of (fun z => hb (.inr (.inl z)))
    refine c_Mod_resume (I := Irun) h.1.2.1 (fun X z => ?_) (fun X z _ w => ?_) (fun X z y w => Irun_step z y w) ?_
    · obtain ⟨tr, C', k⟩ := z
      exact KK_okM k
    · obtain ⟨tr, C', k⟩ := z
      exact KK_mpre k w
    · rw [ea, eb]
      exact ⟨_, _, start_KN h ha hb'⟩
theorem A_object {C M : CS} (h : RR C M) (n w : Int32) : ∃ (r : Int32) (F : (Nat → Int64) → Nat → Int64), (∀ (l : Launch) (D : va_G) (t : Nat → ClassId) (ad : Nat → Nat) (f0 : Nat → Int64), Tr l → Cwo l D t ad y_Law_object b_Law_object 5 [(0, 10, 13, 13), (0, 10, 17, 55)] [.ref (ad (ix 0 0)), .int n, .int w, .ref (ad 171)] C f0 r C (F f0)) ∧ RR C (mobject M n w).2 ∧ (mobject M n w).2.1 21 0 = r ∧ (r = 0 → ∀ f0, F f0 0 = (mobject M n w).1.toInt64) := by
  unfold mobject
  by_cases hn : n < 0 ∨ 15 < n
  · rw [if_pos (hn.elim .inl (fun z => .inr (.inl z)))]
    exact ⟨1, fun f0 => f0, fun l D t ad f0 htr => w_Law_object_IAE (x_TCM_object1 htr hn) ⟨rfl, rfl, by decide, by decide, by decide, by decide⟩, RR_21 h, sI_self, fun z => absurd z (by decide)⟩
  have hn1 := fun z => hn (.inl z)
  have hn2 := fun z => hn (.inr z)
  by_cases hw : w < 0 ∨ 3 < w
  · rw [if_pos (.inr (.inr hw))]
    exact ⟨1, fun f0 => f0, fun l D t ad f0 htr => w_Law_object_IAE (x_TCM_object2 htr hn1 hn2 hw) ⟨rfl, rfl, by decide, by decide, by decide, by decide⟩, RR_21 h, sI_self, fun z => absurd z (by decide)⟩
  have hw1 := fun z => hw (.inl z)
  have hw2 := fun z => hw (.inr z)
  rw [if_neg (fun z => z.elim hn1 (fun z => z.elim hn2 hw))]
  obtain ⟨n, hn, rfl, en⟩ := r_of (m := 15) (by decide) hn1 hn2
  rw [en]
  have n16 : n < 16 := by omega
  obtain ⟨⟨k0, k1⟩, k2, k3, -⟩ := h.1.2.2.2.2.1 n n16
  have w0 : 0 < w ↔ ¬ w = 0 := by
    constructor
    · rintro z rfl
      exact Int32.lt_irrefl z
    · intro z
      rcases Int32.lt_or_eq_of_le (Int32.not_lt.mp hw1) with y | y
      · exact y
      · exact (z y.symm).elim
  by_cases hz : 0 < w ∧ M.1 4 n = 0
  · rw [if_pos hz]
    exact ⟨2, fun f0 => f0, fun l D t ad f0 htr => w_Law_object_NSE (x_TCM_object3 htr n16 hw1 hw2 (w0.1 hz.1) (k0.trans hz.2)) ⟨rfl, rfl, by decide, by decide, by decide, by decide⟩, RR_21 h, sI_self, fun z => absurd z (by decide)⟩
  · rw [if_neg hz]
    have hz' : w = 0 ∨ ¬ C.1 0 n = 0 := by
      by_cases y : w = 0
      · exact .inl y
      · exact .inr (fun q => hz ⟨w0.2 y, by rw [← k0]; exact q⟩)
    refine ⟨0, fun f0 => vp_updL f0 0 (cobj C n w).toInt64, fun l D t ad f0 htr => w_Law_object (c_TCM_object n16 hw1 hw2 hz') ⟨rfl, rfl, by decide, by decide, by decide, by decide⟩, RR_21 h, sI_self, fun _ f0 => pk_uLs.trans (congrArg Int32.toInt64 ?_)⟩
    show cobj C n w = _
    unfold cobj
    rw [← k0, ← k1]
    by_cases y0 : w = 0
    · rw [if_pos y0, if_pos y0]
    rw [if_neg y0, if_neg y0]
    by_cases y1 : w = 1
    · rw [if_pos y1, if_pos y1]
    rw [if_neg y1, if_neg y1]
    have kk := (h.1.2.2.1.1 n n16).1
    by_cases q : C.1 0 n = 1
    · rw [if_pos q, if_pos q, if_pos q, (k2 q).1, (k2 q).2]
    · have q2 : C.1 0 n = 2 := kk.elim (fun z => (hz'.elim y0 (fun y => y z)).elim) (fun z => z.elim (fun z => (q z).elim) id)
      rw [if_neg q, if_neg q, if_neg q, (k3 q2).2.1, (k3 q2).2.2.1]
theorem A_inside {C M : CS} (h : RR C M) (n i b : Int32) : ∃ (r : Int32) (F : (Nat → Int64) → Nat → Int64), (∀ (l : Launch) (D : va_G) (t : Nat → ClassId) (ad : Nat → Nat) (f0 : Nat → Int64), Tr l → Cwo l D t ad y_Law_inside b_Law_inside 6 [(0, 11, 14, 13), (0, 11, 18, 55)] [.ref (ad (ix 0 0)), .int n, .int i, .int b, .ref (ad 171)] C f0 r C (F f0)) ∧ RR C (minside M n i b).2 ∧ (¬ i < 0 → (minside M n i b).2.1 21 0 = r ∧ (r = 0 → ∀ f0, F f0 0 = (minside M n i b).1)) := by
  unfold minside
  by_cases hn : n < 0 ∨ 15 < n
  · rw [if_pos hn]
    exact ⟨1, fun f0 => f0, fun l D t ad f0 htr => w_Law_inside_IAE (x_TCM_inside1 htr hn) ⟨rfl, rfl, by decide, by decide, by decide, by decide⟩, RR_21 h, fun _ => ⟨sI_self, fun z => absurd z (by decide)⟩⟩
  rw [if_neg hn]
  obtain ⟨n, hn', rfl, en⟩ := r_of (m := 15) (by decide) (fun z => hn (.inl z)) (fun z => hn (.inr z))
  rw [en]
  have n16 : n < 16 := by omega
  by_cases hi : i < 0
  · rw [if_pos (.inl hi)]
    exact ⟨1, fun f0 => f0, fun l D t ad f0 htr => w_Law_inside_IAE (x_TCM_inside2 htr n16 hi) ⟨rfl, rfl, by decide, by decide, by decide, by decide⟩, RR_21 h, fun z => (z hi).elim⟩
  obtain ⟨⟨k0, k1⟩, k2, k3, k4, k5⟩ := h.1.2.2.2.2.1 n n16
  have kk := (h.1.2.2.1.1 n n16).1
  have er : crows C n b = mrows M n b := by
    unfold crows mrows
    rw [← k0]
    rcases kk with z | z | z
    · rw [if_neg (by rw [z]; decide), if_neg (by rintro ⟨y, -⟩; rw [z] at y; exact absurd y (by decide)), if_pos z]
    · rw [if_pos z, if_neg (by rw [z]; decide), if_pos z, (k2 z).1]
    · have z0 : ¬ C.1 0 n = 0 := by rw [z]; decide
      have z1 : ¬ C.1 0 n = 1 := by rw [z]; decide
      rw [if_neg z1, if_neg z0, if_neg z1]
      by_cases y : b = 0
      · rw [if_pos ⟨z, y⟩, if_pos y]
      · rw [if_neg (fun q => y q.2), if_neg y]
  by_cases hr : i < mrows M n b
  · rw [if_neg (fun z => z.elim hi (fun y => y hr))]
    obtain ⟨j, hj, rfl⟩ := nI_of hi
    rw [nI_clamp hj]
    rw [← er] at hr
    refine ⟨0, fun f0 => vp_updL f0 0 (cins C n j b), fun l D t ad f0 htr => w_Law_inside (c_TCM_inside h.1.1 n16 hj hr) ⟨rfl, rfl, by decide, by decide, by decide, by decide⟩, RR_21 h, fun _ => ⟨sI_self, fun _ f0 => pk_uLs.trans ?_⟩⟩
    show cins C n j b = _
    have hlt : (C.1 0 n = 2 → j < 4) ∧ j < 6 := by
      obtain ⟨⟨P, hP, hP2⟩, -⟩ := h.1.1.1 n n16
      unfold crows at hr
      refine ⟨fun z => ?_, ?_⟩
      · rw [if_neg (by rw [z]; decide)] at hr
        split at hr
        · have := (nI_ltI (b := 4) hj (by omega)).1 hr
          omega
        · have := (nI_ltI (b := 0) hj (by omega)).1 hr
          omega
      · split at hr
        · rw [hP2] at hr
          have := (nI_ltI hj (by omega)).1 hr
          omega
        · split at hr
          · have := (nI_ltI (b := 4) hj (by omega)).1 hr
            omega
          · have := (nI_ltI (b := 0) hj (by omega)).1 hr
            omega
    unfold cins
    rw [← k0]
    by_cases z : C.1 0 n = 2
    · rw [if_pos z, if_pos z]
      exact k4 z j (hlt.1 z)
    · rw [if_neg z, if_neg z, (k5 j hlt.2).1, (k5 j hlt.2).2]
  · rw [if_pos (.inr hr)]
    exact ⟨2, fun f0 => f0, fun l D t ad f0 htr => w_Law_inside_NSE (x_TCM_inside3 htr n16 hi (by rw [er]; exact hr)) ⟨rfl, rfl, by decide, by decide, by decide, by decide⟩, RR_21 h, fun _ => ⟨sI_self, fun z => absurd z (by decide)⟩⟩
