-- part 9h.agree2
section
/-! make, set, get, meta, resume, object, inside on both sides -/
theorem xR1 {x : Int32} (h : x = 1) : xRaise x = X_UOE := if_pos h
theorem xR2 {x : Int32} (h : ¬ x = 1) : xRaise x = X_ISE := if_neg h
theorem oV_back {n : Nat} (hn : n < 16) : (oV n - 10000000000).toInt32 = nI n := by
  have hv : okV (oV n) := .inr ⟨n, hn, rfl⟩
  have := (okV_on hv (((oV_iff hv hn).2 rfl).1)).2.2
  rw [((oV_iff hv hn).2 rfl).2] at this
  exact this
theorem make_core {C M : CS} (h : RR C M) {j q : Nat} (hj : j < 6) {k e : Int32} (hk : k = 1 ∨ (k = 2 ∧ q < 4 ∧ e = nI q ∧ e = nI q))
    (hX : ¬ (ccreate C k e).1 = 0 → ∀ (l : Launch) (D : va_G) (t : Nat → ClassId) (ad : Nat → Nat), Tr l → Ce l D t ad y_TCM_make b_TCM_make 3 (some .int) { frames := 8, cells := 1, slots := 6, locals := 130 } [.ref (ad (ix 0 0)), .int (nI j), .int e] C (xRaise (ccreate C k e).1) (ccreate C k e).2)
    (hC : (ccreate C k e).1 = 0 → ∀ (l : Launch) (D : va_G) (t : Nat → ClassId) (ad : Nat → Nat), Cd l D t ad y_TCM_make b_TCM_make 3 (some .int) { frames := 5, cells := 0, slots := 0, locals := 114 } [.ref (ad (ix 0 0)), .int (nI j), .int e] C (some (.int ((ccreate C k e).2.2.1 4 0 0 - 10000000000).toInt32)) (sJ (ccreate C k e).2 0 0 j ((ccreate C k e).2.2.1 4 0 0))) :
    ∃ (r : Int32) (C2 : CS) (F : (Nat → Int64) → Nat → Int64), (∀ (l : Launch) (D : va_G) (t : Nat → ClassId) (ad : Nat → Nat) (f0 : Nat → Int64), Tr l → Cwo l D t ad y_Law_make b_Law_make 5 [(0, 10, 13, 13), (0, 10, 17, 26)] [.ref (ad (ix 0 0)), .int (nI j), .int e, .ref (ad 171)] C f0 r C2 (F f0)) ∧ RR C2 (match (mcreate (sI M 21 0 0) k e).1 with
      | none => ((0 : Int32), sI (mcreate (sI M 21 0 0) k e).2 21 0 2)
      | some n => (nI n, sJ (sI (mcreate (sI M 21 0 0) k e).2 21 0 0) 0 0 j (10000000000 + (nI n).toInt64))).2 ∧ (match (mcreate (sI M 21 0 0) k e).1 with
      | none => ((0 : Int32), sI (mcreate (sI M 21 0 0) k e).2 21 0 2)
      | some n => (nI n, sJ (sI (mcreate (sI M 21 0 0) k e).2 21 0 0) 0 0 j (10000000000 + (nI n).toInt64))).2.1 21 0 = r ∧ (r = 0 → ∀ f0, F f0 0 = (match (mcreate (sI M 21 0 0) k e).1 with
      | none => ((0 : Int32), sI (mcreate (sI M 21 0 0) k e).2 21 0 2)
      | some n => (nI n, sJ (sI (mcreate (sI M 21 0 0) k e).2 21 0 0) 0 0 j (10000000000 + (nI n).toInt64))).1.toInt64) := by
  have h' := RR_21 (v := 0) h
  obtain ⟨hc, c1, c2, -, -⟩ := create_all h'.1 h'.2 (NB_0 h'.2) hk
  have rr : RR (ccreate C k e).2 (mcreate (sI M 21 0 0) k e).2 := ⟨c1, c2⟩
  rcases hc with ⟨q1, q2⟩ | ⟨n, hn, q1, q2, q3, q4⟩
  · rw [q2]
    refine ⟨2, _, fun f0 => f0, fun l D t ad f0 htr => ?_, RR_21 rr, sI_self, fun z => absurd z (by decide)⟩
    have hx := hX (by rw [q1]; decide) l D t ad htr
    rw [xR2 (by rw [q1]; decide)] at hx
    exact w_Law_make_ISE hx ⟨rfl, rfl, by decide, by decide, by decide, by decide⟩
  · rw [q2]
    simp only
    rw [oV_nI hn]
    have hr := RR_glob (RR_21 (v := 0) rr) hj (.inr ⟨n, hn, rfl⟩) (fun m hm z => by rw [(oV_inj hn hm).1 z] at q4; exact q4)
    refine ⟨0, _, fun f0 => vp_updL f0 0 (nI n).toInt64, fun l D t ad f0 htr => ?_, hr, s21, fun _ f0 => pk_uLs⟩
    have hx := hC q1 l D t ad
    rw [q3, oV_back hn] at hx
    exact w_Law_make hx ⟨rfl, rfl, by decide, by decide, by decide, by decide⟩
theorem A_make {C M : CS} (h : RR C M) (g f : Int32) : ∃ (r : Int32) (C2 : CS) (F : (Nat → Int64) → Nat → Int64), (∀ (l : Launch) (D : va_G) (t : Nat → ClassId) (ad : Nat → Nat) (f0 : Nat → Int64), Tr l → Cwo l D t ad y_Law_make b_Law_make 5 [(0, 10, 13, 13), (0, 10, 17, 26)] [.ref (ad (ix 0 0)), .int g, .int f, .ref (ad 171)] C f0 r C2 (F f0)) ∧ RR C2 (mmake M g f).2 ∧ (mmake M g f).2.1 21 0 = r ∧ (r = 0 → ∀ f0, F f0 0 = (mmake M g f).1.toInt64) := by
  unfold mmake
  by_cases hg : g < 0 ∨ 5 < g
  · rw [if_pos (.inl hg)]
    exact ⟨1, C, fun f0 => f0, fun l D t ad f0 htr => w_Law_make_IAE (x_TCM_make1 htr hg) ⟨rfl, rfl, by decide, by decide, by decide, by decide⟩, RR_21 h, sI_self, fun z => absurd z (by decide)⟩
  by_cases hf : f < -1 ∨ 3 < f
  · rw [if_pos (.inr hf)]
    exact ⟨1, C, fun f0 => f0, fun l D t ad f0 htr => w_Law_make_IAE (x_TCM_make2 htr hg hf) ⟨rfl, rfl, by decide, by decide, by decide, by decide⟩, RR_21 h, sI_self, fun z => absurd z (by decide)⟩
  rw [if_neg (fun z => z.elim hg hf)]
  obtain ⟨j, hj, rfl, ej⟩ := g_of hg
  rw [ej]
  rcases e_of (m := 3) (by decide) (fun z => hf (.inl z)) (fun z => hf (.inr z)) with ⟨rfl, hk0⟩ | ⟨i, hi, rfl, ei, hk0⟩
  · rw [if_pos hk0]
    exact make_core (q := 0) h hj (.inl rfl) (fun z l D t ad htr => x_TCM_makeR (f := none) htr h.1.1 hj (fun _ w => by cases w) z) (fun z l D t ad => c_TCM_make (f := none) h.1.1 hj (fun _ w => by cases w) z)
  · rw [if_neg hk0]
    have i4 : i < 4 := by omega
    exact make_core h hj (.inr ⟨rfl, i4, rfl, rfl⟩) (fun z l D t ad htr => x_TCM_makeR (f := some i) htr h.1.1 hj (fun _ w => by cases w; exact i4) z) (fun z l D t ad => c_TCM_make (f := some i) h.1.1 hj (fun _ w => by cases w; exact i4) z)
theorem bad3 {a b c : Int32} {P : Prop} (h : (a < 0 ∨ 5 < a) ∨ (b < 0 ∨ 5 < b) ∨ (c < 0 ∨ 5 < c)) (f1 : (a < 0 ∨ 5 < a) → P) (f2 : ¬ (a < 0 ∨ 5 < a) → (b < 0 ∨ 5 < b) → P) (f3 : ¬ (a < 0 ∨ 5 < a) → ¬ (b < 0 ∨ 5 < b) → (c < 0 ∨ 5 < c) → P) : P := by
  by_cases ha : a < 0 ∨ 5 < a
  · exact f1 ha
  by_cases hb : b < 0 ∨ 5 < b
  · exact f2 ha hb
  exact f3 ha hb (h.elim (fun z => (ha z).elim) (fun z => z.elim (fun z => (hb z).elim) id))
theorem A_set {C M : CS} (h : RR C M) (a b c : Int32) : ∃ (r : Int32) (C2 : CS), (∀ (l : Launch) (D : va_G) (t : Nat → ClassId) (ad : Nat → Nat), Tr l → Cw l D t ad y_Law_set b_Law_set 5 [(0, 7, 10, 13), (0, 7, 14, 26), (0, 7, 18, 32)] [.ref (ad (ix 0 0)), .int a, .int b, .int c] C r C2) ∧ RR C2 (mset M a b c) ∧ (mset M a b c).1 21 0 = r := by
  unfold mset
  by_cases hb : (a < 0 ∨ 5 < a) ∨ (b < 0 ∨ 5 < b) ∨ (c < 0 ∨ 5 < c)
  · rw [if_pos hb]
    exact ⟨1, C, fun l D t ad htr => bad3 hb (fun z => w_Law_set_IAE (x_TCM_set1 htr z) ⟨rfl, rfl, by decide, by decide, by decide, by decide⟩) (fun z w => w_Law_set_IAE (x_TCM_set2 htr z w) ⟨rfl, rfl, by decide, by decide, by decide, by decide⟩) (fun z w y => w_Law_set_IAE (x_TCM_set3 htr z w y) ⟨rfl, rfl, by decide, by decide, by decide, by decide⟩), RR_21 h, sI_self⟩
  rw [if_neg hb]
  obtain ⟨a, ha, rfl, ea⟩ := g_of (fun z => hb (.inl z))
  obtain ⟨b, hb', rfl, eb⟩ := g_of (fun z => hb (.inr (.inl z)))
  obtain ⟨c, hc, rfl, ec⟩ := g_of (fun z => hb (.inr (.inr z)))
  unfold mgl
  rw [ea, eb, ec]
  obtain ⟨a1, a2, a3⟩ := RR_gl h ha
  obtain ⟨b1, b2, b3⟩ := RR_gl h hb'
  obtain ⟨c1, c2, c3⟩ := RR_gl h hc
  rw [a3, b3, c3, isA_mOf h.1 a1]
  by_cases hA : isA C 1 (C.2.1 0 0 a) = true
  · rw [if_pos hA]
    simp only
    have h' := RR_22 (v := 0) (RR_21 (v := 0) h)
    obtain ⟨s1, s2, s3⟩ := setting_all h'.1 a1 a2 b1 b2 c1 c2 hA sI_self
    have rr := RR_21 (v := (msetting (sI (sI M 21 0 0) 22 0 0) (on (C.2.1 0 0 a)) (C.2.1 0 0 b) (C.2.1 0 0 c)).1 22 0) (RR_keep h' s2 s1)
    refine ⟨_, _, fun l D t ad htr => ?_, rr, sI_self⟩
    rcases s3 with ⟨q1, q2⟩ | ⟨q1, q2⟩ | ⟨q1, q2⟩ | ⟨q1, q2⟩
    · rw [q2]
      exact w_Law_set (c_TCM_set h.1.1 ha hb' hc q1) ⟨rfl, rfl, by decide, by decide, by decide, by decide⟩
    · rw [q2]
      have hx := x_TCM_setR (l := l) (D := D) (t := t) (ad := ad) htr h.1.1 ha hb' hc (by rw [q1]; decide)
      rw [xR1 q1] at hx
      exact w_Law_set_UOE hx ⟨rfl, rfl, by decide, by decide, by decide, by decide⟩
    · rw [q2]
      have hx := x_TCM_setR (l := l) (D := D) (t := t) (ad := ad) htr h.1.1 ha hb' hc (by rw [q1]; decide)
      rw [xR2 (by rw [q1]; decide)] at hx
      exact w_Law_set_ISE hx ⟨rfl, rfl, by decide, by decide, by decide, by decide⟩
    · rw [q2]
      have hx := x_TCM_setR (l := l) (D := D) (t := t) (ad := ad) htr h.1.1 ha hb' hc (by rw [q1]; decide)
      rw [xR2 (by rw [q1]; decide)] at hx
      exact w_Law_set_ISE hx ⟨rfl, rfl, by decide, by decide, by decide, by decide⟩
  · rw [if_neg hA]
    simp only
    have e : csetting C (C.2.1 0 0 a) (C.2.1 0 0 b) (C.2.1 0 0 c) = (1, C) := by
      unfold csetting
      rw [if_neg (fun z => hA z.1)]
    refine ⟨3, C, fun l D t ad htr => ?_, RR_21 h, sI_self⟩
    have hx := x_TCM_setR (l := l) (D := D) (t := t) (ad := ad) htr h.1.1 ha hb' hc (by rw [e]; exact (by decide : ¬ (1 : Int32) = 0))
    rw [xR1 (by rw [e]), e] at hx
    exact w_Law_set_UOE hx ⟨rfl, rfl, by decide, by decide, by decide, by decide⟩
theorem A_get {C M : CS} (h : RR C M) (a b c : Int32) : ∃ (r : Int32) (C2 : CS) (F : (Nat → Int64) → Nat → Int64), (∀ (l : Launch) (D : va_G) (t : Nat → ClassId) (ad : Nat → Nat) (f0 : Nat → Int64), Tr l → Cwo l D t ad y_Law_get b_Law_get 6 [(0, 11, 14, 13), (0, 11, 18, 26), (0, 11, 22, 32)] [.ref (ad (ix 0 0)), .int a, .int b, .int c, .ref (ad 171)] C f0 r C2 (F f0)) ∧ RR C2 (mget M a b c).2 ∧ (mget M a b c).2.1 21 0 = r ∧ (r = 0 → ∀ f0, F f0 0 = (mget M a b c).1) := by
  unfold mget
  by_cases hb : (a < 0 ∨ 5 < a) ∨ (b < 0 ∨ 5 < b) ∨ (c < 0 ∨ 5 < c)
  · rw [if_pos hb]
    exact ⟨1, C, fun f0 => f0, fun l D t ad f0 htr => bad3 hb (fun z => w_Law_get_IAE (x_TCM_get1 htr z) ⟨rfl, rfl, by decide, by decide, by decide, by decide⟩) (fun z w => w_Law_get_IAE (x_TCM_get2 htr z w) ⟨rfl, rfl, by decide, by decide, by decide, by decide⟩) (fun z w y => w_Law_get_IAE (x_TCM_get3 htr z w y) ⟨rfl, rfl, by decide, by decide, by decide, by decide⟩), RR_21 h, sI_self, fun z => absurd z (by decide)⟩
  rw [if_neg hb]
  obtain ⟨a, ha, rfl, ea⟩ := g_of (fun z => hb (.inl z))
  obtain ⟨b, hb', rfl, eb⟩ := g_of (fun z => hb (.inr (.inl z)))
  obtain ⟨c, hc, rfl, ec⟩ := g_of (fun z => hb (.inr (.inr z)))
  unfold mgl
  rw [ea, eb, ec]
  obtain ⟨a1, a2, a3⟩ := RR_gl h ha
  obtain ⟨b1, b2, b3⟩ := RR_gl h hb'
  rw [a3, b3, isA_mOf h.1 a1]
  by_cases hA : isA C 1 (C.2.1 0 0 a) = true
  · rw [if_pos hA]
    simp only
    have h' := RR_22 (v := 0) (RR_21 (v := 0) h)
    rcases getting_all (k := C.2.1 0 0 b) h'.1 a1 a2 hA with ⟨v, v1, v2, e1, e2⟩ | ⟨e1, e2⟩
    · rw [e2]
      simp only
      rw [if_pos sI_self]
      have rr := RR_glob (RR_4 (i := 0) (RR_21 (v := (sI (sI M 21 0 0) 22 0 0).1 22 0) h') v1) hc v1 (lv_4 v2)
      refine ⟨0, _, fun f0 => vp_updL f0 0 v, fun l D t ad f0 htr => ?_, rr, by rw [s21]; exact sI_self, fun _ f0 => pk_uLs⟩
      have hx := c_TCM_get (l := l) (D := D) (t := t) (ad := ad) h.1.1 ha hb' hc (by rw [e1])
      rw [e1] at hx
      simp only [sJ_2, and_self, if_true] at hx
      exact w_Law_get hx ⟨rfl, rfl, by decide, by decide, by decide, by decide⟩
    · rw [e2]
      simp only
      rw [if_neg (by rw [sI_self]; decide)]
      have rr := RR_4 (i := 0) (RR_21 (v := (sI (sI (sI M 21 0 0) 22 0 0) 22 0 2).1 22 0) (RR_22 (v := 2) h')) okV_nil
      refine ⟨2, _, fun f0 => f0, fun l D t ad f0 htr => ?_, rr, by rw [sI_self, sI_self], fun z => absurd z (by decide)⟩
      have hx := x_TCM_getR (l := l) (D := D) (t := t) (ad := ad) htr h.1.1 ha hb' hc (by rw [e1]; exact (by decide : ¬ (2 : Int32) = 0))
      rw [xR2 (by rw [e1]; exact (by decide : ¬ (2 : Int32) = 1)), e1] at hx
      exact w_Law_get_ISE hx ⟨rfl, rfl, by decide, by decide, by decide, by decide⟩
  · rw [if_neg hA]
    simp only
    have e : cgetting C (C.2.1 0 0 a) (C.2.1 0 0 b) = (1, C) := by
      unfold cgetting
      rw [if_neg hA]
    refine ⟨3, C, fun f0 => f0, fun l D t ad f0 htr => ?_, RR_21 h, sI_self, fun z => absurd z (by decide)⟩
    have hx := x_TCM_getR (l := l) (D := D) (t := t) (ad := ad) htr h.1.1 ha hb' hc (by rw [e]; exact (by decide : ¬ (1 : Int32) = 0))
    rw [xR1 (by rw [e]), e] at hx
    exact w_Law_get_UOE hx ⟨rfl, rfl, by decide, by decide, by decide, by decide⟩
theorem A_meta {C M : CS} (h : RR C M) (a b : Int32) : ∃ (r : Int32) (C2 : CS), (∀ (l : Launch) (D : va_G) (t : Nat → ClassId) (ad : Nat → Nat), Tr l → Cw l D t ad y_Law_meta b_Law_meta 4 [(0, 6, 9, 13), (0, 6, 12, 32)] [.ref (ad (ix 0 0)), .int a, .int b] C r C2) ∧ RR C2 (mmeta M a b) ∧ (mmeta M a b).1 21 0 = r := by
  unfold mmeta
  by_cases hga : a < 0 ∨ 5 < a
  · rw [if_pos (.inl hga)]
    exact ⟨1, C, fun l D t ad htr => w_Law_meta_IAE (x_TCM_meta1 htr hga) ⟨rfl, rfl, by decide, by decide, by decide, by decide⟩, RR_21 h, sI_self⟩
  by_cases hgb : b < 0 ∨ 5 < b
  · rw [if_pos (.inr hgb)]
    exact ⟨1, C, fun l D t ad htr => w_Law_meta_IAE (x_TCM_meta2 htr hga hgb) ⟨rfl, rfl, by decide, by decide, by decide, by decide⟩, RR_21 h, sI_self⟩
  rw [if_neg (fun z => z.elim hga hgb)]
  obtain ⟨a, ha, rfl, ea⟩ := g_of hga
  obtain ⟨b, hb', rfl, eb⟩ := g_of hgb
  unfold mgl
  rw [ea, eb]
  obtain ⟨a1, a2, a3⟩ := RR_gl h ha
  obtain ⟨b1, b2, b3⟩ := RR_gl h hb'
  rw [a3, b3]
  have h' := RR_22 (v := 0) (RR_21 (v := 0) h)
  obtain ⟨s1, s2, s3⟩ := meta_all h'.1 a1 a2 b1 b2 sI_self
  refine ⟨_, _, fun l D t ad htr => ?_, RR_21 (RR_keep h' s2 s1), sI_self⟩
  have hc : (csetMeta C (C.2.1 0 0 a) (C.2.1 0 0 b)).1 = 0 ∨ (csetMeta C (C.2.1 0 0 a) (C.2.1 0 0 b)).1 = 1 := by
    unfold csetMeta
    split
    · exact .inl rfl
    · exact .inr rfl
  rcases hc with q1 | q1
  · rw [if_pos ((tr_0 s3).1 q1)]
    exact w_Law_meta (c_TCM_meta h.1.1 ha hb' q1) ⟨rfl, rfl, by decide, by decide, by decide, by decide⟩
  · rw [if_neg (fun z => absurd ((tr_0 s3).2 z) (by rw [q1]; decide))]
    have hx := x_TCM_metaR (l := l) (D := D) (t := t) (ad := ad) htr h.1.1 ha hb' (by rw [q1]; decide)
    rw [xR1 q1] at hx
    exact w_Law_meta_UOE hx ⟨rfl, rfl, by decide, by decide, by decide, by decide⟩
end

-- part 9i.agree3
section
/-! resume, object, inside on both sides -/
theorem A_resume {C M : CS} (h : RR C M) (a b c : Int32) : ∃ (r : Int32) (C2 : CS) (F : (Nat → Int64) → Nat → Int64), (∀ (l : Launch) (D : va_G) (t : Nat → ClassId) (ad : Nat → Nat) (f0 : Nat → Int64), Tr l → Cwo l D t ad y_Law_resume b_Law_resume 6 [(0, 11, 14, 13), (0, 11, 18, 26), (0, 11, 22, 32)] [.ref (ad (ix 0 0)), .int a, .int b, .int c, .ref (ad 171)] C f0 r C2 (F f0)) ∧ RR C2 (mresume M a b c).2 ∧ (mresume M a b c).2.1 21 0 = r ∧ (r = 0 → ∀ f0, F f0 0 = (mresume M a b c).1) := by
  unfold mresume
  by_cases hb : (a < 0 ∨ 5 < a) ∨ (b < 0 ∨ 5 < b) ∨ (c < 0 ∨ 5 < c)
  · rw [if_pos hb]
    exact ⟨1, C, fun f0 => f0, fun l D t ad f0 htr => bad3 hb (fun z => w_Law_resume_IAE (x_TCM_resume1 htr z) ⟨rfl, rfl, by decide, by decide, by decide, by decide⟩) (fun z w => w_Law_resume_IAE (x_TCM_resume2 htr z w) ⟨rfl, rfl, by decide, by decide, by decide, by decide⟩) (fun z w y => w_Law_resume_IAE (x_TCM_resume3 htr z w y) ⟨rfl, rfl, by decide, by decide, by decide, by decide⟩), RR_21 h, sI_self, fun z => absurd z (by decide)⟩
  rw [if_neg hb]
  obtain ⟨a, ha, rfl, ea⟩ := g_of (fun z => hb (.inl z))
  obtain ⟨b, hb', rfl, eb⟩ := g_of (fun z => hb (.inr (.inl z)))
  obtain ⟨c, hc, rfl, ec⟩ := g_of (fun z => hb (.inr (.inr z)))
  rw [ec]
  have kk := run_all 200 _ _ _ (start_KN h ha hb')
  obtain ⟨r1, r2, r3, r4⟩ := end_KK kk
  have d0 : ∀ d (a' : Nat → Nat), Stk (crun 200 (center C (C.2.1 0 0 a) (C.2.1 0 0 b)).1 (center C (C.2.1 0 0 a) (C.2.1 0 0 b)).2).2 (mrun 200 (mres0 M (nI a) (nI b))) d a' → (crunT C (C.2.1 0 0 a) (C.2.1 0 0 b)).1 = 0 → (crun 200 (center C (C.2.1 0 0 a) (C.2.1 0 0 b)).1 (center C (C.2.1 0 0 a) (C.2.1 0 0 b)).2).2.1 19 0 = 0 := by
    intro d a' s z
    unfold crunT at z
    simp only at z
    have nz : ¬ 0 < (crun 200 (center C (C.2.1 0 0 a) (C.2.1 0 0 b)).1 (center C (C.2.1 0 0 a) (C.2.1 0 0 b)).2).2.1 19 0 := fun w => by
      by_cases y : (crun 200 (center C (C.2.1 0 0 a) (C.2.1 0 0 b)).1 (center C (C.2.1 0 0 a) (C.2.1 0 0 b)).2).1 = 0
      · rw [if_pos ⟨y, w⟩] at z
        exact absurd z (by decide)
      · rw [if_neg (fun q => y q.1)] at z
        exact y z
    rw [s.2.1] at nz ⊢
    have := s.1
    have z0 : d = 0 := Decidable.byContradiction fun q => nz ((nI_pos0 (by omega)).2 q)
    rw [z0]
    rfl
  have e1 : (if (crun 200 (center C (C.2.1 0 0 a) (C.2.1 0 0 b)).1 (center C (C.2.1 0 0 a) (C.2.1 0 0 b)).2).1 = 0 ∧ 0 < (crun 200 (center C (C.2.1 0 0 a) (C.2.1 0 0 b)).1 (center C (C.2.1 0 0 a) (C.2.1 0 0 b)).2).2.1 19 0 then 2 else (crun 200 (center C (C.2.1 0 0 a) (C.2.1 0 0 b)).1 (center C (C.2.1 0 0 a) (C.2.1 0 0 b)).2).1) = (crunT C (C.2.1 0 0 a) (C.2.1 0 0 b)).1 := rfl
  have e2 : cend (cDepth (crun 200 (center C (C.2.1 0 0 a) (C.2.1 0 0 b)).1 (center C (C.2.1 0 0 a) (C.2.1 0 0 b)).2).2) 0 (crun 200 (center C (C.2.1 0 0 a) (C.2.1 0 0 b)).1 (center C (C.2.1 0 0 a) (C.2.1 0 0 b)).2).2 = (crunT C (C.2.1 0 0 a) (C.2.1 0 0 b)).2 := rfl
  rw [e1] at r3 r4
  rw [e2] at r1 r4
  by_cases hz : (mrun 200 (mres0 M (nI a) (nI b))).1 22 0 = 0
  · rw [if_pos hz]
    have q1 := (tr_0 r3).2 hz
    obtain ⟨dd, aa, -, ss, -⟩ := kk
    obtain ⟨v1, v2⟩ := r4 q1 (d0 dd aa ss q1)
    have rr := RR_glob r1 hc (r1.1.1.2.1 5 0 0) v2
    rw [← v1]
    exact ⟨0, _, fun f0 => vp_updL f0 0 ((crunT C (C.2.1 0 0 a) (C.2.1 0 0 b)).2.2.1 5 0 0), fun l D t ad f0 htr => w_Law_resume (c_TCM_resume h ha hb' hc q1) ⟨rfl, rfl, by decide, by decide, by decide, by decide⟩, rr, by rw [sJ_1, r2]; exact hz, fun _ f0 => pk_uLs⟩
  · rw [if_neg hz]
    refine ⟨_, _, fun f0 => f0, fun l D t ad f0 htr => ?_, r1, r2, fun z => (hz z).elim⟩
    rcases r3 with ⟨q1, q2⟩ | ⟨q1, q2⟩ | ⟨q1, q2⟩ | ⟨q1, q2⟩
    · exact (hz q2).elim
    · rw [q2]
      have hx := x_TCM_resumeR (l := l) (D := D) (t := t) (ad := ad) htr h ha hb' hc (by rw [q1]; decide)
      rw [xR1 q1] at hx
      exact w_Law_resume_UOE hx ⟨rfl, rfl, by decide, by decide, by decide, by decide⟩
    · rw [q2]
      have hx := x_TCM_resumeR (l := l) (D := D) (t := t) (ad := ad) htr h ha hb' hc (by rw [q1]; decide)
      rw [xR2 (by rw [q1]; decide)] at hx
      exact w_Law_resume_ISE hx ⟨rfl, rfl, by decide, by decide, by decide, by decide⟩
    · rw [q2]
      have hx := x_TCM_resumeR (l := l) (D := D) (t := t) (ad := ad) htr h ha hb' hc (by rw [q1]; decide)
      rw [xR2 (by rw [q1]; decide)] at hx
      exact w_Law_resume_ISE hx ⟨rfl, rfl, by decide, by decide, by decide, by decide⟩
/-- the reference's resume, whatever it is given -/
theorem M_resume {l : Launch} {D : va_G} {u : Nat → ClassId} {ad : Nat → Nat} {C M : CS} (h : RR C M) (a b c : Int32) : Cm l D u ad y_Mod_resume b_Mod_resume 6 (some .long) { frames := 7, cells := 0, slots := 0, locals := 168 } [.ref (ad 0), .int a, .int b, .int c] M (some (.long (mresume M a b c).1)) (mresume M a b c).2 := by
  by_cases hb : (a < 0 ∨ 5 < a) ∨ (b < 0 ∨ 5 < b) ∨ (c < 0 ∨ 5 < c)
  · have := c_Mod_resumeB (l := l) (D := D) (u := u) (ad := ad) h.1.2.1 hb
    rw [show mresume M a b c = (0, sI M 21 0 1) from if_pos hb]
    exact this
  · obtain ⟨a', ha, ea, -⟩ := g_of (fun z => hb (.inl z))
    obtain ⟨b', hb', eb, -⟩ := g_of (fun z => hb (.inr (.inl z)))
    refine c_Mod_resume (I := Irun) h.1.2.1 (fun X z => ?_) (fun X z _ w => ?_) (fun X z y w => Irun_step z y w) ?_
    · obtain ⟨tr, C', k⟩ := z
      exact KK_okM k
    · obtain ⟨tr, C', k⟩ := z
      exact KK_mpre k w
    · rw [ea, eb]
      exact ⟨_, _, start_KN h ha hb'⟩
theorem A_object {C M : CS} (h : RR C M) (n w : Int32) : ∃ (r : Int32) (F : (Nat → Int64) → Nat → Int64), (∀ (l : Launch) (D : va_G) (t : Nat → ClassId) (ad : Nat → Nat) (f0 : Nat → Int64), Tr l → Cwo l D t ad y_Law_object b_Law_object 5 [(0, 10, 13, 13), (0, 10, 17, 55)] [.ref (ad (ix 0 0)), .int n, .int w, .ref (ad 171)] C f0 r C (F f0)) ∧ RR C (mobject M n w).2 ∧ (mobject M n w).2.1 21 0 = r ∧ (r = 0 → ∀ f0, F f0 0 = (mobject M n w).1.toInt64) := by
  unfold mobject
  by_cases hn : n < 0 ∨ 15 < n
  · rw [if_pos (hn.elim .inl (fun z => .inr (.inl z)))]
    exact ⟨1, fun f0 => f0, fun l D t ad f0 htr => w_Law_object_IAE (x_TCM_object1 htr hn) ⟨rfl, rfl, by decide, by decide, by decide, by decide⟩, RR_21 h, sI_self, fun z => absurd z (by decide)⟩
  have hn1 := fun z => hn (.inl z)
  have hn2 := fun z => hn (.inr z)
  by_cases hw : w < 0 ∨ 3 < w
  · rw [if_pos (.inr (.inr hw))]
    exact ⟨1, fun f0 => f0, fun l D t ad f0 htr => w_Law_object_IAE (x_TCM_object2 htr hn1 hn2 hw) ⟨rfl, rfl, by decide, by decide, by decide, by decide⟩, RR_21 h, sI_self, fun z => absurd z (by decide)⟩
  have hw1 := fun z => hw (.inl z)
  have hw2 := fun z => hw (.inr z)
  rw [if_neg (fun z => z.elim hn1 (fun z => z.elim hn2 hw))]
  obtain ⟨n, hn, rfl, en⟩ := r_of (m := 15) (by decide) hn1 hn2
  rw [en]
  have n16 : n < 16 := by omega
  obtain ⟨⟨k0, k1⟩, k2, k3, -⟩ := h.1.2.2.2.2.1 n n16
  have w0 : 0 < w ↔ ¬ w = 0 := by
    constructor
    · rintro z rfl
      exact Int32.lt_irrefl z
    · intro z
      rcases Int32.lt_or_eq_of_le (Int32.not_lt.mp hw1) with y | y
      · exact y
      · exact (z y.symm).elim
  by_cases hz : 0 < w ∧ M.1 4 n = 0
  · rw [if_pos hz]
    exact ⟨2, fun f0 => f0, fun l D t ad f0 htr => w_Law_object_NSE (x_TCM_object3 htr n16 hw1 hw2 (w0.1 hz.1) (k0.trans hz.2)) ⟨rfl, rfl, by decide, by decide, by decide, by decide⟩, RR_21 h, sI_self, fun z => absurd z (by decide)⟩
  · rw [if_neg hz]
    have hz' : w = 0 ∨ ¬ C.1 0 n = 0 := by
      by_cases y : w = 0
      · exact .inl y
      · exact .inr (fun q => hz ⟨w0.2 y, by rw [← k0]; exact q⟩)
    refine ⟨0, fun f0 => vp_updL f0 0 (cobj C n w).toInt64, fun l D t ad f0 htr => w_Law_object (c_TCM_object n16 hw1 hw2 hz') ⟨rfl, rfl, by decide, by decide, by decide, by decide⟩, RR_21 h, sI_self, fun _ f0 => pk_uLs.trans (congrArg Int32.toInt64 ?_)⟩
    show cobj C n w = _
    unfold cobj
    rw [← k0, ← k1]
    by_cases y0 : w = 0
    · rw [if_pos y0, if_pos y0]
    rw [if_neg y0, if_neg y0]
    by_cases y1 : w = 1
    · rw [if_pos y1, if_pos y1]
    rw [if_neg y1, if_neg y1]
    have kk := (h.1.2.2.1.1 n n16).1
    by_cases q : C.1 0 n = 1
    · rw [if_pos q, if_pos q, if_pos q, (k2 q).1, (k2 q).2]
    · have q2 : C.1 0 n = 2 := kk.elim (fun z => (hz'.elim y0 (fun y => y z)).elim) (fun z => z.elim (fun z => (q z).elim) id)
      rw [if_neg q, if_neg q, if_neg q, (k3 q2).2.1, (k3 q2).2.2.1]
theorem A_inside {C M : CS} (h : RR C M) (n i b : Int32) : ∃ (r : Int32) (F : (Nat → Int64) → Nat → Int64), (∀ (l : Launch) (D : va_G) (t : Nat → ClassId) (ad : Nat → Nat) (f0 : Nat → Int64), Tr l → Cwo l D t ad y_Law_inside b_Law_inside 6 [(0, 11, 14, 13), (0, 11, 18, 55)] [.ref (ad (ix 0 0)), .int n, .int i, .int b, .ref (ad 171)] C f0 r C (F f0)) ∧ RR C (minside M n i b).2 ∧ (¬ i < 0 → (minside M n i b).2.1 21 0 = r ∧ (r = 0 → ∀ f0, F f0 0 = (minside M n i b).1)) := by
  unfold minside
  by_cases hn : n < 0 ∨ 15 < n
  · rw [if_pos hn]
    exact ⟨1, fun f0 => f0, fun l D t ad f0 htr => w_Law_inside_IAE (x_TCM_inside1 htr hn) ⟨rfl, rfl, by decide, by decide, by decide, by decide⟩, RR_21 h, fun _ => ⟨sI_self, fun z => absurd z (by decide)⟩⟩
  rw [if_neg hn]
  obtain ⟨n, hn', rfl, en⟩ := r_of (m := 15) (by decide) (fun z => hn (.inl z)) (fun z => hn (.inr z))
  rw [en]
  have n16 : n < 16 := by omega
  by_cases hi : i < 0
  · rw [if_pos (.inl hi)]
    exact ⟨1, fun f0 => f0, fun l D t ad f0 htr => w_Law_inside_IAE (x_TCM_inside2 htr n16 hi) ⟨rfl, rfl, by decide, by decide, by decide, by decide⟩, RR_21 h, fun z => (z hi).elim⟩
  obtain ⟨⟨k0, k1⟩, k2, k3, k4, k5⟩ := h.1.2.2.2.2.1 n n16
  have kk := (h.1.2.2.1.1 n n16).1
  have er : crows C n b = mrows M n b := by
    unfold crows mrows
    rw [← k0]
    rcases kk with z | z | z
    · rw [if_neg (by rw [z]; decide), if_neg (by rintro ⟨y, -⟩; rw [z] at y; exact absurd y (by decide)), if_pos z]
    · rw [if_pos z, if_neg (by rw [z]; decide), if_pos z, (k2 z).1]
    · have z0 : ¬ C.1 0 n = 0 := by rw [z]; decide
      have z1 : ¬ C.1 0 n = 1 := by rw [z]; decide
      rw [if_neg z1, if_neg z0, if_neg z1]
      by_cases y : b = 0
      · rw [if_pos ⟨z, y⟩, if_pos y]
      · rw [if_neg (fun q => y q.2), if_neg y]
  by_cases hr : i < mrows M n b
  · rw [if_neg (fun z => z.elim hi (fun y => y hr))]
    obtain ⟨j, hj, rfl⟩ := nI_of hi
    rw [nI_clamp hj]
    rw [← er] at hr
    refine ⟨0, fun f0 => vp_updL f0 0 (cins C n j b), fun l D t ad f0 htr => w_Law_inside (c_TCM_inside h.1.1 n16 hj hr) ⟨rfl, rfl, by decide, by decide, by decide, by decide⟩, RR_21 h, fun _ => ⟨sI_self, fun _ f0 => pk_uLs.trans ?_⟩⟩
    show cins C n j b = _
    have hlt : (C.1 0 n = 2 → j < 4) ∧ j < 6 := by
      obtain ⟨⟨P, hP, hP2⟩, -⟩ := h.1.1.1 n n16
      unfold crows at hr
      refine ⟨fun z => ?_, ?_⟩
      · rw [if_neg (by rw [z]; decide)] at hr
        split at hr
        · have := (nI_ltI (b := 4) hj (by omega)).1 hr
          omega
        · have := (nI_ltI (b := 0) hj (by omega)).1 hr
          omega
      · split at hr
        · rw [hP2] at hr
          have := (nI_ltI hj (by omega)).1 hr
          omega
        · split at hr
          · have := (nI_ltI (b := 4) hj (by omega)).1 hr
            omega
          · have := (nI_ltI (b := 0) hj (by omega)).1 hr
            omega
    unfold cins
    rw [← k0]
    by_cases z : C.1 0 n = 2
    · rw [if_pos z, if_pos z]
      exact k4 z j (hlt.1 z)
    · rw [if_neg z, if_neg z, (k5 j hlt.2).1, (k5 j hlt.2).2]
  · rw [if_pos (.inr hr)]
    exact ⟨2, fun f0 => f0, fun l D t ad f0 htr => w_Law_inside_NSE (x_TCM_inside3 htr n16 hi (by rw [er]; exact hr)) ⟨rfl, rfl, by decide, by decide, by decide, by decide⟩, RR_21 h, fun _ => ⟨sI_self, fun z => absurd z (by decide)⟩⟩
end

-- part 9i2.count
section
/-! count on both sides -/
def cntR (k : Nat → Int32) : Nat → Nat → Nat
  | 0, _ => 0
  | c + 1, i => (if k i = 0 then 0 else 1) + cntR k c (i + 1)
theorem mcnt_1 {M : CS} : ∀ (c i k : Nat) (g : Int32), (mcnt M c i (nI k) g).1 = nI (k + cntR (M.1 4) c i)
  | 0, i, k, g => rfl
  | c + 1, i, k, g => by
    unfold mcnt cntR
    by_cases z : M.1 4 i = 0
    · rw [if_pos z, if_pos z, mcnt_1 c (i + 1) k, show k + (0 + cntR (M.1 4) c (i + 1)) = k + cntR (M.1 4) c (i + 1) by omega]
    · rw [if_neg z, if_neg z, nI_1, mcnt_1 c (i + 1) (k + 1), show k + (1 + cntR (M.1 4) c (i + 1)) = k + 1 + cntR (M.1 4) c (i + 1) by omega]
theorem A_count {C M : CS} (h : RR C M) (w : Int32) : ccount C w = mcount (sI M 21 0 0) w := by
  have h' := RR_21 (v := 0) h
  obtain ⟨g0, g1, g2, g3, g4, g5, g6, g7⟩ := h'.1.2.2.2.2.2.1
  have rk := h'.1.2.2.2.2.1
  have gr : ∀ (c i : Nat) (a g : Int32), i + c ≤ 16 → cgrays C c i g = (mcnt (sI M 21 0 0) c i a g).2 := by
    intro c
    induction c with
    | zero => intro i a g hi; rfl
    | succ c ih =>
      intro i a g hi
      obtain ⟨⟨e1, e2⟩, -⟩ := rk i (by omega)
      have e : (if C.1 1 i = 1 then g + 1 else g) = (if ¬ (sI M 21 0 0).1 4 i = 0 ∧ (sI M 21 0 0).1 5 i = 1 then g + 1 else g) := by
        rw [← e1, ← e2]
        by_cases z : C.1 1 i = 1
        · have k0 : ¬ C.1 0 i = 0 := fun q => by
            have := (h.1.2.2.1.1 i (by omega)).2.2.1 q
            rw [z] at this
            exact absurd this (by decide)
          rw [if_pos z, if_pos ⟨k0, z⟩]
        · rw [if_neg z, if_neg (fun q => z q.2)]
      show cgrays C c (i + 1) (if C.1 1 i = 1 then g + 1 else g) = _
      rw [e]
      exact ih (i + 1) _ _ (by omega)
  unfold ccount mcount
  by_cases hw : w.toInt < 0 ∨ 8 < w.toInt
  · rw [if_pos hw, if_pos hw]
  rw [if_neg hw, if_neg hw]
  rcases i32_cases hw with rfl | rfl | rfl | rfl | rfl | rfl | rfl | rfl | rfl
  · show C.1 15 0 - C.1 16 0 = (mcnt (sI M 21 0 0) 16 0 0 0).1
    rw [show (mcnt (sI M 21 0 0) 16 0 0 0).1 = nI (0 + cntR ((sI M 21 0 0).1 4) 16 0) from mcnt_1 16 0 0 0, h.1.2.2.1.2.2.1]
    have e : cntK (C.1 0) = 0 + cntR ((sI M 21 0 0).1 4) 16 0 := by
      unfold cntK
      simp only [sumN, cntR, Nat.reduceAdd, Nat.zero_add]
      rw [(rk 0 (by omega)).1.1, (rk 1 (by omega)).1.1, (rk 2 (by omega)).1.1, (rk 3 (by omega)).1.1, (rk 4 (by omega)).1.1, (rk 5 (by omega)).1.1, (rk 6 (by omega)).1.1, (rk 7 (by omega)).1.1, (rk 8 (by omega)).1.1, (rk 9 (by omega)).1.1, (rk 10 (by omega)).1.1, (rk 11 (by omega)).1.1, (rk 12 (by omega)).1.1, (rk 13 (by omega)).1.1, (rk 14 (by omega)).1.1, (rk 15 (by omega)).1.1]
      omega
    rw [e]
  · exact g1
  · exact g2
  · exact g3
  · exact g4
  · exact g7
  · exact gr 16 0 0 0 (by omega)
  · exact g5
  · exact g6
end

-- part 9j.lawworld
section
/-! the law's world: the class's 171 cells, the array of one long, the reference's 18 cells -/
theorem EX.sub {D : va_G} {cl : List vw_C} {tys tys' : List (ClassId × FieldType)} {nl : List (String × Nat × MethodName × String)} {A : Nat → Prop} {U : State} {H : Heap} (h : EX D cl tys nl A U H) (is : List Nat) (hs : is.filterMap (fun i => tys[i]?) = tys') : EX D cl tys' nl A U H := ⟨h.1.sub is hs, h.2⟩
section Sub
variable {l : Launch} {D : va_G} {cl : List vw_C} {tys tys' : List (ClassId × FieldType)} {nl : List (String × Nat × MethodName × String)} {N : Nat} {ad : Nat → Nat} {y : MethodName} {ws : List Cond} {rm : Room} {As : List Value} {σ τ : Nat → va_E} {Rr : Option Value → (Nat → va_E) → Prop}
theorem ct_sub (is : List Nat) (hs : is.filterMap (fun i => tys[i]?) = tys') (e : ∀ k, k < N → σ k = τ k) (h : Ct l D cl tys' nl N ad y ws rm As τ Rr) : Ct l D cl tys nl N ad y ws rm As σ Rr := by
  intro sz p e' h1 h2 h3 s m args below h4 h5 hP hK
  rw [show gl N ad σ = gl N ad τ from gl_congr (fun j hj => ⟨rfl, e j hj⟩)]
  unfold cPc at hP
  rw [show gl N ad σ = gl N ad τ from gl_congr (fun j hj => ⟨rfl, e j hj⟩)] at hP
  obtain ⟨q0, q1, q2, q3, q4⟩ := hP
  exact h sz p e' h1 h2 h3 s m args below h4 h5 ⟨q0, q1, q2, q3.sub is hs, q4⟩ hK
theorem ctk_sub (is : List Nat) (hs : is.filterMap (fun i => tys[i]?) = tys') (e : ∀ k, k < N → σ k = τ k) (h : Ctk l D cl tys' nl N ad y ws rm As τ Rr) : Ctk l D cl tys nl N ad y ws rm As σ Rr := by
  intro sz p e' h1 h2 h3 s m args below h4 h5 hP hK
  rw [show gl N ad σ = gl N ad τ from gl_congr (fun j hj => ⟨rfl, e j hj⟩)]
  unfold cPk at hP
  rw [show gl N ad σ = gl N ad τ from gl_congr (fun j hj => ⟨rfl, e j hj⟩)] at hP
  obtain ⟨q0, ⟨q1, q2, q3, q4⟩, q5⟩ := hP
  exact h sz p e' h1 h2 h3 s m args below h4 h5 ⟨q0, ⟨q1, q2, q3.sub is hs, q4⟩, q5⟩ hK
end Sub
abbrev tyl (t : Nat → ClassId) : List (ClassId × FieldType) := tyc t ++ [(t 4, .int)]
def uM (t : Nat → ClassId) : Nat → ClassId := fun k => if k = 0 then t 4 else t 0
def arM (ad : Nat → Nat) : Nat → Nat := fun j => ad (172 + j)
/-- the reference's cells first -/
def roR (j : Nat) : Nat := if j < 18 then 172 + j else j - 18
def roB (k : Nat) : Nat := if k < 172 then k + 18 else k - 172
def arR (ad : Nat → Nat) : Nat → Nat := fun j => ad (roR j)
def wl (ad : Nat → Nat) (t : Nat → ClassId) (C : CS) (f : Nat → Int64) (M : CS) : Nat → va_E := fun k => if k < 172 then wo ad t C f k else mob (arM ad) (uM t) M (k - 172)
theorem mob_ad {ad ad' : Nat → Nat} {u : Nat → ClassId} {M : CS} (h : ∀ j, j < 18 → ad j = ad' j) (k : Nat) : mob ad u M k = mob ad' u M k := by
  rcases k with _ | _ | _ | _ | _ | _ | _ | _ | _ | _ | _ | _ | _ | _ | _ | _ | _ | _ | k <;> first | rfl | (simp only [mob]; rw [h 1 (by decide), h 2 (by decide), h 3 (by decide), h 4 (by decide), h 5 (by decide), h 6 (by decide), h 7 (by decide), h 8 (by decide), h 9 (by decide), h 10 (by decide), h 11 (by decide), h 12 (by decide), h 13 (by decide), h 14 (by decide), h 15 (by decide), h 16 (by decide), h 17 (by decide)])
theorem arR_lt {ad : Nat → Nat} {j : Nat} (h : j < 18) : arR ad j = arM ad j := by unfold arR roR arM; rw [if_pos h]
theorem roR_lt {j : Nat} (h : j < 190) : roR j < 190 := by unfold roR; split <;> omega
theorem roB_lt {j : Nat} (h : j < 190) : roB j < 190 := by unfold roB; split <;> omega
theorem roR_inj (i j : Nat) (hi : i < 190) (hj : j < 190) (h : roR i = roR j) : i = j := by unfold roR at h; split at h <;> split at h <;> omega
theorem roB_inj (i j : Nat) (hi : i < 190) (hj : j < 190) (h : roB i = roB j) : i = j := by unfold roB at h; split at h <;> split at h <;> omega
theorem roRB {k : Nat} (h : k < 190) : roR (roB k) = k := by unfold roR roB; split <;> split <;> omega
section LawCalls
variable {Γ : GT} {cc : ByteArray} {own : String} {rm : Room} {kc ks pc : Nat} {ad : Nat → Nat} {t : Nat → ClassId} {C C2 M M2 : CS} {f f2 : Nat → Int64} {L : List (Option Value)} {st rest : List Value}
variable {y : MethodName} {bytes : ByteArray} {maxL n index : Nat} {ret : Option FieldType} {hh : List (Nat × Nat × Nat × Nat)} {rmY : Room} {As : List Value} {v0 : Option Value} {r : Int32}
theorem wl_171 {σ2 : Nat → va_E} (e : ∀ k, k < 171 → σ2 k = wc ad t C2 k) : ∀ k, k < 190 → mrg 171 σ2 (wl ad t C f M) k = wl ad t C2 f M k := fun k hk => by
  unfold mrg wl wo mrg
  by_cases z : k < 171
  · rw [if_pos z, if_pos (by omega), if_pos z, e k z]
  · by_cases z2 : k < 172
    · rw [if_neg z, if_pos z2, if_pos z2, if_neg z, if_neg z]
    · rw [if_neg z, if_neg z2, if_neg z2]
theorem wl_172 : ∀ k, k < 190 → mrg 172 (wo ad t C2 f2) (wl ad t C f M) k = wl ad t C2 f2 M k := fun k hk => by
  unfold mrg wl
  by_cases z : k < 172
  · rw [if_pos z, if_pos z]
  · rw [if_neg z, if_neg z, if_neg z]
/-- a wrapper of the law's, of the class's world -/
theorem g_wrapK (h : Cx Γ cc own rm TB CL (tyl t) NL) (hnc : ncs (gs Γ)) (hM : Cw (gL Γ) (gD Γ) t ad y bytes maxL hh As C r C2)
    (hw : Cond.methodLink own index y ∈ TB ∧ Cond.static y ∈ TB ∧ Cond.initialized y.cls ∈ TB ∧ Cond.codeWith y bytes maxL (some .int) hh ∈ TB) (hd0 : cNm y y.cls n) (hn : As.length = n) (hroom : cRk rmW rm maxL kc ks) (hst : st = As.reverse ++ rest) (hrest : (rest.map fun v => v.category).sum ≤ 8) (hd : decode cc pc = .ok (.invokestatic index, 3))
    (k : G Γ (kc + 1) (ks + 6) 190 ad (wl ad t C2 f M) (pc + 3) L (.int r :: rest)) : G Γ kc ks 190 ad (wl ad t C f M) pc L st := by
  refine g_callK h tb_good (N1 := 171) (by decide) hnc (ctk_sub [0, 1, 2, 3] rfl (fun k hk => ?_) hM) hw hd0 hn hroom hst hrest hd ?_
  · unfold wl wo mrg
    rw [if_pos (by omega), if_pos hk]
  · rintro v σ2 ⟨rfl, rfl⟩
    exact g_world (wl_171 (fun _ _ => rfl)) k
/-- a wrapper of the law's that writes its answer into the array -/
theorem g_wrapO (h : Cx Γ cc own rm TB CL (tyl t) NL) (hnc : ncs (gs Γ)) (hM : Cwo (gL Γ) (gD Γ) t ad y bytes maxL hh As C f r C2 f2)
    (hw : Cond.methodLink own index y ∈ TB ∧ Cond.static y ∈ TB ∧ Cond.initialized y.cls ∈ TB ∧ Cond.codeWith y bytes maxL (some .int) hh ∈ TB) (hd0 : cNm y y.cls n) (hn : As.length = n) (hroom : cRk rmW rm maxL kc ks) (hst : st = As.reverse ++ rest) (hrest : (rest.map fun v => v.category).sum ≤ 8) (hd : decode cc pc = .ok (.invokestatic index, 3))
    (k : G Γ (kc + 1) (ks + 6) 190 ad (wl ad t C2 f2 M) (pc + 3) L (.int r :: rest)) : G Γ kc ks 190 ad (wl ad t C f M) pc L st := by
  refine g_callK h tb_good (N1 := 172) (by decide) hnc (ctk_sub [0, 1, 2, 3] rfl (fun k hk => ?_) hM) hw hd0 hn hroom hst hrest hd ?_
  · unfold wl
    rw [if_pos hk]
  · rintro v σ2 ⟨rfl, rfl⟩
    exact g_world wl_172 k
/-- a method of the class's, called by the law itself -/
theorem g_clsV (h : Cx Γ cc own rm TB CL (tyl t) NL) (hM : Cd (gL Γ) (gD Γ) t ad y bytes maxL ret rmY (.ref (ad (ix 0 0)) :: As) C v0 C2)
    (hw : ∀ w ∈ cwsV own index "TriColourMachine" y bytes maxL ret, w ∈ TB) (hd0 : cNm y "TriColourMachine" n) (hn : As.length = n) (hroom : cRm rmY rm maxL kc ks) (hst : st = As.reverse ++ .ref (ad (ix 0 0)) :: rest) (hrest : (rest.map fun v => v.category).sum ≤ 8) (hd : decode cc pc = .ok (.invokevirtual index, 3))
    (k : G Γ kc ks 190 ad (wl ad t C2 f M) (pc + 3) L (v0.toList ++ rest)) : G Γ kc ks 190 ad (wl ad t C f M) pc L st := by
  have e : ∀ k, k < 171 → wl ad t C f M k = wc ad t C k := fun k hk => by
    unfold wl wo mrg
    rw [if_pos (by omega), if_pos hk]
  refine g_callVP h tb_good (N1 := 171) (by decide) (ct_sub [0, 1, 2, 3] rfl e hM) (ix_lt 0 (by decide) _ (by decide)) ((e _ (ix_lt 0 (by decide) _ (by decide))).trans (wc_at (by decide) (by decide))) rfl hw hd0 hn hroom hst hrest hd ?_
  rintro v σ2 ⟨rfl, rfl⟩
  exact g_world (wl_171 (fun _ _ => rfl)) k
/-- a method of the reference's -/
theorem g_refV (h : Cx Γ cc own rm TB CL (tyl t) NL) (hM : Cm (gL Γ) (gD Γ) (uM t) (arR ad) y bytes maxL ret rmY (.ref (arR ad 0) :: As) M v0 M2)
    (hw : ∀ w ∈ cwsV own index "TriColourMachineModel" y bytes maxL ret, w ∈ TB) (hd0 : cNm y "TriColourMachineModel" n) (hn : As.length = n) (hroom : cRm rmY rm maxL kc ks) (hst : st = As.reverse ++ .ref (ad 172) :: rest) (hrest : (rest.map fun v => v.category).sum ≤ 8) (hd : decode cc pc = .ok (.invokevirtual index, 3))
    (k : G Γ kc ks 190 ad (wl ad t C f M2) (pc + 3) L (v0.toList ++ rest)) : G Γ kc ks 190 ad (wl ad t C f M) pc L st := by
  refine g_re (N' := 190) (ad' := arR ad) (σ' := fun j => wl ad t C f M (roR j)) roR (fun _ => roR_lt) roR_inj (fun _ _ => ⟨rfl, rfl⟩) ?_
  have e : ∀ k, k < 18 → wl ad t C f M (roR k) = mob (arR ad) (uM t) M k := fun k hk => by
    unfold wl roR
    rw [if_pos hk, if_neg (by omega), Nat.add_sub_cancel_left]
    exact (mob_ad (fun j hj => arR_lt hj) k).symm
  refine g_callVP h tb_good (N1 := 18) (q := 0) (by decide) (ct_sub [4, 0] rfl e hM) (by decide) ((e 0 (by decide)).trans rfl) rfl hw hd0 hn hroom hst hrest hd ?_
  rintro v σ2 ⟨rfl, rfl⟩
  refine g_re (N' := 190) (ad' := ad) (σ' := wl ad t C f M2) roB (fun _ => roB_lt) roB_inj (fun j hj => ⟨?_, ?_⟩) k
  · unfold arR
    rw [roRB hj]
  · unfold mrg
    by_cases z : roB j < 18
    · rw [if_pos z]
      have e1 : ¬ j < 172 := by intro q; unfold roB at z; rw [if_pos q] at z; omega
      have e2 : roB j = j - 172 := by unfold roB; rw [if_neg e1]
      unfold wl
      rw [if_neg e1, e2]
      exact (mob_ad (fun j hj => arR_lt hj) _).symm
    · rw [if_neg z]
      show _ = wl ad t C f M (roR (roB j))
      rw [roRB hj]
      have e1 : j < 172 := by
        apply Decidable.byContradiction
        intro q
        apply z
        unfold roB
        rw [if_neg q]
        omega
      unfold wl
      rw [if_pos e1, if_pos e1]
end LawCalls
end

-- part 9k.lawwords
section
set_option maxRecDepth 100000 in
theorem v_law_65 : Cond.methodLink "TriColourMachineLaw" 65 y_Law_code ∈ TB ∧ Cond.static y_Law_code ∈ TB ∧ Cond.initialized y_Law_code.cls ∈ TB ∧ Cond.codeWith y_Law_code b_Law_code 8 (some .int) [(0, 13, 16, 13)] ∈ TB := ⟨tb_mem 329 (by decide +kernel) (by decide +kernel), tb_mem 330 (by decide +kernel) (by decide +kernel), tb_mem 42 (by decide +kernel) (by decide +kernel), List.mem_filter.mpr ⟨List.mem_of_getElem? (i := 331) rfl, rfl⟩⟩
theorem nm_Law_code : cNm y_Law_code y_Law_code.cls 7 := ⟨rfl, by decide, by decide, by decide +kernel⟩
set_option maxRecDepth 100000 in
theorem v_law_70 : ∀ w ∈ cwsV "TriColourMachineLaw" 70 "TriColourMachineModel" y_Mod_code b_Mod_code 8 none, w ∈ TB := tb_last (tb_all [772, 773, 774, 51] (by decide +kernel) (by decide +kernel)) (List.mem_filter.mpr ⟨List.mem_of_getElem? (i := 775) rfl, rfl⟩)
set_option maxRecDepth 100000 in
theorem v_law_71 : Cond.methodLink "TriColourMachineLaw" 71 y_Law_number ∈ TB ∧ Cond.static y_Law_number ∈ TB ∧ Cond.initialized y_Law_number.cls ∈ TB ∧ Cond.codeWith y_Law_number b_Law_number 4 (some .int) [(0, 6, 9, 13)] ∈ TB := ⟨tb_mem 408 (by decide +kernel) (by decide +kernel), tb_mem 409 (by decide +kernel) (by decide +kernel), tb_mem 42 (by decide +kernel) (by decide +kernel), List.mem_filter.mpr ⟨List.mem_of_getElem? (i := 410) rfl, rfl⟩⟩
theorem nm_Law_number : cNm y_Law_number y_Law_number.cls 3 := ⟨rfl, by decide, by decide, by decide +kernel⟩
set_option maxRecDepth 100000 in
theorem v_law_74 : ∀ w ∈ cwsV "TriColourMachineLaw" 74 "TriColourMachineModel" y_Mod_number b_Mod_number 3 none, w ∈ TB := tb_last (tb_all [776, 777, 778, 51] (by decide +kernel) (by decide +kernel)) (List.mem_filter.mpr ⟨List.mem_of_getElem? (i := 779) rfl, rfl⟩)
set_option maxRecDepth 100000 in
theorem v_law_75 : Cond.methodLink "TriColourMachineLaw" 75 y_Law_move ∈ TB ∧ Cond.static y_Law_move ∈ TB ∧ Cond.initialized y_Law_move.cls ∈ TB ∧ Cond.codeWith y_Law_move b_Law_move 4 (some .int) [(0, 6, 9, 13)] ∈ TB := ⟨tb_mem 418 (by decide +kernel) (by decide +kernel), tb_mem 419 (by decide +kernel) (by decide +kernel), tb_mem 42 (by decide +kernel) (by decide +kernel), List.mem_filter.mpr ⟨List.mem_of_getElem? (i := 420) rfl, rfl⟩⟩
theorem nm_Law_move : cNm y_Law_move y_Law_move.cls 3 := ⟨rfl, by decide, by decide, by decide +kernel⟩
set_option maxRecDepth 100000 in
theorem v_law_77 : ∀ w ∈ cwsV "TriColourMachineLaw" 77 "TriColourMachineModel" y_Mod_move b_Mod_move 3 none, w ∈ TB := tb_last (tb_all [784, 785, 786, 51] (by decide +kernel) (by decide +kernel)) (List.mem_filter.mpr ⟨List.mem_of_getElem? (i := 787) rfl, rfl⟩)
set_option maxRecDepth 100000 in
theorem v_law_78 : Cond.methodLink "TriColourMachineLaw" 78 y_Law_make ∈ TB ∧ Cond.static y_Law_make ∈ TB ∧ Cond.initialized y_Law_make.cls ∈ TB ∧ Cond.codeWith y_Law_make b_Law_make 5 (some .int) [(0, 10, 13, 13), (0, 10, 17, 26)] ∈ TB := ⟨tb_mem 426 (by decide +kernel) (by decide +kernel), tb_mem 427 (by decide +kernel) (by decide +kernel), tb_mem 42 (by decide +kernel) (by decide +kernel), List.mem_filter.mpr ⟨List.mem_of_getElem? (i := 428) rfl, rfl⟩⟩
theorem nm_Law_make : cNm y_Law_make y_Law_make.cls 4 := ⟨rfl, by decide, by decide, by decide +kernel⟩
set_option maxRecDepth 100000 in
theorem v_law_81 : ∀ w ∈ cwsV "TriColourMachineLaw" 81 "TriColourMachineModel" y_Mod_make b_Mod_make 4 (some .int), w ∈ TB := tb_last (tb_all [788, 789, 790, 51] (by decide +kernel) (by decide +kernel)) (List.mem_filter.mpr ⟨List.mem_of_getElem? (i := 791) rfl, rfl⟩)
set_option maxRecDepth 100000 in
theorem v_law_82 : Cond.methodLink "TriColourMachineLaw" 82 y_Law_set ∈ TB ∧ Cond.static y_Law_set ∈ TB ∧ Cond.initialized y_Law_set.cls ∈ TB ∧ Cond.codeWith y_Law_set b_Law_set 5 (some .int) [(0, 7, 10, 13), (0, 7, 14, 26), (0, 7, 18, 32)] ∈ TB := ⟨tb_mem 494 (by decide +kernel) (by decide +kernel), tb_mem 495 (by decide +kernel) (by decide +kernel), tb_mem 42 (by decide +kernel) (by decide +kernel), List.mem_filter.mpr ⟨List.mem_of_getElem? (i := 496) rfl, rfl⟩⟩
theorem nm_Law_set : cNm y_Law_set y_Law_set.cls 4 := ⟨rfl, by decide, by decide, by decide +kernel⟩
set_option maxRecDepth 100000 in
theorem v_law_85 : ∀ w ∈ cwsV "TriColourMachineLaw" 85 "TriColourMachineModel" y_Mod_set b_Mod_set 4 none, w ∈ TB := tb_last (tb_all [829, 830, 831, 51] (by decide +kernel) (by decide +kernel)) (List.mem_filter.mpr ⟨List.mem_of_getElem? (i := 832) rfl, rfl⟩)
set_option maxRecDepth 100000 in
theorem v_law_86 : Cond.methodLink "TriColourMachineLaw" 86 y_Law_get ∈ TB ∧ Cond.static y_Law_get ∈ TB ∧ Cond.initialized y_Law_get.cls ∈ TB ∧ Cond.codeWith y_Law_get b_Law_get 6 (some .int) [(0, 11, 14, 13), (0, 11, 18, 26), (0, 11, 22, 32)] ∈ TB := ⟨tb_mem 538 (by decide +kernel) (by decide +kernel), tb_mem 539 (by decide +kernel) (by decide +kernel), tb_mem 42 (by decide +kernel) (by decide +kernel), List.mem_filter.mpr ⟨List.mem_of_getElem? (i := 540) rfl, rfl⟩⟩
theorem nm_Law_get : cNm y_Law_get y_Law_get.cls 5 := ⟨rfl, by decide, by decide, by decide +kernel⟩
set_option maxRecDepth 100000 in
theorem v_law_89 : ∀ w ∈ cwsV "TriColourMachineLaw" 89 "TriColourMachineModel" y_Mod_get b_Mod_get 6 (some .long), w ∈ TB := tb_last (tb_all [853, 854, 855, 51] (by decide +kernel) (by decide +kernel)) (List.mem_filter.mpr ⟨List.mem_of_getElem? (i := 856) rfl, rfl⟩)
set_option maxRecDepth 100000 in
theorem v_law_90 : Cond.methodLink "TriColourMachineLaw" 90 y_Law_meta ∈ TB ∧ Cond.static y_Law_meta ∈ TB ∧ Cond.initialized y_Law_meta.cls ∈ TB ∧ Cond.codeWith y_Law_meta b_Law_meta 4 (some .int) [(0, 6, 9, 13), (0, 6, 12, 32)] ∈ TB := ⟨tb_mem 549 (by decide +kernel) (by decide +kernel), tb_mem 550 (by decide +kernel) (by decide +kernel), tb_mem 42 (by decide +kernel) (by decide +kernel), List.mem_filter.mpr ⟨List.mem_of_getElem? (i := 551) rfl, rfl⟩⟩
theorem nm_Law_meta : cNm y_Law_meta y_Law_meta.cls 3 := ⟨rfl, by decide, by decide, by decide +kernel⟩
set_option maxRecDepth 100000 in
theorem v_law_92 : ∀ w ∈ cwsV "TriColourMachineLaw" 92 "TriColourMachineModel" y_Mod_meta b_Mod_meta 3 none, w ∈ TB := tb_last (tb_all [861, 862, 863, 51] (by decide +kernel) (by decide +kernel)) (List.mem_filter.mpr ⟨List.mem_of_getElem? (i := 864) rfl, rfl⟩)
set_option maxRecDepth 100000 in
theorem v_law_93 : Cond.methodLink "TriColourMachineLaw" 93 y_Law_resume ∈ TB ∧ Cond.static y_Law_resume ∈ TB ∧ Cond.initialized y_Law_resume.cls ∈ TB ∧ Cond.codeWith y_Law_resume b_Law_resume 6 (some .int) [(0, 11, 14, 13), (0, 11, 18, 26), (0, 11, 22, 32)] ∈ TB := ⟨tb_mem 560 (by decide +kernel) (by decide +kernel), tb_mem 561 (by decide +kernel) (by decide +kernel), tb_mem 42 (by decide +kernel) (by decide +kernel), List.mem_filter.mpr ⟨List.mem_of_getElem? (i := 562) rfl, rfl⟩⟩
theorem nm_Law_resume : cNm y_Law_resume y_Law_resume.cls 5 := ⟨rfl, by decide, by decide, by decide +kernel⟩
set_option maxRecDepth 100000 in
theorem v_law_95 : ∀ w ∈ cwsV "TriColourMachineLaw" 95 "TriColourMachineModel" y_Mod_resume b_Mod_resume 6 (some .long), w ∈ TB := tb_last (tb_all [869, 870, 871, 51] (by decide +kernel) (by decide +kernel)) (List.mem_filter.mpr ⟨List.mem_of_getElem? (i := 872) rfl, rfl⟩)
set_option maxRecDepth 100000 in
theorem v_law_96 : ∀ w ∈ cwsV "TriColourMachineLaw" 96 "TriColourMachineModel" y_Mod_thrown b_Mod_thrown 1 (some .int), w ∈ TB := tb_last (tb_all [768, 769, 770, 51] (by decide +kernel) (by decide +kernel)) (List.mem_filter.mpr ⟨List.mem_of_getElem? (i := 771) rfl, rfl⟩)
set_option maxRecDepth 100000 in
theorem v_law_100 : Cond.methodLink "TriColourMachineLaw" 100 y_Law_collect ∈ TB ∧ Cond.static y_Law_collect ∈ TB ∧ Cond.initialized y_Law_collect.cls ∈ TB ∧ Cond.codeWith y_Law_collect b_Law_collect 4 (some .int) [(0, 9, 12, 13)] ∈ TB := ⟨tb_mem 626 (by decide +kernel) (by decide +kernel), tb_mem 627 (by decide +kernel) (by decide +kernel), tb_mem 42 (by decide +kernel) (by decide +kernel), List.mem_filter.mpr ⟨List.mem_of_getElem? (i := 628) rfl, rfl⟩⟩
theorem nm_Law_collect : cNm y_Law_collect y_Law_collect.cls 3 := ⟨rfl, by decide, by decide, by decide +kernel⟩
set_option maxRecDepth 100000 in
theorem v_law_103 : ∀ w ∈ cwsV "TriColourMachineLaw" 103 "TriColourMachineModel" y_Mod_collect b_Mod_collect 4 (some .int), w ∈ TB := tb_last (tb_all [907, 908, 909, 51] (by decide +kernel) (by decide +kernel)) (List.mem_filter.mpr ⟨List.mem_of_getElem? (i := 910) rfl, rfl⟩)
set_option maxRecDepth 100000 in
theorem v_law_104 : ∀ w ∈ cwsV "TriColourMachineLaw" 104 "TriColourMachine" y_TCM_full b_TCM_full 2 (some .int), w ∈ TB := tb_last (tb_all [281, 282, 283, 43] (by decide +kernel) (by decide +kernel)) (List.mem_filter.mpr ⟨List.mem_of_getElem? (i := 284) rfl, rfl⟩)
set_option maxRecDepth 100000 in
theorem v_law_107 : ∀ w ∈ cwsV "TriColourMachineLaw" 107 "TriColourMachineModel" y_Mod_full b_Mod_full 1 (some .int), w ∈ TB := tb_last (tb_all [911, 912, 913, 51] (by decide +kernel) (by decide +kernel)) (List.mem_filter.mpr ⟨List.mem_of_getElem? (i := 914) rfl, rfl⟩)
set_option maxRecDepth 100000 in
theorem v_law_108 : Cond.methodLink "TriColourMachineLaw" 108 y_Law_global ∈ TB ∧ Cond.static y_Law_global ∈ TB ∧ Cond.initialized y_Law_global.cls ∈ TB ∧ Cond.codeWith y_Law_global b_Law_global 4 (some .int) [(0, 8, 11, 13)] ∈ TB := ⟨tb_mem 634 (by decide +kernel) (by decide +kernel), tb_mem 635 (by decide +kernel) (by decide +kernel), tb_mem 42 (by decide +kernel) (by decide +kernel), List.mem_filter.mpr ⟨List.mem_of_getElem? (i := 636) rfl, rfl⟩⟩
theorem nm_Law_global : cNm y_Law_global y_Law_global.cls 3 := ⟨rfl, by decide, by decide, by decide +kernel⟩
set_option maxRecDepth 100000 in
theorem v_law_110 : ∀ w ∈ cwsV "TriColourMachineLaw" 110 "TriColourMachineModel" y_Mod_global b_Mod_global 2 (some .long), w ∈ TB := tb_last (tb_all [915, 916, 917, 51] (by decide +kernel) (by decide +kernel)) (List.mem_filter.mpr ⟨List.mem_of_getElem? (i := 918) rfl, rfl⟩)
set_option maxRecDepth 100000 in
theorem v_law_111 : Cond.methodLink "TriColourMachineLaw" 111 y_Law_object ∈ TB ∧ Cond.static y_Law_object ∈ TB ∧ Cond.initialized y_Law_object.cls ∈ TB ∧ Cond.codeWith y_Law_object b_Law_object 5 (some .int) [(0, 10, 13, 13), (0, 10, 17, 55)] ∈ TB := ⟨tb_mem 641 (by decide +kernel) (by decide +kernel), tb_mem 642 (by decide +kernel) (by decide +kernel), tb_mem 42 (by decide +kernel) (by decide +kernel), List.mem_filter.mpr ⟨List.mem_of_getElem? (i := 643) rfl, rfl⟩⟩
theorem nm_Law_object : cNm y_Law_object y_Law_object.cls 4 := ⟨rfl, by decide, by decide, by decide +kernel⟩
set_option maxRecDepth 100000 in
theorem v_law_113 : ∀ w ∈ cwsV "TriColourMachineLaw" 113 "TriColourMachineModel" y_Mod_object b_Mod_object 3 (some .int), w ∈ TB := tb_last (tb_all [919, 920, 921, 51] (by decide +kernel) (by decide +kernel)) (List.mem_filter.mpr ⟨List.mem_of_getElem? (i := 922) rfl, rfl⟩)
set_option maxRecDepth 100000 in
theorem v_law_114 : Cond.methodLink "TriColourMachineLaw" 114 y_Law_inside ∈ TB ∧ Cond.static y_Law_inside ∈ TB ∧ Cond.initialized y_Law_inside.cls ∈ TB ∧ Cond.codeWith y_Law_inside b_Law_inside 6 (some .int) [(0, 11, 14, 13), (0, 11, 18, 55)] ∈ TB := ⟨tb_mem 664 (by decide +kernel) (by decide +kernel), tb_mem 665 (by decide +kernel) (by decide +kernel), tb_mem 42 (by decide +kernel) (by decide +kernel), List.mem_filter.mpr ⟨List.mem_of_getElem? (i := 666) rfl, rfl⟩⟩
theorem nm_Law_inside : cNm y_Law_inside y_Law_inside.cls 5 := ⟨rfl, by decide, by decide, by decide +kernel⟩
set_option maxRecDepth 100000 in
theorem v_law_117 : ∀ w ∈ cwsV "TriColourMachineLaw" 117 "TriColourMachineModel" y_Mod_inside b_Mod_inside 4 (some .long), w ∈ TB := tb_last (tb_all [923, 924, 925, 51] (by decide +kernel) (by decide +kernel)) (List.mem_filter.mpr ⟨List.mem_of_getElem? (i := 926) rfl, rfl⟩)
set_option maxRecDepth 100000 in
theorem v_law_118 : ∀ w ∈ cwsV "TriColourMachineLaw" 118 "TriColourMachine" y_TCM_count b_TCM_count 2 (some .int), w ∈ TB := tb_last (tb_all [321, 322, 323, 43] (by decide +kernel) (by decide +kernel)) (List.mem_filter.mpr ⟨List.mem_of_getElem? (i := 324) rfl, rfl⟩)
set_option maxRecDepth 100000 in
theorem v_law_121 : ∀ w ∈ cwsV "TriColourMachineLaw" 121 "TriColourMachineModel" y_Mod_count b_Mod_count 5 (some .int), w ∈ TB := tb_last (tb_all [927, 928, 929, 51] (by decide +kernel) (by decide +kernel)) (List.mem_filter.mpr ⟨List.mem_of_getElem? (i := 930) rfl, rfl⟩)
theorem d_law_0 : decode code 0 = .ok (.new 8, 3) := by decide +kernel
theorem d_law_3 : decode code 3 = .ok (.dup, 1) := by decide +kernel
theorem d_law_4 : decode code 4 = .ok (.invokespecial 61, 3) := by decide +kernel
theorem d_law_7 : decode code 7 = .ok (.astore_n 1, 1) := by decide +kernel
theorem d_law_8 : decode code 8 = .ok (.new 62, 3) := by decide +kernel
theorem d_law_11 : decode code 11 = .ok (.dup, 1) := by decide +kernel
theorem d_law_12 : decode code 12 = .ok (.invokespecial 64, 3) := by decide +kernel
theorem d_law_15 : decode code 15 = .ok (.astore_n 2, 1) := by decide +kernel
theorem d_law_16 : decode code 16 = .ok (.iconst 1, 1) := by decide +kernel
theorem d_law_17 : decode code 17 = .ok (.newarray .long, 2) := by decide +kernel
theorem d_law_19 : decode code 19 = .ok (.astore_n 3, 1) := by decide +kernel
theorem d_law_20 : decode code 20 = .ok (.iconst 0, 1) := by decide +kernel
theorem d_law_21 : decode code 21 = .ok (.istore 4, 2) := by decide +kernel
theorem d_law_23 : decode code 23 = .ok (.iload 4, 2) := by decide +kernel
theorem d_law_25 : decode code 25 = .ok (.aload_n 0, 1) := by decide +kernel
theorem d_law_26 : decode code 26 = .ok (.arraylength, 1) := by decide +kernel
theorem d_law_27 : decode code 27 = .ok (.bipush 7, 2) := by decide +kernel
theorem d_law_29 : decode code 29 = .ok (.isub, 1) := by decide +kernel
theorem d_law_30 : decode code 30 = .ok (.if_icmp .gt 708, 3) := by decide +kernel
theorem d_law_33 : decode code 33 = .ok (.aload_n 0, 1) := by decide +kernel
theorem d_law_34 : decode code 34 = .ok (.iload 4, 2) := by decide +kernel
theorem d_law_36 : decode code 36 = .ok (.iaload, 1) := by decide +kernel
theorem d_law_37 : decode code 37 = .ok (.bipush 15, 2) := by decide +kernel
theorem d_law_39 : decode code 39 = .ok (.iand, 1) := by decide +kernel
theorem d_law_40 : decode code 40 = .ok (.tableswitch 692 0 13 #[72, 159, 196, 233, 273, 322, 374, 411, 490, 518, 531, 559, 599, 667], 72) := by decide +kernel
theorem d_law_112 : decode code 112 = .ok (.aload_n 1, 1) := by decide +kernel
theorem d_law_113 : decode code 113 = .ok (.aload_n 0, 1) := by decide +kernel
theorem d_law_114 : decode code 114 = .ok (.iload 4, 2) := by decide +kernel
theorem d_law_116 : decode code 116 = .ok (.iconst 1, 1) := by decide +kernel
theorem d_law_117 : decode code 117 = .ok (.iadd, 1) := by decide +kernel
theorem d_law_118 : decode code 118 = .ok (.iaload, 1) := by decide +kernel
theorem d_law_119 : decode code 119 = .ok (.aload_n 0, 1) := by decide +kernel
theorem d_law_120 : decode code 120 = .ok (.iload 4, 2) := by decide +kernel
theorem d_law_122 : decode code 122 = .ok (.iconst 2, 1) := by decide +kernel
theorem d_law_123 : decode code 123 = .ok (.iadd, 1) := by decide +kernel
theorem d_law_124 : decode code 124 = .ok (.iaload, 1) := by decide +kernel
theorem d_law_125 : decode code 125 = .ok (.aload_n 0, 1) := by decide +kernel
theorem d_law_126 : decode code 126 = .ok (.iload 4, 2) := by decide +kernel
theorem d_law_128 : decode code 128 = .ok (.iconst 3, 1) := by decide +kernel
theorem d_law_129 : decode code 129 = .ok (.iadd, 1) := by decide +kernel
theorem d_law_130 : decode code 130 = .ok (.iaload, 1) := by decide +kernel
theorem d_law_131 : decode code 131 = .ok (.aload_n 0, 1) := by decide +kernel
theorem d_law_132 : decode code 132 = .ok (.iload 4, 2) := by decide +kernel
theorem d_law_134 : decode code 134 = .ok (.iconst 4, 1) := by decide +kernel
theorem d_law_135 : decode code 135 = .ok (.iadd, 1) := by decide +kernel
theorem d_law_136 : decode code 136 = .ok (.iaload, 1) := by decide +kernel
theorem d_law_137 : decode code 137 = .ok (.aload_n 0, 1) := by decide +kernel
theorem d_law_138 : decode code 138 = .ok (.iload 4, 2) := by decide +kernel
theorem d_law_140 : decode code 140 = .ok (.iconst 5, 1) := by decide +kernel
theorem d_law_141 : decode code 141 = .ok (.iadd, 1) := by decide +kernel
theorem d_law_142 : decode code 142 = .ok (.iaload, 1) := by decide +kernel
theorem d_law_143 : decode code 143 = .ok (.aload_n 0, 1) := by decide +kernel
theorem d_law_144 : decode code 144 = .ok (.iload 4, 2) := by decide +kernel
theorem d_law_146 : decode code 146 = .ok (.bipush 6, 2) := by decide +kernel
theorem d_law_148 : decode code 148 = .ok (.iadd, 1) := by decide +kernel
theorem d_law_149 : decode code 149 = .ok (.iaload, 1) := by decide +kernel
theorem d_law_150 : decode code 150 = .ok (.invokestatic 65, 3) := by decide +kernel
theorem d_law_153 : decode code 153 = .ok (.istore 5, 2) := by decide +kernel
theorem d_law_155 : decode code 155 = .ok (.aload_n 2, 1) := by decide +kernel
theorem d_law_156 : decode code 156 = .ok (.aload_n 0, 1) := by decide +kernel
theorem d_law_157 : decode code 157 = .ok (.iload 4, 2) := by decide +kernel
theorem d_law_159 : decode code 159 = .ok (.iconst 1, 1) := by decide +kernel
theorem d_law_160 : decode code 160 = .ok (.iadd, 1) := by decide +kernel
theorem d_law_161 : decode code 161 = .ok (.iaload, 1) := by decide +kernel
theorem d_law_162 : decode code 162 = .ok (.aload_n 0, 1) := by decide +kernel
theorem d_law_163 : decode code 163 = .ok (.iload 4, 2) := by decide +kernel
theorem d_law_165 : decode code 165 = .ok (.iconst 2, 1) := by decide +kernel
theorem d_law_166 : decode code 166 = .ok (.iadd, 1) := by decide +kernel
theorem d_law_167 : decode code 167 = .ok (.iaload, 1) := by decide +kernel
theorem d_law_168 : decode code 168 = .ok (.aload_n 0, 1) := by decide +kernel
theorem d_law_169 : decode code 169 = .ok (.iload 4, 2) := by decide +kernel
theorem d_law_171 : decode code 171 = .ok (.iconst 3, 1) := by decide +kernel
theorem d_law_172 : decode code 172 = .ok (.iadd, 1) := by decide +kernel
theorem d_law_173 : decode code 173 = .ok (.iaload, 1) := by decide +kernel
theorem d_law_174 : decode code 174 = .ok (.aload_n 0, 1) := by decide +kernel
theorem d_law_175 : decode code 175 = .ok (.iload 4, 2) := by decide +kernel
theorem d_law_177 : decode code 177 = .ok (.iconst 4, 1) := by decide +kernel
theorem d_law_178 : decode code 178 = .ok (.iadd, 1) := by decide +kernel
theorem d_law_179 : decode code 179 = .ok (.iaload, 1) := by decide +kernel
theorem d_law_180 : decode code 180 = .ok (.aload_n 0, 1) := by decide +kernel
theorem d_law_181 : decode code 181 = .ok (.iload 4, 2) := by decide +kernel
theorem d_law_183 : decode code 183 = .ok (.iconst 5, 1) := by decide +kernel
theorem d_law_184 : decode code 184 = .ok (.iadd, 1) := by decide +kernel
theorem d_law_185 : decode code 185 = .ok (.iaload, 1) := by decide +kernel
theorem d_law_186 : decode code 186 = .ok (.aload_n 0, 1) := by decide +kernel
theorem d_law_187 : decode code 187 = .ok (.iload 4, 2) := by decide +kernel
theorem d_law_189 : decode code 189 = .ok (.bipush 6, 2) := by decide +kernel
theorem d_law_191 : decode code 191 = .ok (.iadd, 1) := by decide +kernel
theorem d_law_192 : decode code 192 = .ok (.iaload, 1) := by decide +kernel
theorem d_law_193 : decode code 193 = .ok (.invokevirtual 70, 3) := by decide +kernel
theorem d_law_196 : decode code 196 = .ok (.goto 536, 3) := by decide +kernel
theorem d_law_199 : decode code 199 = .ok (.aload_n 1, 1) := by decide +kernel
theorem d_law_200 : decode code 200 = .ok (.aload_n 0, 1) := by decide +kernel
theorem d_law_201 : decode code 201 = .ok (.iload 4, 2) := by decide +kernel
theorem d_law_203 : decode code 203 = .ok (.iconst 1, 1) := by decide +kernel
theorem d_law_204 : decode code 204 = .ok (.iadd, 1) := by decide +kernel
theorem d_law_205 : decode code 205 = .ok (.iaload, 1) := by decide +kernel
theorem d_law_206 : decode code 206 = .ok (.aload_n 0, 1) := by decide +kernel
theorem d_law_207 : decode code 207 = .ok (.iload 4, 2) := by decide +kernel
theorem d_law_209 : decode code 209 = .ok (.iconst 2, 1) := by decide +kernel
theorem d_law_210 : decode code 210 = .ok (.iadd, 1) := by decide +kernel
theorem d_law_211 : decode code 211 = .ok (.iaload, 1) := by decide +kernel
theorem d_law_212 : decode code 212 = .ok (.invokestatic 71, 3) := by decide +kernel
theorem d_law_215 : decode code 215 = .ok (.istore 5, 2) := by decide +kernel
theorem d_law_217 : decode code 217 = .ok (.aload_n 2, 1) := by decide +kernel
theorem d_law_218 : decode code 218 = .ok (.aload_n 0, 1) := by decide +kernel
theorem d_law_219 : decode code 219 = .ok (.iload 4, 2) := by decide +kernel
theorem d_law_221 : decode code 221 = .ok (.iconst 1, 1) := by decide +kernel
theorem d_law_222 : decode code 222 = .ok (.iadd, 1) := by decide +kernel
theorem d_law_223 : decode code 223 = .ok (.iaload, 1) := by decide +kernel
theorem d_law_224 : decode code 224 = .ok (.aload_n 0, 1) := by decide +kernel
theorem d_law_225 : decode code 225 = .ok (.iload 4, 2) := by decide +kernel
theorem d_law_227 : decode code 227 = .ok (.iconst 2, 1) := by decide +kernel
theorem d_law_228 : decode code 228 = .ok (.iadd, 1) := by decide +kernel
theorem d_law_229 : decode code 229 = .ok (.iaload, 1) := by decide +kernel
theorem d_law_230 : decode code 230 = .ok (.invokevirtual 74, 3) := by decide +kernel
theorem d_law_233 : decode code 233 = .ok (.goto 499, 3) := by decide +kernel
theorem d_law_236 : decode code 236 = .ok (.aload_n 1, 1) := by decide +kernel
theorem d_law_237 : decode code 237 = .ok (.aload_n 0, 1) := by decide +kernel
theorem d_law_238 : decode code 238 = .ok (.iload 4, 2) := by decide +kernel
theorem d_law_240 : decode code 240 = .ok (.iconst 1, 1) := by decide +kernel
theorem d_law_241 : decode code 241 = .ok (.iadd, 1) := by decide +kernel
theorem d_law_242 : decode code 242 = .ok (.iaload, 1) := by decide +kernel
theorem d_law_243 : decode code 243 = .ok (.aload_n 0, 1) := by decide +kernel
theorem d_law_244 : decode code 244 = .ok (.iload 4, 2) := by decide +kernel
theorem d_law_246 : decode code 246 = .ok (.iconst 2, 1) := by decide +kernel
theorem d_law_247 : decode code 247 = .ok (.iadd, 1) := by decide +kernel
theorem d_law_248 : decode code 248 = .ok (.iaload, 1) := by decide +kernel
theorem d_law_249 : decode code 249 = .ok (.invokestatic 75, 3) := by decide +kernel
theorem d_law_252 : decode code 252 = .ok (.istore 5, 2) := by decide +kernel
theorem d_law_254 : decode code 254 = .ok (.aload_n 2, 1) := by decide +kernel
theorem d_law_255 : decode code 255 = .ok (.aload_n 0, 1) := by decide +kernel
theorem d_law_256 : decode code 256 = .ok (.iload 4, 2) := by decide +kernel
theorem d_law_258 : decode code 258 = .ok (.iconst 1, 1) := by decide +kernel
theorem d_law_259 : decode code 259 = .ok (.iadd, 1) := by decide +kernel
theorem d_law_260 : decode code 260 = .ok (.iaload, 1) := by decide +kernel
theorem d_law_261 : decode code 261 = .ok (.aload_n 0, 1) := by decide +kernel
theorem d_law_262 : decode code 262 = .ok (.iload 4, 2) := by decide +kernel
theorem d_law_264 : decode code 264 = .ok (.iconst 2, 1) := by decide +kernel
theorem d_law_265 : decode code 265 = .ok (.iadd, 1) := by decide +kernel
theorem d_law_266 : decode code 266 = .ok (.iaload, 1) := by decide +kernel
theorem d_law_267 : decode code 267 = .ok (.invokevirtual 77, 3) := by decide +kernel
theorem d_law_270 : decode code 270 = .ok (.goto 462, 3) := by decide +kernel
theorem d_law_273 : decode code 273 = .ok (.aload_n 1, 1) := by decide +kernel
theorem d_law_274 : decode code 274 = .ok (.aload_n 0, 1) := by decide +kernel
theorem d_law_275 : decode code 275 = .ok (.iload 4, 2) := by decide +kernel
theorem d_law_277 : decode code 277 = .ok (.iconst 1, 1) := by decide +kernel
theorem d_law_278 : decode code 278 = .ok (.iadd, 1) := by decide +kernel
theorem d_law_279 : decode code 279 = .ok (.iaload, 1) := by decide +kernel
theorem d_law_280 : decode code 280 = .ok (.aload_n 0, 1) := by decide +kernel
theorem d_law_281 : decode code 281 = .ok (.iload 4, 2) := by decide +kernel
theorem d_law_283 : decode code 283 = .ok (.iconst 2, 1) := by decide +kernel
theorem d_law_284 : decode code 284 = .ok (.iadd, 1) := by decide +kernel
theorem d_law_285 : decode code 285 = .ok (.iaload, 1) := by decide +kernel
theorem d_law_286 : decode code 286 = .ok (.aload_n 3, 1) := by decide +kernel
theorem d_law_287 : decode code 287 = .ok (.invokestatic 78, 3) := by decide +kernel
theorem d_law_290 : decode code 290 = .ok (.istore 5, 2) := by decide +kernel
theorem d_law_292 : decode code 292 = .ok (.aload_n 2, 1) := by decide +kernel
theorem d_law_293 : decode code 293 = .ok (.aload_n 0, 1) := by decide +kernel
theorem d_law_294 : decode code 294 = .ok (.iload 4, 2) := by decide +kernel
theorem d_law_296 : decode code 296 = .ok (.iconst 1, 1) := by decide +kernel
theorem d_law_297 : decode code 297 = .ok (.iadd, 1) := by decide +kernel
theorem d_law_298 : decode code 298 = .ok (.iaload, 1) := by decide +kernel
theorem d_law_299 : decode code 299 = .ok (.aload_n 0, 1) := by decide +kernel
theorem d_law_300 : decode code 300 = .ok (.iload 4, 2) := by decide +kernel
theorem d_law_302 : decode code 302 = .ok (.iconst 2, 1) := by decide +kernel
theorem d_law_303 : decode code 303 = .ok (.iadd, 1) := by decide +kernel
theorem d_law_304 : decode code 304 = .ok (.iaload, 1) := by decide +kernel
theorem d_law_305 : decode code 305 = .ok (.invokevirtual 81, 3) := by decide +kernel
theorem d_law_308 : decode code 308 = .ok (.istore 6, 2) := by decide +kernel
theorem d_law_310 : decode code 310 = .ok (.goto 422, 3) := by decide +kernel
theorem d_law_313 : decode code 313 = .ok (.aload_n 1, 1) := by decide +kernel
theorem d_law_314 : decode code 314 = .ok (.aload_n 0, 1) := by decide +kernel
theorem d_law_315 : decode code 315 = .ok (.iload 4, 2) := by decide +kernel
theorem d_law_317 : decode code 317 = .ok (.iconst 1, 1) := by decide +kernel
theorem d_law_318 : decode code 318 = .ok (.iadd, 1) := by decide +kernel
theorem d_law_319 : decode code 319 = .ok (.iaload, 1) := by decide +kernel
theorem d_law_320 : decode code 320 = .ok (.aload_n 0, 1) := by decide +kernel
theorem d_law_321 : decode code 321 = .ok (.iload 4, 2) := by decide +kernel
theorem d_law_323 : decode code 323 = .ok (.iconst 2, 1) := by decide +kernel
theorem d_law_324 : decode code 324 = .ok (.iadd, 1) := by decide +kernel
theorem d_law_325 : decode code 325 = .ok (.iaload, 1) := by decide +kernel
theorem d_law_326 : decode code 326 = .ok (.aload_n 0, 1) := by decide +kernel
theorem d_law_327 : decode code 327 = .ok (.iload 4, 2) := by decide +kernel
theorem d_law_329 : decode code 329 = .ok (.iconst 3, 1) := by decide +kernel
theorem d_law_330 : decode code 330 = .ok (.iadd, 1) := by decide +kernel
theorem d_law_331 : decode code 331 = .ok (.iaload, 1) := by decide +kernel
theorem d_law_332 : decode code 332 = .ok (.invokestatic 82, 3) := by decide +kernel
theorem d_law_335 : decode code 335 = .ok (.istore 5, 2) := by decide +kernel
theorem d_law_337 : decode code 337 = .ok (.aload_n 2, 1) := by decide +kernel
theorem d_law_338 : decode code 338 = .ok (.aload_n 0, 1) := by decide +kernel
theorem d_law_339 : decode code 339 = .ok (.iload 4, 2) := by decide +kernel
theorem d_law_341 : decode code 341 = .ok (.iconst 1, 1) := by decide +kernel
theorem d_law_342 : decode code 342 = .ok (.iadd, 1) := by decide +kernel
theorem d_law_343 : decode code 343 = .ok (.iaload, 1) := by decide +kernel
theorem d_law_344 : decode code 344 = .ok (.aload_n 0, 1) := by decide +kernel
theorem d_law_345 : decode code 345 = .ok (.iload 4, 2) := by decide +kernel
theorem d_law_347 : decode code 347 = .ok (.iconst 2, 1) := by decide +kernel
theorem d_law_348 : decode code 348 = .ok (.iadd, 1) := by decide +kernel
theorem d_law_349 : decode code 349 = .ok (.iaload, 1) := by decide +kernel
theorem d_law_350 : decode code 350 = .ok (.aload_n 0, 1) := by decide +kernel
theorem d_law_351 : decode code 351 = .ok (.iload 4, 2) := by decide +kernel
theorem d_law_353 : decode code 353 = .ok (.iconst 3, 1) := by decide +kernel
theorem d_law_354 : decode code 354 = .ok (.iadd, 1) := by decide +kernel
theorem d_law_355 : decode code 355 = .ok (.iaload, 1) := by decide +kernel
theorem d_law_356 : decode code 356 = .ok (.invokevirtual 85, 3) := by decide +kernel
theorem d_law_359 : decode code 359 = .ok (.goto 373, 3) := by decide +kernel
theorem d_law_362 : decode code 362 = .ok (.aload_n 1, 1) := by decide +kernel
theorem d_law_363 : decode code 363 = .ok (.aload_n 0, 1) := by decide +kernel
theorem d_law_364 : decode code 364 = .ok (.iload 4, 2) := by decide +kernel
theorem d_law_366 : decode code 366 = .ok (.iconst 1, 1) := by decide +kernel
theorem d_law_367 : decode code 367 = .ok (.iadd, 1) := by decide +kernel
theorem d_law_368 : decode code 368 = .ok (.iaload, 1) := by decide +kernel
theorem d_law_369 : decode code 369 = .ok (.aload_n 0, 1) := by decide +kernel
theorem d_law_370 : decode code 370 = .ok (.iload 4, 2) := by decide +kernel
theorem d_law_372 : decode code 372 = .ok (.iconst 2, 1) := by decide +kernel
theorem d_law_373 : decode code 373 = .ok (.iadd, 1) := by decide +kernel
theorem d_law_374 : decode code 374 = .ok (.iaload, 1) := by decide +kernel
theorem d_law_375 : decode code 375 = .ok (.aload_n 0, 1) := by decide +kernel
theorem d_law_376 : decode code 376 = .ok (.iload 4, 2) := by decide +kernel
theorem d_law_378 : decode code 378 = .ok (.iconst 3, 1) := by decide +kernel
theorem d_law_379 : decode code 379 = .ok (.iadd, 1) := by decide +kernel
theorem d_law_380 : decode code 380 = .ok (.iaload, 1) := by decide +kernel
theorem d_law_381 : decode code 381 = .ok (.aload_n 3, 1) := by decide +kernel
theorem d_law_382 : decode code 382 = .ok (.invokestatic 86, 3) := by decide +kernel
theorem d_law_385 : decode code 385 = .ok (.istore 5, 2) := by decide +kernel
theorem d_law_387 : decode code 387 = .ok (.aload_n 2, 1) := by decide +kernel
theorem d_law_388 : decode code 388 = .ok (.aload_n 0, 1) := by decide +kernel
theorem d_law_389 : decode code 389 = .ok (.iload 4, 2) := by decide +kernel
theorem d_law_391 : decode code 391 = .ok (.iconst 1, 1) := by decide +kernel
theorem d_law_392 : decode code 392 = .ok (.iadd, 1) := by decide +kernel
theorem d_law_393 : decode code 393 = .ok (.iaload, 1) := by decide +kernel
theorem d_law_394 : decode code 394 = .ok (.aload_n 0, 1) := by decide +kernel
theorem d_law_395 : decode code 395 = .ok (.iload 4, 2) := by decide +kernel
theorem d_law_397 : decode code 397 = .ok (.iconst 2, 1) := by decide +kernel
theorem d_law_398 : decode code 398 = .ok (.iadd, 1) := by decide +kernel
theorem d_law_399 : decode code 399 = .ok (.iaload, 1) := by decide +kernel
theorem d_law_400 : decode code 400 = .ok (.aload_n 0, 1) := by decide +kernel
theorem d_law_401 : decode code 401 = .ok (.iload 4, 2) := by decide +kernel
theorem d_law_403 : decode code 403 = .ok (.iconst 3, 1) := by decide +kernel
theorem d_law_404 : decode code 404 = .ok (.iadd, 1) := by decide +kernel
theorem d_law_405 : decode code 405 = .ok (.iaload, 1) := by decide +kernel
theorem d_law_406 : decode code 406 = .ok (.invokevirtual 89, 3) := by decide +kernel
theorem d_law_409 : decode code 409 = .ok (.lstore 6, 2) := by decide +kernel
theorem d_law_411 : decode code 411 = .ok (.goto 321, 3) := by decide +kernel
theorem d_law_414 : decode code 414 = .ok (.aload_n 1, 1) := by decide +kernel
theorem d_law_415 : decode code 415 = .ok (.aload_n 0, 1) := by decide +kernel
theorem d_law_416 : decode code 416 = .ok (.iload 4, 2) := by decide +kernel
theorem d_law_418 : decode code 418 = .ok (.iconst 1, 1) := by decide +kernel
theorem d_law_419 : decode code 419 = .ok (.iadd, 1) := by decide +kernel
theorem d_law_420 : decode code 420 = .ok (.iaload, 1) := by decide +kernel
theorem d_law_421 : decode code 421 = .ok (.aload_n 0, 1) := by decide +kernel
theorem d_law_422 : decode code 422 = .ok (.iload 4, 2) := by decide +kernel
theorem d_law_424 : decode code 424 = .ok (.iconst 2, 1) := by decide +kernel
theorem d_law_425 : decode code 425 = .ok (.iadd, 1) := by decide +kernel
theorem d_law_426 : decode code 426 = .ok (.iaload, 1) := by decide +kernel
theorem d_law_427 : decode code 427 = .ok (.invokestatic 90, 3) := by decide +kernel
theorem d_law_430 : decode code 430 = .ok (.istore 5, 2) := by decide +kernel
theorem d_law_432 : decode code 432 = .ok (.aload_n 2, 1) := by decide +kernel
theorem d_law_433 : decode code 433 = .ok (.aload_n 0, 1) := by decide +kernel
theorem d_law_434 : decode code 434 = .ok (.iload 4, 2) := by decide +kernel
theorem d_law_436 : decode code 436 = .ok (.iconst 1, 1) := by decide +kernel
theorem d_law_437 : decode code 437 = .ok (.iadd, 1) := by decide +kernel
theorem d_law_438 : decode code 438 = .ok (.iaload, 1) := by decide +kernel
theorem d_law_439 : decode code 439 = .ok (.aload_n 0, 1) := by decide +kernel
theorem d_law_440 : decode code 440 = .ok (.iload 4, 2) := by decide +kernel
theorem d_law_442 : decode code 442 = .ok (.iconst 2, 1) := by decide +kernel
theorem d_law_443 : decode code 443 = .ok (.iadd, 1) := by decide +kernel
theorem d_law_444 : decode code 444 = .ok (.iaload, 1) := by decide +kernel
theorem d_law_445 : decode code 445 = .ok (.invokevirtual 92, 3) := by decide +kernel
theorem d_law_448 : decode code 448 = .ok (.goto 284, 3) := by decide +kernel
theorem d_law_451 : decode code 451 = .ok (.aload_n 1, 1) := by decide +kernel
theorem d_law_452 : decode code 452 = .ok (.aload_n 0, 1) := by decide +kernel
theorem d_law_453 : decode code 453 = .ok (.iload 4, 2) := by decide +kernel
theorem d_law_455 : decode code 455 = .ok (.iconst 1, 1) := by decide +kernel
theorem d_law_456 : decode code 456 = .ok (.iadd, 1) := by decide +kernel
theorem d_law_457 : decode code 457 = .ok (.iaload, 1) := by decide +kernel
theorem d_law_458 : decode code 458 = .ok (.aload_n 0, 1) := by decide +kernel
theorem d_law_459 : decode code 459 = .ok (.iload 4, 2) := by decide +kernel
theorem d_law_461 : decode code 461 = .ok (.iconst 2, 1) := by decide +kernel
theorem d_law_462 : decode code 462 = .ok (.iadd, 1) := by decide +kernel
theorem d_law_463 : decode code 463 = .ok (.iaload, 1) := by decide +kernel
theorem d_law_464 : decode code 464 = .ok (.aload_n 0, 1) := by decide +kernel
theorem d_law_465 : decode code 465 = .ok (.iload 4, 2) := by decide +kernel
theorem d_law_467 : decode code 467 = .ok (.iconst 3, 1) := by decide +kernel
theorem d_law_468 : decode code 468 = .ok (.iadd, 1) := by decide +kernel
theorem d_law_469 : decode code 469 = .ok (.iaload, 1) := by decide +kernel
theorem d_law_470 : decode code 470 = .ok (.aload_n 3, 1) := by decide +kernel
theorem d_law_471 : decode code 471 = .ok (.invokestatic 93, 3) := by decide +kernel
theorem d_law_474 : decode code 474 = .ok (.istore 5, 2) := by decide +kernel
theorem d_law_476 : decode code 476 = .ok (.aload_n 2, 1) := by decide +kernel
theorem d_law_477 : decode code 477 = .ok (.aload_n 0, 1) := by decide +kernel
theorem d_law_478 : decode code 478 = .ok (.iload 4, 2) := by decide +kernel
theorem d_law_480 : decode code 480 = .ok (.iconst 1, 1) := by decide +kernel
theorem d_law_481 : decode code 481 = .ok (.iadd, 1) := by decide +kernel
theorem d_law_482 : decode code 482 = .ok (.iaload, 1) := by decide +kernel
theorem d_law_483 : decode code 483 = .ok (.aload_n 0, 1) := by decide +kernel
theorem d_law_484 : decode code 484 = .ok (.iload 4, 2) := by decide +kernel
theorem d_law_486 : decode code 486 = .ok (.iconst 2, 1) := by decide +kernel
theorem d_law_487 : decode code 487 = .ok (.iadd, 1) := by decide +kernel
theorem d_law_488 : decode code 488 = .ok (.iaload, 1) := by decide +kernel
theorem d_law_489 : decode code 489 = .ok (.aload_n 0, 1) := by decide +kernel
theorem d_law_490 : decode code 490 = .ok (.iload 4, 2) := by decide +kernel
theorem d_law_492 : decode code 492 = .ok (.iconst 3, 1) := by decide +kernel
theorem d_law_493 : decode code 493 = .ok (.iadd, 1) := by decide +kernel
theorem d_law_494 : decode code 494 = .ok (.iaload, 1) := by decide +kernel
theorem d_law_495 : decode code 495 = .ok (.invokevirtual 95, 3) := by decide +kernel
theorem d_law_498 : decode code 498 = .ok (.lstore 6, 2) := by decide +kernel
theorem d_law_500 : decode code 500 = .ok (.aload_n 2, 1) := by decide +kernel
theorem d_law_501 : decode code 501 = .ok (.invokevirtual 96, 3) := by decide +kernel
theorem d_law_504 : decode code 504 = .ok (.iload 5, 2) := by decide +kernel
theorem d_law_506 : decode code 506 = .ok (.if_icmp .eq 5, 3) := by decide +kernel
theorem d_law_509 : decode code 509 = .ok (.iconst 0, 1) := by decide +kernel
theorem d_law_510 : decode code 510 = .ok (.ireturn, 1) := by decide +kernel
theorem d_law_511 : decode code 511 = .ok (.iload 5, 2) := by decide +kernel
theorem d_law_513 : decode code 513 = .ok (.ifCond .ne 14, 3) := by decide +kernel
theorem d_law_516 : decode code 516 = .ok (.aload_n 3, 1) := by decide +kernel
theorem d_law_517 : decode code 517 = .ok (.iconst 0, 1) := by decide +kernel
theorem d_law_518 : decode code 518 = .ok (.laload, 1) := by decide +kernel
theorem d_law_519 : decode code 519 = .ok (.lload 6, 2) := by decide +kernel
theorem d_law_521 : decode code 521 = .ok (.lcmp, 1) := by decide +kernel
theorem d_law_522 : decode code 522 = .ok (.ifCond .eq 5, 3) := by decide +kernel
theorem d_law_525 : decode code 525 = .ok (.iconst 0, 1) := by decide +kernel
theorem d_law_526 : decode code 526 = .ok (.ireturn, 1) := by decide +kernel
theorem d_law_527 : decode code 527 = .ok (.goto 205, 3) := by decide +kernel
theorem d_law_530 : decode code 530 = .ok (.aload_n 1, 1) := by decide +kernel
theorem d_law_531 : decode code 531 = .ok (.aload_n 0, 1) := by decide +kernel
theorem d_law_532 : decode code 532 = .ok (.iload 4, 2) := by decide +kernel
theorem d_law_534 : decode code 534 = .ok (.iconst 1, 1) := by decide +kernel
theorem d_law_535 : decode code 535 = .ok (.iadd, 1) := by decide +kernel
theorem d_law_536 : decode code 536 = .ok (.iaload, 1) := by decide +kernel
theorem d_law_537 : decode code 537 = .ok (.aload_n 3, 1) := by decide +kernel
theorem d_law_538 : decode code 538 = .ok (.invokestatic 100, 3) := by decide +kernel
theorem d_law_541 : decode code 541 = .ok (.istore 5, 2) := by decide +kernel
theorem d_law_543 : decode code 543 = .ok (.aload_n 2, 1) := by decide +kernel
theorem d_law_544 : decode code 544 = .ok (.aload_n 0, 1) := by decide +kernel
theorem d_law_545 : decode code 545 = .ok (.iload 4, 2) := by decide +kernel
theorem d_law_547 : decode code 547 = .ok (.iconst 1, 1) := by decide +kernel
theorem d_law_548 : decode code 548 = .ok (.iadd, 1) := by decide +kernel
theorem d_law_549 : decode code 549 = .ok (.iaload, 1) := by decide +kernel
theorem d_law_550 : decode code 550 = .ok (.invokevirtual 103, 3) := by decide +kernel
theorem d_law_553 : decode code 553 = .ok (.istore 6, 2) := by decide +kernel
theorem d_law_555 : decode code 555 = .ok (.goto 177, 3) := by decide +kernel
theorem d_law_558 : decode code 558 = .ok (.aload_n 1, 1) := by decide +kernel
theorem d_law_559 : decode code 559 = .ok (.invokevirtual 104, 3) := by decide +kernel
theorem d_law_562 : decode code 562 = .ok (.pop, 1) := by decide +kernel
theorem d_law_563 : decode code 563 = .ok (.aload_n 2, 1) := by decide +kernel
theorem d_law_564 : decode code 564 = .ok (.invokevirtual 107, 3) := by decide +kernel
theorem d_law_567 : decode code 567 = .ok (.pop, 1) := by decide +kernel
theorem d_law_568 : decode code 568 = .ok (.goto 164, 3) := by decide +kernel
theorem d_law_571 : decode code 571 = .ok (.aload_n 1, 1) := by decide +kernel
theorem d_law_572 : decode code 572 = .ok (.aload_n 0, 1) := by decide +kernel
theorem d_law_573 : decode code 573 = .ok (.iload 4, 2) := by decide +kernel
theorem d_law_575 : decode code 575 = .ok (.iconst 1, 1) := by decide +kernel
theorem d_law_576 : decode code 576 = .ok (.iadd, 1) := by decide +kernel
theorem d_law_577 : decode code 577 = .ok (.iaload, 1) := by decide +kernel
theorem d_law_578 : decode code 578 = .ok (.aload_n 3, 1) := by decide +kernel
theorem d_law_579 : decode code 579 = .ok (.invokestatic 108, 3) := by decide +kernel
theorem d_law_582 : decode code 582 = .ok (.istore 5, 2) := by decide +kernel
theorem d_law_584 : decode code 584 = .ok (.aload_n 2, 1) := by decide +kernel
theorem d_law_585 : decode code 585 = .ok (.aload_n 0, 1) := by decide +kernel
theorem d_law_586 : decode code 586 = .ok (.iload 4, 2) := by decide +kernel
theorem d_law_588 : decode code 588 = .ok (.iconst 1, 1) := by decide +kernel
theorem d_law_589 : decode code 589 = .ok (.iadd, 1) := by decide +kernel
theorem d_law_590 : decode code 590 = .ok (.iaload, 1) := by decide +kernel
theorem d_law_591 : decode code 591 = .ok (.invokevirtual 110, 3) := by decide +kernel
theorem d_law_594 : decode code 594 = .ok (.lstore 6, 2) := by decide +kernel
theorem d_law_596 : decode code 596 = .ok (.goto 136, 3) := by decide +kernel
theorem d_law_599 : decode code 599 = .ok (.aload_n 1, 1) := by decide +kernel
theorem d_law_600 : decode code 600 = .ok (.aload_n 0, 1) := by decide +kernel
theorem d_law_601 : decode code 601 = .ok (.iload 4, 2) := by decide +kernel
theorem d_law_603 : decode code 603 = .ok (.iconst 1, 1) := by decide +kernel
theorem d_law_604 : decode code 604 = .ok (.iadd, 1) := by decide +kernel
theorem d_law_605 : decode code 605 = .ok (.iaload, 1) := by decide +kernel
theorem d_law_606 : decode code 606 = .ok (.aload_n 0, 1) := by decide +kernel
theorem d_law_607 : decode code 607 = .ok (.iload 4, 2) := by decide +kernel
theorem d_law_609 : decode code 609 = .ok (.iconst 2, 1) := by decide +kernel
theorem d_law_610 : decode code 610 = .ok (.iadd, 1) := by decide +kernel
theorem d_law_611 : decode code 611 = .ok (.iaload, 1) := by decide +kernel
theorem d_law_612 : decode code 612 = .ok (.aload_n 3, 1) := by decide +kernel
theorem d_law_613 : decode code 613 = .ok (.invokestatic 111, 3) := by decide +kernel
theorem d_law_616 : decode code 616 = .ok (.istore 5, 2) := by decide +kernel
theorem d_law_618 : decode code 618 = .ok (.aload_n 2, 1) := by decide +kernel
theorem d_law_619 : decode code 619 = .ok (.aload_n 0, 1) := by decide +kernel
theorem d_law_620 : decode code 620 = .ok (.iload 4, 2) := by decide +kernel
theorem d_law_622 : decode code 622 = .ok (.iconst 1, 1) := by decide +kernel
theorem d_law_623 : decode code 623 = .ok (.iadd, 1) := by decide +kernel
theorem d_law_624 : decode code 624 = .ok (.iaload, 1) := by decide +kernel
theorem d_law_625 : decode code 625 = .ok (.aload_n 0, 1) := by decide +kernel
theorem d_law_626 : decode code 626 = .ok (.iload 4, 2) := by decide +kernel
theorem d_law_628 : decode code 628 = .ok (.iconst 2, 1) := by decide +kernel
theorem d_law_629 : decode code 629 = .ok (.iadd, 1) := by decide +kernel
theorem d_law_630 : decode code 630 = .ok (.iaload, 1) := by decide +kernel
theorem d_law_631 : decode code 631 = .ok (.invokevirtual 113, 3) := by decide +kernel
theorem d_law_634 : decode code 634 = .ok (.istore 6, 2) := by decide +kernel
theorem d_law_636 : decode code 636 = .ok (.goto 96, 3) := by decide +kernel
theorem d_law_639 : decode code 639 = .ok (.aload_n 1, 1) := by decide +kernel
theorem d_law_640 : decode code 640 = .ok (.aload_n 0, 1) := by decide +kernel
theorem d_law_641 : decode code 641 = .ok (.iload 4, 2) := by decide +kernel
theorem d_law_643 : decode code 643 = .ok (.iconst 1, 1) := by decide +kernel
theorem d_law_644 : decode code 644 = .ok (.iadd, 1) := by decide +kernel
theorem d_law_645 : decode code 645 = .ok (.iaload, 1) := by decide +kernel
theorem d_law_646 : decode code 646 = .ok (.aload_n 0, 1) := by decide +kernel
theorem d_law_647 : decode code 647 = .ok (.iload 4, 2) := by decide +kernel
theorem d_law_649 : decode code 649 = .ok (.iconst 2, 1) := by decide +kernel
theorem d_law_650 : decode code 650 = .ok (.iadd, 1) := by decide +kernel
theorem d_law_651 : decode code 651 = .ok (.iaload, 1) := by decide +kernel
theorem d_law_652 : decode code 652 = .ok (.aload_n 0, 1) := by decide +kernel
theorem d_law_653 : decode code 653 = .ok (.iload 4, 2) := by decide +kernel
theorem d_law_655 : decode code 655 = .ok (.iconst 3, 1) := by decide +kernel
theorem d_law_656 : decode code 656 = .ok (.iadd, 1) := by decide +kernel
theorem d_law_657 : decode code 657 = .ok (.iaload, 1) := by decide +kernel
theorem d_law_658 : decode code 658 = .ok (.ifCond .eq 7, 3) := by decide +kernel
theorem d_law_661 : decode code 661 = .ok (.iconst 1, 1) := by decide +kernel
theorem d_law_662 : decode code 662 = .ok (.goto 4, 3) := by decide +kernel
theorem d_law_665 : decode code 665 = .ok (.iconst 0, 1) := by decide +kernel
theorem d_law_666 : decode code 666 = .ok (.aload_n 3, 1) := by decide +kernel
theorem d_law_667 : decode code 667 = .ok (.invokestatic 114, 3) := by decide +kernel
theorem d_law_670 : decode code 670 = .ok (.istore 5, 2) := by decide +kernel
theorem d_law_672 : decode code 672 = .ok (.aload_n 2, 1) := by decide +kernel
theorem d_law_673 : decode code 673 = .ok (.aload_n 0, 1) := by decide +kernel
theorem d_law_674 : decode code 674 = .ok (.iload 4, 2) := by decide +kernel
theorem d_law_676 : decode code 676 = .ok (.iconst 1, 1) := by decide +kernel
theorem d_law_677 : decode code 677 = .ok (.iadd, 1) := by decide +kernel
theorem d_law_678 : decode code 678 = .ok (.iaload, 1) := by decide +kernel
theorem d_law_679 : decode code 679 = .ok (.aload_n 0, 1) := by decide +kernel
theorem d_law_680 : decode code 680 = .ok (.iload 4, 2) := by decide +kernel
theorem d_law_682 : decode code 682 = .ok (.iconst 2, 1) := by decide +kernel
theorem d_law_683 : decode code 683 = .ok (.iadd, 1) := by decide +kernel
theorem d_law_684 : decode code 684 = .ok (.iaload, 1) := by decide +kernel
theorem d_law_685 : decode code 685 = .ok (.aload_n 0, 1) := by decide +kernel
theorem d_law_686 : decode code 686 = .ok (.iload 4, 2) := by decide +kernel
theorem d_law_688 : decode code 688 = .ok (.iconst 3, 1) := by decide +kernel
theorem d_law_689 : decode code 689 = .ok (.iadd, 1) := by decide +kernel
theorem d_law_690 : decode code 690 = .ok (.iaload, 1) := by decide +kernel
theorem d_law_691 : decode code 691 = .ok (.ifCond .eq 7, 3) := by decide +kernel
theorem d_law_694 : decode code 694 = .ok (.iconst 1, 1) := by decide +kernel
theorem d_law_695 : decode code 695 = .ok (.goto 4, 3) := by decide +kernel
theorem d_law_698 : decode code 698 = .ok (.iconst 0, 1) := by decide +kernel
theorem d_law_699 : decode code 699 = .ok (.invokevirtual 117, 3) := by decide +kernel
theorem d_law_702 : decode code 702 = .ok (.lstore 6, 2) := by decide +kernel
theorem d_law_704 : decode code 704 = .ok (.goto 28, 3) := by decide +kernel
theorem d_law_707 : decode code 707 = .ok (.aload_n 1, 1) := by decide +kernel
theorem d_law_708 : decode code 708 = .ok (.aload_n 0, 1) := by decide +kernel
theorem d_law_709 : decode code 709 = .ok (.iload 4, 2) := by decide +kernel
theorem d_law_711 : decode code 711 = .ok (.iconst 1, 1) := by decide +kernel
theorem d_law_712 : decode code 712 = .ok (.iadd, 1) := by decide +kernel
theorem d_law_713 : decode code 713 = .ok (.iaload, 1) := by decide +kernel
theorem d_law_714 : decode code 714 = .ok (.invokevirtual 118, 3) := by decide +kernel
theorem d_law_717 : decode code 717 = .ok (.pop, 1) := by decide +kernel
theorem d_law_718 : decode code 718 = .ok (.aload_n 2, 1) := by decide +kernel
theorem d_law_719 : decode code 719 = .ok (.aload_n 0, 1) := by decide +kernel
theorem d_law_720 : decode code 720 = .ok (.iload 4, 2) := by decide +kernel
theorem d_law_722 : decode code 722 = .ok (.iconst 1, 1) := by decide +kernel
theorem d_law_723 : decode code 723 = .ok (.iadd, 1) := by decide +kernel
theorem d_law_724 : decode code 724 = .ok (.iaload, 1) := by decide +kernel
theorem d_law_725 : decode code 725 = .ok (.invokevirtual 121, 3) := by decide +kernel
theorem d_law_728 : decode code 728 = .ok (.pop, 1) := by decide +kernel
theorem d_law_729 : decode code 729 = .ok (.goto 3, 3) := by decide +kernel
theorem d_law_732 : decode code 732 = .ok (.iinc 4 7, 3) := by decide +kernel
theorem d_law_735 : decode code 735 = .ok (.goto (-712), 3) := by decide +kernel
theorem d_law_738 : decode code 738 = .ok (.iconst 1, 1) := by decide +kernel
theorem d_law_739 : decode code 739 = .ok (.ireturn, 1) := by decide +kernel
end

-- part 9l.loop
section
/-- a boolean: x != 0 -/
theorem g_bool {Γ : GT} {cc : ByteArray} {own : String} {rm : Room} {Ts : List Cond} {cl : List vw_C} {tys : List (ClassId × FieldType)} {nl : List (String × Nat × MethodName × String)} {kc ks N pc p0 : Nat} {ad : Nat → Nat} {σ : Nat → va_E} {L : List (Option Value)} {st : List Value} {x b : Int32} {o1 o2 : Int} (h : Cx Γ cc own rm Ts cl tys nl) (d1 : decode cc pc = .ok (.ifCond .eq o1, 3)) (d2 : decode cc (pc + 3) = .ok (.iconst 1, 1)) (d3 : decode cc (pc + 4) = .ok (.goto o2, 3)) (d4 : decode cc p0 = .ok (.iconst 0, 1)) (e1 : (pc : Int) + o1 = (p0 : Int)) (e2 : ((pc + 4 : Nat) : Int) + o2 = ((p0 + 1 : Nat) : Int)) (hb : b = if x = 0 then 0 else 1) (k : G Γ kc ks N ad σ (p0 + 1) L (.int b :: st)) : G Γ kc ks N ad σ pc L (.int x :: st) := by
  subst hb
  refine g_if_eq (tgt := p0) h d1 e1 (fun z => ?_) (fun z => ?_)
  · rw [if_pos z] at k
    exact g_iconst h d4 (by decide) k
  · rw [if_neg z] at k
    exact g_iconst h d2 (by decide) (g_goto (tgt := p0 + 1) h d3 e2 k)
theorem sub7 {i Ln : Nat} (hi : i < 2 ^ 30) (hL : Ln < 2 ^ 30) (h : ¬ nI Ln - 7 < nI i) : i + 7 ≤ Ln := by
  have a := mt Int32.lt_iff_toInt_lt.mpr h
  rw [nI_toInt (by omega), show (7 : Int32) = nI 7 from rfl, pk_sub_toInt hL (by omega)] at a
  omega
set_option maxHeartbeats 4000000 in
set_option maxRecDepth 100000 in
theorem law_loop {Γ : GT} {ad : Nat → Nat} {t : Nat → ClassId} {b Ln : Nat} {xs : Nat → Int32} (h : Cx Γ code "TriColourMachineLaw" room_1 TB CL (tyl t) NL) (hN : gN Γ = 8) (hnc : ncs (gs Γ)) (htr : Tr (gL Γ)) (hX : va_X b Ln xs (gs Γ) (gs Γ).heap) (hbl : b < (gs Γ).heap.size) (hbA : ¬ gA Γ b) (hLn : Ln ≤ 3584)
    (fin : ∀ (kc ks : Nat) (L : List (Option Value)) (σ : Nat → va_E), kc ≤ 620839 → ks ≤ 7233588 → G Γ kc ks 190 ad σ 739 L [.int 1]) :
    ∀ (c i kc ks : Nat) (C M : CS) (f : Nat → Int64), RR C M → i ≤ Ln → Ln < i + 7 * (c + 1) → kc + c ≤ 620839 → ks + 6 * c ≤ 7233588 → G Γ kc ks 190 ad (wl ad t C f M) 23 [some (.ref b), some (.ref (ad (ix 0 0))), some (.ref (ad 172)), some (.ref (ad 171)), some (.int (nI i)), none, none, none] [] := by
  intro c
  induction c with
  | zero =>
    intro i kc ks C M f hR hi hc hk hs
    refine g_iload h d_law_23 rfl ?_
    refine g_aload_n h d_law_25 rfl rfl ?_
    refine g_slen h hX hbl hbA d_law_26 ?_
    refine g_bipush (v := 7) h d_law_27 (by decide) ?_
    refine g_isub h d_law_29 ?_
    refine g_icmp_gt (tgt := 738) h d_law_30 (by decide) (fun c_ => ?_) (fun c_ => ?_)
    · refine g_iconst (v := 1) h d_law_738 (by decide) ?_
      exact fin _ _ _ _ (by omega) (by omega)
    · have := sub7 (by omega) (by omega) c_
      omega
  | succ c ih =>
    intro i kc ks C M f hR hi hc hk hs
    refine g_iload h d_law_23 rfl ?_
    refine g_aload_n h d_law_25 rfl rfl ?_
    refine g_slen h hX hbl hbA d_law_26 ?_
    refine g_bipush (v := 7) h d_law_27 (by decide) ?_
    refine g_isub h d_law_29 ?_
    refine g_icmp_gt (tgt := 738) h d_law_30 (by decide) (fun c_ => ?_) (fun c_ => ?_)
    · refine g_iconst (v := 1) h d_law_738 (by decide) ?_
      exact fin _ _ _ _ (by omega) (by omega)
    have h7 := sub7 (by omega) (by omega) c_
    have vin : ∀ k : Nat, k < 7 → (nI k = Int32.ofNat k) → vp_in (nI i + Int32.ofNat k) Ln := fun k hk e => by rw [← e, nI_add]; exact vp_in_nI (by omega) (by omega)
    have next : ∀ (C2 M2 : CS) (f2 : Nat → Int64) (L' : List (Option Value)), RR C2 M2 → (∀ (j : Nat) (v : Value), ([some (.ref b), some (.ref (ad (ix 0 0))), some (.ref (ad 172)), some (.ref (ad 171)), some (.int (nI (i + 7))), none, none, none] : List (Option Value))[j]? = some (some v) → L'[j]? = some (some v)) → G Γ (kc + 1) (ks + 6) 190 ad (wl ad t C2 f2 M2) 23 L' [] := fun C2 M2 f2 L' r e => g_less e (ih (i + 7) (kc + 1) (ks + 6) C2 M2 f2 r (by omega) (by omega) (by omega) (by omega))
    refine g_aload_n h d_law_33 rfl rfl ?_
    refine g_iload h d_law_34 rfl ?_
    refine g_sld h hX hbl hbA (vp_in_nI (by omega) (by omega)) d_law_36 ?_
    refine g_bipush (v := 15) h d_law_37 (by decide) ?_
    refine g_iand h d_law_39 ?_
    obtain ⟨j, hj, ej⟩ := pk_andE (xs (nI i).toNatClampNeg) (m := 15) 4 (by decide)
    rw [ej]
    have lt : ∀ (x5 x6 x7 : Option Value), ∀ (j : Nat) (v : Value), ([some (.ref b), some (.ref (ad (ix 0 0))), some (.ref (ad 172)), some (.ref (ad 171)), some (.int (nI (i + 7))), none, none, none] : List (Option Value))[j]? = some (some v) → ([some (.ref b), some (.ref (ad (ix 0 0))), some (.ref (ad 172)), some (.ref (ad 171)), some (.int (nI (i + 7))), x5, x6, x7] : List (Option Value))[j]? = some (some v) := fun x5 x6 x7 j v hj => by
      rcases j with _ | _ | _ | _ | _ | _ | _ | _ | j
      · exact hj
      · exact hj
      · exact hj
      · exact hj
      · exact hj
      · cases hj
      · cases hj
      · cases hj
      · cases hj
    rcases (show j = 0 ∨ j = 1 ∨ j = 2 ∨ j = 3 ∨ j = 4 ∨ j = 5 ∨ j = 6 ∨ j = 7 ∨ j = 8 ∨ j = 9 ∨ j = 10 ∨ j = 11 ∨ j = 12 ∨ j = 13 ∨ j = 14 ∨ j = 15 by omega) with rfl | rfl | rfl | rfl | rfl | rfl | rfl | rfl | rfl | rfl | rfl | rfl | rfl | rfl | rfl | rfl
    · refine g_tableIn (off := 72) (tgt := 112) h d_law_40 (by decide) (by decide) (by decide) (by decide) ?_
      obtain ⟨r, C2, hA, hRR, hth⟩ := A_code hR (xs (nI i + 1).toNatClampNeg) (xs (nI i + 2).toNatClampNeg) (xs (nI i + 3).toNatClampNeg) (xs (nI i + 4).toNatClampNeg) (xs (nI i + 5).toNatClampNeg) (xs (nI i + 6).toNatClampNeg)
      refine g_aload_n h d_law_112 rfl rfl ?_
      refine g_aload_n h d_law_113 rfl rfl ?_
      refine g_iload h d_law_114 rfl ?_
      refine g_iconst (v := 1) h d_law_116 (by decide) ?_
      refine g_iadd h d_law_117 ?_
      refine g_sld h hX hbl hbA (vin 1 (by decide) (by decide)) d_law_118 ?_
      refine g_aload_n h d_law_119 rfl rfl ?_
      refine g_iload h d_law_120 rfl ?_
      refine g_iconst (v := 2) h d_law_122 (by decide) ?_
      refine g_iadd h d_law_123 ?_
      refine g_sld h hX hbl hbA (vin 2 (by decide) (by decide)) d_law_124 ?_
      refine g_aload_n h d_law_125 rfl rfl ?_
      refine g_iload h d_law_126 rfl ?_
      refine g_iconst (v := 3) h d_law_128 (by decide) ?_
      refine g_iadd h d_law_129 ?_
      refine g_sld h hX hbl hbA (vin 3 (by decide) (by decide)) d_law_130 ?_
      refine g_aload_n h d_law_131 rfl rfl ?_
      refine g_iload h d_law_132 rfl ?_
      refine g_iconst (v := 4) h d_law_134 (by decide) ?_
      refine g_iadd h d_law_135 ?_
      refine g_sld h hX hbl hbA (vin 4 (by decide) (by decide)) d_law_136 ?_
      refine g_aload_n h d_law_137 rfl rfl ?_
      refine g_iload h d_law_138 rfl ?_
      refine g_iconst (v := 5) h d_law_140 (by decide) ?_
      refine g_iadd h d_law_141 ?_
      refine g_sld h hX hbl hbA (vin 5 (by decide) (by decide)) d_law_142 ?_
      refine g_aload_n h d_law_143 rfl rfl ?_
      refine g_iload h d_law_144 rfl ?_
      refine g_bipush (v := 6) h d_law_146 (by decide) ?_
      refine g_iadd h d_law_148 ?_
      refine g_sld h hX hbl hbA (vin 6 (by decide) (by decide)) d_law_149 ?_
      refine g_wrapK h hnc (hA (gL Γ) (gD Γ) t ad htr) v_law_65 nm_Law_code rfl ⟨rfl, rfl, Nat.le_of_ble_eq_true rfl, Nat.le_of_ble_eq_true rfl, by show _ ≤ 620839; omega, by show _ ≤ 7233588; omega⟩ rfl (Nat.le_of_ble_eq_true rfl) d_law_150 ?_
      refine g_istore h d_law_153 rfl (by rw [hN]; decide) ?_
      refine g_aload_n h d_law_155 rfl rfl ?_
      refine g_aload_n h d_law_156 rfl rfl ?_
      refine g_iload h d_law_157 rfl ?_
      refine g_iconst (v := 1) h d_law_159 (by decide) ?_
      refine g_iadd h d_law_160 ?_
      refine g_sld h hX hbl hbA (vin 1 (by decide) (by decide)) d_law_161 ?_
      refine g_aload_n h d_law_162 rfl rfl ?_
      refine g_iload h d_law_163 rfl ?_
      refine g_iconst (v := 2) h d_law_165 (by decide) ?_
      refine g_iadd h d_law_166 ?_
      refine g_sld h hX hbl hbA (vin 2 (by decide) (by decide)) d_law_167 ?_
      refine g_aload_n h d_law_168 rfl rfl ?_
      refine g_iload h d_law_169 rfl ?_
      refine g_iconst (v := 3) h d_law_171 (by decide) ?_
      refine g_iadd h d_law_172 ?_
      refine g_sld h hX hbl hbA (vin 3 (by decide) (by decide)) d_law_173 ?_
      refine g_aload_n h d_law_174 rfl rfl ?_
      refine g_iload h d_law_175 rfl ?_
      refine g_iconst (v := 4) h d_law_177 (by decide) ?_
      refine g_iadd h d_law_178 ?_
      refine g_sld h hX hbl hbA (vin 4 (by decide) (by decide)) d_law_179 ?_
      refine g_aload_n h d_law_180 rfl rfl ?_
      refine g_iload h d_law_181 rfl ?_
      refine g_iconst (v := 5) h d_law_183 (by decide) ?_
      refine g_iadd h d_law_184 ?_
      refine g_sld h hX hbl hbA (vin 5 (by decide) (by decide)) d_law_185 ?_
      refine g_aload_n h d_law_186 rfl rfl ?_
      refine g_iload h d_law_187 rfl ?_
      refine g_bipush (v := 6) h d_law_189 (by decide) ?_
      refine g_iadd h d_law_191 ?_
      refine g_sld h hX hbl hbA (vin 6 (by decide) (by decide)) d_law_192 ?_
      refine g_refV h (c_Mod_code) v_law_70 nm_Mod_code rfl ⟨rfl, rfl, Nat.le_of_ble_eq_true rfl, Nat.le_of_ble_eq_true rfl, by show _ ≤ 620839; omega, by show _ ≤ 7233588; omega⟩ rfl (Nat.le_of_ble_eq_true rfl) d_law_193 ?_
      refine g_goto (tgt := 732) h d_law_196 (by decide) ?_
      refine g_iinc (v := nI (i + 7)) h d_law_732 rfl (nI_add i 7) rfl (by rw [hN]; decide) ?_
      refine g_goto (tgt := 23) h d_law_735 (by decide) ?_
      exact next _ _ _ _ hRR (lt _ _ _)
    · refine g_tableIn (off := 159) (tgt := 199) h d_law_40 (by decide) (by decide) (by decide) (by decide) ?_
      obtain ⟨r, C2, hA, hRR, hth⟩ := A_number hR (xs (nI i + 1).toNatClampNeg) (xs (nI i + 2).toNatClampNeg)
      refine g_aload_n h d_law_199 rfl rfl ?_
      refine g_aload_n h d_law_200 rfl rfl ?_
      refine g_iload h d_law_201 rfl ?_
      refine g_iconst (v := 1) h d_law_203 (by decide) ?_
      refine g_iadd h d_law_204 ?_
      refine g_sld h hX hbl hbA (vin 1 (by decide) (by decide)) d_law_205 ?_
      refine g_aload_n h d_law_206 rfl rfl ?_
      refine g_iload h d_law_207 rfl ?_
      refine g_iconst (v := 2) h d_law_209 (by decide) ?_
      refine g_iadd h d_law_210 ?_
      refine g_sld h hX hbl hbA (vin 2 (by decide) (by decide)) d_law_211 ?_
      refine g_wrapK h hnc (hA (gL Γ) (gD Γ) t ad htr) v_law_71 nm_Law_number rfl ⟨rfl, rfl, Nat.le_of_ble_eq_true rfl, Nat.le_of_ble_eq_true rfl, by show _ ≤ 620839; omega, by show _ ≤ 7233588; omega⟩ rfl (Nat.le_of_ble_eq_true rfl) d_law_212 ?_
      refine g_istore h d_law_215 rfl (by rw [hN]; decide) ?_
      refine g_aload_n h d_law_217 rfl rfl ?_
      refine g_aload_n h d_law_218 rfl rfl ?_
      refine g_iload h d_law_219 rfl ?_
      refine g_iconst (v := 1) h d_law_221 (by decide) ?_
      refine g_iadd h d_law_222 ?_
      refine g_sld h hX hbl hbA (vin 1 (by decide) (by decide)) d_law_223 ?_
      refine g_aload_n h d_law_224 rfl rfl ?_
      refine g_iload h d_law_225 rfl ?_
      refine g_iconst (v := 2) h d_law_227 (by decide) ?_
      refine g_iadd h d_law_228 ?_
      refine g_sld h hX hbl hbA (vin 2 (by decide) (by decide)) d_law_229 ?_
      refine g_refV h (c_Mod_number) v_law_74 nm_Mod_number rfl ⟨rfl, rfl, Nat.le_of_ble_eq_true rfl, Nat.le_of_ble_eq_true rfl, by show _ ≤ 620839; omega, by show _ ≤ 7233588; omega⟩ rfl (Nat.le_of_ble_eq_true rfl) d_law_230 ?_
      refine g_goto (tgt := 732) h d_law_233 (by decide) ?_
      refine g_iinc (v := nI (i + 7)) h d_law_732 rfl (nI_add i 7) rfl (by rw [hN]; decide) ?_
      refine g_goto (tgt := 23) h d_law_735 (by decide) ?_
      exact next _ _ _ _ hRR (lt _ _ _)
    · refine g_tableIn (off := 196) (tgt := 236) h d_law_40 (by decide) (by decide) (by decide) (by decide) ?_
      obtain ⟨r, C2, hA, hRR, hth⟩ := A_move hR (xs (nI i + 1).toNatClampNeg) (xs (nI i + 2).toNatClampNeg)
      refine g_aload_n h d_law_236 rfl rfl ?_
      refine g_aload_n h d_law_237 rfl rfl ?_
      refine g_iload h d_law_238 rfl ?_
      refine g_iconst (v := 1) h d_law_240 (by decide) ?_
      refine g_iadd h d_law_241 ?_
      refine g_sld h hX hbl hbA (vin 1 (by decide) (by decide)) d_law_242 ?_
      refine g_aload_n h d_law_243 rfl rfl ?_
      refine g_iload h d_law_244 rfl ?_
      refine g_iconst (v := 2) h d_law_246 (by decide) ?_
      refine g_iadd h d_law_247 ?_
      refine g_sld h hX hbl hbA (vin 2 (by decide) (by decide)) d_law_248 ?_
      refine g_wrapK h hnc (hA (gL Γ) (gD Γ) t ad htr) v_law_75 nm_Law_move rfl ⟨rfl, rfl, Nat.le_of_ble_eq_true rfl, Nat.le_of_ble_eq_true rfl, by show _ ≤ 620839; omega, by show _ ≤ 7233588; omega⟩ rfl (Nat.le_of_ble_eq_true rfl) d_law_249 ?_
      refine g_istore h d_law_252 rfl (by rw [hN]; decide) ?_
      refine g_aload_n h d_law_254 rfl rfl ?_
      refine g_aload_n h d_law_255 rfl rfl ?_
      refine g_iload h d_law_256 rfl ?_
      refine g_iconst (v := 1) h d_law_258 (by decide) ?_
      refine g_iadd h d_law_259 ?_
      refine g_sld h hX hbl hbA (vin 1 (by decide) (by decide)) d_law_260 ?_
      refine g_aload_n h d_law_261 rfl rfl ?_
      refine g_iload h d_law_262 rfl ?_
      refine g_iconst (v := 2) h d_law_264 (by decide) ?_
      refine g_iadd h d_law_265 ?_
      refine g_sld h hX hbl hbA (vin 2 (by decide) (by decide)) d_law_266 ?_
      refine g_refV h (c_Mod_move) v_law_77 nm_Mod_move rfl ⟨rfl, rfl, Nat.le_of_ble_eq_true rfl, Nat.le_of_ble_eq_true rfl, by show _ ≤ 620839; omega, by show _ ≤ 7233588; omega⟩ rfl (Nat.le_of_ble_eq_true rfl) d_law_267 ?_
      refine g_goto (tgt := 732) h d_law_270 (by decide) ?_
      refine g_iinc (v := nI (i + 7)) h d_law_732 rfl (nI_add i 7) rfl (by rw [hN]; decide) ?_
      refine g_goto (tgt := 23) h d_law_735 (by decide) ?_
      exact next _ _ _ _ hRR (lt _ _ _)
    · refine g_tableIn (off := 233) (tgt := 273) h d_law_40 (by decide) (by decide) (by decide) (by decide) ?_
      obtain ⟨r, C2, F, hA, hRR, hth, hans⟩ := A_make hR (xs (nI i + 1).toNatClampNeg) (xs (nI i + 2).toNatClampNeg)
      refine g_aload_n h d_law_273 rfl rfl ?_
      refine g_aload_n h d_law_274 rfl rfl ?_
      refine g_iload h d_law_275 rfl ?_
      refine g_iconst (v := 1) h d_law_277 (by decide) ?_
      refine g_iadd h d_law_278 ?_
      refine g_sld h hX hbl hbA (vin 1 (by decide) (by decide)) d_law_279 ?_
      refine g_aload_n h d_law_280 rfl rfl ?_
      refine g_iload h d_law_281 rfl ?_
      refine g_iconst (v := 2) h d_law_283 (by decide) ?_
      refine g_iadd h d_law_284 ?_
      refine g_sld h hX hbl hbA (vin 2 (by decide) (by decide)) d_law_285 ?_
      refine g_aload_n h d_law_286 rfl rfl ?_
      refine g_wrapO h hnc (hA (gL Γ) (gD Γ) t ad f htr) v_law_78 nm_Law_make rfl ⟨rfl, rfl, Nat.le_of_ble_eq_true rfl, Nat.le_of_ble_eq_true rfl, by show _ ≤ 620839; omega, by show _ ≤ 7233588; omega⟩ rfl (Nat.le_of_ble_eq_true rfl) d_law_287 ?_
      refine g_istore h d_law_290 rfl (by rw [hN]; decide) ?_
      refine g_aload_n h d_law_292 rfl rfl ?_
      refine g_aload_n h d_law_293 rfl rfl ?_
      refine g_iload h d_law_294 rfl ?_
      refine g_iconst (v := 1) h d_law_296 (by decide) ?_
      refine g_iadd h d_law_297 ?_
      refine g_sld h hX hbl hbA (vin 1 (by decide) (by decide)) d_law_298 ?_
      refine g_aload_n h d_law_299 rfl rfl ?_
      refine g_iload h d_law_300 rfl ?_
      refine g_iconst (v := 2) h d_law_302 (by decide) ?_
      refine g_iadd h d_law_303 ?_
      refine g_sld h hX hbl hbA (vin 2 (by decide) (by decide)) d_law_304 ?_
      refine g_refV h (c_Mod_make hR.1.2.1) v_law_81 nm_Mod_make rfl ⟨rfl, rfl, Nat.le_of_ble_eq_true rfl, Nat.le_of_ble_eq_true rfl, by show _ ≤ 620839; omega, by show _ ≤ 7233588; omega⟩ rfl (Nat.le_of_ble_eq_true rfl) d_law_305 ?_
      refine g_istore h d_law_308 rfl (by rw [hN]; decide) ?_
      refine g_goto (tgt := 732) h d_law_310 (by decide) ?_
      refine g_iinc (v := nI (i + 7)) h d_law_732 rfl (nI_add i 7) rfl (by rw [hN]; decide) ?_
      refine g_goto (tgt := 23) h d_law_735 (by decide) ?_
      exact next _ _ _ _ hRR (lt _ _ _)
    · refine g_tableIn (off := 273) (tgt := 313) h d_law_40 (by decide) (by decide) (by decide) (by decide) ?_
      obtain ⟨r, C2, hA, hRR, hth⟩ := A_set hR (xs (nI i + 1).toNatClampNeg) (xs (nI i + 2).toNatClampNeg) (xs (nI i + 3).toNatClampNeg)
      refine g_aload_n h d_law_313 rfl rfl ?_
      refine g_aload_n h d_law_314 rfl rfl ?_
      refine g_iload h d_law_315 rfl ?_
      refine g_iconst (v := 1) h d_law_317 (by decide) ?_
      refine g_iadd h d_law_318 ?_
      refine g_sld h hX hbl hbA (vin 1 (by decide) (by decide)) d_law_319 ?_
      refine g_aload_n h d_law_320 rfl rfl ?_
      refine g_iload h d_law_321 rfl ?_
      refine g_iconst (v := 2) h d_law_323 (by decide) ?_
      refine g_iadd h d_law_324 ?_
      refine g_sld h hX hbl hbA (vin 2 (by decide) (by decide)) d_law_325 ?_
      refine g_aload_n h d_law_326 rfl rfl ?_
      refine g_iload h d_law_327 rfl ?_
      refine g_iconst (v := 3) h d_law_329 (by decide) ?_
      refine g_iadd h d_law_330 ?_
      refine g_sld h hX hbl hbA (vin 3 (by decide) (by decide)) d_law_331 ?_
      refine g_wrapK h hnc (hA (gL Γ) (gD Γ) t ad htr) v_law_82 nm_Law_set rfl ⟨rfl, rfl, Nat.le_of_ble_eq_true rfl, Nat.le_of_ble_eq_true rfl, by show _ ≤ 620839; omega, by show _ ≤ 7233588; omega⟩ rfl (Nat.le_of_ble_eq_true rfl) d_law_332 ?_
      refine g_istore h d_law_335 rfl (by rw [hN]; decide) ?_
      refine g_aload_n h d_law_337 rfl rfl ?_
      refine g_aload_n h d_law_338 rfl rfl ?_
      refine g_iload h d_law_339 rfl ?_
      refine g_iconst (v := 1) h d_law_341 (by decide) ?_
      refine g_iadd h d_law_342 ?_
      refine g_sld h hX hbl hbA (vin 1 (by decide) (by decide)) d_law_343 ?_
      refine g_aload_n h d_law_344 rfl rfl ?_
      refine g_iload h d_law_345 rfl ?_
      refine g_iconst (v := 2) h d_law_347 (by decide) ?_
      refine g_iadd h d_law_348 ?_
      refine g_sld h hX hbl hbA (vin 2 (by decide) (by decide)) d_law_349 ?_
      refine g_aload_n h d_law_350 rfl rfl ?_
      refine g_iload h d_law_351 rfl ?_
      refine g_iconst (v := 3) h d_law_353 (by decide) ?_
      refine g_iadd h d_law_354 ?_
      refine g_sld h hX hbl hbA (vin 3 (by decide) (by decide)) d_law_355 ?_
      refine g_refV h (c_Mod_set hR.1.2.1) v_law_85 nm_Mod_set rfl ⟨rfl, rfl, Nat.le_of_ble_eq_true rfl, Nat.le_of_ble_eq_true rfl, by show _ ≤ 620839; omega, by show _ ≤ 7233588; omega⟩ rfl (Nat.le_of_ble_eq_true rfl) d_law_356 ?_
      refine g_goto (tgt := 732) h d_law_359 (by decide) ?_
      refine g_iinc (v := nI (i + 7)) h d_law_732 rfl (nI_add i 7) rfl (by rw [hN]; decide) ?_
      refine g_goto (tgt := 23) h d_law_735 (by decide) ?_
      exact next _ _ _ _ hRR (lt _ _ _)
    · refine g_tableIn (off := 322) (tgt := 362) h d_law_40 (by decide) (by decide) (by decide) (by decide) ?_
      obtain ⟨r, C2, F, hA, hRR, hth, hans⟩ := A_get hR (xs (nI i + 1).toNatClampNeg) (xs (nI i + 2).toNatClampNeg) (xs (nI i + 3).toNatClampNeg)
      refine g_aload_n h d_law_362 rfl rfl ?_
      refine g_aload_n h d_law_363 rfl rfl ?_
      refine g_iload h d_law_364 rfl ?_
      refine g_iconst (v := 1) h d_law_366 (by decide) ?_
      refine g_iadd h d_law_367 ?_
      refine g_sld h hX hbl hbA (vin 1 (by decide) (by decide)) d_law_368 ?_
      refine g_aload_n h d_law_369 rfl rfl ?_
      refine g_iload h d_law_370 rfl ?_
      refine g_iconst (v := 2) h d_law_372 (by decide) ?_
      refine g_iadd h d_law_373 ?_
      refine g_sld h hX hbl hbA (vin 2 (by decide) (by decide)) d_law_374 ?_
      refine g_aload_n h d_law_375 rfl rfl ?_
      refine g_iload h d_law_376 rfl ?_
      refine g_iconst (v := 3) h d_law_378 (by decide) ?_
      refine g_iadd h d_law_379 ?_
      refine g_sld h hX hbl hbA (vin 3 (by decide) (by decide)) d_law_380 ?_
      refine g_aload_n h d_law_381 rfl rfl ?_
      refine g_wrapO h hnc (hA (gL Γ) (gD Γ) t ad f htr) v_law_86 nm_Law_get rfl ⟨rfl, rfl, Nat.le_of_ble_eq_true rfl, Nat.le_of_ble_eq_true rfl, by show _ ≤ 620839; omega, by show _ ≤ 7233588; omega⟩ rfl (Nat.le_of_ble_eq_true rfl) d_law_382 ?_
      refine g_istore h d_law_385 rfl (by rw [hN]; decide) ?_
      refine g_aload_n h d_law_387 rfl rfl ?_
      refine g_aload_n h d_law_388 rfl rfl ?_
      refine g_iload h d_law_389 rfl ?_
      refine g_iconst (v := 1) h d_law_391 (by decide) ?_
      refine g_iadd h d_law_392 ?_
      refine g_sld h hX hbl hbA (vin 1 (by decide) (by decide)) d_law_393 ?_
      refine g_aload_n h d_law_394 rfl rfl ?_
      refine g_iload h d_law_395 rfl ?_
      refine g_iconst (v := 2) h d_law_397 (by decide) ?_
      refine g_iadd h d_law_398 ?_
      refine g_sld h hX hbl hbA (vin 2 (by decide) (by decide)) d_law_399 ?_
      refine g_aload_n h d_law_400 rfl rfl ?_
      refine g_iload h d_law_401 rfl ?_
      refine g_iconst (v := 3) h d_law_403 (by decide) ?_
      refine g_iadd h d_law_404 ?_
      refine g_sld h hX hbl hbA (vin 3 (by decide) (by decide)) d_law_405 ?_
      refine g_refV h (c_Mod_get hR.1.2.1) v_law_89 nm_Mod_get rfl ⟨rfl, rfl, Nat.le_of_ble_eq_true rfl, Nat.le_of_ble_eq_true rfl, by show _ ≤ 620839; omega, by show _ ≤ 7233588; omega⟩ rfl (Nat.le_of_ble_eq_true rfl) d_law_406 ?_
      refine g_lstore h d_law_409 rfl (by rw [hN]; decide) ?_
      refine g_goto (tgt := 732) h d_law_411 (by decide) ?_
      refine g_iinc (v := nI (i + 7)) h d_law_732 rfl (nI_add i 7) rfl (by rw [hN]; decide) ?_
      refine g_goto (tgt := 23) h d_law_735 (by decide) ?_
      exact next _ _ _ _ hRR (lt _ _ _)
    · refine g_tableIn (off := 374) (tgt := 414) h d_law_40 (by decide) (by decide) (by decide) (by decide) ?_
      obtain ⟨r, C2, hA, hRR, hth⟩ := A_meta hR (xs (nI i + 1).toNatClampNeg) (xs (nI i + 2).toNatClampNeg)
      refine g_aload_n h d_law_414 rfl rfl ?_
      refine g_aload_n h d_law_415 rfl rfl ?_
      refine g_iload h d_law_416 rfl ?_
      refine g_iconst (v := 1) h d_law_418 (by decide) ?_
      refine g_iadd h d_law_419 ?_
      refine g_sld h hX hbl hbA (vin 1 (by decide) (by decide)) d_law_420 ?_
      refine g_aload_n h d_law_421 rfl rfl ?_
      refine g_iload h d_law_422 rfl ?_
      refine g_iconst (v := 2) h d_law_424 (by decide) ?_
      refine g_iadd h d_law_425 ?_
      refine g_sld h hX hbl hbA (vin 2 (by decide) (by decide)) d_law_426 ?_
      refine g_wrapK h hnc (hA (gL Γ) (gD Γ) t ad htr) v_law_90 nm_Law_meta rfl ⟨rfl, rfl, Nat.le_of_ble_eq_true rfl, Nat.le_of_ble_eq_true rfl, by show _ ≤ 620839; omega, by show _ ≤ 7233588; omega⟩ rfl (Nat.le_of_ble_eq_true rfl) d_law_427 ?_
      refine g_istore h d_law_430 rfl (by rw [hN]; decide) ?_
      refine g_aload_n h d_law_432 rfl rfl ?_
      refine g_aload_n h d_law_433 rfl rfl ?_
      refine g_iload h d_law_434 rfl ?_
      refine g_iconst (v := 1) h d_law_436 (by decide) ?_
      refine g_iadd h d_law_437 ?_
      refine g_sld h hX hbl hbA (vin 1 (by decide) (by decide)) d_law_438 ?_
      refine g_aload_n h d_law_439 rfl rfl ?_
      refine g_iload h d_law_440 rfl ?_
      refine g_iconst (v := 2) h d_law_442 (by decide) ?_
      refine g_iadd h d_law_443 ?_
      refine g_sld h hX hbl hbA (vin 2 (by decide) (by decide)) d_law_444 ?_
      refine g_refV h (c_Mod_meta hR.1.2.1) v_law_92 nm_Mod_meta rfl ⟨rfl, rfl, Nat.le_of_ble_eq_true rfl, Nat.le_of_ble_eq_true rfl, by show _ ≤ 620839; omega, by show _ ≤ 7233588; omega⟩ rfl (Nat.le_of_ble_eq_true rfl) d_law_445 ?_
      refine g_goto (tgt := 732) h d_law_448 (by decide) ?_
      refine g_iinc (v := nI (i + 7)) h d_law_732 rfl (nI_add i 7) rfl (by rw [hN]; decide) ?_
      refine g_goto (tgt := 23) h d_law_735 (by decide) ?_
      exact next _ _ _ _ hRR (lt _ _ _)
    · refine g_tableIn (off := 411) (tgt := 451) h d_law_40 (by decide) (by decide) (by decide) (by decide) ?_
      obtain ⟨r, C2, F, hA, hRR, hth, hans⟩ := A_resume hR (xs (nI i + 1).toNatClampNeg) (xs (nI i + 2).toNatClampNeg) (xs (nI i + 3).toNatClampNeg)
      refine g_aload_n h d_law_451 rfl rfl ?_
      refine g_aload_n h d_law_452 rfl rfl ?_
      refine g_iload h d_law_453 rfl ?_
      refine g_iconst (v := 1) h d_law_455 (by decide) ?_
      refine g_iadd h d_law_456 ?_
      refine g_sld h hX hbl hbA (vin 1 (by decide) (by decide)) d_law_457 ?_
      refine g_aload_n h d_law_458 rfl rfl ?_
      refine g_iload h d_law_459 rfl ?_
      refine g_iconst (v := 2) h d_law_461 (by decide) ?_
      refine g_iadd h d_law_462 ?_
      refine g_sld h hX hbl hbA (vin 2 (by decide) (by decide)) d_law_463 ?_
      refine g_aload_n h d_law_464 rfl rfl ?_
      refine g_iload h d_law_465 rfl ?_
      refine g_iconst (v := 3) h d_law_467 (by decide) ?_
      refine g_iadd h d_law_468 ?_
      refine g_sld h hX hbl hbA (vin 3 (by decide) (by decide)) d_law_469 ?_
      refine g_aload_n h d_law_470 rfl rfl ?_
      refine g_wrapO h hnc (hA (gL Γ) (gD Γ) t ad f htr) v_law_93 nm_Law_resume rfl ⟨rfl, rfl, Nat.le_of_ble_eq_true rfl, Nat.le_of_ble_eq_true rfl, by show _ ≤ 620839; omega, by show _ ≤ 7233588; omega⟩ rfl (Nat.le_of_ble_eq_true rfl) d_law_471 ?_
      refine g_istore h d_law_474 rfl (by rw [hN]; decide) ?_
      refine g_aload_n h d_law_476 rfl rfl ?_
      refine g_aload_n h d_law_477 rfl rfl ?_
      refine g_iload h d_law_478 rfl ?_
      refine g_iconst (v := 1) h d_law_480 (by decide) ?_
      refine g_iadd h d_law_481 ?_
      refine g_sld h hX hbl hbA (vin 1 (by decide) (by decide)) d_law_482 ?_
      refine g_aload_n h d_law_483 rfl rfl ?_
      refine g_iload h d_law_484 rfl ?_
      refine g_iconst (v := 2) h d_law_486 (by decide) ?_
      refine g_iadd h d_law_487 ?_
      refine g_sld h hX hbl hbA (vin 2 (by decide) (by decide)) d_law_488 ?_
      refine g_aload_n h d_law_489 rfl rfl ?_
      refine g_iload h d_law_490 rfl ?_
      refine g_iconst (v := 3) h d_law_492 (by decide) ?_
      refine g_iadd h d_law_493 ?_
      refine g_sld h hX hbl hbA (vin 3 (by decide) (by decide)) d_law_494 ?_
      refine g_refV h (M_resume hR (xs (nI i + 1).toNatClampNeg) (xs (nI i + 2).toNatClampNeg) (xs (nI i + 3).toNatClampNeg)) v_law_95 nm_Mod_resume rfl ⟨rfl, rfl, Nat.le_of_ble_eq_true rfl, Nat.le_of_ble_eq_true rfl, by show _ ≤ 620839; omega, by show _ ≤ 7233588; omega⟩ rfl (Nat.le_of_ble_eq_true rfl) d_law_495 ?_
      refine g_lstore h d_law_498 rfl (by rw [hN]; decide) ?_
      refine g_aload_n h d_law_500 rfl rfl ?_
      refine g_refV h (c_Mod_thrown) v_law_96 nm_Mod_thrown rfl ⟨rfl, rfl, Nat.le_of_ble_eq_true rfl, Nat.le_of_ble_eq_true rfl, by show _ ≤ 620839; omega, by show _ ≤ 7233588; omega⟩ rfl (Nat.le_of_ble_eq_true rfl) d_law_501 ?_
      refine g_iload h d_law_504 rfl ?_
      refine g_icmp_eq (tgt := 511) h d_law_506 (by decide) (fun c_ => ?_) (fun c_ => absurd hth c_)
      refine g_iload h d_law_511 rfl ?_
      refine g_if_ne (tgt := 527) h d_law_513 (by decide) (fun c_r => ?_) (fun c_r => ?_)
      · refine g_goto (tgt := 732) h d_law_527 (by decide) ?_
        refine g_iinc (v := nI (i + 7)) h d_law_732 rfl (nI_add i 7) rfl (by rw [hN]; decide) ?_
        refine g_goto (tgt := 23) h d_law_735 (by decide) ?_
        exact next _ _ _ _ hRR (lt _ _ _)
      refine g_aload_n h d_law_516 rfl rfl ?_
      refine g_iconst (v := 0) h d_law_517 (by decide) ?_
      refine g_laload h 171 0 (by decide) rfl rfl (vp_in_nI (n := 0) (by decide) (by decide)) d_law_518 ?_
      refine g_lload h d_law_519 rfl ?_
      refine g_lc_eq (tgt := 527) h d_law_521 d_law_522 (by decide) (fun c_ => ?_) (fun c_ => absurd (hans c_r f) c_)
      refine g_goto (tgt := 732) h d_law_527 (by decide) ?_
      refine g_iinc (v := nI (i + 7)) h d_law_732 rfl (nI_add i 7) rfl (by rw [hN]; decide) ?_
      refine g_goto (tgt := 23) h d_law_735 (by decide) ?_
      exact next _ _ _ _ hRR (lt _ _ _)
    · refine g_tableIn (off := 490) (tgt := 530) h d_law_40 (by decide) (by decide) (by decide) (by decide) ?_
      obtain ⟨r, C2, F, hA, hRR, hth, hans⟩ := A_collect hR (xs (nI i + 1).toNatClampNeg)
      refine g_aload_n h d_law_530 rfl rfl ?_
      refine g_aload_n h d_law_531 rfl rfl ?_
      refine g_iload h d_law_532 rfl ?_
      refine g_iconst (v := 1) h d_law_534 (by decide) ?_
      refine g_iadd h d_law_535 ?_
      refine g_sld h hX hbl hbA (vin 1 (by decide) (by decide)) d_law_536 ?_
      refine g_aload_n h d_law_537 rfl rfl ?_
      refine g_wrapO h hnc (hA (gL Γ) (gD Γ) t ad f htr) v_law_100 nm_Law_collect rfl ⟨rfl, rfl, Nat.le_of_ble_eq_true rfl, Nat.le_of_ble_eq_true rfl, by show _ ≤ 620839; omega, by show _ ≤ 7233588; omega⟩ rfl (Nat.le_of_ble_eq_true rfl) d_law_538 ?_
      refine g_istore h d_law_541 rfl (by rw [hN]; decide) ?_
      refine g_aload_n h d_law_543 rfl rfl ?_
      refine g_aload_n h d_law_544 rfl rfl ?_
      refine g_iload h d_law_545 rfl ?_
      refine g_iconst (v := 1) h d_law_547 (by decide) ?_
      refine g_iadd h d_law_548 ?_
      refine g_sld h hX hbl hbA (vin 1 (by decide) (by decide)) d_law_549 ?_
      refine g_refV h (c_Mod_collect hR.1.2.1) v_law_103 nm_Mod_collect rfl ⟨rfl, rfl, Nat.le_of_ble_eq_true rfl, Nat.le_of_ble_eq_true rfl, by show _ ≤ 620839; omega, by show _ ≤ 7233588; omega⟩ rfl (Nat.le_of_ble_eq_true rfl) d_law_550 ?_
      refine g_istore h d_law_553 rfl (by rw [hN]; decide) ?_
      refine g_goto (tgt := 732) h d_law_555 (by decide) ?_
      refine g_iinc (v := nI (i + 7)) h d_law_732 rfl (nI_add i 7) rfl (by rw [hN]; decide) ?_
      refine g_goto (tgt := 23) h d_law_735 (by decide) ?_
      exact next _ _ _ _ hRR (lt _ _ _)
    · refine g_tableIn (off := 518) (tgt := 558) h d_law_40 (by decide) (by decide) (by decide) (by decide) ?_
      obtain ⟨hRR, hth⟩ := A_full hR
      refine g_widen (k2 := kc + 1) (n2 := ks + 6) (Nat.le_succ _) (Nat.le_add_right _ _) ?_
      refine g_aload_n h d_law_558 rfl rfl ?_
      refine g_clsV h (c_TCM_full hR.1.1) v_law_104 nm_TCM_full rfl ⟨rfl, rfl, Nat.le_of_ble_eq_true rfl, Nat.le_of_ble_eq_true rfl, by show _ ≤ 620839; omega, by show _ ≤ 7233588; omega⟩ rfl (Nat.le_of_ble_eq_true rfl) d_law_559 ?_
      refine g_pop h d_law_562 rfl ?_
      refine g_aload_n h d_law_563 rfl rfl ?_
      refine g_refV h (c_Mod_full hR.1.2.1) v_law_107 nm_Mod_full rfl ⟨rfl, rfl, Nat.le_of_ble_eq_true rfl, Nat.le_of_ble_eq_true rfl, by show _ ≤ 620839; omega, by show _ ≤ 7233588; omega⟩ rfl (Nat.le_of_ble_eq_true rfl) d_law_564 ?_
      refine g_pop h d_law_567 rfl ?_
      refine g_goto (tgt := 732) h d_law_568 (by decide) ?_
      refine g_iinc (v := nI (i + 7)) h d_law_732 rfl (nI_add i 7) rfl (by rw [hN]; decide) ?_
      refine g_goto (tgt := 23) h d_law_735 (by decide) ?_
      exact next _ _ _ _ hRR (lt _ _ _)
    · refine g_tableIn (off := 531) (tgt := 571) h d_law_40 (by decide) (by decide) (by decide) (by decide) ?_
      obtain ⟨r, C2, F, hA, hRR, hth, hans⟩ := A_global hR (xs (nI i + 1).toNatClampNeg)
      refine g_aload_n h d_law_571 rfl rfl ?_
      refine g_aload_n h d_law_572 rfl rfl ?_
      refine g_iload h d_law_573 rfl ?_
      refine g_iconst (v := 1) h d_law_575 (by decide) ?_
      refine g_iadd h d_law_576 ?_
      refine g_sld h hX hbl hbA (vin 1 (by decide) (by decide)) d_law_577 ?_
      refine g_aload_n h d_law_578 rfl rfl ?_
      refine g_wrapO h hnc (hA (gL Γ) (gD Γ) t ad f htr) v_law_108 nm_Law_global rfl ⟨rfl, rfl, Nat.le_of_ble_eq_true rfl, Nat.le_of_ble_eq_true rfl, by show _ ≤ 620839; omega, by show _ ≤ 7233588; omega⟩ rfl (Nat.le_of_ble_eq_true rfl) d_law_579 ?_
      refine g_istore h d_law_582 rfl (by rw [hN]; decide) ?_
      refine g_aload_n h d_law_584 rfl rfl ?_
      refine g_aload_n h d_law_585 rfl rfl ?_
      refine g_iload h d_law_586 rfl ?_
      refine g_iconst (v := 1) h d_law_588 (by decide) ?_
      refine g_iadd h d_law_589 ?_
      refine g_sld h hX hbl hbA (vin 1 (by decide) (by decide)) d_law_590 ?_
      refine g_refV h (c_Mod_global) v_law_110 nm_Mod_global rfl ⟨rfl, rfl, Nat.le_of_ble_eq_true rfl, Nat.le_of_ble_eq_true rfl, by show _ ≤ 620839; omega, by show _ ≤ 7233588; omega⟩ rfl (Nat.le_of_ble_eq_true rfl) d_law_591 ?_
      refine g_lstore h d_law_594 rfl (by rw [hN]; decide) ?_
      refine g_goto (tgt := 732) h d_law_596 (by decide) ?_
      refine g_iinc (v := nI (i + 7)) h d_law_732 rfl (nI_add i 7) rfl (by rw [hN]; decide) ?_
      refine g_goto (tgt := 23) h d_law_735 (by decide) ?_
      exact next _ _ _ _ hRR (lt _ _ _)
    · refine g_tableIn (off := 559) (tgt := 599) h d_law_40 (by decide) (by decide) (by decide) (by decide) ?_
      obtain ⟨r, F, hA, hRR, hth, hans⟩ := A_object hR (xs (nI i + 1).toNatClampNeg) (xs (nI i + 2).toNatClampNeg)
      refine g_aload_n h d_law_599 rfl rfl ?_
      refine g_aload_n h d_law_600 rfl rfl ?_
      refine g_iload h d_law_601 rfl ?_
      refine g_iconst (v := 1) h d_law_603 (by decide) ?_
      refine g_iadd h d_law_604 ?_
      refine g_sld h hX hbl hbA (vin 1 (by decide) (by decide)) d_law_605 ?_
      refine g_aload_n h d_law_606 rfl rfl ?_
      refine g_iload h d_law_607 rfl ?_
      refine g_iconst (v := 2) h d_law_609 (by decide) ?_
      refine g_iadd h d_law_610 ?_
      refine g_sld h hX hbl hbA (vin 2 (by decide) (by decide)) d_law_611 ?_
      refine g_aload_n h d_law_612 rfl rfl ?_
      refine g_wrapO h hnc (hA (gL Γ) (gD Γ) t ad f htr) v_law_111 nm_Law_object rfl ⟨rfl, rfl, Nat.le_of_ble_eq_true rfl, Nat.le_of_ble_eq_true rfl, by show _ ≤ 620839; omega, by show _ ≤ 7233588; omega⟩ rfl (Nat.le_of_ble_eq_true rfl) d_law_613 ?_
      refine g_istore h d_law_616 rfl (by rw [hN]; decide) ?_
      refine g_aload_n h d_law_618 rfl rfl ?_
      refine g_aload_n h d_law_619 rfl rfl ?_
      refine g_iload h d_law_620 rfl ?_
      refine g_iconst (v := 1) h d_law_622 (by decide) ?_
      refine g_iadd h d_law_623 ?_
      refine g_sld h hX hbl hbA (vin 1 (by decide) (by decide)) d_law_624 ?_
      refine g_aload_n h d_law_625 rfl rfl ?_
      refine g_iload h d_law_626 rfl ?_
      refine g_iconst (v := 2) h d_law_628 (by decide) ?_
      refine g_iadd h d_law_629 ?_
      refine g_sld h hX hbl hbA (vin 2 (by decide) (by decide)) d_law_630 ?_
      refine g_refV h (c_Mod_object) v_law_113 nm_Mod_object rfl ⟨rfl, rfl, Nat.le_of_ble_eq_true rfl, Nat.le_of_ble_eq_true rfl, by show _ ≤ 620839; omega, by show _ ≤ 7233588; omega⟩ rfl (Nat.le_of_ble_eq_true rfl) d_law_631 ?_
      refine g_istore h d_law_634 rfl (by rw [hN]; decide) ?_
      refine g_goto (tgt := 732) h d_law_636 (by decide) ?_
      refine g_iinc (v := nI (i + 7)) h d_law_732 rfl (nI_add i 7) rfl (by rw [hN]; decide) ?_
      refine g_goto (tgt := 23) h d_law_735 (by decide) ?_
      exact next _ _ _ _ hRR (lt _ _ _)
    · refine g_tableIn (off := 599) (tgt := 639) h d_law_40 (by decide) (by decide) (by decide) (by decide) ?_
      obtain ⟨bb, hbb⟩ : ∃ bb : Int32, bb = if (xs (nI i + 3).toNatClampNeg) = 0 then 0 else 1 := ⟨_, rfl⟩
      obtain ⟨r, F, hA, hRR, -⟩ := A_inside hR (xs (nI i + 1).toNatClampNeg) (xs (nI i + 2).toNatClampNeg) bb
      refine g_aload_n h d_law_639 rfl rfl ?_
      refine g_aload_n h d_law_640 rfl rfl ?_
      refine g_iload h d_law_641 rfl ?_
      refine g_iconst (v := 1) h d_law_643 (by decide) ?_
      refine g_iadd h d_law_644 ?_
      refine g_sld h hX hbl hbA (vin 1 (by decide) (by decide)) d_law_645 ?_
      refine g_aload_n h d_law_646 rfl rfl ?_
      refine g_iload h d_law_647 rfl ?_
      refine g_iconst (v := 2) h d_law_649 (by decide) ?_
      refine g_iadd h d_law_650 ?_
      refine g_sld h hX hbl hbA (vin 2 (by decide) (by decide)) d_law_651 ?_
      refine g_aload_n h d_law_652 rfl rfl ?_
      refine g_iload h d_law_653 rfl ?_
      refine g_iconst (v := 3) h d_law_655 (by decide) ?_
      refine g_iadd h d_law_656 ?_
      refine g_sld h hX hbl hbA (vin 3 (by decide) (by decide)) d_law_657 ?_
      refine g_bool h d_law_658 d_law_661 d_law_662 d_law_665 (by decide) (by decide) hbb ?_
      refine g_aload_n h d_law_666 rfl rfl ?_
      refine g_wrapO h hnc (hA (gL Γ) (gD Γ) t ad f htr) v_law_114 nm_Law_inside rfl ⟨rfl, rfl, Nat.le_of_ble_eq_true rfl, Nat.le_of_ble_eq_true rfl, by show _ ≤ 620839; omega, by show _ ≤ 7233588; omega⟩ rfl (Nat.le_of_ble_eq_true rfl) d_law_667 ?_
      refine g_istore h d_law_670 rfl (by rw [hN]; decide) ?_
      refine g_aload_n h d_law_672 rfl rfl ?_
      refine g_aload_n h d_law_673 rfl rfl ?_
      refine g_iload h d_law_674 rfl ?_
      refine g_iconst (v := 1) h d_law_676 (by decide) ?_
      refine g_iadd h d_law_677 ?_
      refine g_sld h hX hbl hbA (vin 1 (by decide) (by decide)) d_law_678 ?_
      refine g_aload_n h d_law_679 rfl rfl ?_
      refine g_iload h d_law_680 rfl ?_
      refine g_iconst (v := 2) h d_law_682 (by decide) ?_
      refine g_iadd h d_law_683 ?_
      refine g_sld h hX hbl hbA (vin 2 (by decide) (by decide)) d_law_684 ?_
      refine g_aload_n h d_law_685 rfl rfl ?_
      refine g_iload h d_law_686 rfl ?_
      refine g_iconst (v := 3) h d_law_688 (by decide) ?_
      refine g_iadd h d_law_689 ?_
      refine g_sld h hX hbl hbA (vin 3 (by decide) (by decide)) d_law_690 ?_
      refine g_bool h d_law_691 d_law_694 d_law_695 d_law_698 (by decide) (by decide) hbb ?_
      refine g_refV h (c_Mod_inside hR.1.2.1) v_law_117 nm_Mod_inside rfl ⟨rfl, rfl, Nat.le_of_ble_eq_true rfl, Nat.le_of_ble_eq_true rfl, by show _ ≤ 620839; omega, by show _ ≤ 7233588; omega⟩ rfl (Nat.le_of_ble_eq_true rfl) d_law_699 ?_
      refine g_lstore h d_law_702 rfl (by rw [hN]; decide) ?_
      refine g_goto (tgt := 732) h d_law_704 (by decide) ?_
      refine g_iinc (v := nI (i + 7)) h d_law_732 rfl (nI_add i 7) rfl (by rw [hN]; decide) ?_
      refine g_goto (tgt := 23) h d_law_735 (by decide) ?_
      exact next _ _ _ _ hRR (lt _ _ _)
    · refine g_tableIn (off := 667) (tgt := 707) h d_law_40 (by decide) (by decide) (by decide) (by decide) ?_
      have hRR := RR_21 (v := 0) hR
      refine g_widen (k2 := kc + 1) (n2 := ks + 6) (Nat.le_succ _) (Nat.le_add_right _ _) ?_
      refine g_aload_n h d_law_707 rfl rfl ?_
      refine g_aload_n h d_law_708 rfl rfl ?_
      refine g_iload h d_law_709 rfl ?_
      refine g_iconst (v := 1) h d_law_711 (by decide) ?_
      refine g_iadd h d_law_712 ?_
      refine g_sld h hX hbl hbA (vin 1 (by decide) (by decide)) d_law_713 ?_
      refine g_clsV h (c_TCM_count) v_law_118 nm_TCM_count rfl ⟨rfl, rfl, Nat.le_of_ble_eq_true rfl, Nat.le_of_ble_eq_true rfl, by show _ ≤ 620839; omega, by show _ ≤ 7233588; omega⟩ rfl (Nat.le_of_ble_eq_true rfl) d_law_714 ?_
      refine g_pop h d_law_717 rfl ?_
      refine g_aload_n h d_law_718 rfl rfl ?_
      refine g_aload_n h d_law_719 rfl rfl ?_
      refine g_iload h d_law_720 rfl ?_
      refine g_iconst (v := 1) h d_law_722 (by decide) ?_
      refine g_iadd h d_law_723 ?_
      refine g_sld h hX hbl hbA (vin 1 (by decide) (by decide)) d_law_724 ?_
      refine g_refV h (c_Mod_count) v_law_121 nm_Mod_count rfl ⟨rfl, rfl, Nat.le_of_ble_eq_true rfl, Nat.le_of_ble_eq_true rfl, by show _ ≤ 620839; omega, by show _ ≤ 7233588; omega⟩ rfl (Nat.le_of_ble_eq_true rfl) d_law_725 ?_
      refine g_pop h d_law_728 rfl ?_
      refine g_goto (tgt := 732) h d_law_729 (by decide) ?_
      refine g_iinc (v := nI (i + 7)) h d_law_732 rfl (nI_add i 7) rfl (by rw [hN]; decide) ?_
      refine g_goto (tgt := 23) h d_law_735 (by decide) ?_
      exact next _ _ _ _ hRR (lt _ _ _)
    · refine g_tableOut (tgt := 732) h d_law_40 (by decide) (by decide) ?_
      refine g_widen (k2 := kc + 1) (n2 := ks + 6) (Nat.le_succ _) (Nat.le_add_right _ _) ?_
      refine g_iinc (v := nI (i + 7)) h d_law_732 rfl (nI_add i 7) rfl (by rw [hN]; decide) ?_
      refine g_goto (tgt := 23) h d_law_735 (by decide) ?_
      exact next _ _ _ _ hR (lt _ _ _)
    · refine g_tableOut (tgt := 732) h d_law_40 (by decide) (by decide) ?_
      refine g_widen (k2 := kc + 1) (n2 := ks + 6) (Nat.le_succ _) (Nat.le_add_right _ _) ?_
      refine g_iinc (v := nI (i + 7)) h d_law_732 rfl (nI_add i 7) rfl (by rw [hN]; decide) ?_
      refine g_goto (tgt := 23) h d_law_735 (by decide) ?_
      exact next _ _ _ _ hR (lt _ _ _)
end

-- part 9m.ctor
section
/-! constructors: worlds that grow -/
abbrev aoL : List String := ["TriColourMachine$Cell", "TriColourMachine$Instruction", "TriColourMachine$Coroutine"]
def aos (U : State) : Prop := ∀ C ∈ aoL, va_AO C U
theorem aos.moved {u U : State} (hvm : u.vm.Alike U.vm) (h : aos u) : aos U := fun C hC => (h C hC).moved hvm
def cPn (D : va_G) (cl : List vw_C) (tys : List (ClassId × FieldType)) (nl : List (String × Nat × MethodName × String)) (N : Nat) (ad : Nat → Nat) (σ : Nat → va_E) (sz : Nat) (As : List Value) : Array Value → State → Prop := va_Pc As (fun U => (U.heap.size = sz ∧ va_P D cl (gl N ad σ) U.heap ∧ EX D cl tys nl (va_A (gl N ad σ) sz) U U.heap ∧ va_D (fun _ => True) (gl N ad σ)) ∧ aos U)
def cQn (D : va_G) (cl : List vw_C) (N N2 : Nat) (ad : Nat → Nat) (A : Nat → Prop) (Rr : (Nat → Nat) → (Nat → va_E) → Prop) : Array Value → State → Outcome → State → Prop := fun _ st oc t => (∃ (ad2 : Nat → Nat) (σ2 : Nat → va_E), oc = .returned none ∧ (∀ k, k < N → ad2 k = ad k) ∧ Rr ad2 σ2 ∧ va_P D cl (gl N2 ad2 σ2) t.heap ∧ va_D A (gl N2 ad2 σ2)) ∧ va_F A st t
/-- the contract of a constructor: from N cells to N2 -/
def Ctn (l : Launch) (D : va_G) (cl : List vw_C) (tys : List (ClassId × FieldType)) (nl : List (String × Nat × MethodName × String)) (N N2 : Nat) (ad : Nat → Nat) (y : MethodName) (ws : List Cond) (rm : Room) (As : List Value) (σ : Nat → va_E) (mc ms : Nat) (Rr : (Nat → Nat) → (Nat → va_E) → Prop) : Prop :=
  ∀ sz : Nat, Met l y ws rm (cPn D cl tys nl N ad σ sz As) (cQn D cl N N2 ad (va_A (gl N ad σ) sz) Rr) mc ms (va_A (gl N ad σ) sz)
def Rn (Γ : GT) (N N2 : Nat) (ad : Nat → Nat) (Rr : (Nat → Nat) → (Nat → va_E) → Prop) (mc ms : Nat) : Prop :=
  (gM Γ).sig.returnType = none ∧ (gM Γ).locks = false ∧ gZ Γ = MQ (gb Γ) (cQn (gD Γ) (gC Γ) N N2 ad (gA Γ) Rr) (ga Γ) (gs Γ) mc ms (gA Γ)
theorem ctn_of {l : Launch} {D : va_G} {cl : List vw_C} {tys : List (ClassId × FieldType)} {nl : List (String × Nat × MethodName × String)} {N N2 : Nat} {ad : Nat → Nat} {y : MethodName} {TB : List Cond} {rm : Room} {As : List Value} {σ : Nat → va_E} {Rr : (Nat → Nat) → (Nat → va_E) → Prop} {cc : ByteArray} {n mc ms : Nat}
    (hy : plainName y.cls = true) (hn : (lg_sl As).length ≤ n)
    (body : ∀ Γ : GT, gL Γ = l → gD Γ = D → gN Γ = n → Cx Γ cc y.cls rm TB cl tys nl → Rn Γ N N2 ad Rr mc ms → aos (gs Γ) → (gM Γ).name = y.name → G Γ 0 0 N ad σ 0 (inL As n) []) : Ctn l D cl tys nl N N2 ad y (.code y cc n none :: TB) rm As σ mc ms Rr := by
  intro sz
  refine Met.ofW (cc := cc) (maxL := n) (ret := none) hy rfl ?_
  intro p e s m args below meth c s₁ B hml hv
  obtain ⟨rfl, ⟨hsz, hP, hK, hD0⟩, hao⟩ := hv
  have hts := atoms_spec (ws := .code y cc n none :: TB) B.pre
  have hown : s.vm.findClass y.cls = some m.cls := findClass_of_methodNamed B.named
  have hin : meth.name = y.name := (name_of_methodNamed B.named B.method).1
  subst hsz
  have hD := hD0.self (sz := s.heap.size)
  rw [lg_entry_eq]
  exact body (p, l, e, rm, s, m, As.toArray, below, meth, c, MQ below (cQn D cl N N2 ad (va_A (gl N ad σ) s.heap.size) Rr) As.toArray s mc ms (va_A (gl N ad σ) s.heap.size), D, cl, va_A (gl N ad σ) s.heap.size, n) rfl rfl rfl
    ⟨B.exec, B.bytes, hml, hown, rfl, fun w hw => hts w (List.mem_cons_of_mem _ hw), rfl, hK, fun q h => Or.inr h⟩ ⟨B.returns, B.notSynchronized, rfl⟩ hao hin s.heap [] _ hP hD va_S.rf (inL_has hn)
section CtorRows
variable {Γ : GT} {cc : ByteArray} {own : String} {rm : Room} {Ts : List Cond} {cl : List vw_C} {tys : List (ClassId × FieldType)} {nl : List (String × Nat × MethodName × String)} {kc ks N N2 pc : Nat} {ad : Nat → Nat} {σ : Nat → va_E} {L : List (Option Value)} {st rest : List Value}
variable {y : MethodName} {bytes : ByteArray} {maxL n index mc ms : Nat} {rmY : Room} {As : List Value}
theorem g_vretN {N0 : Nat} {ad0 : Nat → Nat} {Rr : (Nat → Nat) → (Nat → va_E) → Prop} (h : Cx Γ cc own rm Ts cl tys nl) (r : Rn Γ N0 N ad0 Rr kc ks) (hd : decode cc pc = .ok (.return_, 1)) (ha : ∀ k, k < N0 → ad k = ad0 k) (hv : Rr ad σ) : G Γ kc ks N ad σ pc L [] := fun H locs ls hP hD hS hl => by
  unfold gW
  rw [r.2.2]
  exact W.vret h.x h.b r.1 (fun t ht hW => ⟨⟨ad, σ, rfl, ha, hv, by rw [ht]; exact hP, hD⟩, hS.F ht⟩) hS.2.2 hd r.2.1
theorem g_new (h : Cx Γ cc own rm Ts cl tys nl) {C : String} {T : u_T} {nf ci : Nat} {fs : List Value} (hin : ∀ w ∈ u_ws C T nf, w ∈ Ts) (ty : Nat → FieldType) (hty : ∀ k, k < nf → parseFieldDescriptor (T k).2.2.1 = some (ty k)) (hcl : Cond.classLink own index C ∈ Ts) (hinst : Cond.instantiable C nf ∈ Ts) (hini : Cond.initialized C ∈ Ts) (hc : cl[ci]? = some (C, T, nf)) (hfs : ∀ j, j < nf → defaultValue (ty j) = vp_V fs j) (hr : kc + 1 ≤ rm.cells ∧ ks + nf ≤ rm.slots) (hd : decode cc pc = .ok (.new index, 3))
    (k : ∀ q : Nat, G Γ (kc + 1) (ks + nf) (N + 1) (va_up ad N q) (va_up σ N (.inr (ci, fs))) (pc + 3) L (.ref q :: st)) : G Γ kc ks N ad σ pc L st := fun H locs ls hP hD hS hl =>
  va_new (ci := ci) h.x h.b h.ts hin ty hty h.ow (h.ts _ hcl) (h.ts _ hinst) (h.ts _ hini) h.K hP hD hS h.A (by rw [h.cL]; exact hc) hfs (by rw [h.R]; exact hr.1) (by rw [h.R]; exact hr.2) hd (fun q H1 hP1 hD1 hS1 => by
    rw [gl_push] at hP1 hD1
    exact k q H1 locs ls hP1 hD1 hS1 hl)
theorem g_newl (h : Cx Γ cc own rm Ts cl tys nl) {cT : ClassId} (t0 : Nat) (ht : tys[t0]? = some (cT, .long)) (harr : Cond.arrayClass .long ∈ Ts) {x : Int32} {m : Nat} (hx : ¬ x < 0) (hm : x.toNatClampNeg = m) (hb : m * 8 ≤ 536870912) (hr : kc + 1 ≤ rm.cells ∧ ks + m ≤ rm.slots) (hd : decode cc pc = .ok (.newarray .long, 2))
    (k : ∀ q : Nat, G Γ (kc + 1) (ks + m) (N + 1) (va_up ad N q) (va_up σ N (.inl (cT, m, .inr (.inl (fun _ => 0))))) (pc + 2) L (.ref q :: st)) : G Γ kc ks N ad σ pc L (.int x :: st) := fun H locs ls hP hD hS hl =>
  va_newa (atype := .long) (ty := .long) (a0 := (m, .inr (.inl (fun _ => 0)))) h.x h.b (h.ts _ harr) rfl h.K hP hD hS h.A (fun _ => rfl) hx hm hb (by rw [h.R]; exact hr.1) (by rw [h.R]; exact hr.2) hd (fun q cA H1 hK1 hP1 hD1 hS1 => by
    have e1 : (gs Γ).vm.findClass _ = some cA := (hK1.2 tys.length (cA, .long) (by simp)).2
    have e2 : (gs Γ).vm.findClass _ = some cT := (h.K.2 t0 _ ht).2
    cases e1.symm.trans e2
    rw [gl_push] at hP1 hD1
    exact k q H1 locs ls hP1 hD1 hS1 hl)
theorem g_newi (h : Cx Γ cc own rm Ts cl tys nl) {cT : ClassId} (t0 : Nat) (ht : tys[t0]? = some (cT, .int)) (harr : Cond.arrayClass .int ∈ Ts) {x : Int32} {m : Nat} (hx : ¬ x < 0) (hm : x.toNatClampNeg = m) (hb : m * 4 ≤ 536870912) (hr : kc + 1 ≤ rm.cells ∧ ks + m ≤ rm.slots) (hd : decode cc pc = .ok (.newarray .int, 2))
    (k : ∀ q : Nat, G Γ (kc + 1) (ks + m) (N + 1) (va_up ad N q) (va_up σ N (.inl (cT, m, .inl (fun _ => 0)))) (pc + 2) L (.ref q :: st)) : G Γ kc ks N ad σ pc L (.int x :: st) := fun H locs ls hP hD hS hl =>
  va_newa (atype := .int) (ty := .int) (a0 := (m, .inl (fun _ => 0))) h.x h.b (h.ts _ harr) rfl h.K hP hD hS h.A (fun _ => rfl) hx hm hb (by rw [h.R]; exact hr.1) (by rw [h.R]; exact hr.2) hd (fun q cA H1 hK1 hP1 hD1 hS1 => by
    have e1 : (gs Γ).vm.findClass _ = some cA := (hK1.2 tys.length (cA, .int) (by simp)).2
    have e2 : (gs Γ).vm.findClass _ = some cT := (h.K.2 t0 _ ht).2
    cases e1.symm.trans e2
    rw [gl_push] at hP1 hD1
    exact k q H1 locs ls hP1 hD1 hS1 hl)
theorem g_newq (h : Cx Γ cc own rm Ts cl tys nl) {cT : ClassId} {C : String} (t0 : Nat) (ht : tys[t0]? = some (cT, .object C)) (hcl : Cond.classLink own index C ∈ Ts) (hao : va_AO C (gs Γ)) {x : Int32} {m : Nat} (hx : ¬ x < 0) (hm : x.toNatClampNeg = m) (hb : m * 4 ≤ 536870912) (hr : kc + 1 ≤ rm.cells ∧ ks + m ≤ rm.slots) (hd : decode cc pc = .ok (.anewarray index, 3))
    (k : ∀ q : Nat, G Γ (kc + 1) (ks + m) (N + 1) (va_up ad N q) (va_up σ N (.inl (cT, m, .inr (.inr (.inr (.inr (fun _ => none))))))) (pc + 3) L (.ref q :: st)) : G Γ kc ks N ad σ pc L (.int x :: st) := fun H locs ls hP hD hS hl =>
  va_newq h.x h.b h.ow (h.ts _ hcl) hao h.K hP hD hS h.A hx hm hb (by rw [h.R]; exact hr.1) (by rw [h.R]; exact hr.2) hd (fun q cA H1 hK1 hP1 hD1 hS1 => by
    obtain ⟨_, _, -, -, -, e1⟩ : va_RA (gs Γ) cA (.object C) := (hK1.2 tys.length (cA, .object C) (by simp)).2
    obtain ⟨_, _, -, -, -, e2⟩ : va_RA (gs Γ) cT (.object C) := (h.K.2 t0 _ ht).2
    cases e1.symm.trans e2
    rw [gl_push] at hP1 hD1
    exact k q H1 locs ls hP1 hD1 hS1 hl)
theorem g_objInit (h : Cx Γ cc own rm Ts cl tys nl) (h1 : Cond.methodLink own index Lib.objectInit ∈ Ts) (h2 : Cond.instanceMethod Lib.objectInit ∈ Ts) (h3 : Cond.code Lib.objectInit ⟨#[0xb1]⟩ 1 none ∈ Ts) {x : Nat} (hr : 1 ≤ rm.frames ∧ 20 ≤ rm.locals) (hrest : (st.map fun v => v.category).sum ≤ 8) (hd : decode cc pc = .ok (.invokespecial index, 3)) (k : G Γ kc ks N ad σ (pc + 3) L st) : G Γ kc ks N ad σ pc L (.ref x :: st) := fun H locs ls hP hD hS hl => by
  have hm : 2 * (F0 (gm Γ) pc ls (.ref x :: st)).monitorRoom + (st.map fun v => v.category).sum ≤ 8 := lv_room hrest
  exact W.objInit h.x h.b h.ow (h.ts _ h1) (h.ts _ h2) (h.ts _ h3) rfl (hl.1.trans h.ml.symm) rfl hd (by rw [h.R]; exact hr.1) (by rw [h.R]; omega) (k H locs ls hP hD hS hl)
theorem cn_blind {D : va_G} {sz : Nat} : FrameBlind (cPn D cl tys nl N ad σ sz As) := fun a U g mk q => by
  obtain ⟨q0, ⟨q1, qP, qK, qD⟩, qn⟩ := q
  exact ⟨q0, ⟨q1, qP, EX.blind qK, qD⟩, aos.moved (u := U) (U := U.calling g mk a) (Vm.Alike.refl U.vm) qn⟩
def adj (q : Nat) (a b : Nat → Nat) : Nat → Nat := fun k => if k < q then a k else b (k - q)
def sgj (q : Nat) (a b : Nat → va_E) : Nat → va_E := fun k => if k < q then a k else b (k - q)
/-- invokespecial of a constructor, for the cell that was made last -/
theorem g_init (h : Cx Γ cc own rm Ts cl tys nl) (hG : GoodIn Ts Ts) (hao : aos (gs Γ)) {q : Nat} {Rr : (Nat → Nat) → (Nat → va_E) → Prop} (hM : Ctn (gL Γ) (gD Γ) cl tys nl 1 N2 (fun j => ad (q + j)) y (.code y bytes maxL none :: Ts) rmY (.ref (ad q) :: As) (fun j => σ (q + j)) mc ms Rr)
    (hw : Cond.methodLink own index y ∈ Ts ∧ Cond.instanceMethod y ∈ Ts ∧ Cond.initialized y.cls ∈ Ts ∧ Cond.code y bytes maxL none ∈ Ts) (hy : y.name = "<init>") (hd0 : cNm y y.cls n) (hn : As.length = n) (hroom : rmY.cells = mc ∧ rmY.slots = ms ∧ rmY.frames + 1 ≤ rm.frames ∧ 8 + (maxL + 11) + rmY.locals ≤ rm.locals ∧ kc + mc ≤ rm.cells ∧ ks + ms ≤ rm.slots) (hst : st = As.reverse ++ .ref (ad q) :: rest) (hrest : (rest.map fun v => v.category).sum ≤ 8) (hd : decode cc pc = .ok (.invokespecial index, 3))
    (k : ∀ (ad2 : Nat → Nat) (σ2 : Nat → va_E), ad2 0 = ad q → Rr ad2 σ2 → G Γ (kc + mc) (ks + ms) (q + N2) (adj q ad ad2) (sgj q σ σ2) (pc + 3) L rest) : G Γ kc ks (q + 1) ad σ pc L st := by
  intro H locs ls hP hD hS hl T0 hT X
  have hcl := h.cL
  have hE := h.E
  rw [hcl] at hP hE
  have hg1 : ∀ (j : Nat) (x : Nat × va_E), (gl 1 (fun j => ad (q + j)) (fun j => σ (q + j)))[j]? = some x → (gl (q + 1) ad σ)[q]? = some x := fun j x hx => by
    obtain ⟨g1, g2⟩ := gl_out hx
    have : j = 0 := by omega
    subst this
    subst g2
    exact gl_at (by omega)
  have hP1 : va_P (gD Γ) cl (gl 1 (fun j => ad (q + j)) (fun j => σ (q + j))) H := fun j x hx => hP q x (hg1 j x hx)
  have hD1 : va_D (gA Γ) (gl 1 (fun j => ad (q + j)) (fun j => σ (q + j))) := ⟨fun i j x y hx hy _ => by
    have := (gl_out hx).1
    have := (gl_out hy).1
    omega, fun j x hx => hD.2 q x (hg1 j x hx)⟩
  have hF := c_in h hD1 hS
  have hrun := va_runI (locs := locs) (cells := kc) (slots := ks) (below := gb Γ) (meth := gM Γ) (e := ge Γ) (As := As) (rest := rest) (b := ad q) (n := n) (g := F0 (gm Γ) pc ls st) ⟨h.x, h.b, h.ml, h.ow, h.ts⟩ (hM H.size) (cwI (R := gR Γ) n h.ts (c_good hG hw.2.2.2) rfl hroom.1 hroom.2.1 (h.ts _ hw.2.2.1) (h.ts _ hw.1) (h.ts _ hw.2.1) hy hd0.2 (by rw [h.R]; exact ⟨hroom.2.2.1, hroom.2.2.2.1⟩))
    ⟨cn_blind, fun U hU hW => ⟨rfl, ⟨by rw [hU], by rw [hU]; exact hP1, EX.next hE hW hS hF hU, hD1.weaken (fun _ _ _ _ => trivial)⟩, aos.moved hW.alike hao⟩⟩ rfl hn hl.1 hst (lv_room hrest) hd (by rw [h.R]; exact ⟨hroom.2.2.2.2.1, hroom.2.2.2.2.2⟩)
  obtain ⟨v, st₀, t, T', L2, h0, X', hL2, e1, e2, ⟨⟨ad2, σ2, hv, ha0, hp, hb, hb3⟩, hz, hk⟩, go⟩ := hrun T0 hT X
  cases hv
  rw [h0] at hz hk
  have ha : ad2 0 = ad q := ha0 0 (by omega)
  have apart : ∀ i, i < q → ad i < H.size ∧ ¬ va_A (gl 1 (fun j => ad (q + j)) (fun j => σ (q + j))) H.size (ad i) := fun i hi => by
    have hlt : ad i < H.size := (hP i _ (gl_at (show i < q + 1 by omega))).lt
    refine ⟨hlt, ?_⟩
    rintro (⟨j, e, hj⟩ | hj)
    · have hj' := hg1 j _ hj
      have := hD.1 i q _ _ (gl_at (show i < q + 1 by omega)) hj' rfl
      omega
    · exact absurd hlt (Nat.not_lt.mpr hj)
  have hPm : va_P (gD Γ) (gC Γ) (gl (q + N2) (adj q ad ad2) (sgj q σ σ2)) T'.heap := by
    rw [hcl, e1]
    intro j x hx
    obtain ⟨g1, g2⟩ := gl_out hx
    subst g2
    unfold adj sgj
    by_cases z : j < q
    · rw [if_pos z, if_pos z]
      have hp0 := hP j _ (gl_at (show j < q + 1 by omega))
      exact hp0.kept (hk _ (apart j z).1 (apart j z).2)
    · rw [if_neg z, if_neg z]
      exact hb (j - q) _ (gl_at (by omega))
  have hDm : va_D (gA Γ) (gl (q + N2) (adj q ad ad2) (sgj q σ σ2)) := by
    have in2 : ∀ j, ¬ j < q → j < q + N2 → va_A (gl 1 (fun j => ad (q + j)) (fun j => σ (q + j))) H.size (ad2 (j - q)) := fun j z1 z2 => hb3.2 (j - q) (ad2 (j - q), σ2 (j - q)) (gl_at (by omega))
    refine ⟨fun i j x y hx hy hxy => ?_, fun j x hx => ?_⟩
    · obtain ⟨g1, g2⟩ := gl_out hx
      obtain ⟨g3, g4⟩ := gl_out hy
      subst g2; subst g4
      have hxy : adj q ad ad2 i = adj q ad ad2 j := hxy
      unfold adj at hxy
      by_cases zi : i < q
      · by_cases zj : j < q
        · rw [if_pos zi, if_pos zj] at hxy
          exact hD.1 i j (ad i, σ i) (ad j, σ j) (gl_at (by omega)) (gl_at (by omega)) hxy
        · rw [if_pos zi, if_neg zj] at hxy
          exact ((apart i zi).2 (by rw [hxy]; exact in2 j zj g3)).elim
      · by_cases zj : j < q
        · rw [if_neg zi, if_pos zj] at hxy
          exact ((apart j zj).2 (by rw [← hxy]; exact in2 i zi g1)).elim
        · rw [if_neg zi, if_neg zj] at hxy
          have := hb3.1 (i - q) (j - q) (ad2 (i - q), σ2 (i - q)) (ad2 (j - q), σ2 (j - q)) (gl_at (by omega)) (gl_at (by omega)) hxy
          omega
    · obtain ⟨g1, g2⟩ := gl_out hx
      subst g2
      unfold adj
      by_cases z : j < q
      · show gA Γ (if j < q then ad j else _)
        rw [if_pos z]
        exact hD.2 j (ad j, σ j) (gl_at (by omega))
      · show gA Γ (if j < q then ad j else _)
        rw [if_neg z]
        exact hF _ (in2 j z g1)
  obtain ⟨t2, a1, b1⟩ := k ad2 σ2 ha hp T'.heap (locs ++ L2) ls hPm hDm
    ⟨Nat.le_trans hS.1 (by rw [e1]; exact hz), fun x h1 h2 => by
      rw [e1, hk x (Nat.lt_of_lt_of_le h1 hS.1) (fun z => h2 (hF x z))]
      exact hS.2.1 x h1 h2, fun x hx => by
      rcases List.mem_append.mp hx with z | z
      · exact hS.2.2 x z
      · exact hF _ (hL2 x z)⟩ hl T' rfl X'
  exact ⟨t2, go t2 a1, b1⟩
/-- invokespecial of a constructor, of a nest mate's, for the cell that was made last -/
theorem g_initN {host : String} (h : Cx Γ cc own rm Ts cl tys nl) (hG : GoodIn Ts Ts) (hao : aos (gs Γ)) {q : Nat} {Rr : (Nat → Nat) → (Nat → va_E) → Prop} (hM : Ctn (gL Γ) (gD Γ) cl tys nl 1 N2 (fun j => ad (q + j)) y (.code y bytes maxL none :: Ts) rmY (.ref (ad q) :: As) (fun j => σ (q + j)) mc ms Rr)
    (hnl : (own, index, y, host) ∈ nl) (hw : Cond.instanceMethod y ∈ Ts ∧ Cond.initialized y.cls ∈ Ts ∧ Cond.code y bytes maxL none ∈ Ts) (hy : y.name = "<init>") (hd0 : cNm y y.cls n) (hn : As.length = n) (hroom : rmY.cells = mc ∧ rmY.slots = ms ∧ rmY.frames + 1 ≤ rm.frames ∧ 8 + (maxL + 11) + rmY.locals ≤ rm.locals ∧ kc + mc ≤ rm.cells ∧ ks + ms ≤ rm.slots) (hst : st = As.reverse ++ .ref (ad q) :: rest) (hrest : (rest.map fun v => v.category).sum ≤ 8) (hd : decode cc pc = .ok (.invokespecial index, 3))
    (k : ∀ (ad2 : Nat → Nat) (σ2 : Nat → va_E), ad2 0 = ad q → Rr ad2 σ2 → G Γ (kc + mc) (ks + ms) (q + N2) (adj q ad ad2) (sgj q σ σ2) (pc + 3) L rest) : G Γ kc ks (q + 1) ad σ pc L st := by
  intro H locs ls hP hD hS hl T0 hT X
  have hcl := h.cL
  have hE := h.E
  rw [hcl] at hP hE
  have hg1 : ∀ (j : Nat) (x : Nat × va_E), (gl 1 (fun j => ad (q + j)) (fun j => σ (q + j)))[j]? = some x → (gl (q + 1) ad σ)[q]? = some x := fun j x hx => by
    obtain ⟨g1, g2⟩ := gl_out hx
    have : j = 0 := by omega
    subst this
    subst g2
    exact gl_at (by omega)
  have hP1 : va_P (gD Γ) cl (gl 1 (fun j => ad (q + j)) (fun j => σ (q + j))) H := fun j x hx => hP q x (hg1 j x hx)
  have hD1 : va_D (gA Γ) (gl 1 (fun j => ad (q + j)) (fun j => σ (q + j))) := ⟨fun i j x y hx hy _ => by
    have := (gl_out hx).1
    have := (gl_out hy).1
    omega, fun j x hx => hD.2 q x (hg1 j x hx)⟩
  have hF := c_in h hD1 hS
  have hrun := va_runIN (locs := locs) (cells := kc) (slots := ks) (below := gb Γ) (meth := gM Γ) (e := ge Γ) (R := gR Γ) (As := As) (rest := rest) (b := ad q) (n := n) (g := F0 (gm Γ) pc ls st) ⟨h.x, h.b, h.ml, h.ow, h.ts⟩ (hM H.size) ⟨va_cnB n h.ts (c_good hG hw.2.2) rfl hroom.1 hroom.2.1 (hE.2.1 _ hnl) (h.ts _ hw.2.1) hd0.2 (by rw [h.R]; exact ⟨hroom.2.2.1, hroom.2.2.2.1⟩), hy, h.ts _ hw.1⟩
    ⟨cn_blind, fun U hU hW => ⟨rfl, ⟨by rw [hU], by rw [hU]; exact hP1, EX.next hE hW hS hF hU, hD1.weaken (fun _ _ _ _ => trivial)⟩, aos.moved hW.alike hao⟩⟩ rfl hn hl.1 hst (lv_room hrest) hd (by rw [h.R]; exact ⟨hroom.2.2.2.2.1, hroom.2.2.2.2.2⟩)
  obtain ⟨v, st₀, t, T', L2, h0, X', hL2, e1, e2, ⟨⟨ad2, σ2, hv, ha0, hp, hb, hb3⟩, hz, hk⟩, go⟩ := hrun T0 hT X
  cases hv
  rw [h0] at hz hk
  have ha : ad2 0 = ad q := ha0 0 (by omega)
  have apart : ∀ i, i < q → ad i < H.size ∧ ¬ va_A (gl 1 (fun j => ad (q + j)) (fun j => σ (q + j))) H.size (ad i) := fun i hi => by
    have hlt : ad i < H.size := (hP i _ (gl_at (show i < q + 1 by omega))).lt
    refine ⟨hlt, ?_⟩
    rintro (⟨j, e, hj⟩ | hj)
    · have hj' := hg1 j _ hj
      have := hD.1 i q _ _ (gl_at (show i < q + 1 by omega)) hj' rfl
      omega
    · exact absurd hlt (Nat.not_lt.mpr hj)
  have hPm : va_P (gD Γ) (gC Γ) (gl (q + N2) (adj q ad ad2) (sgj q σ σ2)) T'.heap := by
    rw [hcl, e1]
    intro j x hx
    obtain ⟨g1, g2⟩ := gl_out hx
    subst g2
    unfold adj sgj
    by_cases z : j < q
    · rw [if_pos z, if_pos z]
      have hp0 := hP j _ (gl_at (show j < q + 1 by omega))
      exact hp0.kept (hk _ (apart j z).1 (apart j z).2)
    · rw [if_neg z, if_neg z]
      exact hb (j - q) _ (gl_at (by omega))
  have hDm : va_D (gA Γ) (gl (q + N2) (adj q ad ad2) (sgj q σ σ2)) := by
    have in2 : ∀ j, ¬ j < q → j < q + N2 → va_A (gl 1 (fun j => ad (q + j)) (fun j => σ (q + j))) H.size (ad2 (j - q)) := fun j z1 z2 => hb3.2 (j - q) (ad2 (j - q), σ2 (j - q)) (gl_at (by omega))
    refine ⟨fun i j x y hx hy hxy => ?_, fun j x hx => ?_⟩
    · obtain ⟨g1, g2⟩ := gl_out hx
      obtain ⟨g3, g4⟩ := gl_out hy
      subst g2; subst g4
      have hxy : adj q ad ad2 i = adj q ad ad2 j := hxy
      unfold adj at hxy
      by_cases zi : i < q
      · by_cases zj : j < q
        · rw [if_pos zi, if_pos zj] at hxy
          exact hD.1 i j (ad i, σ i) (ad j, σ j) (gl_at (by omega)) (gl_at (by omega)) hxy
        · rw [if_pos zi, if_neg zj] at hxy
          exact ((apart i zi).2 (by rw [hxy]; exact in2 j zj g3)).elim
      · by_cases zj : j < q
        · rw [if_neg zi, if_pos zj] at hxy
          exact ((apart j zj).2 (by rw [← hxy]; exact in2 i zi g1)).elim
        · rw [if_neg zi, if_neg zj] at hxy
          have := hb3.1 (i - q) (j - q) (ad2 (i - q), σ2 (i - q)) (ad2 (j - q), σ2 (j - q)) (gl_at (by omega)) (gl_at (by omega)) hxy
          omega
    · obtain ⟨g1, g2⟩ := gl_out hx
      subst g2
      unfold adj
      by_cases z : j < q
      · show gA Γ (if j < q then ad j else _)
        rw [if_pos z]
        exact hD.2 j (ad j, σ j) (gl_at (by omega))
      · show gA Γ (if j < q then ad j else _)
        rw [if_neg z]
        exact hF _ (in2 j z g1)
  obtain ⟨t2, a1, b1⟩ := k ad2 σ2 ha hp T'.heap (locs ++ L2) ls hPm hDm
    ⟨Nat.le_trans hS.1 (by rw [e1]; exact hz), fun x h1 h2 => by
      rw [e1, hk x (Nat.lt_of_lt_of_le h1 hS.1) (fun z => h2 (hF x z))]
      exact hS.2.1 x h1 h2, fun x hx => by
      rcases List.mem_append.mp hx with z | z
      · exact hS.2.2 x z
      · exact hF _ (hL2 x z)⟩ hl T' rfl X'
  exact ⟨t2, go t2 a1, b1⟩
end CtorRows
end
