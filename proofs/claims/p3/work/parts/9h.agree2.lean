/-! make, set, get, meta, resume, object, inside on both sides -/
theorem xR1 {x : Int32} (h : x = 1) : xRaise x = X_UOE := if_pos h
theorem xR2 {x : Int32} (h : ¬ x = 1) : xRaise x = X_ISE := if_neg h
theorem oV_back {n : Nat} (hn : n < 16) : (oV n - 10000000000).toInt32 = nI n := by
  have hv : okV (oV n) := .inr ⟨n, hn, rfl⟩
  have := (okV_on hv (((oV_iff hv hn).2 rfl).1)).2.2
  rw [((oV_iff hv hn).2 rfl).2] at this
  exact this
theorem make_core {C M : CS} (h : RR C M) {j q : Nat} (hj : j < 6) {k e : Int32} (hk : k = 1 ∨ (k = 2 ∧ q < 4 ∧ e = nI q ∧ e = nI q))
    (hX : ¬ (ccreate C k e).1 = 0 → ∀ (l : Launch) (D : va_G) (t : Nat → ClassId) (ad : Nat → Nat), Tr l → Ce l D t ad y_TCM_make b_TCM_make 3 (some .int) { frames := 8, cells := 1, slots := 6, locals := 130 } [.ref (ad (ix 0 0)), .int (nI j), .int e] C (xRaise (ccreate C k e).1) (ccreate C k e).2)
    (hC : (ccreate C k e).1 = 0 → ∀ (l : Launch) (D : va_G) (t : Nat → ClassId) (ad : Nat → Nat), Cd l D t ad y_TCM_make b_TCM_make 3 (some .int) { frames := 5, cells := 0, slots := 0, locals := 114 } [.ref (ad (ix 0 0)), .int (nI j), .int e] C (some (.int ((ccreate C k e).2.2.1 4 0 0 - 10000000000).toInt32)) (sJ (ccreate C k e).2 0 0 j ((ccreate C k e).2.2.1 4 0 0))) :
    ∃ (r : Int32) (C2 : CS) (F : (Nat → Int64) → Nat → Int64), (∀ (l : Launch) (D : va_G) (t : Nat → ClassId) (ad : Nat → Nat) (f0 : Nat → Int64), Tr l → Cwo l D t ad y_Law_make b_Law_make 5 [(0, 10, 13, 13), (0, 10, 17, 26)] [.ref (ad (ix 0 0)), .int (nI j), .int e, .ref (ad 171)] C f0 r C2 (F f0)) ∧ RR C2 (match (mcreate (sI M 21 0 0) k e).1 with
      | none => ((0 : Int32), sI (mcreate (sI M 21 0 0) k e).2 21 0 2)
      | some n => (nI n, sJ (sI (mcreate (sI M 21 0 0) k e).2 21 0 0) 0 0 j (10000000000 + (nI n).toInt64))).2 ∧ (match (mcreate (sI M 21 0 0) k e).1 with
      | none => ((0 : Int32), sI (mcreate (sI M 21 0 0) k e).2 21 0 2)
      | some n => (nI n, sJ (sI (mcreate (sI M 21 0 0) k e).2 21 0 0) 0 0 j (10000000000 + (nI n).toInt64))).2.1 21 0 = r ∧ (r = 0 → ∀ f0, F f0 0 = (match (mcreate (sI M 21 0 0) k e).1 with
      | none => ((0 : Int32), sI (mcreate (sI M 21 0 0) k e).2 21 0 2)
      | some n => (nI n, sJ (sI (mcreate (sI M 21 0 0) k e).2 21 0 0) 0 0 j (10000000000 + (nI n).toInt64))).1.toInt64) := by
  have h' := RR_21 (v := 0) h
  obtain ⟨hc, c1, c2, -, -⟩ := create_all h'.1 h'.2 (NB_0 h'.2) hk
  have rr : RR (ccreate C k e).2 (mcreate (sI M 21 0 0) k e).2 := ⟨c1, c2⟩
  rcases hc with ⟨q1, q2⟩ | ⟨n, hn, q1, q2, q3, q4⟩
  · rw [q2]
    refine ⟨2, _, fun f0 => f0, fun l D t ad f0 htr => ?_, RR_21 rr, sI_self, fun z => absurd z (by decide)⟩
    have hx := hX (by rw [q1]; decide) l D t ad htr
    rw [xR2 (by rw [q1]; decide)] at hx
    exact w_Law_make_ISE hx ⟨rfl, rfl, by decide, by decide, by decide, by decide⟩
  · rw [q2]
    simp only
    rw [oV_nI hn]
    have hr := RR_glob (RR_21 (v := 0) rr) hj (.inr ⟨n, hn, rfl⟩) (fun m hm z => by rw [(oV_inj hn hm).1 z] at q4; exact q4)
    refine ⟨0, _, fun f0 => vp_updL f0 0 (nI n).toInt64, fun l D t ad f0 htr => ?_, hr, s21, fun _ f0 => pk_uLs⟩
    have hx := hC q1 l D t ad
    rw [q3, oV_back hn] at hx
    exact w_Law_make hx ⟨rfl, rfl, by decide, by decide, by decide, by decide⟩
theorem A_make {C M : CS} (h : RR C M) (g f : Int32) : ∃ (r : Int32) (C2 : CS) (F : (Nat → Int64) → Nat → Int64), (∀ (l : Launch) (D : va_G) (t : Nat → ClassId) (ad : Nat → Nat) (f0 : Nat → Int64), Tr l → Cwo l D t ad y_Law_make b_Law_make 5 [(0, 10, 13, 13), (0, 10, 17, 26)] [.ref (ad (ix 0 0)), .int g, .int f, .ref (ad 171)] C f0 r C2 (F f0)) ∧ RR C2 (mmake M g f).2 ∧ (mmake M g f).2.1 21 0 = r ∧ (r = 0 → ∀ f0, F f0 0 = (mmake M g f).1.toInt64) := by
  unfold mmake
  by_cases hg : g < 0 ∨ 5 < g
  · rw [if_pos (.inl hg)]
    exact ⟨1, C, fun f0 => f0, fun l D t ad f0 htr => w_Law_make_IAE (x_TCM_make1 htr hg) ⟨rfl, rfl, by decide, by decide, by decide, by decide⟩, RR_21 h, sI_self, fun z => absurd z (by decide)⟩
  by_cases hf : f < -1 ∨ 3 < f
  · rw [if_pos (.inr hf)]
    exact ⟨1, C, fun f0 => f0, fun l D t ad f0 htr => w_Law_make_IAE (x_TCM_make2 htr hg hf) ⟨rfl, rfl, by decide, by decide, by decide, by decide⟩, RR_21 h, sI_self, fun z => absurd z (by decide)⟩
  rw [if_neg (fun z => z.elim hg hf)]
  obtain ⟨j, hj, rfl, ej⟩ := g_of hg
  rw [ej]
  rcases e_of (m := 3) (by decide) (fun z => hf (.inl z)) (fun z => hf (.inr z)) with ⟨rfl, hk0⟩ | ⟨i, hi, rfl, ei, hk0⟩
  · rw [if_pos hk0]
    exact make_core (q := 0) h hj (.inl rfl) (fun z l D t ad htr => x_TCM_makeR (f := none) htr h.1.1 hj (fun _ w => by cases w) z) (fun z l D t ad => c_TCM_make (f := none) h.1.1 hj (fun _ w => by cases w) z)
  · rw [if_neg hk0]
    have i4 : i < 4 := by omega
    exact make_core h hj (.inr ⟨rfl, i4, rfl, rfl⟩) (fun z l D t ad htr => x_TCM_makeR (f := some i) htr h.1.1 hj (fun _ w => by cases w; exact i4) z) (fun z l D t ad => c_TCM_make (f := some i) h.1.1 hj (fun _ w => by cases w; exact i4) z)
theorem bad3 {a b c : Int32} {P : Prop} (h : (a < 0 ∨ 5 < a) ∨ (b < 0 ∨ 5 < b) ∨ (c < 0 ∨ 5 < c)) (f1 : (a < 0 ∨ 5 < a) → P) (f2 : ¬ (a < 0 ∨ 5 < a) → (b < 0 ∨ 5 < b) → P) (f3 : ¬ (a < 0 ∨ 5 < a) → ¬ (b < 0 ∨ 5 < b) → (c < 0 ∨ 5 < c) → P) : P := by
  by_cases ha : a < 0 ∨ 5 < a
  · exact f1 ha
  by_cases hb : b < 0 ∨ 5 < b
  · exact f2 ha hb
  exact f3 ha hb (h.elim (fun z => (ha z).elim) (fun z => z.elim (fun z => (hb z).elim) id))
theorem A_set {C M : CS} (h : RR C M) (a b c : Int32) : ∃ (r : Int32) (C2 : CS), (∀ (l : Launch) (D : va_G) (t : Nat → ClassId) (ad : Nat → Nat), Tr l → Cw l D t ad y_Law_set b_Law_set 5 [(0, 7, 10, 13), (0, 7, 14, 26), (0, 7, 18, 32)] [.ref (ad (ix 0 0)), .int a, .int b, .int c] C r C2) ∧ RR C2 (mset M a b c) ∧ (mset M a b c).1 21 0 = r := by
  unfold mset
  by_cases hb : (a < 0 ∨ 5 < a) ∨ (b < 0 ∨ 5 < b) ∨ (c < 0 ∨ 5 < c)
  · rw [if_pos hb]
    exact ⟨1, C, fun l D t ad htr => bad3 hb (fun z => w_Law_set_IAE (x_TCM_set1 htr z) ⟨rfl, rfl, by decide, by decide, by decide, by decide⟩) (fun z w => w_Law_set_IAE (x_TCM_set2 htr z w) ⟨rfl, rfl, by decide, by decide, by decide, by decide⟩) (fun z w y => w_Law_set_IAE (x_TCM_set3 htr z w y) ⟨rfl, rfl, by decide, by decide, by decide, by decide⟩), RR_21 h, sI_self⟩
  rw [if_neg hb]
  obtain ⟨a, ha, rfl, ea⟩ := g_of (fun z => hb (.inl z))
  obtain ⟨b, hb', rfl, eb⟩ := g_of (fun z => hb (.inr (.inl z)))
  obtain ⟨c, hc, rfl, ec⟩ := g_of (fun z => hb (.inr (.inr z)))
  unfold mgl
  rw [ea, eb, ec]
  obtain ⟨a1, a2, a3⟩ := RR_gl h ha
  obtain ⟨b1, b2, b3⟩ := RR_gl h hb'
  obtain ⟨c1, c2, c3⟩ := RR_gl h hc
  rw [a3, b3, c3, isA_mOf h.1 a1]
  by_cases hA : isA C 1 (C.2.1 0 0 a) = true
  · rw [if_pos hA]
    simp only
    have h' := RR_22 (v := 0) (RR_21 (v := 0) h)
    obtain ⟨s1, s2, s3⟩ := setting_all h'.1 a1 a2 b1 b2 c1 c2 hA sI_self
    have rr := RR_21 (v := (msetting (sI (sI M 21 0 0) 22 0 0) (on (C.2.1 0 0 a)) (C.2.1 0 0 b) (C.2.1 0 0 c)).1 22 0) (RR_keep h' s2 s1)
    refine ⟨_, _, fun l D t ad htr => ?_, rr, sI_self⟩
    rcases s3 with ⟨q1, q2⟩ | ⟨q1, q2⟩ | ⟨q1, q2⟩ | ⟨q1, q2⟩
    · rw [q2]
      exact w_Law_set (c_TCM_set h.1.1 ha hb' hc q1) ⟨rfl, rfl, by decide, by decide, by decide, by decide⟩
    · rw [q2]
      have hx := x_TCM_setR (l := l) (D := D) (t := t) (ad := ad) htr h.1.1 ha hb' hc (by rw [q1]; decide)
      rw [xR1 q1] at hx
      exact w_Law_set_UOE hx ⟨rfl, rfl, by decide, by decide, by decide, by decide⟩
    · rw [q2]
      have hx := x_TCM_setR (l := l) (D := D) (t := t) (ad := ad) htr h.1.1 ha hb' hc (by rw [q1]; decide)
      rw [xR2 (by rw [q1]; decide)] at hx
      exact w_Law_set_ISE hx ⟨rfl, rfl, by decide, by decide, by decide, by decide⟩
    · rw [q2]
      have hx := x_TCM_setR (l := l) (D := D) (t := t) (ad := ad) htr h.1.1 ha hb' hc (by rw [q1]; decide)
      rw [xR2 (by rw [q1]; decide)] at hx
      exact w_Law_set_ISE hx ⟨rfl, rfl, by decide, by decide, by decide, by decide⟩
  · rw [if_neg hA]
    simp only
    have e : csetting C (C.2.1 0 0 a) (C.2.1 0 0 b) (C.2.1 0 0 c) = (1, C) := by
      unfold csetting
      rw [if_neg (fun z => hA z.1)]
    refine ⟨3, C, fun l D t ad htr => ?_, RR_21 h, sI_self⟩
    have hx := x_TCM_setR (l := l) (D := D) (t := t) (ad := ad) htr h.1.1 ha hb' hc (by rw [e]; exact (by decide : ¬ (1 : Int32) = 0))
    rw [xR1 (by rw [e]), e] at hx
    exact w_Law_set_UOE hx ⟨rfl, rfl, by decide, by decide, by decide, by decide⟩
theorem A_get {C M : CS} (h : RR C M) (a b c : Int32) : ∃ (r : Int32) (C2 : CS) (F : (Nat → Int64) → Nat → Int64), (∀ (l : Launch) (D : va_G) (t : Nat → ClassId) (ad : Nat → Nat) (f0 : Nat → Int64), Tr l → Cwo l D t ad y_Law_get b_Law_get 6 [(0, 11, 14, 13), (0, 11, 18, 26), (0, 11, 22, 32)] [.ref (ad (ix 0 0)), .int a, .int b, .int c, .ref (ad 171)] C f0 r C2 (F f0)) ∧ RR C2 (mget M a b c).2 ∧ (mget M a b c).2.1 21 0 = r ∧ (r = 0 → ∀ f0, F f0 0 = (mget M a b c).1) := by
  unfold mget
  by_cases hb : (a < 0 ∨ 5 < a) ∨ (b < 0 ∨ 5 < b) ∨ (c < 0 ∨ 5 < c)
  · rw [if_pos hb]
    exact ⟨1, C, fun f0 => f0, fun l D t ad f0 htr => bad3 hb (fun z => w_Law_get_IAE (x_TCM_get1 htr z) ⟨rfl, rfl, by decide, by decide, by decide, by decide⟩) (fun z w => w_Law_get_IAE (x_TCM_get2 htr z w) ⟨rfl, rfl, by decide, by decide, by decide, by decide⟩) (fun z w y => w_Law_get_IAE (x_TCM_get3 htr z w y) ⟨rfl, rfl, by decide, by decide, by decide, by decide⟩), RR_21 h, sI_self, fun z => absurd z (by decide)⟩
  rw [if_neg hb]
  obtain ⟨a, ha, rfl, ea⟩ := g_of (fun z => hb (.inl z))
  obtain ⟨b, hb', rfl, eb⟩ := g_of (fun z => hb (.inr (.inl z)))
  obtain ⟨c, hc, rfl, ec⟩ := g_of (fun z => hb (.inr (.inr z)))
  unfold mgl
  rw [ea, eb, ec]
  obtain ⟨a1, a2, a3⟩ := RR_gl h ha
  obtain ⟨b1, b2, b3⟩ := RR_gl h hb'
  rw [a3, b3, isA_mOf h.1 a1]
  by_cases hA : isA C 1 (C.2.1 0 0 a) = true
  · rw [if_pos hA]
    simp only
    have h' := RR_22 (v := 0) (RR_21 (v := 0) h)
    rcases getting_all (k := C.2.1 0 0 b) h'.1 a1 a2 hA with ⟨v, v1, v2, e1, e2⟩ | ⟨e1, e2⟩
    · rw [e2]
      simp only
      rw [if_pos sI_self]
      have rr := RR_glob (RR_4 (i := 0) (RR_21 (v := (sI (sI M 21 0 0) 22 0 0).1 22 0) h') v1) hc v1 (lv_4 v2)
      refine ⟨0, _, fun f0 => vp_updL f0 0 v, fun l D t ad f0 htr => ?_, rr, by rw [s21]; exact sI_self, fun _ f0 => pk_uLs⟩
      have hx := c_TCM_get (l := l) (D := D) (t := t) (ad := ad) h.1.1 ha hb' hc (by rw [e1])
      rw [e1] at hx
      simp only [sJ_2, and_self, if_true] at hx
      exact w_Law_get hx ⟨rfl, rfl, by decide, by decide, by decide, by decide⟩
    · rw [e2]
      simp only
      rw [if_neg (by rw [sI_self]; decide)]
      have rr := RR_4 (i := 0) (RR_21 (v := (sI (sI (sI M 21 0 0) 22 0 0) 22 0 2).1 22 0) (RR_22 (v := 2) h')) okV_nil
      refine ⟨2, _, fun f0 => f0, fun l D t ad f0 htr => ?_, rr, by rw [sI_self, sI_self], fun z => absurd z (by decide)⟩
      have hx := x_TCM_getR (l := l) (D := D) (t := t) (ad := ad) htr h.1.1 ha hb' hc (by rw [e1]; exact (by decide : ¬ (2 : Int32) = 0))
      rw [xR2 (by rw [e1]; exact (by decide : ¬ (2 : Int32) = 1)), e1] at hx
      exact w_Law_get_ISE hx ⟨rfl, rfl, by decide, by decide, by decide, by decide⟩
  · rw [if_neg hA]
    simp only
    have e : cgetting C (C.2.1 0 0 a) (C.2.1 0 0 b) = (1, C) := by
      unfold cgetting
      rw [if_neg hA]
    refine ⟨3, C, fun f0 => f0, fun l D t ad f0 htr => ?_, RR_21 h, sI_self, fun z => absurd z (by decide)⟩
    have hx := x_TCM_getR (l := l) (D := D) (t := t) (ad := ad) htr h.1.1 ha hb' hc (by rw [e]; exact (by decide : ¬ (1 : Int32) = 0))
    rw [xR1 (by rw [e]), e] at hx
    exact w_Law_get_UOE hx ⟨rfl, rfl, by decide, by decide, by decide, by decide⟩
theorem A_meta {C M : CS} (h : RR C M) (a b : Int32) : ∃ (r : Int32) (C2 : CS), (∀ (l : Launch) (D : va_G) (t : Nat → ClassId) (ad : Nat → Nat), Tr l → Cw l D t ad y_Law_meta b_Law_meta 4 [(0, 6, 9, 13), (0, 6, 12, 32)] [.ref (ad (ix 0 0)), .int a, .int b] C r C2) ∧ RR C2 (mmeta M a b) ∧ (mmeta M a b).1 21 0 = r := by
  unfold mmeta
  by_cases hga : a < 0 ∨ 5 < a
  · rw [if_pos (.inl hga)]
    exact ⟨1, C, fun l D t ad htr => w_Law_meta_IAE (x_TCM_meta1 htr hga) ⟨rfl, rfl, by decide, by decide, by decide, by decide⟩, RR_21 h, sI_self⟩
  by_cases hgb : b < 0 ∨ 5 < b
  · rw [if_pos (.inr hgb)]
    exact ⟨1, C, fun l D t ad htr => w_Law_meta_IAE (x_TCM_meta2 htr hga hgb) ⟨rfl, rfl, by decide, by decide, by decide, by decide⟩, RR_21 h, sI_self⟩
  rw [if_neg (fun z => z.elim hga hgb)]
  obtain ⟨a, ha, rfl, ea⟩ := g_of hga
  obtain ⟨b, hb', rfl, eb⟩ := g_of hgb
  unfold mgl
  rw [ea, eb]
  obtain ⟨a1, a2, a3⟩ := RR_gl h ha
  obtain ⟨b1, b2, b3⟩ := RR_gl h hb'
  rw [a3, b3]
  have h' := RR_22 (v := 0) (RR_21 (v := 0) h)
  obtain ⟨s1, s2, s3⟩ := meta_all h'.1 a1 a2 b1 b2 sI_self
  refine ⟨_, _, fun l D t ad htr => ?_, RR_21 (RR_keep h' s2 s1), sI_self⟩
  have hc : (csetMeta C (C.2.1 0 0 a) (C.2.1 0 0 b)).1 = 0 ∨ (csetMeta C (C.2.1 0 0 a) (C.2.1 0 0 b)).1 = 1 := by
    unfold csetMeta
    split
    · exact .inl rfl
    · exact .inr rfl
  rcases hc with q1 | q1
  · rw [if_pos ((tr_0 s3).1 q1)]
    exact w_Law_meta (c_TCM_meta h.1.1 ha hb' q1) ⟨rfl, rfl, by decide, by decide, by decide, by decide⟩
  · rw [if_neg (fun z => absurd ((tr_0 s3).2 z) (by rw [q1]; decide))]
    have hx := x_TCM_metaR (l := l) (D := D) (t := t) (ad := ad) htr h.1.1 ha hb' (by rw [q1]; decide)
    rw [xR1 q1] at hx
    exact w_Law_meta_UOE hx ⟨rfl, rfl, by decide, by decide, by decide, by decide⟩
