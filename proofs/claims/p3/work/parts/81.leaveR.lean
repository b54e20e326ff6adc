def KK (tr : Int32) (C M : CS) : Prop := ∃ d a, HH C M ∧ Stk C M d a ∧ NB C ∧ Low C d a ∧ trR tr (M.1 22 0) ∧ (tr = 0 → d = 0 → C.2.1 5 0 0 = M.2.1 4 0 0 ∧ lv C (C.2.1 5 0 0))
theorem tr_0 {tr x : Int32} (h : trR tr x) : tr = 0 ↔ x = 0 := by
  rcases h with ⟨rfl, rfl⟩ | ⟨rfl, rfl⟩ | ⟨rfl, rfl⟩ | ⟨rfl, rfl⟩ <;> decide
theorem Low_fn {C C' : CS} {d : Nat} {a : Nat → Nat} (h4 : ∀ i, i < d → C'.1 4 (a i) = C.1 4 (a i)) (h5 : ∀ i, i + 1 < d → C'.1 5 (a i) = C.1 5 (a i)) (h8 : ∀ i, i + 1 < d → C'.1 8 (a i) = C.1 8 (a i)) (h10 : C'.1 10 = C.1 10) (h : Low C d a) : Low C' d a := fun i hi => by
  obtain ⟨f, p, x1, x2, x3, x4, x5⟩ := h i hi
  exact ⟨f, p, x1, x2, by rw [h4 i (by omega)]; exact x3, by rw [h5 i hi]; exact x4, by rw [h8 i hi, h10]; exact x5⟩
theorem NB_fn {C C' : CS} (h0 : C'.1 0 = C.1 0) (h1 : C'.1 1 = C.1 1) (h6 : C'.1 6 = C.1 6) (h13 : C'.1 13 = C.1 13) (h : NB C) : NB C' := by
  unfold NB
  rw [cactive_fn h0 h6, h1, h13]
  exact h
theorem Low_keep {C C' M M' : CS} {d : Nat} {a : Nat → Nat} (k : rkeep C' C M' M d a) (h : Low C d a) : Low C' d a := Low_fn (fun i hi => (k.1 i hi).1) (fun i hi => (k.1 i (by omega)).2.1) (fun i hi => (k.1 i (by omega)).2.2) k.2.1 h
theorem Low_tkeep {C C' M M' : CS} {d : Nat} {a : Nat → Nat} (k : tkeep C' C M' M) (h : Low C d a) : Low C' d a := Low_fn (fun i _ => by rw [k.1 4 (by decide) (by decide) (by decide)]) (fun i _ => by rw [k.1 5 (by decide) (by decide) (by decide)]) (fun i _ => by rw [k.1 8 (by decide) (by decide) (by decide)]) (k.1 10 (by decide) (by decide) (by decide)) h
/-- a step that leaves the stack as it was: the next place -/
theorem plain {C2 M2 : CS} {e n p : Nat} {a : Nat → Nat} {tr : Int32} (h2 : HH C2 M2) (s2 : Stk C2 M2 (e + 1) a) (nb2 : NB C2) (low2 : Low C2 (e + 1) a) (hn : a e = n) (ht : trR tr (M2.1 22 0)) (hp : C2.1 21 0 = nI p) (hp2 : p ≤ 16) : KK tr (if tr = 0 then sI C2 5 n (C2.1 21 0) else C2) (if M2.1 22 0 = 0 then sI M2 9 n (nI p) else M2) := by
  by_cases z : tr = 0
  · rw [if_pos z, if_pos ((tr_0 ht).1 z), hp]
    refine ⟨e + 1, a, HH_place h2 hp2, Stk_of (sI_f (by decide)) (sI_f (by decide)) (sI_f (by decide)) rfl (sI_f (by decide)) (sI_f (by decide)) s2, NB_fn (sI_f (by decide)) (sI_f (by decide)) (sI_f (by decide)) (sI_f (by decide)) nb2, Low_fn (fun i _ => by rw [sI_e (by decide)]) (fun i hi => ?_) (fun i _ => by rw [sI_e (by decide)]) (sI_f (by decide)) low2, by rw [sI_e (by decide)]; exact ht, fun _ w => by omega⟩
    rw [sI_n]
    intro w
    have := s2.2.2.2.2.1 i e (by omega) (by omega) (w.trans hn.symm)
    omega
  · rw [if_neg z, if_neg (fun w => z ((tr_0 ht).2 w))]
    exact ⟨e + 1, a, h2, s2, nb2, low2, ht, fun w => (z w).elim⟩
theorem plainT {C2 M2 : CS} {e n p : Nat} {a : Nat → Nat} {tr : Int32} (h2 : HH C2 M2) (s2 : Stk C2 M2 (e + 1) a) (nb2 : NB C2) (low2 : Low C2 (e + 1) a) (hn : a e = n) (ht : trR tr (M2.1 22 0)) (hq : C2.1 5 n = nI p) (hp : C2.1 21 0 = nI (p + 1)) (hp2 : p ≤ 15) : KK tr (if tr = 0 then sI C2 5 n (C2.1 21 0) else C2) (mT M2 n) := by
  obtain ⟨t1, -, -, t4⟩ := s2.2.2.2.1 e (by omega)
  have e9 : M2.1 9 n = nI p := by
    rw [hn] at t1 t4
    rw [← ((h2.2.2.2.2.1 n t1).2.2.1 (cactive_iff.1 t4).1).2.1]
    exact hq
  unfold mT
  rw [e9, nI_1]
  exact plain h2 s2 nb2 low2 hn ht hp (by omega)
theorem mlA {A : CS} {n : Nat} {q y s : Int32} {x : Int64} : sJ (sI (sI (sI A 9 n q) 13 0 y) 10 n s) 4 0 0 x = sI (sJ (sI (sI A 10 n s) 13 0 y) 4 0 0 x) 9 n q := by
  rw [sI_comm (C := A) (f := 9) (g := 13) (.inl (by decide)), sI_comm (f := 9) (g := 10) (.inl (by decide)), sI_comm (C := A) (f := 13) (g := 10) (.inl (by decide))]
  rfl
theorem Stk_pop {B F M G : CS} {e : Nat} {a : Nat → Nat} {v : Int32} (s : Stk B M (e + 1) a) (h0 : F.1 0 = B.1 0) (h6 : F.1 6 = fun b => if b = a e then v else B.1 6 b) (hv : ¬ v = 2) (h19 : F.1 19 0 = nI e) (hs : F.2.2 = B.2.2) (m12 : G.1 12 = M.1 12) (m13 : G.1 13 0 = nI e) : Stk F G e a ∧ ∀ b, cactive F b = true → cactive B b = true := by
  obtain ⟨s1, s2, s3, s4, s5, s6⟩ := s
  have hact : ∀ b, cactive F b = true ↔ cactive B b = true ∧ b ≠ a e := fun b => by
    rw [cactive_iff, cactive_iff, h0, h6]
    simp only
    by_cases w : b = a e
    · rw [if_pos w]
      exact ⟨fun z => (hv z.2).elim, fun z => (z.2 w).elim⟩
    · rw [if_neg w]
      exact ⟨fun z => ⟨z, w⟩, fun z => z.1⟩
  refine ⟨⟨by omega, h19, m13, fun i hi => ?_, fun i j hi hj => s5 i j (by omega) (by omega), fun b hb z => ?_⟩, fun b z => ((hact b).1 z).1⟩
  · obtain ⟨t1, t2, t3, t4⟩ := s4 i (by omega)
    refine ⟨t1, by rw [hs]; exact t2, by rw [m12]; exact t3, (hact _).2 ⟨t4, fun w => ?_⟩⟩
    have := s5 i e (by omega) (by omega) w
    omega
  · obtain ⟨z1, z2⟩ := (hact b).1 z
    obtain ⟨i, hi, w⟩ := s6 b hb z1
    refine ⟨i, ?_, w⟩
    by_cases y : i = e
    · subst y; exact (z2 w.symm).elim
    · omega
theorem sI_fn {C : CS} {f n : Nat} {v : Int32} : (sI C f n v).1 f = fun b => if b = n then v else C.1 f b := by
  funext b
  rw [sI_1]
  simp
/-- YIELD or RETURN: X is the class's state with the new STATE, A the reference's with the REGISTER noted -/
theorem leave_all {B X M A : CS} {e n p : Nat} {a : Nat → Nat} {v : Int32} {x : Int64} (s : Stk B M (e + 1) a) (nb : NB B) (low : Low B (e + 1) a) (hn : a e = n) (hv : v = 1 ∨ v = 3)
    (hX : HH X (sI A 10 n v)) (x6 : X.1 6 = fun b => if b = n then v else B.1 6 b) (xf : ∀ f, f ≠ 6 → f ≠ 7 → X.1 f = B.1 f) (x2 : X.2 = B.2) (af : ∀ f, f ≠ 11 → A.1 f = M.1 f) (hx : okV x) (lx : lv B x) (h22 : M.1 22 0 = 0) (h21 : B.1 21 0 = nI (p + 1)) (hp : p ≤ 15) (h9 : M.1 9 n = nI p) :
    KK 0 (sI (cleave X x) 5 n ((cleave X x).1 21 0)) (mleave (sI A 9 n (M.1 9 n + 1)) v x) := by
  obtain ⟨s1, s2, s3, s4, s5, s6⟩ := s
  have s' : Stk B M (e + 1) a := ⟨s1, s2, s3, s4, s5, s6⟩
  have hlX : live X = live B := live_fn (xf 0 (by decide) (by decide)) (xf 1 (by decide) (by decide)) (xf 13 (by decide) (by decide)) (xf 14 (by decide) (by decide))
  have x19 : X.1 19 0 = nI (e + 1) := by rw [xf 19 (by decide) (by decide)]; exact s2
  obtain ⟨t1, t2, t3, t4⟩ := s4 e (by omega)
  rw [hn] at t1 t2 t3 t4
  have oX := hX.1
  have okd : okC (sI X 19 0 (nI e)) := by
    obtain ⟨q1, q2, q3, -⟩ := oX
    refine ⟨q1, q2, q3, e, by omega, sI_self, fun i hi => ?_⟩
    obtain ⟨y1, y2, -⟩ := s4 i (by omega)
    exact ⟨a i, y1, by show X.2.2 i = _; rw [x2]; exact y2⟩
  have g1 : HH (sI X 19 0 (nI e)) (sJ (sI (sI A 10 n v) 13 0 (nI e)) 4 0 0 x) := HH_MJ hx (HH_M (by omega) (okM_13 (by omega) hX.2.1) (HH_C (by omega) okd hX))
  have v2 : ¬ v = 2 := by rcases hv with w | w <;> rw [w] <;> decide
  have eq19 : X.1 19 0 - 1 = nI e := by rw [x19, nI_pred]
  have yd : mDepth (sI A 9 n (nI (p + 1))) = e + 1 := mDepth_eq (by rw [sI_e (by decide), af 13 (by decide)]; exact s3) s1
  have ya : ∀ i, i < e + 1 → mAct (sI A 9 n (nI (p + 1))) i = a i := fun i hi => by
    obtain ⟨y1, -, y3, -⟩ := s4 i hi
    exact mAct_eq (by rw [sI_e (by decide), af 12 (by decide)]; exact y3) y1
  have yl : mleaveA (sI A 9 n (nI (p + 1))) v x = sI (sJ (sI (sI A 10 n v) 13 0 (nI e)) 4 0 0 x) 9 n (nI (p + 1)) := by
    unfold mleaveA
    rw [yd, Nat.add_sub_cancel, ya e (by omega), hn, sI_e (by decide), af 13 (by decide), s3, nI_pred, mlA]
  rw [h9, nI_1]
  by_cases e0 : e = 0
  · subst e0
    have eC : cleave X x = sJ (sI X 19 0 (nI 0)) 5 0 0 x := by
      unfold cleave
      rw [eq19, if_pos nI_0]
    have eM : mleave (sI A 9 n (nI (p + 1))) v x = sI (sJ (sI (sI A 10 n v) 13 0 (nI 0)) 4 0 0 x) 9 n (nI (p + 1)) := by
      unfold mleave
      rw [yd, if_pos rfl, yl]
    have e21 : (sJ (sI X 19 0 (nI 0)) 5 0 0 x).1 21 0 = nI (p + 1) := by rw [sJ_1, sI_e (by decide), xf 21 (by decide) (by decide)]; exact h21
    rw [eC, eM, e21]
    have g2 := HH_place (n := n) (p := p + 1) (HH_CJ (f := 5) (n := 0) (i := 0) (v := x) (.inr rfl) hx g1) (by omega)
    obtain ⟨k1, k2⟩ := Stk_pop (F := sI (sJ (sI X 19 0 (nI 0)) 5 0 0 x) 5 n (nI (p + 1))) (G := sI (sJ (sI (sI A 10 n v) 13 0 (nI 0)) 4 0 0 x) 9 n (nI (p + 1))) (v := v) s' (by rw [sI_f (by decide), sJ_1, sI_f (by decide), xf 0 (by decide) (by decide)]) (by rw [sI_f (by decide), sJ_1, sI_f (by decide), x6, hn]) v2 (by rw [sI_e (by decide), sJ_1, sI_self]) (by show X.2.2 = B.2.2; rw [x2]) (by rw [sI_f (by decide), sJ_1, sI_f (by decide), sI_f (by decide), af 12 (by decide)]) (by rw [sI_e (by decide), sJ_1, sI_self])
    refine ⟨0, a, g2, k1, fun w b hb z y => ?_, fun i hi => by omega, .inl ⟨rfl, by rw [sI_e (by decide), sJ_1, sI_e (by decide), sI_e (by decide), af 22 (by decide)]; exact h22⟩, fun _ _ => ⟨?_, ?_⟩⟩
    · rw [sI_e (by decide), sJ_1, sI_e (by decide), xf 13 (by decide) (by decide)] at w
      rw [sI_e (by decide), sJ_1, sI_e (by decide), xf 1 (by decide) (by decide)] at y
      exact nb w b hb (k2 b z) y
    · rw [sI_2f, sI_2f, sJ_2, sJ_2, if_pos ⟨rfl, rfl, rfl⟩, if_pos ⟨rfl, rfl, rfl⟩]
    · rw [sI_2f, sJ_2, if_pos ⟨rfl, rfl, rfl⟩]
      intro m hm w
      rw [live_fn (C' := sI (sJ (sI X 19 0 (nI 0)) 5 0 0 x) 5 n (nI (p + 1))) (C := X) (by rw [sI_f (by decide), sJ_1, sI_f (by decide)]) (by rw [sI_f (by decide), sJ_1, sI_f (by decide)]) (by rw [sI_f (by decide), sJ_1, sI_f (by decide)]) (by rw [sI_f (by decide), sJ_1, sI_f (by decide)]), hlX]
      exact lx m hm w
  · obtain ⟨r, rfl⟩ : ∃ r, e = r + 1 := ⟨e - 1, by omega⟩
    obtain ⟨u1, u2, u3, u4⟩ := s4 r (by omega)
    obtain ⟨fm, pm, l1, l2, l3, l4, l5⟩ := low r (by omega)
    generalize hm : a r = m at *
    have mn : m ≠ n := fun w => by
      have := s5 r (r + 1) (by omega) (by omega) (by rw [hm, hn]; exact w)
      omega
    have km : X.1 0 m = 2 := by rw [xf 0 (by decide) (by decide)]; exact (cactive_iff.1 u4).1
    obtain ⟨-, -, r4, -, -⟩ := hX.2.2.2.2.1 m u1
    obtain ⟨q1, q2, -⟩ := r4 km
    have f8 : A.1 8 m = nI fm := by rw [xf 4 (by decide) (by decide), l3, sI_e (by decide)] at q1; exact q1.symm
    have f9 : A.1 9 m = nI pm := by rw [xf 5 (by decide) (by decide), l4, sI_e (by decide)] at q2; exact q2.symm
    have hri := (hX.2.2.2.2.2.2 fm pm l1 (by omega)).2.1
    rw [xf 10 (by decide) (by decide), sI_e (by decide)] at hri
    have eC : cleave X x = sI (sJ (sI X 19 0 (nI (r + 1))) 3 m (fmod (B.1 10 (fm * 17 + pm)) 4) x) 5 m (nI (pm + 1)) := by
      unfold cleave
      have cD : cDepth X = r + 1 + 1 := cDepth_eq x19 s1
      have cA : cact X (r + 1 + 1 - 2) = m := by unfold cact; rw [x2, show r + 1 + 1 - 2 = r by omega, u2]; rfl
      rw [eq19, if_neg (nI_ne0 (by omega) (by omega)), cD]
      simp only [cA]
      rw [xf 8 (by decide) (by decide), l5, nI_clamp (by have := fmod_lt (B.1 10 (fm * 17 + pm)) (m := 4) (by decide); omega), sJ_1, sI_e (by decide), xf 5 (by decide) (by decide), l4, nI_1]
    have eM : mleave (sI A 9 n (nI (p + 1))) v x = sI (sI (sJ (sJ (sI (sI A 10 n v) 13 0 (nI (r + 1))) 4 0 0 x) 3 0 (m * 4 + fmod (B.1 10 (fm * 17 + pm)) 4) x) 9 m (nI (pm + 1))) 9 n (nI (p + 1)) := by
      unfold mleave
      have ei : mIns (sI A 9 n (nI (p + 1))) m = fm * 16 + pm := by
        unfold mIns
        rw [sI_e (by decide), sI_n mn, f8, f9, nI_clamp (by omega), nI_clamp (by omega)]
      rw [yd, if_neg (by omega), yl, show r + 1 + 1 - 2 = r by omega, ya r (by omega), hm, ei, sI_e (by decide), ← hri, sI_n mn, f9, nI_1]
      rw [sI_comm (C := sJ (sJ (sI (sI A 10 n v) 13 0 (nI (r + 1))) 4 0 0 x) 3 0 (m * 4 + fmod (B.1 10 (fm * 17 + pm)) 4) x) (f := 9) (n := m) (g := 9) (m := n) (.inr mn)]
      rfl
    have e21 : (sI (sJ (sI X 19 0 (nI (r + 1))) 3 m (fmod (B.1 10 (fm * 17 + pm)) 4) x) 5 m (nI (pm + 1))).1 21 0 = nI (p + 1) := by rw [sI_e (by decide), sJ_1, sI_e (by decide), xf 21 (by decide) (by decide)]; exact h21
    rw [eC, eM, e21]
    have x13 : (sI X 19 0 (nI (r + 1))).1 13 0 = B.1 13 0 := by rw [sI_e (by decide), xf 13 (by decide) (by decide)]
    have g2 := HH_reg (n := m) (i := fmod (B.1 10 (fm * 17 + pm)) 4) (v := x) g1 u1 (fmod_lt _ (by decide)) hx (fun q hq w => by rw [live_fn (C' := sI X 19 0 (nI (r + 1))) (C := X) (sI_f (by decide)) (sI_f (by decide)) (sI_f (by decide)) (sI_f (by decide)), hlX]; exact lx q hq w) (fun w => by rw [x13] at w; rw [sI_e (by decide), xf 1 (by decide) (by decide)]; exact nb w m u1 u4)
    have g3 := HH_place (n := n) (p := p + 1) (HH_place (n := m) (p := pm + 1) g2 (by omega)) (by omega)
    have F0 : ∀ f, f ≠ 5 → f ≠ 19 → (sI (sI (sJ (sI X 19 0 (nI (r + 1))) 3 m (fmod (B.1 10 (fm * 17 + pm)) 4) x) 5 m (nI (pm + 1))) 5 n (nI (p + 1))).1 f = X.1 f := fun f f5 f19 => by rw [sI_f f5, sI_f f5, sJ_1, sI_f f19]
    obtain ⟨k1, k2⟩ := Stk_pop (F := sI (sI (sJ (sI X 19 0 (nI (r + 1))) 3 m (fmod (B.1 10 (fm * 17 + pm)) 4) x) 5 m (nI (pm + 1))) 5 n (nI (p + 1))) (G := sI (sI (sJ (sJ (sI (sI A 10 n v) 13 0 (nI (r + 1))) 4 0 0 x) 3 0 (m * 4 + fmod (B.1 10 (fm * 17 + pm)) 4) x) 9 m (nI (pm + 1))) 9 n (nI (p + 1))) (v := v) s' (by rw [F0 0 (by decide) (by decide), xf 0 (by decide) (by decide)]) (by rw [F0 6 (by decide) (by decide), x6, hn]) v2 (by rw [sI_e (by decide), sI_e (by decide), sJ_1, sI_self]) (by show X.2.2 = B.2.2; rw [x2]) (by rw [sI_f (by decide), sI_f (by decide), sJ_1, sJ_1, sI_f (by decide), sI_f (by decide), af 12 (by decide)]) (by rw [sI_e (by decide), sI_e (by decide), sJ_1, sJ_1, sI_self])
    refine ⟨r + 1, a, g3, k1, fun w b hb z y => ?_, fun i hi => ?_, .inl ⟨rfl, by rw [sI_e (by decide), sI_e (by decide), sJ_1, sJ_1, sI_e (by decide), sI_e (by decide), af 22 (by decide)]; exact h22⟩, fun _ w => by omega⟩
    · rw [F0 13 (by decide) (by decide), xf 13 (by decide) (by decide)] at w
      rw [F0 1 (by decide) (by decide), xf 1 (by decide) (by decide)] at y
      exact nb w b hb (k2 b z) y
    · obtain ⟨f, q, y1, y2, y3, y4, y5⟩ := low i (by omega)
      have i1 : a i ≠ n := fun w => by
        have := s5 i (r + 1) (by omega) (by omega) (by rw [hn]; exact w)
        omega
      have i2 : a i ≠ m := fun w => by
        have := s5 i r (by omega) (by omega) (by rw [hm]; exact w)
        omega
      refine ⟨f, q, y1, y2, ?_, ?_, ?_⟩
      · rw [F0 4 (by decide) (by decide), xf 4 (by decide) (by decide)]; exact y3
      · rw [sI_n i1, sI_n i2, sJ_1, sI_e (by decide), xf 5 (by decide) (by decide)]; exact y4
      · rw [F0 8 (by decide) (by decide), F0 10 (by decide) (by decide), xf 8 (by decide) (by decide), xf 10 (by decide) (by decide)]; exact y5
