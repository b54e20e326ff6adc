/-! RESUMING, YIELD and RETURN, and the end of a run, on both sides -/
theorem sI_comm {C : CS} {f n g m : Nat} {v w : Int32} (h : f ≠ g ∨ n ≠ m) : sI (sI C f n v) g m w = sI (sI C g m w) f n v := by
  unfold sI
  refine Prod.ext ?_ rfl
  funext a b
  show (if a = g ∧ b = m then w else if a = f ∧ b = n then v else C.1 a b) = if a = f ∧ b = n then v else if a = g ∧ b = m then w else C.1 a b
  by_cases z : a = g ∧ b = m
  · rw [if_pos z, if_neg (by omega), if_pos z]
  · rw [if_neg z, if_neg z]
theorem touch_in {C : CS} {n i : Nat} {x : Int64} {v : Int32} : ctouch (sI (sJ C 3 n i x) 6 n v) n = sI (sJ (ctouch C n) 3 n i x) 6 n v := by
  unfold ctouch
  rw [sI_e (by decide), sI_e (by decide), sJ_1]
  split
  · rw [sI_comm (.inl (by decide))]; rfl
  · rfl
theorem mtouch_in {M : CS} {n i : Nat} {x : Int64} : mtouch (sJ M 3 0 i x) n = sJ (mtouch M n) 3 0 i x := by
  unfold mtouch
  rw [sJ_1]
  split <;> rfl
theorem okM_12 {M : CS} {d n : Nat} (hn : n < 16) (h : okM M) : okM (sI M 12 d (nI n)) := by
  obtain ⟨h1, h2, h3, h4, h5⟩ := h
  refine ⟨fun m hm => ?_, fun f j => h2 f j, ?_, ?_, fun k hk => ?_⟩
  · rw [sI_e (by decide), sI_e (by decide), sI_e (by decide), sI_e (by decide)]; exact h1 m hm
  · rw [sI_e (by decide)]; exact h3
  · rw [sI_e (by decide)]; exact h4
  · rw [sI_1]
    split
    · exact ⟨n, hn, rfl⟩
    · exact h5 k hk
theorem cDepth_eq {C : CS} {d : Nat} (h : C.1 19 0 = nI d) (hd : d ≤ 5) : cDepth C = d := by unfold cDepth; rw [h]; exact nI_clamp (by omega)
def push (a : Nat → Nat) (d n : Nat) : Nat → Nat := fun i => if i = d then n else a i
def Low (C : CS) (d : Nat) (a : Nat → Nat) : Prop := ∀ i, i + 1 < d → ∃ f p, f < 4 ∧ p ≤ 15 ∧ C.1 4 (a i) = nI f ∧ C.1 5 (a i) = nI p ∧ C.1 8 (a i) = nI (fmod (C.1 10 (f * 17 + p)) 4)
theorem live_of_touch {C : CS} {n : Nat} {v : Int64} (l : lv C v) : lv (ctouch C n) v := fun m hm e => live_touch.2 (l m hm e)
theorem enter_all {C M : CS} {d : Nat} {a : Nat → Nat} {v x : Int64} (h : HH C M) (s : Stk C M d a) (nb : NB C) (hv : okV v) (l : lv C v) (hx : okV x) (lx : lv C x) :
    ((¬ (center C v x).1 = 0) ∧ (center C v x).2 = C ∧ ∃ t, menter M v x = sI M 22 0 t ∧ trR (center C v x).1 t) ∨
    ((center C v x).1 = 0 ∧ d < 5 ∧ ∃ n, n < 16 ∧ (∀ i, i < d → a i ≠ n) ∧ HH (center C v x).2 (menter M v x) ∧ Stk (center C v x).2 (menter M v x) (d + 1) (push a d n) ∧ NB (center C v x).2 ∧ (∀ f, f ≠ 1 → f ≠ 6 → f ≠ 19 → (center C v x).2.1 f = C.1 f) ∧ (menter M v x).1 22 0 = M.1 22 0) := by
  obtain ⟨s1, s2, s3, s4, s5, s6⟩ := s
  unfold center menter
  rw [isA_mOf h hv]
  by_cases ha : isA C 2 v = true
  · obtain ⟨a1, a2, a3⟩ := lv_on hv l ha
    obtain ⟨-, -, r4, -, -⟩ := h.2.2.2.2.1 (on v) a1
    obtain ⟨x1, x2, x3, x4, x5⟩ := r4 a3
    rw [if_pos ha]
    simp only
    by_cases y : ¬ C.1 6 (on v) = 3 ∧ ¬ C.1 6 (on v) = 2
    · have st : C.1 6 (on v) = 0 ∨ C.1 6 (on v) = 1 := by
        rcases (h.2.2.1.1 (on v) a1).2.2.2 with w | w | w | w
        · exact .inl w
        · exact .inr w
        · exact (y.2 w).elim
        · exact (y.1 w).elim
      rw [if_neg (show ¬ 1 < M.1 10 (on v) by rw [← x3]; rcases st with w | w <;> rw [w] <;> decide)]
      by_cases d5 : C.1 19 0 = 5
      · have c2 : centerOk C v = 2 := by unfold centerOk; rw [if_pos ⟨ha, y⟩, if_pos d5]
        rw [c2, if_neg (by decide), if_pos (by rw [s3, ← s2]; exact d5)]
        exact .inl ⟨show ¬ (2 : Int32) = 0 by decide, rfl, 2, rfl, .inr (.inr (.inl ⟨rfl, rfl⟩))⟩
      · have c0 : centerOk C v = 0 := by unfold centerOk; rw [if_pos ⟨ha, y⟩, if_neg d5]
        have hd : d < 5 := by
          rcases Nat.lt_or_ge d 5 with w | w
          · exact w
          · exact absurd (by rw [s2, show d = 5 by omega]; rfl) d5
        rw [c0, if_pos rfl, if_neg (by rw [s3, ← s2]; exact d5)]
        generalize hn : on v = n at *
        obtain ⟨-, -, -, -, ⟨ci, hci, hci2⟩, -⟩ := h.1.1 n a1
        have eci : (if M.1 10 n = 1 then (M.1 11 n).toNatClampNeg else 0) = ci := by
          rcases st with w | w
          · rw [if_neg (by rw [← x3, w]; decide)]
            have := x4 w
            rw [hci2] at this
            have := (nI_eq (a := ci) (b := 0) (by omega) (by omega)).1 this
            omega
          · rw [if_pos (by rw [← x3]; exact w), ← x5 w, hci2]
            exact nI_clamp (by omega)
        rw [hci2, nI_clamp (by omega), eci, cDepth_eq s2 s1, mDepth_eq s3 s1, touch_in, mtouch_in, s2, s3, nI_1]
        have an : ∀ i, i < d → a i ≠ n := fun i hi e => by
          have := (cactive_iff.1 (s4 i hi).2.2.2).2
          rw [e] at this
          exact y.2 this
        have t1 := HH_touch h a1
        have p13 : (ctouch C n).1 13 0 = C.1 13 0 := ctouch_o (by decide)
        have t2 := HH_reg (i := ci) (v := x) t1 a1 hci hx (live_of_touch lx) (fun w => ctouch_n (by rw [← p13]; exact w))
        have t3 := HH_state (n := n) (v := 2) t2 a1 (by decide) (by rw [sJ_1, ctouch_o (by decide)]; exact a3) (fun _ => by rw [live_fn (C' := sJ (ctouch C n) 3 n ci x) (C := ctouch C n) rfl rfl rfl rfl]; exact live_touch.2 a2) (by decide) (fun w => absurd w (by decide))
        have o12 : okM (sI (sI (sI (sJ (mtouch M n) 3 0 (n * 4 + ci) x) 10 n 2) 12 d (nI n)) 13 0 (nI (d + 1))) := okM_13 (by omega) (okM_12 a1 t3.2.1)
        have t4 := HH_M (f := 13) (n := 0) (v := nI (d + 1)) (by omega) o12 (HH_M (f := 12) (n := d) (v := nI n) (by omega) (okM_12 a1 t3.2.1) t3)
        have oC : okC (sI (sA (sI (sJ (ctouch C n) 3 n ci x) 6 n 2) d n) 19 0 (nI (d + 1))) := by
          obtain ⟨q1, q2, q3, -⟩ := t3.1
          refine ⟨q1, q2, q3, d + 1, by omega, sI_self, fun i hi => ?_⟩
          show ∃ n_1, n_1 < 16 ∧ va_up (ctouch C n).2.2 d (some n) i = some n_1
          unfold va_up
          by_cases w : i = d
          · rw [if_pos w]; exact ⟨n, a1, rfl⟩
          · rw [if_neg w, ctouch_2]
            obtain ⟨z1, z2, -⟩ := s4 i (by omega)
            exact ⟨a i, z1, z2⟩
        have oA : okC (sA (sI (sJ (ctouch C n) 3 n ci x) 6 n 2) d n) := by
          obtain ⟨q1, q2, q3, -⟩ := t3.1
          refine ⟨q1, q2, q3, d, s1, ?_, fun i hi => ?_⟩
          · rw [sA_1, sI_e (by decide), sJ_1, ctouch_o (by decide)]; exact s2
          · show ∃ n_1, n_1 < 16 ∧ va_up (ctouch C n).2.2 d (some n) i = some n_1
            unfold va_up
            rw [if_neg (by omega), ctouch_2]
            obtain ⟨z1, z2, -⟩ := s4 i (by omega)
            exact ⟨a i, z1, z2⟩
        have t5 : HH (sA (sI (sJ (ctouch C n) 3 n ci x) 6 n 2) d n) (sI (sI (sI (sJ (mtouch M n) 3 0 (n * 4 + ci) x) 10 n 2) 12 d (nI n)) 13 0 (nI (d + 1))) := ⟨oA, t4.2.1, t4.2.2.1, t4.2.2.2.1, t4.2.2.2.2⟩
        have t6 := HH_C (f := 19) (n := 0) (v := nI (d + 1)) (by omega) oC t5
        have hact : ∀ b, cactive (sI (sA (sI (sJ (ctouch C n) 3 n ci x) 6 n 2) d n) 19 0 (nI (d + 1))) b = true ↔ (b = n ∨ cactive C b = true) := fun b => by
          rw [cactive_iff, cactive_iff, sI_e (by decide), sI_e (by decide), sA_1, sI_e (by decide), sJ_1, ctouch_o (by decide), sI_1]
          by_cases w : b = n
          · rw [if_pos ⟨rfl, w⟩, w]
            exact ⟨fun _ => .inl rfl, fun _ => ⟨a3, rfl⟩⟩
          · rw [if_neg (fun q => w q.2), sJ_1, ctouch_o (by decide)]
            exact ⟨.inr, fun q => q.resolve_left w⟩
        refine .inr ⟨rfl, hd, n, a1, an, t6, ⟨by omega, sI_self, sI_self, fun i hi => ?_, fun i j hi hj => ?_, fun b hb z => ?_⟩, ?_, fun f f1 f6 f19 => ?_, ?_⟩
        · unfold push
          by_cases w : i = d
          · rw [if_pos w]
            refine ⟨a1, ?_, ?_, (hact n).2 (.inl rfl)⟩
            · show va_up (ctouch C n).2.2 d (some n) i = some n
              unfold va_up
              rw [if_pos w]
            · rw [sI_e (by decide), sI_1, if_pos ⟨rfl, w⟩]
          · rw [if_neg w]
            obtain ⟨z1, z2, z3, z4⟩ := s4 i (by omega)
            refine ⟨z1, ?_, ?_, (hact _).2 (.inr z4)⟩
            · show va_up (ctouch C n).2.2 d (some n) i = some (a i)
              unfold va_up
              rw [if_neg w, ctouch_2]; exact z2
            · rw [sI_e (by decide), sI_1, if_neg (fun q => w q.2), sI_e (by decide), sJ_1, mtouch_1 (by decide)]; exact z3
        · unfold push
          by_cases w : i = d <;> by_cases w2 : j = d
          · intro _; omega
          · rw [if_pos w, if_neg w2]; exact fun e => (an j (by omega) e.symm).elim
          · rw [if_neg w, if_pos w2]; exact fun e => (an i (by omega) e).elim
          · rw [if_neg w, if_neg w2]; exact s5 i j (by omega) (by omega)
        · rcases (hact b).1 z with w | w
          · exact ⟨d, by omega, by unfold push; rw [if_pos rfl, w]⟩
          · obtain ⟨i, hi, e⟩ := s6 b hb w
            exact ⟨i, by omega, by unfold push; rw [if_neg (by omega)]; exact e⟩
        · unfold NB
          rw [sI_e (by decide), sA_1, sI_e (by decide), sJ_1, p13]
          intro hp b hb z
          rw [sI_e (by decide), sA_1, sI_e (by decide), sJ_1]
          rcases (hact b).1 z with w | w
          · rw [w]; exact ctouch_n hp
          · rcases ctouch_col (C := C) (n := n) (b := b) with q | ⟨-, -, q⟩
            · rw [q]; exact nb hp b hb w
            · rw [q]; decide
        · rw [sI_f f19, sA_1, sI_f f6, sJ_1]
          exact funext fun b => ctouch_o f1
        · rw [sI_e (by decide), sI_e (by decide), sI_e (by decide), sJ_1, mtouch_1 (by decide)]
    · have c1 : centerOk C v = 1 := by unfold centerOk; rw [if_neg (fun w => y w.2)]
      rw [c1, if_neg (by decide)]
      have gt : 1 < M.1 10 (on v) := by
        rw [← x3]
        rcases (h.2.2.1.1 (on v) a1).2.2.2 with w | w | w | w
        · exact (y ⟨by rw [w]; decide, by rw [w]; decide⟩).elim
        · exact (y ⟨by rw [w]; decide, by rw [w]; decide⟩).elim
        · rw [w]; decide
        · rw [w]; decide
      rw [if_pos gt]
      exact .inl ⟨show ¬ (1 : Int32) = 0 by decide, rfl, 3, rfl, .inr (.inl ⟨rfl, rfl⟩)⟩
  · have c1 : centerOk C v = 1 := by unfold centerOk; rw [if_neg (fun w => ha w.1)]
    rw [c1, if_neg (by decide), if_neg ha]
    exact .inl ⟨show ¬ (1 : Int32) = 0 by decide, rfl, 3, rfl, .inr (.inl ⟨rfl, rfl⟩)⟩
theorem end_loop {d : Nat} {a : Nat → Nat} : ∀ (c i : Nat) (C M : CS), i + c = d → d ≤ 5 → HH C M → (∀ j, j < d → a j < 16 ∧ C.2.2 j = some (a j) ∧ M.1 12 j = nI (a j) ∧ C.1 0 (a j) = 2) → (∀ b, b < 16 → cactive C b = true → ∃ j, i ≤ j ∧ j < d ∧ a j = b) → HH (cend c i C) (sI (mend c i M) 13 0 0) ∧ (∀ b, b < 16 → ¬ cactive (cend c i C) b = true) ∧ (cend c i C).1 19 0 = 0 ∧ (cend c i C).2 = C.2 ∧ (mend c i M).2 = M.2 ∧ (∀ f, f ≠ 6 → f ≠ 19 → (cend c i C).1 f = C.1 f) ∧ (∀ f, f ≠ 10 → (mend c i M).1 f = M.1 f)
  | 0, i, C, M, hi, hd, h, hs, ha => by
    refine ⟨HH_C (by omega) ?_ (HH_M (by omega) (okM_13 (p := 0) (by omega) h.2.1) h), fun b hb z => ?_, sI_self, rfl, rfl, fun f h6 h19 => sI_f h19, fun f _ => rfl⟩
    · obtain ⟨q1, q2, q3, -⟩ := h.1
      exact ⟨q1, q2, q3, 0, by omega, sI_self, fun j hj => by omega⟩
    · have z' : cactive C b = true := by rw [← cactive_of (C' := sI C 19 0 0) (C := C) (sI_e (by decide)) (sI_e (by decide))]; exact z
      obtain ⟨j, h1, h2, -⟩ := ha b hb z'
      omega
  | c + 1, i, C, M, hi, hd, h, hs, ha => by
    obtain ⟨t1, t2, t3, t4⟩ := hs i (by omega)
    have e1 : cact C i = a i := by unfold cact; rw [t2]; rfl
    have e2 : mAct M i = a i := mAct_eq t3 t1
    unfold cend mend
    rw [e1, e2]
    have h' := HH_state (n := a i) (v := 3) h t1 (by decide) t4 (fun w => absurd w (by decide)) (by decide) (fun w => absurd w (by decide))
    obtain ⟨u1, u2, u3, u4, u5, u6, u7⟩ := end_loop (a := a) c (i + 1) _ _ (by omega) hd h' (fun j hj => by
      obtain ⟨y1, y2, y3, y4⟩ := hs j hj
      exact ⟨y1, y2, by rw [sI_e (by decide)]; exact y3, by rw [sI_e (by decide)]; exact y4⟩) (fun b hb z => by
      rw [cactive_iff, sI_e (by decide), sI_1] at z
      by_cases w : b = a i
      · rw [if_pos ⟨rfl, w⟩] at z; exact absurd z.2 (by decide)
      · rw [if_neg (fun q => w q.2)] at z
        obtain ⟨j, g1, g2, g3⟩ := ha b hb (cactive_iff.2 z)
        refine ⟨j, ?_, g2, g3⟩
        by_cases w2 : j = i
        · subst w2; exact (w g3.symm).elim
        · omega)
    exact ⟨u1, u2, u3, u4.trans rfl, u5.trans rfl, fun f f6 f19 => (u6 f f6 f19).trans (sI_f f6), fun f f10 => (u7 f f10).trans (sI_f f10)⟩
