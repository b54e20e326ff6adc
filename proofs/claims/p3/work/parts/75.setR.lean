/-! SETTING, META on both sides -/
theorem touch_1 {C M : CS} (r : Rel C M) {n : Nat} (hn : n < 16) : Rel (ctouch C n) (mtouch M n) := by
  have e1 : eq1 (ctouch C n) C := ⟨ctouch_2, fun f hf b => ctouch_o hf⟩
  have e5 : eq5 (mtouch M n) M := ⟨mtouch_2, fun f hf b => mtouch_1 hf⟩
  refine Rel_col r e1 e5 (fun b hb => ?_)
  have hc := (r.1 b hb).1.2
  have hcn := (r.1 n hn).1.2
  have hp := r.2.1.2.1
  unfold ctouch mtouch
  rw [← hp, ← hcn]
  split
  · rw [sI_1, sI_1]
    by_cases z : b = n
    · rw [if_pos ⟨rfl, z⟩, if_pos ⟨rfl, z⟩]
    · rw [if_neg (fun y => z y.2), if_neg (fun y => z y.2)]; exact hc
  · exact hc
theorem ctouch_col {C : CS} {n b : Nat} : (ctouch C n).1 1 b = C.1 1 b ∨ (C.1 13 0 = 1 ∧ C.1 1 b = 2 ∧ (ctouch C n).1 1 b = 1) := by
  unfold ctouch
  split
  · rename_i z
    rw [sI_1]
    by_cases y : b = n
    · subst y; rw [if_pos ⟨rfl, rfl⟩]; exact .inr ⟨z.1, z.2, rfl⟩
    · rw [if_neg (fun w => y w.2)]; exact .inl rfl
  · exact .inl rfl
theorem ctouch_n {C : CS} {n : Nat} (hp : C.1 13 0 = 1) : ¬ (ctouch C n).1 1 n = 2 := by
  unfold ctouch
  split
  · rw [sI_self]; decide
  · rename_i z
    exact fun y => z ⟨hp, y⟩
theorem live_touch {C : CS} {n m : Nat} : live (ctouch C n) m ↔ live C m := by
  unfold live cSw
  rw [ctouch_o (f := 0) (by decide), ctouch_o (f := 13) (by decide), ctouch_o (f := 14) (by decide)]
  rcases ctouch_col (C := C) (n := n) (b := m) with z | ⟨z, y, w⟩
  · rw [z]
  · rw [z]
    exact ⟨fun q => ⟨q.1, fun p => absurd p (by decide)⟩, fun q => ⟨q.1, fun p => absurd p (by decide)⟩⟩
theorem Sm_touch {C : CS} {n : Nat} (h : Sm C) : Sm (ctouch C n) := by
  unfold ctouch
  split
  · rename_i z
    have p2 : ¬ C.1 13 0 = 2 := by rw [z.1]; decide
    refine Sm_col h ⟨rfl, fun f hf b => sI_e hf⟩ p2 (fun b hb => ?_) (fun y => absurd (z.1.symm.trans y) (by decide))
    obtain ⟨-, k2, k3, -⟩ := h.1 b hb
    rw [sI_1]
    by_cases y : b = n
    · rw [if_pos ⟨rfl, y⟩]
      refine ⟨.inr (.inl rfl), fun w => ?_⟩
      have := k3 w
      rw [y, z.2] at this
      exact absurd this (by decide)
    · rw [if_neg (fun w => y w.2)]
      exact ⟨k2, k3⟩
  · exact h
theorem HH_tab {C C1 M M1 : CS} {n : Nat} (h : HH C M) (hn : n < 16) (i1 : ∀ f, f ≠ 2 → f ≠ 3 → C1.1 f = C.1 f) (i2 : ∀ f b, b ≠ n → C1.1 f b = C.1 f b) (j1 : ∀ f, f ≠ 1 → f ≠ 2 → C1.2.1 f = C.2.1 f) (j2 : ∀ f b, b ≠ n → C1.2.1 f b = C.2.1 f b) (o1 : okC C1) (o2 : okM M1) (r : Rel C1 M1)
    (hl : live C n → ∀ m, m < 16 → refsC C1 n m → live C m) (hm : live C n → C.1 0 n = 1 → ∀ m, m < 16 → C1.1 3 n = nI m → C.1 0 m = 1) : HH (ctouch C1 n) (mtouch M1 n) := by
  obtain ⟨h1, h2, hm', ⟨f1, f2, f3, f4⟩, h5⟩ := h
  have hsm : Sm C1 := Sm_fn (i1 0 (by decide) (by decide)) (i1 1 (by decide) (by decide)) (i1 6 (by decide) (by decide)) (i1 9 (by decide) (by decide)) (i1 13 (by decide) (by decide)) (i1 14 (by decide) (by decide)) (i1 15 (by decide) (by decide)) (i1 16 (by decide) (by decide)) hm'
  have e1 : eq1 (ctouch C1 n) C1 := ⟨ctouch_2, fun f hf b => ctouch_o hf⟩
  have e5 : eq5 (mtouch M1 n) M1 := ⟨mtouch_2, fun f hf b => mtouch_1 hf⟩
  have f := eq1_fn e1
  have hlive : ∀ m, live (ctouch C1 n) m ↔ live C m := fun m => by rw [live_touch, live_fn (i1 0 (by decide) (by decide)) (i1 1 (by decide) (by decide)) (i1 13 (by decide) (by decide)) (i1 14 (by decide) (by decide))]
  have hroots : rootsC (ctouch C1 n) = rootsC C := rootsC_fn (by rw [f 0 (by decide), i1 0 (by decide) (by decide)]) (by rw [f 6 (by decide), i1 6 (by decide) (by decide)]) (by rw [e1.1, j1 0 (by decide) (by decide)]) (by rw [e1.1, j1 3 (by decide) (by decide)])
  have hrefs : refsC (ctouch C1 n) = refsC C1 := refsC_fn (f 0 (by decide)) (f 2 (by decide)) (f 3 (by decide)) (by rw [e1.1]) (by rw [e1.1]) (by rw [e1.1])
  have hro : ∀ j m, j ≠ n → (refsC C1 j m ↔ refsC C j m) := fun j m hj => by
    unfold refsC cPairs
    rw [i2 0 j hj, i2 2 j hj, i2 3 j hj, j2 1 j hj, j2 2 j hj, j2 3 j hj]
  have k0 : (ctouch C1 n).1 0 = C.1 0 := by rw [f 0 (by decide), i1 0 (by decide) (by decide)]
  refine ⟨okC_col o1 e1, okM_eq5 e5 o2, Sm_touch hsm, ⟨?_, ?_, ?_, ?_⟩, touch_1 r hn⟩
  · rw [hroots]
    exact fun m hm z => (hlive m).2 (f1 m hm z)
  · rw [hrefs]
    intro j m hj hmm l z
    have l' := (hlive j).1 l
    refine (hlive m).2 ?_
    by_cases q : j = n
    · subst q; exact hl l' m hmm z
    · exact f2 j m hj hmm l' ((hro j m q).1 z)
  · rw [hrefs, f 13 (by decide), i1 13 (by decide) (by decide)]
    intro hp j m hj hm z y
    have hp1 : C1.1 13 0 = 1 := by rw [i1 13 (by decide) (by decide)]; exact hp
    have q : j ≠ n := fun q => by subst q; exact ctouch_n hp1 z
    have z2 : C.1 1 j = 2 := by
      rcases ctouch_col (C := C1) (n := n) (b := j) with w | ⟨-, w, -⟩
      · rw [w, i1 1 (by decide) (by decide)] at z; exact z
      · rw [i1 1 (by decide) (by decide)] at w; exact w
    have := f3 hp j m hj hm z2 ((hro j m q).1 y)
    rcases ctouch_col (C := C1) (n := n) (b := m) with w | ⟨-, -, w⟩
    · rw [w, i1 1 (by decide) (by decide)]; exact this
    · rw [w]; decide
  · intro j m hj hm' l z y
    rw [k0] at z ⊢
    rw [f 3 (by decide)] at y
    have l' := (hlive j).1 l
    by_cases q : j = n
    · subst q; exact hm l' z m hm' y
    · rw [i2 3 j q] at y
      exact f4 j m hj hm' l' z y
/-- what setting and the like leave as it was -/
def tkeep (C' C M' M : CS) : Prop := (∀ f, f ≠ 1 → f ≠ 2 → f ≠ 3 → C'.1 f = C.1 f) ∧ C'.2.2 = C.2.2 ∧ (∀ f, f ≠ 5 → f ≠ 6 → f ≠ 7 → f ≠ 22 → M'.1 f = M.1 f) ∧ (C.1 13 0 = 1 → ∀ b, C'.1 1 b = 2 → C.1 1 b = 2)
theorem tkeep_refl (C M : CS) : tkeep C C M M := ⟨fun _ _ _ _ => rfl, rfl, fun _ _ _ _ _ => rfl, fun _ _ z => z⟩
theorem tkeep_22 {C M : CS} {v : Int32} : tkeep C C (sI M 22 0 v) M := ⟨fun _ _ _ _ => rfl, rfl, fun _ _ _ _ h => sI_f h, fun _ _ z => z⟩
theorem tkeep_touch {C C1 M M1 : CS} {n : Nat} (i1 : ∀ f, f ≠ 2 → f ≠ 3 → C1.1 f = C.1 f) (j3 : C1.2.2 = C.2.2) (k1 : ∀ f, f ≠ 6 → f ≠ 7 → M1.1 f = M.1 f) : tkeep (ctouch C1 n) C (mtouch M1 n) M := by
  refine ⟨fun f h1 h2 h3 => ?_, by rw [ctouch_2]; exact j3, fun f h5 h6 h7 h8 => ?_, fun hp b z => ?_⟩
  · rw [← i1 f h2 h3]; exact funext fun b => ctouch_o h1
  · rw [← k1 f h6 h7]; exact funext fun b => mtouch_1 h5
  · rcases ctouch_col (C := C1) (n := n) (b := b) with w | ⟨-, w, -⟩
    · rw [w, i1 1 (by decide) (by decide)] at z; exact z
    · rw [i1 1 (by decide) (by decide)] at w; exact w
theorem Stk_keep {C C' M M' : CS} {d : Nat} {a : Nat → Nat} (k : tkeep C' C M' M) (s : Stk C M d a) : Stk C' M' d a := Stk_of (k.1 0 (by decide) (by decide) (by decide)) (k.1 6 (by decide) (by decide) (by decide)) (k.1 19 (by decide) (by decide) (by decide)) k.2.1 (k.2.2.1 12 (by decide) (by decide) (by decide) (by decide)) (k.2.2.1 13 (by decide) (by decide) (by decide) (by decide)) s
theorem NB_keep {C C' M M' : CS} (k : tkeep C' C M' M) (s : NB C) : NB C' := by
  unfold NB
  rw [k.1 13 (by decide) (by decide) (by decide), cactive_fn (k.1 0 (by decide) (by decide) (by decide)) (k.1 6 (by decide) (by decide) (by decide))]
  exact fun hp n hn z y => s hp n hn z (k.2.2.2 hp n y)
theorem mshift_e {n : Nat} : ∀ (c k : Nat) (M : CS), (mshift n c k M).1 = M.1 ∧ (mshift n c k M).2.2 = M.2.2 ∧ ∀ f b x, (mshift n c k M).2.1 f b x = if (f = 1 ∨ f = 2) ∧ b = 0 ∧ n * 6 + k ≤ x ∧ x < n * 6 + k + c then M.2.1 f b (x + 1) else M.2.1 f b x
  | 0, k, M => ⟨rfl, rfl, fun f b x => by rw [if_neg (by omega)]; rfl⟩
  | c + 1, k, M => by
    obtain ⟨h1, h2, h3⟩ := mshift_e (n := n) c (k + 1) (sJ (sJ M 1 0 (n * 6 + k) (M.2.1 1 0 (n * 6 + k + 1))) 2 0 (n * 6 + k) (M.2.1 2 0 (n * 6 + k + 1)))
    refine ⟨h1, h2, fun f b x => ?_⟩
    show (mshift n c (k + 1) (sJ (sJ M 1 0 (n * 6 + k) (M.2.1 1 0 (n * 6 + k + 1))) 2 0 (n * 6 + k) (M.2.1 2 0 (n * 6 + k + 1)))).2.1 f b x = _
    rw [h3 f b x]
    simp only [sJ_2]
    grind
theorem okC_2 {C : CS} {n p : Nat} (h : okC C) (hp : p ≤ 6) : okC (sI C 2 n (nI p)) := by
  obtain ⟨a, b, c, d⟩ := h
  refine ⟨fun m hm => ?_, b, ?_, ?_⟩
  · obtain ⟨a1, a2⟩ := a m hm
    refine ⟨?_, a2⟩
    rw [sI_1]
    split
    · exact ⟨p, hp, rfl⟩
    · exact a1
  · rw [sI_o (by decide)]; exact c
  · rw [sI_o (by decide)]; exact d
theorem okC_3 {C : CS} {n : Nat} {v : Int32} (h : okC C) (hv : v = -1 ∨ ∃ m, m < 16 ∧ v = nI m) : okC (sI C 3 n v) := by
  obtain ⟨a, b, c, d⟩ := h
  refine ⟨fun m hm => ?_, b, ?_, ?_⟩
  · obtain ⟨a1, a2, a3⟩ := a m hm
    refine ⟨a1, ?_, a3⟩
    rw [sI_1]
    split
    · exact hv
    · exact a2
  · rw [sI_o (by decide)]; exact c
  · rw [sI_o (by decide)]; exact d
theorem okC_R {C : CS} {f n : Nat} {g : Nat → Int64} (h : okC C) (hv : ∀ i, okV (g i)) : okC (sR C f n g) := by
  obtain ⟨a, b, c, d⟩ := h
  refine ⟨a, fun f' n' i' => ?_, c, d⟩
  rw [sR_2]
  split
  · exact hv _
  · exact b _ _ _
theorem okM_6 {M : CS} {n p : Nat} (hp : p ≤ 6) (h : okM M) : okM (sI M 6 n (nI p)) := by
  obtain ⟨h1, h2, h3, h4, h5⟩ := h
  refine ⟨fun m hm => ?_, fun f j => h2 f j, ?_, ?_, fun k hk => ?_⟩
  · obtain ⟨a1, a2⟩ := h1 m hm
    refine ⟨?_, a2⟩
    rw [sI_1]
    split
    · exact ⟨p, hp, rfl⟩
    · exact a1
  · rw [sI_e (by decide)]; exact h3
  · rw [sI_e (by decide)]; exact h4
  · rw [sI_e (by decide)]; exact h5 k hk
theorem okM_7 {M : CS} {n : Nat} {v : Int32} (hv : v = -1 ∨ ∃ m, m < 16 ∧ v = nI m) (h : okM M) : okM (sI M 7 n v) := by
  obtain ⟨h1, h2, h3, h4, h5⟩ := h
  refine ⟨fun m hm => ?_, fun f j => h2 f j, ?_, ?_, fun k hk => ?_⟩
  · obtain ⟨a1, a2, a3⟩ := h1 m hm
    refine ⟨a1, ?_, a3⟩
    rw [sI_1]
    split
    · exact hv
    · exact a2
  · rw [sI_e (by decide)]; exact h3
  · rw [sI_e (by decide)]; exact h4
  · rw [sI_e (by decide)]; exact h5 k hk
