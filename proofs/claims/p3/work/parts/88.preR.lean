/-! Processor.run: what it asks of a state, and what it does -/
def cpre (X : CS) : Prop := ∃ e n f p, e < 5 ∧ X.1 19 0 = nI (e + 1) ∧ (∀ i, i < e + 1 → ∃ n, n < 16 ∧ X.2.2 i = some n) ∧ X.2.2 e = some n ∧ n < 16 ∧ f < 4 ∧ p ≤ 16 ∧ X.1 4 n = nI f ∧ X.1 5 n = nI p ∧ (X.1 9 (f * 17 + p) = -1 ∨ ∃ o, o ≤ 21 ∧ X.1 9 (f * 17 + p) = nI o)
theorem KK_cpre {tr : Int32} {X M : CS} (h : KK tr X M) (hd : 0 < X.1 19 0) : cpre X := by
  obtain ⟨d, a, h, s, nb, low, ht, -⟩ := h
  obtain ⟨e, rfl⟩ : ∃ e, d = e + 1 := ⟨d - 1, by have := (depth_eq s).1.1 hd; omega⟩
  obtain ⟨f, p, hf, hp, h4, h5, es, ei, em, eim, h8, h9, hn⟩ := step_pre h s
  obtain ⟨s1, s2, s3, s4, s5, s6⟩ := s
  exact ⟨e, a e, f, p, by omega, s2, fun i hi => ⟨a i, (s4 i hi).1, (s4 i hi).2.1⟩, (s4 e (by omega)).2.1, hn, hf, hp, h4, h5, h.2.2.1.2.2.2.1 _ (by omega)⟩
noncomputable def crunT (C : CS) (v x : Int64) : Int32 × CS := (if (crun 200 (center C v x).1 (center C v x).2).1 = 0 ∧ 0 < (crun 200 (center C v x).1 (center C v x).2).2.1 19 0 then 2 else (crun 200 (center C v x).1 (center C v x).2).1, cend (cDepth (crun 200 (center C v x).1 (center C v x).2).2) 0 (crun 200 (center C v x).1 (center C v x).2).2)
theorem i32_nle {x : Int32} : ¬ x ≤ 0 ↔ 0 < x := Int32.not_le
theorem cself_eq {X : CS} {e n : Nat} (h : X.1 19 0 = nI (e + 1)) (he : e < 5) (hm : X.2.2 e = some n) : cself X = n := by
  unfold cself cact
  rw [cDepth_eq h (by omega), Nat.add_sub_cancel, hm]
  rfl
theorem cidx_eq {X : CS} {n f p : Nat} (h4 : X.1 4 n = nI f) (h5 : X.1 5 n = nI p) (hf : f < 4) (hp : p ≤ 16) : cidx X n = f * 17 + p := by
  unfold cidx
  rw [h4, h5, nI_clamp (by omega), nI_clamp (by omega)]
theorem crun_s {c : Nat} {X : CS} (h : 0 < X.1 19 0) : crun (c + 1) 0 X = crun c (cstep X).1 (cstep X).2 := if_pos ⟨rfl, h⟩
theorem okC_run {I : Int32 → CS → Prop} (hst : ∀ X, I 0 X → 0 < X.1 19 0 → I (cstep X).1 (cstep X).2) : ∀ (c : Nat) (tr : Int32) (X : CS), I tr X → I (crun c tr X).1 (crun c tr X).2
  | 0, _, _, h => h
  | c + 1, tr, X, h => by
    unfold crun
    by_cases z : tr = 0 ∧ 0 < X.1 19 0
    · rw [if_pos z]
      exact okC_run hst c _ _ (hst X (by rw [z.1] at h; exact h) z.2)
    · rw [if_neg z]; exact h
theorem run_e1 {a d : Int32} (h : ¬ a = 0) : some (Value.int a) = some (Value.int (if a = 0 ∧ 0 < d then 2 else a)) := by rw [if_neg (fun z => h z.1)]
theorem run_e2 {a d : Int32} (h : d ≤ 0) : some (Value.int a) = some (Value.int (if a = 0 ∧ 0 < d then 2 else a)) := by rw [if_neg (fun z => absurd h (i32_nle.2 z.2))]
theorem run_e3 {a d : Int32} (h : a = 0) (g : ¬ d ≤ 0) : some (Value.int 2) = some (Value.int (if a = 0 ∧ 0 < d then 2 else a)) := by rw [if_pos ⟨h, i32_nle.1 g⟩]
