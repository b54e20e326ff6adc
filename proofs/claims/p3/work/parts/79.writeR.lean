/-! single writes on both sides -/
theorem HH_touch {C M : CS} {n : Nat} (h : HH C M) (hn : n < 16) : HH (ctouch C n) (mtouch M n) := HH_tab h hn (fun _ _ _ => rfl) (fun _ _ _ => rfl) (fun _ _ _ => rfl) (fun _ _ _ => rfl) h.1 h.2.1 h.2.2.2.2 (fun l m hm z => h.2.2.2.1.2.1 n m hn hm l z) (fun l k m hm z => h.2.2.2.1.2.2.2 n m hn hm l k z)
theorem HH_glob {C M : CS} {i : Nat} {v : Int64} (h : HH C M) (hi : i < 6) (hv : okV v) (l : lv C v) : HH (sJ C 0 0 i v) (sJ M 0 0 i v) := by
  obtain ⟨h1, h2, h3, ⟨f1, f2, f3, f4⟩, h5⟩ := h
  have hl : live (sJ C 0 0 i v) = live C := live_fn rfl rfl rfl rfl
  have hr : refsC (sJ C 0 0 i v) = refsC C := refsC_fn rfl rfl rfl (sJ_f (by decide)) (sJ_f (by decide)) (sJ_f (by decide))
  refine ⟨okC_J h1 hv, okM_J h2 hv, h3, ⟨?_, ?_, ?_, ?_⟩, ⟨?_, ⟨?_, h5.2.1.2⟩, h5.2.2⟩⟩
  · rw [hl]
    intro m hm z
    rcases z with ⟨j, hj, z⟩ | z
    · rw [sJ_2] at z
      by_cases q : j = i
      · rw [if_pos ⟨rfl, rfl, q⟩] at z; exact l m hm z
      · rw [if_neg (fun w => q w.2.2)] at z
        exact f1 m hm (.inl ⟨j, hj, z⟩)
    · rw [sJ_f (by decide)] at z
      exact f1 m hm (.inr z)
  · rw [hl, hr]; exact f2
  · rw [hr]; exact f3
  · rw [hl]; exact f4
  · intro b hb
    rw [sJ_f (g := 1) (by decide), sJ_f (g := 2) (by decide), sJ_f (g := 3) (by decide), sJ_f (g := 1) (by decide), sJ_f (g := 2) (by decide), sJ_f (g := 3) (by decide)]
    exact h5.1 b hb
  · intro j hj
    rw [sJ_2, sJ_2]
    by_cases q : j = i
    · rw [if_pos ⟨rfl, rfl, q⟩, if_pos ⟨rfl, rfl, q⟩]
    · rw [if_neg (fun w => q w.2.2), if_neg (fun w => q w.2.2)]
      exact h5.2.1.1 j hj
theorem HH_reg {C M : CS} {n i : Nat} {v : Int64} (h : HH C M) (hn : n < 16) (hi : i < 4) (hv : okV v) (l : lv C v) (nb : C.1 13 0 = 1 → ¬ C.1 1 n = 2) : HH (sJ C 3 n i v) (sJ M 3 0 (n * 4 + i) v) := by
  obtain ⟨h1, h2, h3, ⟨f1, f2, f3, f4⟩, h5⟩ := h
  have hl : live (sJ C 3 n i v) = live C := live_fn rfl rfl rfl rfl
  have hact : cactive (sJ C 3 n i v) = cactive C := cactive_fn rfl rfl
  have hrn : ∀ b m, b ≠ n → (refsC (sJ C 3 n i v) b m ↔ refsC C b m) := fun b m hb => by
    unfold refsC
    rw [sJ_f (g := 1) (by decide), sJ_f (g := 2) (by decide), sJ_n hb]
    rfl
  have hrr : ∀ m, refsC (sJ C 3 n i v) n m → refsC C n m ∨ v = oV m := fun m z => by
    rcases z with ⟨z, j, hj, y⟩ | ⟨z, y⟩
    · rw [sJ_2] at y
      by_cases q : j = i
      · rw [if_pos ⟨rfl, rfl, q⟩] at y; exact .inr y
      · rw [if_neg (fun w => q w.2.2)] at y
        exact .inl (.inl ⟨z, j, hj, y⟩)
    · rw [sJ_f (g := 1) (by decide), sJ_f (g := 2) (by decide)] at y
      exact .inl (.inr ⟨z, y⟩)
  refine ⟨okC_J h1 hv, okM_J h2 hv, h3, ⟨?_, ?_, ?_, ?_⟩, ⟨?_, ⟨?_, h5.2.1.2⟩, h5.2.2⟩⟩
  · rw [hl]
    intro m hm z
    rcases z with ⟨j, hj, z⟩ | ⟨b, hb, y, z⟩
    · rw [sJ_f (by decide)] at z
      exact f1 m hm (.inl ⟨j, hj, z⟩)
    · rw [hact] at y
      rcases z with z | ⟨j, hj, z⟩
      · exact f1 m hm (.inr ⟨b, hb, y, .inl z⟩)
      · rw [sJ_2] at z
        by_cases q : b = n ∧ j = i
        · rw [if_pos ⟨rfl, q⟩] at z; exact l m hm z
        · rw [if_neg (fun w => q w.2)] at z
          exact f1 m hm (.inr ⟨b, hb, y, .inr ⟨j, hj, z⟩⟩)
  · rw [hl]
    intro b m hb hm lb z
    by_cases q : b = n
    · subst q
      exact (hrr m z).elim (f2 b m hb hm lb) (l m hm)
    · exact f2 b m hb hm lb ((hrn b m q).1 z)
  · intro hp b m hb hm z y
    have q : b ≠ n := fun q => by subst q; exact nb hp z
    exact f3 hp b m hb hm z ((hrn b m q).1 y)
  · rw [hl]; exact f4
  · intro b hb
    obtain ⟨r1, r3, r4, r5, r6⟩ := h5.1 b hb
    refine ⟨r1, r3, r4, fun z j hj => ?_, ?_⟩
    · rw [sJ_2, sJ_2]
      by_cases q : b = n ∧ j = i
      · rw [if_pos ⟨rfl, q⟩, if_pos ⟨rfl, rfl, by omega⟩]
      · rw [if_neg (fun w => q w.2), if_neg (fun w => q (by omega))]
        exact r5 z j hj
    · rw [sJ_f (g := 1) (by decide), sJ_f (g := 2) (by decide), sJ_f (g := 1) (by decide), sJ_f (g := 2) (by decide)]
      exact r6
  · rw [sJ_f (g := 0) (by decide), sJ_f (g := 0) (by decide)]
    exact h5.2.1.1
/-- the PLACE of a coroutine -/
theorem HH_place {C M : CS} {n p : Nat} (h : HH C M) (hp : p ≤ 16) : HH (sI C 5 n (nI p)) (sI M 9 n (nI p)) := by
  obtain ⟨h1, h2, h3, h4, h5⟩ := h
  refine ⟨okC_5 h1 hp, okM_9 hp h2, Sm_fn (sI_f (by decide)) (sI_f (by decide)) (sI_f (by decide)) (sI_f (by decide)) (sI_f (by decide)) (sI_f (by decide)) (sI_f (by decide)) (sI_f (by decide)) h3, Safe_fn (sI_f (by decide)) (sI_f (by decide)) (sI_f (by decide)) (sI_f (by decide)) (sI_f (by decide)) (sI_f (by decide)) (sI_f (by decide)) rfl rfl rfl rfl h4, ⟨fun b hb => ?_, h5.2.1, h5.2.2⟩⟩
  obtain ⟨r1, r3, r4, r5, r6⟩ := h5.1 b hb
  refine ⟨r1, r3, fun z => ?_, r5, r6⟩
  obtain ⟨x1, x2, x3⟩ := r4 z
  refine ⟨x1, ?_, x3⟩
  rw [sI_1, sI_1]
  by_cases q : b = n
  · rw [if_pos ⟨rfl, q⟩, if_pos ⟨rfl, q⟩]
  · rw [if_neg (fun w => q w.2), if_neg (fun w => q w.2)]; exact x2
/-- the STATE of a coroutine -/
theorem HH_state {C M : CS} {n : Nat} {v : Int32} (h : HH C M) (hn : n < 16) (hv : v = 0 ∨ v = 1 ∨ v = 2 ∨ v = 3) (hk : C.1 0 n = 2) (h2' : v = 2 → live C n) (h0 : ¬ v = 0) (h1' : v = 1 → C.1 7 n = M.1 11 n) : HH (sI C 6 n v) (sI M 10 n v) := by
  obtain ⟨h1, h2, ⟨m1, m2, m3, m4⟩, ⟨f1, f2, f3, f4⟩, h5⟩ := h
  have hl : live (sI C 6 n v) = live C := live_fn (sI_f (by decide)) (sI_f (by decide)) (sI_f (by decide)) (sI_f (by decide))
  have hr : refsC (sI C 6 n v) = refsC C := refsC_fn (sI_f (by decide)) (sI_f (by decide)) (sI_f (by decide)) rfl rfl rfl
  have h13 : (sI C 6 n v).1 13 0 = C.1 13 0 := sI_e (by decide)
  refine ⟨okC_I h1 (by decide) (by decide) (by decide) (by decide) (by decide) (by decide) (by decide) (by decide), okM_keep (by decide) h2, ⟨fun b hb => ?_, m2, m3, m4⟩, ⟨?_, ?_, ?_, ?_⟩, ⟨fun b hb => ?_, h5.2.1, h5.2.2⟩⟩
  · obtain ⟨c1, c2, c3, c4⟩ := m1 b hb
    refine ⟨c1, c2, c3, ?_⟩
    rw [sI_1]
    split
    · exact hv
    · exact c4
  · rw [hl]
    intro m hm z
    rcases z with z | ⟨b, hb, y, z⟩
    · exact f1 m hm (.inl z)
    · by_cases q : b = n
      · subst q
        have v2 : v = 2 := by have := (cactive_iff.1 y).2; rw [sI_self] at this; exact this
        have ln := h2' v2
        rcases z with z | ⟨j, hj, z⟩
        · rw [z]; exact ln
        · exact f2 b m hb hm ln (.inl ⟨hk, j, hj, z⟩)
      · refine f1 m hm (.inr ⟨b, hb, ?_, z⟩)
        rw [cactive_iff] at y ⊢
        rw [sI_n q, sI_n q] at y
        exact y
  · rw [hl, hr]; exact f2
  · rw [hr, h13]
    intro hp b m hb hm z
    rw [sI_e (by decide)] at z ⊢
    exact f3 hp b m hb hm z
  · rw [hl]; exact f4
  · obtain ⟨r1, r3, r4, r5, r6⟩ := h5.1 b hb
    refine ⟨r1, r3, fun z => ?_, r5, r6⟩
    obtain ⟨x1, x2, x3, x4, x5⟩ := r4 z
    by_cases q : b = n
    · subst q
      rw [sI_self, sI_self]
      exact ⟨x1, x2, rfl, fun w => (h0 w).elim, h1'⟩
    · rw [sI_n q, sI_n q, sI_n q, sI_n q, sI_n q, sI_n q, sI_n q, sI_n q]
      exact ⟨x1, x2, x3, x4, x5⟩
/-- the REGISTER for what comes in, of an ACTIVE one -/
theorem HH_cin {C M : CS} {n a : Nat} (h : HH C M) (ha : a < 4) (h6 : C.1 6 n = 2) : HH (sI C 7 n (nI a)) (sI M 11 n (nI a)) := by
  obtain ⟨h1, h2, h3, h4, h5⟩ := h
  refine ⟨okC_7 h1 ha, okM_11 ha h2, Sm_fn (sI_f (by decide)) (sI_f (by decide)) (sI_f (by decide)) (sI_f (by decide)) (sI_f (by decide)) (sI_f (by decide)) (sI_f (by decide)) (sI_f (by decide)) h3, Safe_fn (sI_f (by decide)) (sI_f (by decide)) (sI_f (by decide)) (sI_f (by decide)) (sI_f (by decide)) (sI_f (by decide)) (sI_f (by decide)) rfl rfl rfl rfl h4, ⟨fun b hb => ?_, h5.2.1, h5.2.2⟩⟩
  obtain ⟨r1, r3, r4, r5, r6⟩ := h5.1 b hb
  refine ⟨r1, r3, fun z => ?_, r5, r6⟩
  obtain ⟨x1, x2, x3, x4, x5⟩ := r4 z
  by_cases q : b = n
  · subst q
    refine ⟨x1, x2, x3, fun w => ?_, fun w => ?_⟩
    · rw [sI_e (by decide), h6] at w; exact absurd w (by decide)
    · rw [sI_e (by decide), h6] at w; exact absurd w (by decide)
  · rw [sI_n q, sI_n q, sI_n q, sI_n q, sI_n q, sI_n q, sI_n q, sI_n q]
    exact ⟨x1, x2, x3, x4, x5⟩
theorem HH_win {C M : CS} {n a : Nat} (h : HH C M) (ha : a < 4) (h6 : C.1 6 n = 2) : HH C (sI M 11 n (nI a)) := by
  obtain ⟨h1, h2, h3, h4, h5⟩ := h
  refine ⟨h1, okM_11 ha h2, h3, h4, ⟨fun b hb => ?_, h5.2.1, h5.2.2⟩⟩
  obtain ⟨r1, r3, r4, r5, r6⟩ := h5.1 b hb
  refine ⟨r1, r3, fun z => ?_, r5, r6⟩
  obtain ⟨x1, x2, x3, x4, x5⟩ := r4 z
  by_cases q : b = n
  · subst q
    refine ⟨x1, x2, x3, x4, fun w => ?_⟩
    rw [h6] at w; exact absurd w (by decide)
  · rw [sI_n q, sI_n q, sI_n q, sI_n q]
    exact ⟨x1, x2, x3, x4, x5⟩
