def trR (tr x : Int32) : Prop := (tr = 0 ∧ x = 0) ∨ (tr = 1 ∧ x = 3) ∨ (tr = 2 ∧ x = 2) ∨ (tr = 3 ∧ x = 2)
theorem Rel_tab {C C1 M M1 : CS} {n : Nat} (r : Rel C M) (i1 : ∀ f, f ≠ 2 → f ≠ 3 → C1.1 f = C.1 f) (i2 : ∀ f b, b ≠ n → C1.1 f b = C.1 f b) (k1 : ∀ f, f ≠ 6 → f ≠ 7 → M1.1 f = M.1 f) (k2 : ∀ f b, b ≠ n → M1.1 f b = M.1 f b) (e2 : C1.1 2 n = M1.1 6 n) (e3 : C1.1 3 n = M1.1 7 n) (j0 : C1.2.1 0 0 = C.2.1 0 0) (j3 : C1.2.1 3 = C.2.1 3) (l0 : M1.2.1 0 0 = M.2.1 0 0) (l3 : M1.2.1 3 = M.2.1 3)
    (hkv : ∀ b, b < 16 → ∀ i, i < 6 → C1.2.1 1 b i = M1.2.1 1 0 (b * 6 + i) ∧ C1.2.1 2 b i = M1.2.1 2 0 (b * 6 + i)) : Rel C1 M1 := by
  refine ⟨fun b hb => ?_, ?_, ?_⟩
  · obtain ⟨r1, r3, r4, r5, r6⟩ := r.1 b hb
    rw [i1 0 (by decide) (by decide), i1 1 (by decide) (by decide), i1 4 (by decide) (by decide), i1 5 (by decide) (by decide), i1 6 (by decide) (by decide), i1 7 (by decide) (by decide), j3, l3, k1 4 (by decide) (by decide), k1 5 (by decide) (by decide), k1 8 (by decide) (by decide), k1 9 (by decide) (by decide), k1 10 (by decide) (by decide), k1 11 (by decide) (by decide)]
    refine ⟨r1, fun z => ?_, r4, r5, hkv b hb⟩
    by_cases q : b = n
    · subst q; exact ⟨e2, e3⟩
    · rw [i2 2 b q, i2 3 b q, k2 6 b q, k2 7 b q]; exact r3 z
  · unfold Rg
    rw [j0, l0, i1 13 (by decide) (by decide), i1 14 (by decide) (by decide), i1 15 (by decide) (by decide), i1 16 (by decide) (by decide), i1 17 (by decide) (by decide), i1 18 (by decide) (by decide), i1 20 (by decide) (by decide), k1 14 (by decide) (by decide), k1 15 (by decide) (by decide), k1 16 (by decide) (by decide), k1 17 (by decide) (by decide), k1 18 (by decide) (by decide), k1 19 (by decide) (by decide), k1 20 (by decide) (by decide)]
    exact r.2.1
  · unfold Ri
    rw [i1 9 (by decide) (by decide), i1 10 (by decide) (by decide), i1 11 (by decide) (by decide), i1 12 (by decide) (by decide), k1 0 (by decide) (by decide), k1 1 (by decide) (by decide), k1 2 (by decide) (by decide), k1 3 (by decide) (by decide)]
    exact r.2.2
theorem refs_1 {C : CS} {n m : Nat} (hk : C.1 0 n = 1) : refsC C n m ↔ ((∃ j, j < cPairs C n ∧ (C.2.1 1 n j = oV m ∨ C.2.1 2 n j = oV m)) ∨ (¬ C.1 3 n < 0 ∧ m = (C.1 3 n).toNatClampNeg)) := by
  unfold refsC
  have n2 : ¬ C.1 0 n = 2 := by rw [hk]; decide
  constructor
  · rintro (⟨h, -⟩ | ⟨-, h⟩)
    · exact (n2 h).elim
    · exact h
  · exact fun h => .inr ⟨n2, h⟩
theorem sJ_n {C : CS} {f n i g b : Nat} {v : Int64} (h : b ≠ n) : (sJ C f n i v).2.1 g b = C.2.1 g b := by funext c; rw [sJ_2, if_neg (fun z => h z.2.1)]
theorem sR_n {C : CS} {f n g b : Nat} {w : Nat → Int64} (h : b ≠ n) : (sR C f n w).2.1 g b = C.2.1 g b := by funext c; rw [sR_2, if_neg (fun z => h z.2)]
theorem sR_f {C : CS} {f n g : Nat} {w : Nat → Int64} (h : g ≠ f) : (sR C f n w).2.1 g = C.2.1 g := by funext b c; rw [sR_2, if_neg (fun z => h z.1)]
theorem sI_n {C : CS} {f n g b : Nat} {v : Int32} (h : b ≠ n) : (sI C f n v).1 g b = C.1 g b := by rw [sI_1, if_neg (fun z => h z.2)]
theorem append_all {C M : CS} {n : Nat} {k v : Int64} (h : HH C M) (hn : n < 16) (hk1 : C.1 0 n = 1) (h6 : ¬ C.1 2 n = 6) (hk : okV k) (lk : lv C k) (hv : okV v) (lvv : lv C v) : HH (ctouch (tappend C n k v) n) (mtouch (sI (sJ (sJ M 1 0 (n * 6 + mSize M n) k) 2 0 (n * 6 + mSize M n) v) 6 n (M.1 6 n + 1)) n) ∧ tkeep (ctouch (tappend C n k v) n) C (mtouch (sI (sJ (sJ M 1 0 (n * 6 + mSize M n) k) 2 0 (n * 6 + mSize M n) v) 6 n (M.1 6 n + 1)) n) M := by
  obtain ⟨-, P, hP, hP2, hP3, eP, eQ⟩ := find_eq (key := 0) h hn hk1
  have hP6 : P < 6 := lt6 hP (by rw [← hP2]; exact h6)
  have i1 : ∀ f, f ≠ 2 → f ≠ 3 → (tappend C n k v).1 f = C.1 f := fun f a b => by unfold tappend; rw [sI_f a]; rfl
  have i2 : ∀ f b, b ≠ n → (tappend C n k v).1 f b = C.1 f b := fun f b q => by unfold tappend; rw [sI_n q]; rfl
  have j1 : ∀ f, f ≠ 1 → f ≠ 2 → (tappend C n k v).2.1 f = C.2.1 f := fun f a b => by unfold tappend; rw [sI_2f, sJ_f b, sJ_f a]
  have j2 : ∀ f b, b ≠ n → (tappend C n k v).2.1 f b = C.2.1 f b := fun f b q => by unfold tappend; rw [sI_2f, sJ_n q, sJ_n q]
  have k1 : ∀ f, f ≠ 6 → f ≠ 7 → (sI (sJ (sJ M 1 0 (n * 6 + mSize M n) k) 2 0 (n * 6 + mSize M n) v) 6 n (M.1 6 n + 1)).1 f = M.1 f := fun f a b => by rw [sI_f a]; rfl
  have c2 : (tappend C n k v).1 2 n = nI (P + 1) := by unfold tappend; rw [sI_self, hP2, nI_1]
  have c3 : (tappend C n k v).1 3 n = C.1 3 n := by unfold tappend; rw [sI_e (by decide)]; rfl
  have ck : ∀ b i, (tappend C n k v).2.1 1 b i = if b = n ∧ i = P then k else C.2.1 1 b i := fun b i => by
    unfold tappend
    rw [eP, sI_2f, sJ_f (by decide), sJ_2]
    simp
  have cv : ∀ b i, (tappend C n k v).2.1 2 b i = if b = n ∧ i = P then v else C.2.1 2 b i := fun b i => by
    unfold tappend
    rw [eP, sI_2f, sJ_2, sJ_f (by decide)]
    simp
  have o1 : okC (tappend C n k v) := by unfold tappend; rw [hP2, nI_1]; exact okC_2 (okC_J (okC_J h.1 hk) hv) (by omega)
  have o2 : okM (sI (sJ (sJ M 1 0 (n * 6 + mSize M n) k) 2 0 (n * 6 + mSize M n) v) 6 n (M.1 6 n + 1)) := by rw [hP3, nI_1]; exact okM_6 (by omega) (okM_J (okM_J h.2.1 hk) hv)
  refine ⟨HH_tab h hn i1 i2 j1 j2 o1 o2 (Rel_tab h.2.2.2.2 i1 i2 k1 (fun f b q => by rw [sI_n q]; rfl) ?_ ?_ (by rw [j1 0 (by decide) (by decide)]) (j1 3 (by decide) (by decide)) (by rw [sI_2f, sJ_f (by decide), sJ_f (by decide)]) (by rw [sI_2f, sJ_f (by decide), sJ_f (by decide)]) (fun b hb i hi => ?_)) (fun l m hm z => ?_) (fun l _ m hm z => ?_), tkeep_touch i1 rfl k1⟩
  · rw [c2, sI_self, hP3, nI_1]
  · rw [c3, sI_e (by decide)]
    exact ((h.2.2.2.2.1 n hn).2.1 hk1).2
  · obtain ⟨x, y⟩ := (h.2.2.2.2.1 b hb).2.2.2.2 i hi
    rw [ck, cv, sI_2f, sJ_f (g := 1) (by decide), sJ_2, sJ_2, sJ_f (by decide), eQ]
    by_cases q : b = n ∧ i = P
    · have e : b * 6 + i = n * 6 + P := by omega
      simp [q, e]
    · have e : ¬ b * 6 + i = n * 6 + P := by omega
      simp only [q, e, and_false, if_false]
      exact ⟨x, y⟩
  · have hk' : (tappend C n k v).1 0 n = 1 := by rw [i1 0 (by decide) (by decide)]; exact hk1
    rw [refs_1 hk', cPairs_eq c2 (by omega), c3] at z
    rcases z with ⟨j, hj, z⟩ | z
    · rw [ck, cv] at z
      by_cases q : j = P
      · rw [if_pos ⟨rfl, q⟩, if_pos ⟨rfl, q⟩] at z
        exact z.elim (lk m hm) (lvv m hm)
      · rw [if_neg (fun w => q w.2), if_neg (fun w => q w.2)] at z
        exact h.2.2.2.1.2.1 n m hn hm l ((refs_1 hk1).2 (.inl ⟨j, by omega, z⟩))
    · exact h.2.2.2.1.2.1 n m hn hm l ((refs_1 hk1).2 (.inr z))
  · rw [c3] at z
    exact h.2.2.2.1.2.2.2 n m hn hm l hk1 z
theorem repl_all {C M : CS} {n q : Nat} {v : Int64} (h : HH C M) (hn : n < 16) (hk1 : C.1 0 n = 1) (hq : q < cPairs C n) (hv : okV v) (lvv : lv C v) : HH (ctouch (sJ C 2 n q v) n) (mtouch (sJ M 2 0 (n * 6 + q) v) n) ∧ tkeep (ctouch (sJ C 2 n q v) n) C (mtouch (sJ M 2 0 (n * 6 + q) v) n) M := by
  obtain ⟨-, P, hP, hP2, hP3, eP, eQ⟩ := find_eq (key := 0) h hn hk1
  rw [eP] at hq
  have i1 : ∀ f, f ≠ 2 → f ≠ 3 → (sJ C 2 n q v).1 f = C.1 f := fun f a b => rfl
  have k1 : ∀ f, f ≠ 6 → f ≠ 7 → (sJ M 2 0 (n * 6 + q) v).1 f = M.1 f := fun f a b => rfl
  have j1 : ∀ f, f ≠ 1 → f ≠ 2 → (sJ C 2 n q v).2.1 f = C.2.1 f := fun f a b => sJ_f b
  refine ⟨HH_tab h hn i1 (fun f b z => rfl) j1 (fun f b z => sJ_n z) (okC_J h.1 hv) (okM_J h.2.1 hv) (Rel_tab h.2.2.2.2 i1 (fun f b z => rfl) k1 (fun f b z => rfl) ((h.2.2.2.2.1 n hn).2.1 hk1).1 ((h.2.2.2.2.1 n hn).2.1 hk1).2 (by rw [sJ_f (by decide)]) (sJ_f (by decide)) (by rw [sJ_f (by decide)]) (sJ_f (by decide)) (fun b hb i hi => ?_)) (fun l m hm z => ?_) (fun l _ m hm z => ?_), tkeep_touch i1 rfl k1⟩
  · obtain ⟨x, y⟩ := (h.2.2.2.2.1 b hb).2.2.2.2 i hi
    rw [sJ_f (g := 1) (by decide), sJ_f (g := 1) (by decide), sJ_2, sJ_2]
    refine ⟨x, ?_⟩
    by_cases w : b = n ∧ i = q
    · rw [if_pos ⟨rfl, w⟩, if_pos ⟨rfl, rfl, by omega⟩]
    · rw [if_neg (fun z => w z.2), if_neg (fun z => w (by omega))]
      exact y
  · rw [refs_1 (C := sJ C 2 n q v) hk1] at z
    have ec : cPairs (sJ C 2 n q v) n = cPairs C n := rfl
    rw [ec, sJ_f (g := 1) (by decide), sJ_1] at z
    rcases z with ⟨j, hj, z⟩ | z
    · rw [sJ_2] at z
      by_cases w : j = q
      · rw [if_pos ⟨rfl, rfl, w⟩] at z
        rcases z with z | z
        · exact h.2.2.2.1.2.1 n m hn hm l ((refs_1 hk1).2 (.inl ⟨j, hj, .inl z⟩))
        · exact lvv m hm z
      · rw [if_neg (fun y => w y.2.2)] at z
        exact h.2.2.2.1.2.1 n m hn hm l ((refs_1 hk1).2 (.inl ⟨j, hj, z⟩))
    · exact h.2.2.2.1.2.1 n m hn hm l ((refs_1 hk1).2 (.inr z))
  · exact h.2.2.2.1.2.2.2 n m hn hm l hk1 z
theorem cpy_at {f : Nat → Int64} {q P i : Nat} (hq : q < P) : va_cpy f f (q + 1) q (P - q - 1) i = if q ≤ i ∧ i < P - 1 then f (i + 1) else f i := by
  unfold va_cpy
  by_cases z : q ≤ i ∧ i < P - 1
  · rw [if_pos (by omega), if_pos z, show q + 1 + (i - q) = i + 1 by omega]
  · rw [if_neg (by omega), if_neg z]
theorem take_all {C M : CS} {n q : Nat} (h : HH C M) (hn : n < 16) (hk1 : C.1 0 n = 1) (hq : q < cPairs C n) : HH (ctouch (ttake C n q) n) (mtouch (mshift n (mSize M n - 1 - q) q (sI M 6 n (M.1 6 n - 1))) n) ∧ tkeep (ctouch (ttake C n q) n) C (mtouch (mshift n (mSize M n - 1 - q) q (sI M 6 n (M.1 6 n - 1))) n) M := by
  obtain ⟨-, P, hP, hP2, hP3, eP, eQ⟩ := find_eq (key := 0) h hn hk1
  rw [eP] at hq
  obtain ⟨s1, s2, s3⟩ := mshift_e (n := n) (mSize M n - 1 - q) q (sI M 6 n (M.1 6 n - 1))
  have pd : nI P - 1 = nI (P - 1) := by rw [show P = (P - 1) + 1 by omega, nI_pred]; rfl
  have i1 : ∀ f, f ≠ 2 → f ≠ 3 → (ttake C n q).1 f = C.1 f := fun f a b => by unfold ttake; rw [sI_f a]; rfl
  have i2 : ∀ f b, b ≠ n → (ttake C n q).1 f b = C.1 f b := fun f b z => by unfold ttake; rw [sI_n z]; rfl
  have j1 : ∀ f, f ≠ 1 → f ≠ 2 → (ttake C n q).2.1 f = C.2.1 f := fun f a b => by unfold ttake; rw [sI_2f, sR_f b, sR_f a]
  have j2 : ∀ f b, b ≠ n → (ttake C n q).2.1 f b = C.2.1 f b := fun f b z => by unfold ttake; rw [sI_2f, sR_n z, sR_n z]
  have c2 : (ttake C n q).1 2 n = nI (P - 1) := by unfold ttake; rw [sI_self, hP2, pd]
  have c3 : (ttake C n q).1 3 n = C.1 3 n := by unfold ttake; rw [sI_e (by decide)]; rfl
  have ck : ∀ b i, (ttake C n q).2.1 1 b i = if b = n ∧ q ≤ i ∧ i < P - 1 then C.2.1 1 b (i + 1) else C.2.1 1 b i := fun b i => by
    unfold ttake
    rw [eP, sI_2f, sR_f (by decide), sR_2, cpy_at hq]
    by_cases z : b = n
    · subst z; simp
    · simp [z]
  have cv : ∀ b i, (ttake C n q).2.1 2 b i = if b = n ∧ q ≤ i ∧ i < P - 1 then C.2.1 2 b (i + 1) else C.2.1 2 b i := fun b i => by
    unfold ttake
    rw [eP, sI_2f, sR_2, sR_f (g := 2) (by decide), cpy_at hq]
    by_cases z : b = n
    · subst z; simp
    · simp [z]
  have k1 : ∀ f, f ≠ 6 → f ≠ 7 → (mshift n (mSize M n - 1 - q) q (sI M 6 n (M.1 6 n - 1))).1 f = M.1 f := fun f a b => by rw [s1, sI_f a]
  have o1 : okC (ttake C n q) := by
    unfold ttake
    rw [hP2, pd]
    exact okC_2 (okC_R (okC_R h.1 (fun i => by rw [eP, cpy_at hq]; split <;> exact h.1.2.1 _ _ _)) (fun i => by rw [eP, cpy_at hq]; split <;> exact h.1.2.1 _ _ _)) (by omega)
  have o2 : okM (mshift n (mSize M n - 1 - q) q (sI M 6 n (M.1 6 n - 1))) := by
    have o := okM_6 (n := n) (p := P - 1) (by omega) h.2.1
    rw [← pd, ← hP3] at o
    obtain ⟨b1, b2, b3⟩ := o
    unfold okM
    rw [s1]
    refine ⟨b1, fun f j => ?_, b3⟩
    rw [s3]
    split
    · exact b2 _ _
    · exact b2 _ _
  have m0 : ∀ f, f ≠ 1 → f ≠ 2 → (mshift n (mSize M n - 1 - q) q (sI M 6 n (M.1 6 n - 1))).2.1 f = M.2.1 f := fun f a b => by
    funext x y
    rw [s3, if_neg (fun z => z.1.elim a b)]
    rfl
  refine ⟨HH_tab h hn i1 i2 j1 j2 o1 o2 (Rel_tab h.2.2.2.2 i1 i2 k1 (fun f b z => by rw [s1, sI_n z]) ?_ ?_ (by rw [j1 0 (by decide) (by decide)]) (j1 3 (by decide) (by decide)) (by rw [m0 0 (by decide) (by decide)]) (m0 3 (by decide) (by decide)) (fun b hb i hi => ?_)) (fun l m hm z => ?_) (fun l _ m hm z => ?_), tkeep_touch i1 rfl k1⟩
  · rw [c2, s1, sI_self, hP3, pd]
  · rw [c3, s1, sI_e (by decide)]
    exact ((h.2.2.2.2.1 n hn).2.1 hk1).2
  · rw [ck, cv, s3, s3, eQ, sI_2f]
    by_cases z : b = n ∧ q ≤ i ∧ i < P - 1
    · obtain ⟨x, y⟩ := (h.2.2.2.2.1 b hb).2.2.2.2 (i + 1) (by omega)
      rw [if_pos z, if_pos z, if_pos (by omega), if_pos (by omega)]
      exact ⟨x, y⟩
    · obtain ⟨x, y⟩ := (h.2.2.2.2.1 b hb).2.2.2.2 i hi
      rw [if_neg z, if_neg z, if_neg (by omega), if_neg (by omega)]
      exact ⟨x, y⟩
  · have hk' : (ttake C n q).1 0 n = 1 := by rw [i1 0 (by decide) (by decide)]; exact hk1
    rw [refs_1 hk', cPairs_eq c2 (by omega), c3] at z
    rcases z with ⟨j, hj, z⟩ | z
    · rw [ck, cv] at z
      by_cases w : n = n ∧ q ≤ j ∧ j < P - 1
      · rw [if_pos w, if_pos w] at z
        exact h.2.2.2.1.2.1 n m hn hm l ((refs_1 hk1).2 (.inl ⟨j + 1, by omega, z⟩))
      · rw [if_neg w, if_neg w] at z
        exact h.2.2.2.1.2.1 n m hn hm l ((refs_1 hk1).2 (.inl ⟨j, by omega, z⟩))
    · exact h.2.2.2.1.2.1 n m hn hm l ((refs_1 hk1).2 (.inr z))
  · rw [c3] at z
    exact h.2.2.2.1.2.2.2 n m hn hm l hk1 z
theorem setting_all {C M : CS} {t k v : Int64} (h : HH C M) (ht : okV t) (lt : lv C t) (hk : okV k) (lk : lv C k) (hv : okV v) (lvv : lv C v) (ha : isA C 1 t = true) (h22 : M.1 22 0 = 0) : HH (csetting C t k v).2 (msetting M (on t) k v) ∧ tkeep (csetting C t k v).2 C (msetting M (on t) k v) M ∧ trR (csetting C t k v).1 ((msetting M (on t) k v).1 22 0) := by
  obtain ⟨a1, a2, a3⟩ := lv_on ht lt ha
  have t22 : ∀ (x : Int32), HH C (sI M 22 0 x) := fun x => HH_M (by omega) (okM_keep (by decide) h.2.1) h
  unfold csetting msetting
  by_cases z : k = -1000000000000
  · rw [if_neg (fun y => y.2 z), if_pos z]
    exact ⟨t22 3, tkeep_22, .inr (.inl ⟨rfl, sI_self⟩)⟩
  · rw [if_pos ⟨ha, z⟩, if_neg z, set_eq h 5 (on t) a1 a3 a2]
    cases hq : tlast C k 1 5 (on t) with
    | none => exact ⟨t22 2, tkeep_22, .inr (.inr (.inl ⟨rfl, sI_self⟩))⟩
    | some n =>
      obtain ⟨b1, b2, b3⟩ := last_eq h 5 (on t) a1 a3 a2 n hq
      obtain ⟨e, P, hP, hP2, hP3, eP, eQ⟩ := find_eq (key := k) h b1 b2
      simp only
      unfold mset1
      rw [← e]
      cases hf : tfind C n k with
      | none =>
        simp only
        by_cases y : v = -1000000000000
        · rw [if_pos y, if_pos y]
          exact ⟨h, tkeep_refl C M, .inl ⟨rfl, h22⟩⟩
        · rw [if_neg y, if_neg y]
          by_cases w : C.1 2 n = 6
          · rw [if_pos w, if_pos (by rw [hP3, ← hP2]; exact w)]
            exact ⟨t22 2, tkeep_22, .inr (.inr (.inr ⟨rfl, sI_self⟩))⟩
          · rw [if_neg w, if_neg (by rw [hP3, ← hP2]; exact w)]
            obtain ⟨u1, u2⟩ := append_all h b1 b2 w hk lk hv lvv
            exact ⟨u1, u2, .inl ⟨rfl, by rw [mtouch_1 (by decide), sI_e (by decide)]; exact h22⟩⟩
      | some q =>
        have hq' := tfind_lt hP2 hP hf
        simp only
        by_cases y : v = -1000000000000
        · rw [if_pos y, if_pos y]
          obtain ⟨u1, u2⟩ := take_all (q := q) h b1 b2 (by omega)
          exact ⟨u1, u2, .inl ⟨rfl, by rw [mtouch_1 (by decide), (mshift_e _ _ _).1, sI_e (by decide)]; exact h22⟩⟩
        · rw [if_neg y, if_neg y]
          obtain ⟨u1, u2⟩ := repl_all (q := q) h b1 b2 (by omega) hv lvv
          exact ⟨u1, u2, .inl ⟨rfl, by rw [mtouch_1 (by decide)]; exact h22⟩⟩
theorem meta1_all {C M : CS} {n : Nat} {x : Int32} (h : HH C M) (hn : n < 16) (hk1 : C.1 0 n = 1) (hx : x = -1 ∨ ∃ m, m < 16 ∧ x = nI m ∧ live C m ∧ C.1 0 m = 1) : HH (ctouch (sI C 3 n x) n) (mtouch (sI M 7 n x) n) ∧ tkeep (ctouch (sI C 3 n x) n) C (mtouch (sI M 7 n x) n) M := by
  have hx' : x = -1 ∨ ∃ m, m < 16 ∧ x = nI m := hx.imp id (fun ⟨m, h1, h2, _⟩ => ⟨m, h1, h2⟩)
  have i1 : ∀ f, f ≠ 2 → f ≠ 3 → (sI C 3 n x).1 f = C.1 f := fun f a b => sI_f b
  have k1 : ∀ f, f ≠ 6 → f ≠ 7 → (sI M 7 n x).1 f = M.1 f := fun f a b => sI_f b
  refine ⟨HH_tab h hn i1 (fun f b z => sI_n z) (fun f _ _ => rfl) (fun f b z => rfl) (okC_3 h.1 hx') (okM_7 hx' h.2.1) (Rel_tab h.2.2.2.2 i1 (fun f b z => sI_n z) k1 (fun f b z => sI_n z) ?_ ?_ rfl rfl rfl rfl (fun b hb => (h.2.2.2.2.1 b hb).2.2.2.2)) (fun l m hm z => ?_) (fun l _ m hm z => ?_), tkeep_touch i1 rfl k1⟩
  · rw [sI_e (by decide), sI_e (by decide)]
    exact ((h.2.2.2.2.1 n hn).2.1 hk1).1
  · rw [sI_self, sI_self]
  · rw [refs_1 (C := sI C 3 n x) (by rw [sI_e (by decide)]; exact hk1)] at z
    rcases z with ⟨j, hj, z⟩ | ⟨z, y⟩
    · refine h.2.2.2.1.2.1 n m hn hm l ((refs_1 hk1).2 (.inl ⟨j, ?_, z⟩))
      unfold cPairs at hj ⊢
      rw [sI_e (by decide)] at hj
      exact hj
    · rw [sI_self] at z y
      rcases hx with w | ⟨q, hq, w, lq, -⟩
      · rw [w] at z; exact absurd (by decide) z
      · rw [w, nI_clamp (by omega)] at y
        rw [y]; exact lq
  · rw [sI_self] at z
    rcases hx with w | ⟨q, hq, w, -, kq⟩
    · rw [w] at z
      have := congrArg (fun y => decide (y < 0)) z
      simp only [decide_eq_decide] at this
      exact absurd (this.1 (by decide)) (nI_pos (by omega))
    · rw [w] at z
      rw [← (nI_eq (by omega) (by omega)).1 z]
      exact kq
theorem meta_all {C M : CS} {t m : Int64} (h : HH C M) (ht : okV t) (lt : lv C t) (hm : okV m) (lm : lv C m) (h22 : M.1 22 0 = 0) : HH (csetMeta C t m).2 (mjoin M t m) ∧ tkeep (csetMeta C t m).2 C (mjoin M t m) M ∧ trR (csetMeta C t m).1 ((mjoin M t m).1 22 0) := by
  have t22 : ∀ (x : Int32), HH C (sI M 22 0 x) := fun x => HH_M (by omega) (okM_keep (by decide) h.2.1) h
  unfold csetMeta mjoin
  rw [isA_mOf h ht, isA_mOf h hm]
  by_cases ha : isA C 1 t = true
  · obtain ⟨a1, a2, a3⟩ := lv_on ht lt ha
    rw [if_pos ha]
    simp only
    by_cases z : m = -1000000000000
    · rw [if_pos ⟨ha, .inl z⟩, if_pos z, if_pos z]
      obtain ⟨u1, u2⟩ := meta1_all (x := -1) h a1 a3 (.inl rfl)
      exact ⟨u1, u2, .inl ⟨rfl, by rw [mtouch_1 (by decide), sI_e (by decide)]; exact h22⟩⟩
    · rw [if_neg z, if_neg z]
      by_cases hb : isA C 1 m = true
      · obtain ⟨b1, b2, b3⟩ := lv_on hm lm hb
        rw [if_pos ⟨ha, .inr hb⟩, if_pos hb]
        simp only
        obtain ⟨u1, u2⟩ := meta1_all (x := nI (on m)) h a1 a3 (.inr ⟨on m, b1, rfl, b2, b3⟩)
        exact ⟨u1, u2, .inl ⟨rfl, by rw [mtouch_1 (by decide), sI_e (by decide)]; exact h22⟩⟩
      · rw [if_neg (fun y => y.2.elim z hb), if_neg hb]
        exact ⟨t22 3, tkeep_22, .inr (.inl ⟨rfl, sI_self⟩)⟩
  · rw [if_neg (fun y => ha y.1), if_neg ha]
    exact ⟨t22 3, tkeep_22, .inr (.inl ⟨rfl, sI_self⟩)⟩
