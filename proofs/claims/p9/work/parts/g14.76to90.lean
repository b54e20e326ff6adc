-- part 76.set2R
section
def trR (tr x : Int32) : Prop := (tr = 0 ∧ x = 0) ∨ (tr = 1 ∧ x = 3) ∨ (tr = 2 ∧ x = 2) ∨ (tr = 3 ∧ x = 2)
theorem Rel_tab {C C1 M M1 : CS} {n : Nat} (r : Rel C M) (i1 : ∀ f, f ≠ 2 → f ≠ 3 → C1.1 f = C.1 f) (i2 : ∀ f b, b ≠ n → C1.1 f b = C.1 f b) (k1 : ∀ f, f ≠ 6 → f ≠ 7 → M1.1 f = M.1 f) (k2 : ∀ f b, b ≠ n → M1.1 f b = M.1 f b) (e2 : C1.1 2 n = M1.1 6 n) (e3 : C1.1 3 n = M1.1 7 n) (j0 : C1.2.1 0 0 = C.2.1 0 0) (j3 : C1.2.1 3 = C.2.1 3) (l0 : M1.2.1 0 0 = M.2.1 0 0) (l3 : M1.2.1 3 = M.2.1 3)
    (hkv : ∀ b, b < 16 → ∀ i, i < 6 → C1.2.1 1 b i = M1.2.1 1 0 (b * 6 + i) ∧ C1.2.1 2 b i = M1.2.1 2 0 (b * 6 + i)) : Rel C1 M1 := by
  refine ⟨fun b hb => ?_, ?_, ?_⟩
  · obtain ⟨r1, r3, r4, r5, r6⟩ := r.1 b hb
    rw [i1 0 (by decide) (by decide), i1 1 (by decide) (by decide), i1 4 (by decide) (by decide), i1 5 (by decide) (by decide), i1 6 (by decide) (by decide), i1 7 (by decide) (by decide), j3, l3, k1 4 (by decide) (by decide), k1 5 (by decide) (by decide), k1 8 (by decide) (by decide), k1 9 (by decide) (by decide), k1 10 (by decide) (by decide), k1 11 (by decide) (by decide)]
    refine ⟨r1, fun z => ?_, r4, r5, hkv b hb⟩
    by_cases q : b = n
    · subst q; exact ⟨e2, e3⟩
    · rw [i2 2 b q, i2 3 b q, k2 6 b q, k2 7 b q]; exact r3 z
  · unfold Rg
    rw [j0, l0, i1 13 (by decide) (by decide), i1 14 (by decide) (by decide), i1 15 (by decide) (by decide), i1 16 (by decide) (by decide), i1 17 (by decide) (by decide), i1 18 (by decide) (by decide), i1 20 (by decide) (by decide), k1 14 (by decide) (by decide), k1 15 (by decide) (by decide), k1 16 (by decide) (by decide), k1 17 (by decide) (by decide), k1 18 (by decide) (by decide), k1 19 (by decide) (by decide), k1 20 (by decide) (by decide)]
    exact r.2.1
  · unfold Ri
    rw [i1 9 (by decide) (by decide), i1 10 (by decide) (by decide), i1 11 (by decide) (by decide), i1 12 (by decide) (by decide), k1 0 (by decide) (by decide), k1 1 (by decide) (by decide), k1 2 (by decide) (by decide), k1 3 (by decide) (by decide)]
    exact r.2.2
theorem refs_1 {C : CS} {n m : Nat} (hk : C.1 0 n = 1) : refsC C n m ↔ ((∃ j, j < cPairs C n ∧ (C.2.1 1 n j = oV m ∨ C.2.1 2 n j = oV m)) ∨ (¬ C.1 3 n < 0 ∧ m = (C.1 3 n).toNatClampNeg)) := by
  unfold refsC
  have n2 : ¬ C.1 0 n = 2 := by rw [hk]; decide
  constructor
  · rintro (⟨h, -⟩ | ⟨-, h⟩)
    · exact (n2 h).elim
    · exact h
  · exact fun h => .inr ⟨n2, h⟩
theorem sJ_n {C : CS} {f n i g b : Nat} {v : Int64} (h : b ≠ n) : (sJ C f n i v).2.1 g b = C.2.1 g b := by funext c; rw [sJ_2, if_neg (fun z => h z.2.1)]
theorem sR_n {C : CS} {f n g b : Nat} {w : Nat → Int64} (h : b ≠ n) : (sR C f n w).2.1 g b = C.2.1 g b := by funext c; rw [sR_2, if_neg (fun z => h z.2)]
theorem sR_f {C : CS} {f n g : Nat} {w : Nat → Int64} (h : g ≠ f) : (sR C f n w).2.1 g = C.2.1 g := by funext b c; rw [sR_2, if_neg (fun z => h z.1)]
theorem sI_n {C : CS} {f n g b : Nat} {v : Int32} (h : b ≠ n) : (sI C f n v).1 g b = C.1 g b := by rw [sI_1, if_neg (fun z => h z.2)]
theorem append_all {C M : CS} {n : Nat} {k v : Int64} (h : HH C M) (hn : n < 16) (hk1 : C.1 0 n = 1) (h6 : ¬ C.1 2 n = 6) (hk : okV k) (lk : lv C k) (hv : okV v) (lvv : lv C v) : HH (ctouch (tappend C n k v) n) (mtouch (sI (sJ (sJ M 1 0 (n * 6 + mSize M n) k) 2 0 (n * 6 + mSize M n) v) 6 n (M.1 6 n + 1)) n) ∧ tkeep (ctouch (tappend C n k v) n) C (mtouch (sI (sJ (sJ M 1 0 (n * 6 + mSize M n) k) 2 0 (n * 6 + mSize M n) v) 6 n (M.1 6 n + 1)) n) M := by
  obtain ⟨-, P, hP, hP2, hP3, eP, eQ⟩ := find_eq (key := 0) h hn hk1
  have hP6 : P < 6 := lt6 hP (by rw [← hP2]; exact h6)
  have i1 : ∀ f, f ≠ 2 → f ≠ 3 → (tappend C n k v).1 f = C.1 f := fun f a b => by unfold tappend; rw [sI_f a]; rfl
  have i2 : ∀ f b, b ≠ n → (tappend C n k v).1 f b = C.1 f b := fun f b q => by unfold tappend; rw [sI_n q]; rfl
  have j1 : ∀ f, f ≠ 1 → f ≠ 2 → (tappend C n k v).2.1 f = C.2.1 f := fun f a b => by unfold tappend; rw [sI_2f, sJ_f b, sJ_f a]
  have j2 : ∀ f b, b ≠ n → (tappend C n k v).2.1 f b = C.2.1 f b := fun f b q => by unfold tappend; rw [sI_2f, sJ_n q, sJ_n q]
  have k1 : ∀ f, f ≠ 6 → f ≠ 7 → (sI (sJ (sJ M 1 0 (n * 6 + mSize M n) k) 2 0 (n * 6 + mSize M n) v) 6 n (M.1 6 n + 1)).1 f = M.1 f := fun f a b => by rw [sI_f a]; rfl
  have c2 : (tappend C n k v).1 2 n = nI (P + 1) := by unfold tappend; rw [sI_self, hP2, nI_1]
  have c3 : (tappend C n k v).1 3 n = C.1 3 n := by unfold tappend; rw [sI_e (by decide)]; rfl
  have ck : ∀ b i, (tappend C n k v).2.1 1 b i = if b = n ∧ i = P then k else C.2.1 1 b i := fun b i => by
    unfold tappend
    rw [eP, sI_2f, sJ_f (by decide), sJ_2]
    simp
  have cv : ∀ b i, (tappend C n k v).2.1 2 b i = if b = n ∧ i = P then v else C.2.1 2 b i := fun b i => by
    unfold tappend
    rw [eP, sI_2f, sJ_2, sJ_f (by decide)]
    simp
  have o1 : okC (tappend C n k v) := by unfold tappend; rw [hP2, nI_1]; exact okC_2 (okC_J (okC_J h.1 hk) hv) (by omega)
  have o2 : okM (sI (sJ (sJ M 1 0 (n * 6 + mSize M n) k) 2 0 (n * 6 + mSize M n) v) 6 n (M.1 6 n + 1)) := by rw [hP3, nI_1]; exact okM_6 (by omega) (okM_J (okM_J h.2.1 hk) hv)
  refine ⟨HH_tab h hn i1 i2 j1 j2 o1 o2 (Rel_tab h.2.2.2.2 i1 i2 k1 (fun f b q => by rw [sI_n q]; rfl) ?_ ?_ (by rw [j1 0 (by decide) (by decide)]) (j1 3 (by decide) (by decide)) (by rw [sI_2f, sJ_f (by decide), sJ_f (by decide)]) (by rw [sI_2f, sJ_f (by decide), sJ_f (by decide)]) (fun b hb i hi => ?_)) (fun l m hm z => ?_) (fun l _ m hm z => ?_), tkeep_touch i1 rfl k1⟩
  · rw [c2, sI_self, hP3, nI_1]
  · rw [c3, sI_e (by decide)]
    exact ((h.2.2.2.2.1 n hn).2.1 hk1).2
  · obtain ⟨x, y⟩ := (h.2.2.2.2.1 b hb).2.2.2.2 i hi
    rw [ck, cv, sI_2f, sJ_f (g := 1) (by decide), sJ_2, sJ_2, sJ_f (by decide), eQ]
    by_cases q : b = n ∧ i = P
    · have e : b * 6 + i = n * 6 + P := by omega
      simp [q, e]
    · have e : ¬ b * 6 + i = n * 6 + P := by omega
      simp only [q, e, and_false, if_false]
      exact ⟨x, y⟩
  · have hk' : (tappend C n k v).1 0 n = 1 := by rw [i1 0 (by decide) (by decide)]; exact hk1
    rw [refs_1 hk', cPairs_eq c2 (by omega), c3] at z
    rcases z with ⟨j, hj, z⟩ | z
    · rw [ck, cv] at z
      by_cases q : j = P
      · rw [if_pos ⟨rfl, q⟩, if_pos ⟨rfl, q⟩] at z
        exact z.elim (lk m hm) (lvv m hm)
      · rw [if_neg (fun w => q w.2), if_neg (fun w => q w.2)] at z
        exact h.2.2.2.1.2.1 n m hn hm l ((refs_1 hk1).2 (.inl ⟨j, by omega, z⟩))
    · exact h.2.2.2.1.2.1 n m hn hm l ((refs_1 hk1).2 (.inr z))
  · rw [c3] at z
    exact h.2.2.2.1.2.2.2 n m hn hm l hk1 z
theorem repl_all {C M : CS} {n q : Nat} {v : Int64} (h : HH C M) (hn : n < 16) (hk1 : C.1 0 n = 1) (hq : q < cPairs C n) (hv : okV v) (lvv : lv C v) : HH (ctouch (sJ C 2 n q v) n) (mtouch (sJ M 2 0 (n * 6 + q) v) n) ∧ tkeep (ctouch (sJ C 2 n q v) n) C (mtouch (sJ M 2 0 (n * 6 + q) v) n) M := by
  obtain ⟨-, P, hP, hP2, hP3, eP, eQ⟩ := find_eq (key := 0) h hn hk1
  rw [eP] at hq
  have i1 : ∀ f, f ≠ 2 → f ≠ 3 → (sJ C 2 n q v).1 f = C.1 f := fun f a b => rfl
  have k1 : ∀ f, f ≠ 6 → f ≠ 7 → (sJ M 2 0 (n * 6 + q) v).1 f = M.1 f := fun f a b => rfl
  have j1 : ∀ f, f ≠ 1 → f ≠ 2 → (sJ C 2 n q v).2.1 f = C.2.1 f := fun f a b => sJ_f b
  refine ⟨HH_tab h hn i1 (fun f b z => rfl) j1 (fun f b z => sJ_n z) (okC_J h.1 hv) (okM_J h.2.1 hv) (Rel_tab h.2.2.2.2 i1 (fun f b z => rfl) k1 (fun f b z => rfl) ((h.2.2.2.2.1 n hn).2.1 hk1).1 ((h.2.2.2.2.1 n hn).2.1 hk1).2 (by rw [sJ_f (by decide)]) (sJ_f (by decide)) (by rw [sJ_f (by decide)]) (sJ_f (by decide)) (fun b hb i hi => ?_)) (fun l m hm z => ?_) (fun l _ m hm z => ?_), tkeep_touch i1 rfl k1⟩
  · obtain ⟨x, y⟩ := (h.2.2.2.2.1 b hb).2.2.2.2 i hi
    rw [sJ_f (g := 1) (by decide), sJ_f (g := 1) (by decide), sJ_2, sJ_2]
    refine ⟨x, ?_⟩
    by_cases w : b = n ∧ i = q
    · rw [if_pos ⟨rfl, w⟩, if_pos ⟨rfl, rfl, by omega⟩]
    · rw [if_neg (fun z => w z.2), if_neg (fun z => w (by omega))]
      exact y
  · rw [refs_1 (C := sJ C 2 n q v) hk1] at z
    have ec : cPairs (sJ C 2 n q v) n = cPairs C n := rfl
    rw [ec, sJ_f (g := 1) (by decide), sJ_1] at z
    rcases z with ⟨j, hj, z⟩ | z
    · rw [sJ_2] at z
      by_cases w : j = q
      · rw [if_pos ⟨rfl, rfl, w⟩] at z
        rcases z with z | z
        · exact h.2.2.2.1.2.1 n m hn hm l ((refs_1 hk1).2 (.inl ⟨j, hj, .inl z⟩))
        · exact lvv m hm z
      · rw [if_neg (fun y => w y.2.2)] at z
        exact h.2.2.2.1.2.1 n m hn hm l ((refs_1 hk1).2 (.inl ⟨j, hj, z⟩))
    · exact h.2.2.2.1.2.1 n m hn hm l ((refs_1 hk1).2 (.inr z))
  · exact h.2.2.2.1.2.2.2 n m hn hm l hk1 z
theorem cpy_at {f : Nat → Int64} {q P i : Nat} (hq : q < P) : va_cpy f f (q + 1) q (P - q - 1) i = if q ≤ i ∧ i < P - 1 then f (i + 1) else f i := by
  unfold va_cpy
  by_cases z : q ≤ i ∧ i < P - 1
  · rw [if_pos (by omega), if_pos z, show q + 1 + (i - q) = i + 1 by omega]
  · rw [if_neg (by omega), if_neg z]
theorem take_all {C M : CS} {n q : Nat} (h : HH C M) (hn : n < 16) (hk1 : C.1 0 n = 1) (hq : q < cPairs C n) : HH (ctouch (ttake C n q) n) (mtouch (mshift n (mSize M n - 1 - q) q (sI M 6 n (M.1 6 n - 1))) n) ∧ tkeep (ctouch (ttake C n q) n) C (mtouch (mshift n (mSize M n - 1 - q) q (sI M 6 n (M.1 6 n - 1))) n) M := by
  obtain ⟨-, P, hP, hP2, hP3, eP, eQ⟩ := find_eq (key := 0) h hn hk1
  rw [eP] at hq
  obtain ⟨s1, s2, s3⟩ := mshift_e (n := n) (mSize M n - 1 - q) q (sI M 6 n (M.1 6 n - 1))
  have pd : nI P - 1 = nI (P - 1) := by rw [show P = (P - 1) + 1 by omega, nI_pred]; rfl
  have i1 : ∀ f, f ≠ 2 → f ≠ 3 → (ttake C n q).1 f = C.1 f := fun f a b => by unfold ttake; rw [sI_f a]; rfl
  have i2 : ∀ f b, b ≠ n → (ttake C n q).1 f b = C.1 f b := fun f b z => by unfold ttake; rw [sI_n z]; rfl
  have j1 : ∀ f, f ≠ 1 → f ≠ 2 → (ttake C n q).2.1 f = C.2.1 f := fun f a b => by unfold ttake; rw [sI_2f, sR_f b, sR_f a]
  have j2 : ∀ f b, b ≠ n → (ttake C n q).2.1 f b = C.2.1 f b := fun f b z => by unfold ttake; rw [sI_2f, sR_n z, sR_n z]
  have c2 : (ttake C n q).1 2 n = nI (P - 1) := by unfold ttake; rw [sI_self, hP2, pd]
  have c3 : (ttake C n q).1 3 n = C.1 3 n := by unfold ttake; rw [sI_e (by decide)]; rfl
  have ck : ∀ b i, (ttake C n q).2.1 1 b i = if b = n ∧ q ≤ i ∧ i < P - 1 then C.2.1 1 b (i + 1) else C.2.1 1 b i := fun b i => by
    unfold ttake
    rw [eP, sI_2f, sR_f (by decide), sR_2, cpy_at hq]
    by_cases z : b = n
    · subst z; simp
    · simp [z]
  have cv : ∀ b i, (ttake C n q).2.1 2 b i = if b = n ∧ q ≤ i ∧ i < P - 1 then C.2.1 2 b (i + 1) else C.2.1 2 b i := fun b i => by
    unfold ttake
    rw [eP, sI_2f, sR_2, sR_f (g := 2) (by decide), cpy_at hq]
    by_cases z : b = n
    · subst z; simp
    · simp [z]
  have k1 : ∀ f, f ≠ 6 → f ≠ 7 → (mshift n (mSize M n - 1 - q) q (sI M 6 n (M.1 6 n - 1))).1 f = M.1 f := fun f a b => by rw [s1, sI_f a]
  have o1 : okC (ttake C n q) := by
    unfold ttake
    rw [hP2, pd]
    exact okC_2 (okC_R (okC_R h.1 (fun i => by rw [eP, cpy_at hq]; split <;> exact h.1.2.1 _ _ _)) (fun i => by rw [eP, cpy_at hq]; split <;> exact h.1.2.1 _ _ _)) (by omega)
  have o2 : okM (mshift n (mSize M n - 1 - q) q (sI M 6 n (M.1 6 n - 1))) := by
    have o := okM_6 (n := n) (p := P - 1) (by omega) h.2.1
    rw [← pd, ← hP3] at o
    obtain ⟨b1, b2, b3⟩ := o
    unfold okM
    rw [s1]
    refine ⟨b1, fun f j => ?_, b3⟩
    rw [s3]
    split
    · exact b2 _ _
    · exact b2 _ _
  have m0 : ∀ f, f ≠ 1 → f ≠ 2 → (mshift n (mSize M n - 1 - q) q (sI M 6 n (M.1 6 n - 1))).2.1 f = M.2.1 f := fun f a b => by
    funext x y
    rw [s3, if_neg (fun z => z.1.elim a b)]
    rfl
  refine ⟨HH_tab h hn i1 i2 j1 j2 o1 o2 (Rel_tab h.2.2.2.2 i1 i2 k1 (fun f b z => by rw [s1, sI_n z]) ?_ ?_ (by rw [j1 0 (by decide) (by decide)]) (j1 3 (by decide) (by decide)) (by rw [m0 0 (by decide) (by decide)]) (m0 3 (by decide) (by decide)) (fun b hb i hi => ?_)) (fun l m hm z => ?_) (fun l _ m hm z => ?_), tkeep_touch i1 rfl k1⟩
  · rw [c2, s1, sI_self, hP3, pd]
  · rw [c3, s1, sI_e (by decide)]
    exact ((h.2.2.2.2.1 n hn).2.1 hk1).2
  · rw [ck, cv, s3, s3, eQ, sI_2f]
    by_cases z : b = n ∧ q ≤ i ∧ i < P - 1
    · obtain ⟨x, y⟩ := (h.2.2.2.2.1 b hb).2.2.2.2 (i + 1) (by omega)
      rw [if_pos z, if_pos z, if_pos (by omega), if_pos (by omega)]
      exact ⟨x, y⟩
    · obtain ⟨x, y⟩ := (h.2.2.2.2.1 b hb).2.2.2.2 i hi
      rw [if_neg z, if_neg z, if_neg (by omega), if_neg (by omega)]
      exact ⟨x, y⟩
  · have hk' : (ttake C n q).1 0 n = 1 := by rw [i1 0 (by decide) (by decide)]; exact hk1
    rw [refs_1 hk', cPairs_eq c2 (by omega), c3] at z
    rcases z with ⟨j, hj, z⟩ | z
    · rw [ck, cv] at z
      by_cases w : n = n ∧ q ≤ j ∧ j < P - 1
      · rw [if_pos w, if_pos w] at z
        exact h.2.2.2.1.2.1 n m hn hm l ((refs_1 hk1).2 (.inl ⟨j + 1, by omega, z⟩))
      · rw [if_neg w, if_neg w] at z
        exact h.2.2.2.1.2.1 n m hn hm l ((refs_1 hk1).2 (.inl ⟨j, by omega, z⟩))
    · exact h.2.2.2.1.2.1 n m hn hm l ((refs_1 hk1).2 (.inr z))
  · rw [c3] at z
    exact h.2.2.2.1.2.2.2 n m hn hm l hk1 z
theorem setting_all {C M : CS} {t k v : Int64} (h : HH C M) (ht : okV t) (lt : lv C t) (hk : okV k) (lk : lv C k) (hv : okV v) (lvv : lv C v) (ha : isA C 1 t = true) (h22 : M.1 22 0 = 0) : HH (csetting C t k v).2 (msetting M (on t) k v) ∧ tkeep (csetting C t k v).2 C (msetting M (on t) k v) M ∧ trR (csetting C t k v).1 ((msetting M (on t) k v).1 22 0) := by
  obtain ⟨a1, a2, a3⟩ := lv_on ht lt ha
  have t22 : ∀ (x : Int32), HH C (sI M 22 0 x) := fun x => HH_M (by omega) (okM_keep (by decide) h.2.1) h
  unfold csetting msetting
  by_cases z : k = -1000000000000
  · rw [if_neg (fun y => y.2 z), if_pos z]
    exact ⟨t22 3, tkeep_22, .inr (.inl ⟨rfl, sI_self⟩)⟩
  · rw [if_pos ⟨ha, z⟩, if_neg z, set_eq h 5 (on t) a1 a3 a2]
    cases hq : tlast C k 1 5 (on t) with
    | none => exact ⟨t22 2, tkeep_22, .inr (.inr (.inl ⟨rfl, sI_self⟩))⟩
    | some n =>
      obtain ⟨b1, b2, b3⟩ := last_eq h 5 (on t) a1 a3 a2 n hq
      obtain ⟨e, P, hP, hP2, hP3, eP, eQ⟩ := find_eq (key := k) h b1 b2
      simp only
      unfold mset1
      rw [← e]
      cases hf : tfind C n k with
      | none =>
        simp only
        by_cases y : v = -1000000000000
        · rw [if_pos y, if_pos y]
          exact ⟨h, tkeep_refl C M, .inl ⟨rfl, h22⟩⟩
        · rw [if_neg y, if_neg y]
          by_cases w : C.1 2 n = 6
          · rw [if_pos w, if_pos (by rw [hP3, ← hP2]; exact w)]
            exact ⟨t22 2, tkeep_22, .inr (.inr (.inr ⟨rfl, sI_self⟩))⟩
          · rw [if_neg w, if_neg (by rw [hP3, ← hP2]; exact w)]
            obtain ⟨u1, u2⟩ := append_all h b1 b2 w hk lk hv lvv
            exact ⟨u1, u2, .inl ⟨rfl, by rw [mtouch_1 (by decide), sI_e (by decide)]; exact h22⟩⟩
      | some q =>
        have hq' := tfind_lt hP2 hP hf
        simp only
        by_cases y : v = -1000000000000
        · rw [if_pos y, if_pos y]
          obtain ⟨u1, u2⟩ := take_all (q := q) h b1 b2 (by omega)
          exact ⟨u1, u2, .inl ⟨rfl, by rw [mtouch_1 (by decide), (mshift_e _ _ _).1, sI_e (by decide)]; exact h22⟩⟩
        · rw [if_neg y, if_neg y]
          obtain ⟨u1, u2⟩ := repl_all (q := q) h b1 b2 (by omega) hv lvv
          exact ⟨u1, u2, .inl ⟨rfl, by rw [mtouch_1 (by decide)]; exact h22⟩⟩
theorem meta1_all {C M : CS} {n : Nat} {x : Int32} (h : HH C M) (hn : n < 16) (hk1 : C.1 0 n = 1) (hx : x = -1 ∨ ∃ m, m < 16 ∧ x = nI m ∧ live C m ∧ C.1 0 m = 1) : HH (ctouch (sI C 3 n x) n) (mtouch (sI M 7 n x) n) ∧ tkeep (ctouch (sI C 3 n x) n) C (mtouch (sI M 7 n x) n) M := by
  have hx' : x = -1 ∨ ∃ m, m < 16 ∧ x = nI m := hx.imp id (fun ⟨m, h1, h2, _⟩ => ⟨m, h1, h2⟩)
  have i1 : ∀ f, f ≠ 2 → f ≠ 3 → (sI C 3 n x).1 f = C.1 f := fun f a b => sI_f b
  have k1 : ∀ f, f ≠ 6 → f ≠ 7 → (sI M 7 n x).1 f = M.1 f := fun f a b => sI_f b
  refine ⟨HH_tab h hn i1 (fun f b z => sI_n z) (fun f _ _ => rfl) (fun f b z => rfl) (okC_3 h.1 hx') (okM_7 hx' h.2.1) (Rel_tab h.2.2.2.2 i1 (fun f b z => sI_n z) k1 (fun f b z => sI_n z) ?_ ?_ rfl rfl rfl rfl (fun b hb => (h.2.2.2.2.1 b hb).2.2.2.2)) (fun l m hm z => ?_) (fun l _ m hm z => ?_), tkeep_touch i1 rfl k1⟩
  · rw [sI_e (by decide), sI_e (by decide)]
    exact ((h.2.2.2.2.1 n hn).2.1 hk1).1
  · rw [sI_self, sI_self]
  · rw [refs_1 (C := sI C 3 n x) (by rw [sI_e (by decide)]; exact hk1)] at z
    rcases z with ⟨j, hj, z⟩ | ⟨z, y⟩
    · refine h.2.2.2.1.2.1 n m hn hm l ((refs_1 hk1).2 (.inl ⟨j, ?_, z⟩))
      unfold cPairs at hj ⊢
      rw [sI_e (by decide)] at hj
      exact hj
    · rw [sI_self] at z y
      rcases hx with w | ⟨q, hq, w, lq, -⟩
      · rw [w] at z; exact absurd (by decide) z
      · rw [w, nI_clamp (by omega)] at y
        rw [y]; exact lq
  · rw [sI_self] at z
    rcases hx with w | ⟨q, hq, w, -, kq⟩
    · rw [w] at z
      have := congrArg (fun y => decide (y < 0)) z
      simp only [decide_eq_decide] at this
      exact absurd (this.1 (by decide)) (nI_pos (by omega))
    · rw [w] at z
      rw [← (nI_eq (by omega) (by omega)).1 z]
      exact kq
theorem meta_all {C M : CS} {t m : Int64} (h : HH C M) (ht : okV t) (lt : lv C t) (hm : okV m) (lm : lv C m) (h22 : M.1 22 0 = 0) : HH (csetMeta C t m).2 (mjoin M t m) ∧ tkeep (csetMeta C t m).2 C (mjoin M t m) M ∧ trR (csetMeta C t m).1 ((mjoin M t m).1 22 0) := by
  have t22 : ∀ (x : Int32), HH C (sI M 22 0 x) := fun x => HH_M (by omega) (okM_keep (by decide) h.2.1) h
  unfold csetMeta mjoin
  rw [isA_mOf h ht, isA_mOf h hm]
  by_cases ha : isA C 1 t = true
  · obtain ⟨a1, a2, a3⟩ := lv_on ht lt ha
    rw [if_pos ha]
    simp only
    by_cases z : m = -1000000000000
    · rw [if_pos ⟨ha, .inl z⟩, if_pos z, if_pos z]
      obtain ⟨u1, u2⟩ := meta1_all (x := -1) h a1 a3 (.inl rfl)
      exact ⟨u1, u2, .inl ⟨rfl, by rw [mtouch_1 (by decide), sI_e (by decide)]; exact h22⟩⟩
    · rw [if_neg z, if_neg z]
      by_cases hb : isA C 1 m = true
      · obtain ⟨b1, b2, b3⟩ := lv_on hm lm hb
        rw [if_pos ⟨ha, .inr hb⟩, if_pos hb]
        simp only
        obtain ⟨u1, u2⟩ := meta1_all (x := nI (on m)) h a1 a3 (.inr ⟨on m, b1, rfl, b2, b3⟩)
        exact ⟨u1, u2, .inl ⟨rfl, by rw [mtouch_1 (by decide), sI_e (by decide)]; exact h22⟩⟩
      · rw [if_neg (fun y => y.2.elim z hb), if_neg hb]
        exact ⟨t22 3, tkeep_22, .inr (.inl ⟨rfl, sI_self⟩)⟩
  · rw [if_neg (fun y => ha y.1), if_neg ha]
    exact ⟨t22 3, tkeep_22, .inr (.inl ⟨rfl, sI_self⟩)⟩
end

-- part 77.bornR
section
/-! A NEW OBJECT on both sides -/
theorem okC_4 {C : CS} {n q : Nat} (h : okC C) (hq : q < 4) : okC (sI C 4 n (nI q)) := by
  obtain ⟨a, b, c, d⟩ := h
  refine ⟨fun m hm => ?_, b, ?_, ?_⟩
  · obtain ⟨a1, a2, a3, a4⟩ := a m hm
    refine ⟨a1, a2, ?_, a4⟩
    rw [sI_1]
    split
    · exact ⟨q, hq, rfl⟩
    · exact a3
  · rw [sI_o (by decide)]; exact c
  · rw [sI_o (by decide)]; exact d
theorem okC_5 {C : CS} {n q : Nat} (h : okC C) (hq : q ≤ 16) : okC (sI C 5 n (nI q)) := by
  obtain ⟨a, b, c, d⟩ := h
  refine ⟨fun m hm => ?_, b, ?_, ?_⟩
  · obtain ⟨a1, a2, a3, a4, a5⟩ := a m hm
    refine ⟨a1, a2, a3, ?_, a5⟩
    rw [sI_1]
    split
    · exact ⟨q, hq, rfl⟩
    · exact a4
  · rw [sI_o (by decide)]; exact c
  · rw [sI_o (by decide)]; exact d
def cborn (C : CS) (n : Nat) (k f : Int32) : CS :=
    let C1 := sI C 0 n k
    let C2 := sI C1 1 n (cbirth C1 n)
    let C3 := if k = 1 then tclear C2 n else cclear C2 n f
    sJ (sI C3 15 0 (C3.1 15 0 + 1)) 4 0 0 (10000000000 + (nI n).toInt64)
/-- what a birth makes of the class's state, field by field -/
def bornC (D C : CS) (n : Nat) (k f : Int32) : Prop :=
  (D.1 0 = fun b => if b = n then k else C.1 0 b) ∧ (D.1 1 = fun b => if b = n then cbirth C n else C.1 1 b) ∧ (∀ g, g ≠ 0 → g ≠ 1 → g ≠ 15 → ∀ b, b ≠ n → D.1 g b = C.1 g b) ∧ (∀ g, 8 ≤ g → g ≠ 15 → D.1 g = C.1 g) ∧ D.1 15 0 = C.1 15 0 + 1 ∧
  (k = 1 → D.1 2 n = 0 ∧ D.1 3 n = -1 ∧ D.1 6 n = C.1 6 n) ∧ (k = 2 → D.1 4 n = f ∧ D.1 5 n = 0 ∧ D.1 6 n = 0 ∧ D.1 7 n = 0 ∧ ∀ i, i < 4 → D.2.1 3 n i = -1000000000000) ∧
  (∀ g, g ≠ 3 → g ≠ 4 → D.2.1 g = C.2.1 g) ∧ (∀ b, b ≠ n → D.2.1 3 b = C.2.1 3 b) ∧ D.2.1 4 0 0 = 10000000000 + (nI n).toInt64 ∧ D.2.2 = C.2.2
theorem cbirth_0 {C : CS} {n : Nat} {k : Int32} : cbirth (sI C 0 n k) n = cbirth C n := by unfold cbirth; rw [sI_e (by decide), sI_e (by decide)]
theorem cborn_f {C : CS} {n : Nat} {k f : Int32} (hk : k = 1 ∨ k = 2) : bornC (cborn C n k f) C n k f := by
  rcases hk with rfl | rfl
  · unfold cborn
    simp only [if_true, cbirth_0]
    unfold tclear
    refine ⟨?_, ?_, ?_, ?_, ?_, ?_, ?_, ?_, ?_, ?_, rfl⟩
    · funext b
      rw [sJ_1, sI_e (by decide), sI_e (by decide), sI_e (by decide), sI_e (by decide), sI_1]
      simp
    · funext b
      rw [sJ_1, sI_e (by decide), sI_e (by decide), sI_e (by decide), sI_1, sI_e (by decide)]
      simp
    · intro g h0 h1 h15 b hb
      rw [sJ_1, sI_e h15, sI_n hb, sI_n hb, sI_n hb, sI_n hb]
    · intro g h8 h15
      rw [sJ_1, sI_f h15, sI_f (by omega), sI_f (by omega), sI_f (by omega), sI_f (by omega)]
    · rw [sJ_1, sI_self, sI_e (by decide), sI_e (by decide), sI_e (by decide), sI_e (by decide)]
    · intro _
      rw [sJ_1]
      exact ⟨by rw [sI_e (by decide), sI_e (by decide), sI_self], by rw [sI_e (by decide), sI_self], by rw [sI_e (by decide), sI_e (by decide), sI_e (by decide), sI_e (by decide), sI_e (by decide)]⟩
    · intro z
      exact absurd z (by decide)
    · intro g h3 h4
      rw [sJ_f h4]
      rfl
    · intro b hb
      rw [sJ_f (by decide)]
      rfl
    · rw [sJ_2, if_pos ⟨rfl, rfl, rfl⟩]
  · unfold cborn
    simp only [show ¬ (2 : Int32) = 1 by decide, if_false, cbirth_0]
    unfold cclear
    refine ⟨?_, ?_, ?_, ?_, ?_, ?_, ?_, ?_, ?_, ?_, rfl⟩
    · funext b
      rw [sJ_1, sI_e (by decide), sI_e (by decide), sI_e (by decide), sI_e (by decide), sI_e (by decide), sR_1, sI_e (by decide), sI_1]
      simp
    · funext b
      rw [sJ_1, sI_e (by decide), sI_e (by decide), sI_e (by decide), sI_e (by decide), sI_e (by decide), sR_1, sI_1, sI_e (by decide)]
      simp
    · intro g h0 h1 h15 b hb
      rw [sJ_1, sI_e h15, sI_n hb, sI_n hb, sI_n hb, sI_n hb, sR_1, sI_n hb, sI_n hb]
    · intro g h8 h15
      rw [sJ_1, sI_f h15, sI_f (by omega), sI_f (by omega), sI_f (by omega), sI_f (by omega), sR_1, sI_f (by omega), sI_f (by omega)]
    · rw [sJ_1, sI_self, sI_e (by decide), sI_e (by decide), sI_e (by decide), sI_e (by decide), sR_1, sI_e (by decide), sI_e (by decide)]
    · intro z
      exact absurd z (by decide)
    · intro _
      rw [sJ_1]
      refine ⟨by rw [sI_e (by decide), sI_e (by decide), sI_e (by decide), sI_e (by decide), sI_self], by rw [sI_e (by decide), sI_e (by decide), sI_e (by decide), sI_self], by rw [sI_e (by decide), sI_e (by decide), sI_self], by rw [sI_e (by decide), sI_self], fun i hi => ?_⟩
      rw [sJ_f (by decide), sI_2f, sI_2f, sI_2f, sI_2f, sI_2f, sR_2, if_pos ⟨rfl, rfl⟩]
      unfold fil
      rw [if_pos hi]
    · intro g h3 h4
      rw [sJ_f h4, sI_2f, sI_2f, sI_2f, sI_2f, sI_2f, sR_f h3]
      rfl
    · intro b hb
      rw [sJ_f (by decide), sI_2f, sI_2f, sI_2f, sI_2f, sI_2f, sR_n hb]
      rfl
    · rw [sJ_2, if_pos ⟨rfl, rfl, rfl⟩]
def bornM (E M : CS) (n : Nat) (k g : Int32) : Prop :=
  (E.1 4 = fun b => if b = n then k else M.1 4 b) ∧ (E.1 5 = fun b => if b = n then (if M.1 14 0 = 1 ∨ (M.1 14 0 = 2 ∧ ¬ nI n < M.1 15 0) then 2 else 0) else M.1 5 b) ∧ (∀ q, q ≠ 16 → ∀ b, b ≠ n → E.1 q b = M.1 q b) ∧ (∀ q, q < 4 ∨ 10 < q → q ≠ 16 → E.1 q = M.1 q) ∧ E.1 16 0 = M.1 16 0 + 1 ∧
  (E.1 6 n = 0 ∧ E.1 7 n = -1 ∧ E.1 8 n = g ∧ E.1 9 n = 0 ∧ E.1 10 n = 0) ∧ (∀ q, q ≠ 3 → E.2.1 q = M.2.1 q) ∧ (∀ x, E.2.1 3 0 x = if n * 4 ≤ x ∧ x < n * 4 + 4 then -1000000000000 else M.2.1 3 0 x) ∧ E.2.2 = M.2.2
theorem mfill_f {n : Nat} {M : CS} : (mfill n 4 0 M).1 = M.1 ∧ (∀ q, q ≠ 3 → (mfill n 4 0 M).2.1 q = M.2.1 q) ∧ (∀ x, (mfill n 4 0 M).2.1 3 0 x = if n * 4 ≤ x ∧ x < n * 4 + 4 then -1000000000000 else M.2.1 3 0 x) ∧ (mfill n 4 0 M).2.2 = M.2.2 := by
  refine ⟨rfl, fun q hq => ?_, fun x => ?_, rfl⟩
  · show (sJ (sJ (sJ (sJ M 3 0 (n * 4 + 0) (-1000000000000)) 3 0 (n * 4 + 1) (-1000000000000)) 3 0 (n * 4 + 2) (-1000000000000)) 3 0 (n * 4 + 3) (-1000000000000)).2.1 q = _
    rw [sJ_f hq, sJ_f hq, sJ_f hq, sJ_f hq]
  · show (sJ (sJ (sJ (sJ M 3 0 (n * 4 + 0) (-1000000000000)) 3 0 (n * 4 + 1) (-1000000000000)) 3 0 (n * 4 + 2) (-1000000000000)) 3 0 (n * 4 + 3) (-1000000000000)).2.1 3 0 x = _
    simp only [sJ_2]
    grind
theorem mborn_f {M : CS} {n : Nat} {k g : Int32} : bornM (mborn M n k g) M n k g := by
  unfold bornM mborn
  simp only
  generalize (if M.1 14 0 = 1 ∨ M.1 14 0 = 2 ∧ ¬nI n < M.1 15 0 then (2 : Int32) else 0) = w
  obtain ⟨a1, a2, a3, a4⟩ := mfill_f (n := n) (M := sI (sI (sI (sI (sI (sI (sI M 4 n k) 5 n w) 6 n 0) 7 n (-1)) 8 n g) 9 n 0) 10 n 0)
  refine ⟨?_, ?_, ?_, ?_, ?_, ⟨?_, ?_, ?_, ?_, ?_⟩, ?_, ?_, ?_⟩
  · funext b
    rw [sI_e (by decide), a1, sI_e (by decide), sI_e (by decide), sI_e (by decide), sI_e (by decide), sI_e (by decide), sI_e (by decide), sI_1]
    simp
  · funext b
    rw [sI_e (by decide), a1, sI_e (by decide), sI_e (by decide), sI_e (by decide), sI_e (by decide), sI_e (by decide), sI_1, sI_e (by decide)]
    simp
  · intro q hq b hb
    rw [sI_e hq, a1, sI_n hb, sI_n hb, sI_n hb, sI_n hb, sI_n hb, sI_n hb, sI_n hb]
  · intro q hq h16
    rw [sI_f h16, a1, sI_f (by omega), sI_f (by omega), sI_f (by omega), sI_f (by omega), sI_f (by omega), sI_f (by omega), sI_f (by omega)]
  · rw [sI_self, a1, sI_e (by decide), sI_e (by decide), sI_e (by decide), sI_e (by decide), sI_e (by decide), sI_e (by decide), sI_e (by decide)]
  · rw [sI_e (by decide), a1, sI_e (by decide), sI_e (by decide), sI_e (by decide), sI_e (by decide), sI_self]
  · rw [sI_e (by decide), a1, sI_e (by decide), sI_e (by decide), sI_e (by decide), sI_self]
  · rw [sI_e (by decide), a1, sI_e (by decide), sI_e (by decide), sI_self]
  · rw [sI_e (by decide), a1, sI_e (by decide), sI_self]
  · rw [sI_e (by decide), a1, sI_self]
  · exact a2
  · exact a3
  · exact a4
theorem oV_nnil : ∀ m, m < 16 → ¬ (-1000000000000 : Int64) = oV m := by decide
theorem okC_born {C : CS} {n q : Nat} {k f : Int32} (h : okC C) (hn : n < 16) (hk : k = 1 ∨ (k = 2 ∧ q < 4 ∧ f = nI q)) : okC (cborn C n k f) := by
  have h1 := okC_I (f := 1) (n := n) (v := cbirth (sI C 0 n k) n) (okC_I (f := 0) (n := n) (v := k) h (by decide) (by decide) (by decide) (by decide) (by decide) (by decide) (by decide) (by decide)) (by decide) (by decide) (by decide) (by decide) (by decide) (by decide) (by decide) (by decide)
  unfold cborn
  simp only
  refine okC_J (okC_I ?_ (by decide) (by decide) (by decide) (by decide) (by decide) (by decide) (by decide) (by decide)) (okV_o hn)
  rcases hk with rfl | ⟨rfl, hq, rfl⟩
  · rw [if_pos rfl]
    exact okC_3 (okC_2 (p := 0) h1 (by omega)) (.inl rfl)
  · rw [if_neg (by decide)]
    unfold cclear
    exact okC_7 (a := 0) (okC_I (okC_5 (q := 0) (okC_4 (okC_R h1 (fun i => by unfold fil; split <;> first | exact okV_nil | exact h1.2.1 _ _ _)) hq) (by omega)) (by decide) (by decide) (by decide) (by decide) (by decide) (by decide) (by decide) (by decide)) (by omega)
theorem okM_born {E M : CS} {n : Nat} {k g : Int32} (h : okM M) (b : bornM E M n k g) : okM E := by
  obtain ⟨b4, b5, b1, b2, b16, ⟨b6, b7, b8, b9, b10⟩, bj, b3, -⟩ := b
  obtain ⟨h1, h2, h3, h4, h5⟩ := h
  refine ⟨fun m hm => ?_, fun f j => ?_, ?_, ?_, fun j hj => ?_⟩
  · obtain ⟨c1, c2, c3, c4⟩ := h1 m hm
    rw [b2 11 (by omega) (by decide)]
    by_cases q : m = n
    · subst q
      rw [b6, b7, b9]
      exact ⟨⟨0, by omega, rfl⟩, .inl rfl, ⟨0, by omega, rfl⟩, c4⟩
    · rw [b1 6 (by decide) m q, b1 7 (by decide) m q, b1 9 (by decide) m q]
      exact ⟨c1, c2, c3, c4⟩
  · by_cases q : f = 3
    · subst q
      rw [b3]
      split
      · exact okV_nil
      · exact h2 _ _
    · rw [bj f q]; exact h2 _ _
  · rw [b2 15 (by omega) (by decide)]; exact h3
  · rw [b2 13 (by omega) (by decide)]; exact h4
  · rw [b2 12 (by omega) (by decide)]; exact h5 j hj
theorem born_all {C M D E : CS} {n d q : Nat} {a : Nat → Nat} {k f g : Int32} (h : HH C M) (s : Stk C M d a) (nb : NB C) (hn : n < 16) (h0 : C.1 0 n = 0) (hk : k = 1 ∨ (k = 2 ∧ q < 4 ∧ f = nI q ∧ g = nI q)) (oD : okC D) (bD : bornC D C n k f) (bE : bornM E M n k g) : HH D E ∧ Stk D E d a ∧ NB D ∧ live D n := by
  have oE := okM_born h.2.1 bE
  obtain ⟨h1, h2, ⟨m1, m2, m3, m4⟩, ⟨f1, f2, f3, f4⟩, h5⟩ := h
  obtain ⟨d0, d1, d2, d3, d15, dk1, dk2, dj, dr, -, dst⟩ := bD
  obtain ⟨e4, e5, e2, e3, e16, ⟨e6, e7, e8, e9, e10⟩, ej, er, -⟩ := bE
  have k12 : k = 1 ∨ k = 2 := hk.imp id (fun z => z.1)
  have kn : ¬ k = 0 := by rcases k12 with z | z <;> rw [z] <;> decide
  obtain ⟨sw, hsw, hsw2⟩ := h1.2.2.1
  have esw : cSw C = sw := by unfold cSw; rw [hsw2]; exact nI_clamp (by omega)
  have eswD : cSw D = sw := by unfold cSw; rw [d3 14 (by omega) (by decide), hsw2]; exact nI_clamp (by omega)
  have d13 : D.1 13 = C.1 13 := d3 13 (by omega) (by decide)
  have cb : cbirth C n = 2 ∨ cbirth C n = 0 := by unfold cbirth; split <;> simp
  have cb0 : C.1 13 0 = 0 → cbirth C n = 0 := fun z => by
    unfold cbirth
    rw [if_neg]
    rintro (w | w)
    · rw [z] at w; exact absurd w (by decide)
    · rw [z] at w; exact absurd w.1 (by decide)
  have cb2 : C.1 13 0 = 2 → ((n < sw → cbirth C n = 0) ∧ (¬ n < sw → cbirth C n = 2)) := fun z => by
    unfold cbirth
    rw [hsw2]
    refine ⟨fun y => ?_, fun y => ?_⟩
    · rw [if_neg]
      rintro (w | w)
      · rw [z] at w; exact absurd w (by decide)
      · exact absurd w.2 (nI_ge y (by omega))
    · rw [if_pos (.inr ⟨z, nI_le (by omega) (by omega)⟩)]
  have hlive : ∀ m, m ≠ n → (live D m ↔ live C m) := fun m hm => by
    unfold live
    rw [eswD, esw, d13, d0, d1]
    simp only [if_neg hm]
  have lD : live D n := by
    refine ⟨by rw [d0]; simp only [if_true]; exact kn, fun z => ?_⟩
    rw [d13] at z
    rw [eswD, d1]
    simp only [if_true]
    by_cases y : n < sw
    · exact .inr y
    · rw [(cb2 z).2 y]; exact .inl (by decide)
  have lne : ∀ m, live C m → m ≠ n := fun m l e => by subst e; exact l.1 h0
  have hact : ∀ b, cactive D b = true ↔ cactive C b = true := fun b => by
    rw [cactive_iff, cactive_iff]
    by_cases q : b = n
    · subst q
      rw [h0, d0]
      simp only [if_true]
      refine ⟨fun z => ?_, fun z => absurd z.1 (by decide)⟩
      have := (dk2 z.1).2.2.1
      rw [this] at z
      exact absurd z.2 (by decide)
    · rw [d2 6 (by decide) (by decide) (by decide) b q, d0]
      simp only [if_neg q]
  have hroots : ∀ m, rootsC D m → rootsC C m := fun m z => by
    rcases z with ⟨j, hj, z⟩ | ⟨b, hb, y, z⟩
    · exact .inl ⟨j, hj, by rw [← dj 0 (by decide) (by decide)]; exact z⟩
    · have y' := (hact b).1 y
      have bn : b ≠ n := fun e => by subst e; rw [cactive_iff] at y'; rw [h0] at y'; exact absurd y'.1 (by decide)
      rw [dr b bn] at z
      exact .inr ⟨b, hb, y', z⟩
  have hrefs : ∀ b m, b ≠ n → (refsC D b m ↔ refsC C b m) := fun b m hb => by
    unfold refsC cPairs
    rw [d2 2 (by decide) (by decide) (by decide) b hb, d2 3 (by decide) (by decide) (by decide) b hb, dr b hb, dj 1 (by decide) (by decide), dj 2 (by decide) (by decide), d0]
    simp only [if_neg hb]
  have hnone : ∀ m, m < 16 → ¬ refsC D n m := fun m hm z => by
    unfold refsC at z
    rcases k12 with y | y
    · obtain ⟨x1, x2, -⟩ := dk1 y
      rw [d0] at z
      simp only [if_true, y, x2] at z
      rcases z with ⟨z, -⟩ | ⟨-, ⟨j, hj, -⟩ | ⟨z, -⟩⟩
      · exact absurd z (by decide)
      · unfold cPairs at hj; rw [x1] at hj; exact absurd hj (Nat.not_lt_zero _)
      · exact absurd (by decide) z
    · obtain ⟨-, -, -, -, x5⟩ := dk2 y
      rw [d0] at z
      simp only [if_true, y] at z
      rcases z with ⟨-, j, hj, z⟩ | ⟨z, -⟩
      · rw [x5 j hj] at z; exact oV_nnil m hm z
      · exact z trivial
  refine ⟨⟨oD, oE, ⟨fun b hb => ?_, ⟨?_, ?_, ?_, ?_⟩, ?_, ?_⟩, ⟨?_, ?_, ?_, ?_⟩, ⟨fun b hb => ?_, ?_, ?_⟩⟩, ?_, ?_, lD⟩
  · obtain ⟨c1, c2, c3, c4⟩ := m1 b hb
    rw [d0, d1]
    by_cases q : b = n
    · subst q
      simp only [if_true]
      refine ⟨.inr k12, cb.elim (fun z => .inr (.inr z)) .inl, fun z => (kn z).elim, ?_⟩
      rcases k12 with y | y
      · rw [(dk1 y).2.2]; exact c4
      · rw [(dk2 y).2.2.1]; exact .inl rfl
    · simp only [if_neg q]
      rw [d2 6 (by decide) (by decide) (by decide) b q]
      exact ⟨c1, c2, c3, c4⟩
  · rw [d13]; exact m2.1
  · rw [d13, d3 14 (by omega) (by decide)]; exact m2.2.1
  · rw [d13, d1]
    intro z b hb
    by_cases q : b = n
    · simp only [if_pos q]; exact cb0 z
    · simp only [if_neg q]; exact m2.2.2.1 z b hb
  · rw [d13, d1, eswD]
    intro z b hb
    by_cases q : b = n
    · simp only [if_pos q]; exact (cb2 z).1 (by omega)
    · simp only [if_neg q]; exact m2.2.2.2 z b (by rw [esw]; exact hb)
  · unfold Sm3
    rw [d15, d3 16 (by omega) (by decide)]
    have hcu : cntK (D.1 0) = cntK (C.1 0) + 1 := cntK_up hn h0 (by rw [d0]; simp only [if_true]; exact kn) (fun i hi => by rw [d0]; simp only [if_neg hi])
    rw [hcu, ← nI_1]
    have e3 : C.1 15 0 - C.1 16 0 = nI (cntK (C.1 0)) := m3
    rw [← e3]
    generalize C.1 15 0 = A
    generalize C.1 16 0 = B
    grind
  · unfold Sm4
    rw [d3 9 (by omega) (by decide)]
    exact m4
  · intro m hm z
    have l := f1 m hm (hroots m z)
    exact (hlive m (lne m l)).2 l
  · intro b m hb hm l z
    by_cases q : b = n
    · subst q; exact (hnone m hm z).elim
    · have l' := f2 b m hb hm ((hlive b q).1 l) ((hrefs b m q).1 z)
      exact (hlive m (lne m l')).2 l'
  · rw [d13, d1]
    intro hp b m hb hm z y
    by_cases q : b = n
    · subst q; exact (hnone m hm y).elim
    · simp only [if_neg q] at z
      have := f3 hp b m hb hm z ((hrefs b m q).1 y)
      by_cases w : m = n
      · subst w; exact (this ((m1 m hm).2.2.1 h0)).elim
      · simp only [if_neg w]; exact this
  · intro b m hb hm l z y
    by_cases q : b = n
    · subst q
      rcases k12 with w | w
      · rw [(dk1 w).2.1] at y
        have := congrArg (fun x => decide (x < 0)) y
        simp only [decide_eq_decide] at this
        exact absurd (this.1 (by decide)) (nI_pos (by omega))
      · rw [d0] at z
        simp only [if_true] at z
        rw [w] at z
        exact absurd z (by decide)
    · rw [d0] at z ⊢
      simp only [if_neg q] at z ⊢
      rw [d2 3 (by decide) (by decide) (by decide) b q] at y
      have km := f4 b m hb hm ((hlive b q).1 l) z y
      have w : m ≠ n := fun w => by subst w; rw [h0] at km; exact absurd km (by decide)
      rw [if_neg w]
      exact km
  · obtain ⟨⟨r1, r2⟩, r3, r4, r5, r6⟩ := h5.1 b hb
    rw [dj 1 (by decide) (by decide), dj 2 (by decide) (by decide), ej 1 (by decide), ej 2 (by decide), d0, d1, e4, e5]
    by_cases q : b = n
    · subst q
      simp only [if_true]
      refine ⟨⟨trivial, ?_⟩, fun z => ?_, fun z => ?_, fun z i hi => ?_, r6⟩
      · unfold cbirth
        rw [← h5.2.1.2.1, ← h5.2.1.2.2.1, hsw2]
        have : (nI sw ≤ nI b) ↔ ¬ nI b < nI sw := by rw [nI_leI (by omega) (by omega), nI_ltI (by omega) (by omega)]; omega
        simp only [this]
      · obtain ⟨x1, x2, -⟩ := dk1 z
        rw [x1, x2, e6, e7]
        exact ⟨rfl, rfl⟩
      · obtain ⟨x1, x2, x3, x4, -⟩ := dk2 z
        rw [x1, x2, x3, x4, e8, e9, e10]
        refine ⟨?_, rfl, rfl, fun _ => rfl, fun y => absurd y (by decide)⟩
        rcases hk with y | ⟨-, -, y, w⟩
        · rw [z] at y; exact absurd y (by decide)
        · rw [y, w]
      · rw [(dk2 z).2.2.2.2 i hi, er, if_pos (by omega)]
    · simp only [if_neg q]
      rw [d2 2 (by decide) (by decide) (by decide) b q, d2 3 (by decide) (by decide) (by decide) b q, d2 4 (by decide) (by decide) (by decide) b q, d2 5 (by decide) (by decide) (by decide) b q, d2 6 (by decide) (by decide) (by decide) b q, d2 7 (by decide) (by decide) (by decide) b q, e2 6 (by decide) b q, e2 7 (by decide) b q, e2 8 (by decide) b q, e2 9 (by decide) b q, e2 10 (by decide) b q, e2 11 (by decide) b q, dr b q]
      refine ⟨⟨r1, r2⟩, r3, r4, fun z i hi => ?_, r6⟩
      rw [er, if_neg (by omega)]
      exact r5 z i hi
  · obtain ⟨g0, p1, p2, p3, p4, p5, p6, p7⟩ := h5.2.1
    unfold Rg
    rw [dj 0 (by decide) (by decide), ej 0 (by decide), d13, d15, e16, d3 14 (by omega) (by decide), d3 16 (by omega) (by decide), d3 17 (by omega) (by decide), d3 18 (by omega) (by decide), d3 20 (by omega) (by decide), e3 14 (by omega) (by decide), e3 15 (by omega) (by decide), e3 17 (by omega) (by decide), e3 18 (by omega) (by decide), e3 19 (by omega) (by decide), e3 20 (by omega) (by decide), p3]
    exact ⟨g0, p1, p2, rfl, p4, p5, p6, p7⟩
  · unfold Ri
    rw [d3 9 (by omega) (by decide), d3 10 (by omega) (by decide), d3 11 (by omega) (by decide), d3 12 (by omega) (by decide), e3 0 (by omega) (by decide), e3 1 (by omega) (by decide), e3 2 (by omega) (by decide), e3 3 (by omega) (by decide)]
    exact h5.2.2
  · obtain ⟨s1, s2, s3, s4, s5, s6⟩ := s
    unfold Stk
    rw [d3 19 (by omega) (by decide), e3 12 (by omega) (by decide), e3 13 (by omega) (by decide), dst]
    refine ⟨s1, s2, s3, fun j hj => ?_, s5, fun b hb z => s6 b hb ((hact b).1 z)⟩
    obtain ⟨t1, t2, t3, t4⟩ := s4 j hj
    exact ⟨t1, t2, t3, (hact _).2 t4⟩
  · unfold NB
    rw [d13, d1]
    intro hp b hb z y
    have z' := (hact b).1 z
    have bn : b ≠ n := fun e => by subst e; rw [cactive_iff] at z'; rw [h0] at z'; exact absurd z'.1 (by decide)
    simp only [if_neg bn] at y
    exact nb hp b hb z' y
end

-- part 78.createR
section
/-- what the rest of a run looks at, and a step leaves as it was -/
def rkeep (C' C M' M : CS) (d : Nat) (a : Nat → Nat) : Prop := (∀ i, i < d → C'.1 4 (a i) = C.1 4 (a i) ∧ C'.1 5 (a i) = C.1 5 (a i) ∧ C'.1 8 (a i) = C.1 8 (a i)) ∧ C'.1 10 = C.1 10 ∧ C'.1 21 0 = C.1 21 0 ∧ M'.1 22 0 = M.1 22 0
theorem ccreate_e (C : CS) (k f : Int32) : ccreate C k f = match cfree (if (cfree C).isSome = true then C else cfull C) with
    | none => (3, if (cfree C).isSome = true then C else cfull C)
    | some n => (0, cborn (if (cfree C).isSome = true then C else cfull C) n k f) := rfl
theorem free_eq {C M : CS} (h : HH C M) : mfree M = cfree C := lst_congr 16 0 (fun j _ hj => by rw [HH_kind h (by omega)])
theorem create_all {C M : CS} {d q : Nat} {a : Nat → Nat} {k f g : Int32} (h : HH C M) (s : Stk C M d a) (nb : NB C) (hk : k = 1 ∨ (k = 2 ∧ q < 4 ∧ f = nI q ∧ g = nI q)) :
    (((ccreate C k f).1 = 3 ∧ (mcreate M k g).1 = none) ∨ ∃ n, n < 16 ∧ (ccreate C k f).1 = 0 ∧ (mcreate M k g).1 = some n ∧ (ccreate C k f).2.2.1 4 0 0 = oV n ∧ live (ccreate C k f).2 n) ∧ HH (ccreate C k f).2 (mcreate M k g).2 ∧ Stk (ccreate C k f).2 (mcreate M k g).2 d a ∧ NB (ccreate C k f).2 ∧ rkeep (ccreate C k f).2 C (mcreate M k g).2 M d a := by
  have base : HH (if (cfree C).isSome = true then C else cfull C) (if (mfree M).isSome = true then M else (mwhole M).2) ∧ Stk (if (cfree C).isSome = true then C else cfull C) (if (mfree M).isSome = true then M else (mwhole M).2) d a ∧ NB (if (cfree C).isSome = true then C else cfull C) ∧ rkeep (if (cfree C).isSome = true then C else cfull C) C (if (mfree M).isSome = true then M else (mwhole M).2) M d a := by
    rw [free_eq h]
    by_cases z : (cfree C).isSome = true
    · rw [if_pos z, if_pos z]
      exact ⟨h, s, nb, fun _ _ => ⟨rfl, rfl, rfl⟩, rfl, rfl, rfl⟩
    · rw [if_neg z, if_neg z]
      obtain ⟨u1, u2, -, u4⟩ := full_all h s
      refine ⟨u1, u2, fun y => absurd (u4.symm.trans y) (by decide), fun i _ => ⟨?_, ?_, ?_⟩, ?_, ?_, ?_⟩
      · rw [cfull_e (by decide) (by decide)]
      · rw [cfull_e (by decide) (by decide)]
      · rw [cfull_e (by decide) (by decide)]
      · exact cfull_e (by decide) (by decide)
      · rw [cfull_e (by decide) (by decide)]
      · exact mwhole_e (by decide) (by decide)
  rw [ccreate_e]
  unfold mcreate
  simp only
  generalize (if (cfree C).isSome = true then C else cfull C) = C0 at base
  generalize (if (mfree M).isSome = true then M else (mwhole M).2) = M0 at base
  obtain ⟨b1, b2, b3, b4⟩ := base
  rw [free_eq b1]
  cases hf : cfree C0 with
  | none => exact ⟨.inl ⟨rfl, rfl⟩, b1, b2, b3, b4⟩
  | some n =>
    have hn := cfree_lt hf
    have h0 : C0.1 0 n = 0 := eq_of_beq (lst_lt _ _ _ hf).2.2
    have bD := cborn_f (C := C0) (n := n) (f := f) (hk.imp id (fun z => z.1))
    have oD := okC_born (q := q) b1.1 hn (hk.imp id (fun z => ⟨z.1, z.2.1, z.2.2.1⟩))
    have bE := mborn_f (M := M0) (n := n) (k := k) (g := g)
    obtain ⟨w1, w2, w3, w4⟩ := born_all b1 b2 b3 hn h0 hk oD bD bE
    simp only
    refine ⟨.inr ⟨n, hn, by first | rfl | trivial, by first | rfl | trivial, ?_, w4⟩, w1, w2, w3, ?_⟩
    · obtain ⟨-, -, -, -, -, -, -, -, -, x, -⟩ := bD
      rw [x, oV_nI hn]
    · obtain ⟨c1, c2, c3, c4⟩ := b4
      obtain ⟨-, -, d2, d3, -⟩ := bD
      obtain ⟨-, -, -, e3, -⟩ := bE
      refine ⟨fun i hi => ?_, ?_, ?_, ?_⟩
      · have an : a i ≠ n := fun e => by
          have := (b2.2.2.2.1 i hi).2.2.2
          rw [e, cactive_iff, h0] at this
          exact absurd this.1 (by decide)
        rw [d2 4 (by decide) (by decide) (by decide) _ an, d2 5 (by decide) (by decide) (by decide) _ an, d2 8 (by decide) (by decide) (by decide) _ an]
        exact c1 i hi
      · rw [d3 10 (by omega) (by decide)]; exact c2
      · rw [d3 21 (by omega) (by decide)]; exact c3
      · rw [e3 22 (by omega) (by decide)]; exact c4
end

-- part 79.writeR
section
/-! single writes on both sides -/
theorem HH_touch {C M : CS} {n : Nat} (h : HH C M) (hn : n < 16) : HH (ctouch C n) (mtouch M n) := HH_tab h hn (fun _ _ _ => rfl) (fun _ _ _ => rfl) (fun _ _ _ => rfl) (fun _ _ _ => rfl) h.1 h.2.1 h.2.2.2.2 (fun l m hm z => h.2.2.2.1.2.1 n m hn hm l z) (fun l k m hm z => h.2.2.2.1.2.2.2 n m hn hm l k z)
theorem HH_glob {C M : CS} {i : Nat} {v : Int64} (h : HH C M) (hi : i < 6) (hv : okV v) (l : lv C v) : HH (sJ C 0 0 i v) (sJ M 0 0 i v) := by
  obtain ⟨h1, h2, h3, ⟨f1, f2, f3, f4⟩, h5⟩ := h
  have hl : live (sJ C 0 0 i v) = live C := live_fn rfl rfl rfl rfl
  have hr : refsC (sJ C 0 0 i v) = refsC C := refsC_fn rfl rfl rfl (sJ_f (by decide)) (sJ_f (by decide)) (sJ_f (by decide))
  refine ⟨okC_J h1 hv, okM_J h2 hv, h3, ⟨?_, ?_, ?_, ?_⟩, ⟨?_, ⟨?_, h5.2.1.2⟩, h5.2.2⟩⟩
  · rw [hl]
    intro m hm z
    rcases z with ⟨j, hj, z⟩ | z
    · rw [sJ_2] at z
      by_cases q : j = i
      · rw [if_pos ⟨rfl, rfl, q⟩] at z; exact l m hm z
      · rw [if_neg (fun w => q w.2.2)] at z
        exact f1 m hm (.inl ⟨j, hj, z⟩)
    · rw [sJ_f (by decide)] at z
      exact f1 m hm (.inr z)
  · rw [hl, hr]; exact f2
  · rw [hr]; exact f3
  · rw [hl]; exact f4
  · intro b hb
    rw [sJ_f (g := 1) (by decide), sJ_f (g := 2) (by decide), sJ_f (g := 3) (by decide), sJ_f (g := 1) (by decide), sJ_f (g := 2) (by decide), sJ_f (g := 3) (by decide)]
    exact h5.1 b hb
  · intro j hj
    rw [sJ_2, sJ_2]
    by_cases q : j = i
    · rw [if_pos ⟨rfl, rfl, q⟩, if_pos ⟨rfl, rfl, q⟩]
    · rw [if_neg (fun w => q w.2.2), if_neg (fun w => q w.2.2)]
      exact h5.2.1.1 j hj
theorem HH_reg {C M : CS} {n i : Nat} {v : Int64} (h : HH C M) (hn : n < 16) (hi : i < 4) (hv : okV v) (l : lv C v) (nb : C.1 13 0 = 1 → ¬ C.1 1 n = 2) : HH (sJ C 3 n i v) (sJ M 3 0 (n * 4 + i) v) := by
  obtain ⟨h1, h2, h3, ⟨f1, f2, f3, f4⟩, h5⟩ := h
  have hl : live (sJ C 3 n i v) = live C := live_fn rfl rfl rfl rfl
  have hact : cactive (sJ C 3 n i v) = cactive C := cactive_fn rfl rfl
  have hrn : ∀ b m, b ≠ n → (refsC (sJ C 3 n i v) b m ↔ refsC C b m) := fun b m hb => by
    unfold refsC
    rw [sJ_f (g := 1) (by decide), sJ_f (g := 2) (by decide), sJ_n hb]
    rfl
  have hrr : ∀ m, refsC (sJ C 3 n i v) n m → refsC C n m ∨ v = oV m := fun m z => by
    rcases z with ⟨z, j, hj, y⟩ | ⟨z, y⟩
    · rw [sJ_2] at y
      by_cases q : j = i
      · rw [if_pos ⟨rfl, rfl, q⟩] at y; exact .inr y
      · rw [if_neg (fun w => q w.2.2)] at y
        exact .inl (.inl ⟨z, j, hj, y⟩)
    · rw [sJ_f (g := 1) (by decide), sJ_f (g := 2) (by decide)] at y
      exact .inl (.inr ⟨z, y⟩)
  refine ⟨okC_J h1 hv, okM_J h2 hv, h3, ⟨?_, ?_, ?_, ?_⟩, ⟨?_, ⟨?_, h5.2.1.2⟩, h5.2.2⟩⟩
  · rw [hl]
    intro m hm z
    rcases z with ⟨j, hj, z⟩ | ⟨b, hb, y, z⟩
    · rw [sJ_f (by decide)] at z
      exact f1 m hm (.inl ⟨j, hj, z⟩)
    · rw [hact] at y
      rcases z with z | ⟨j, hj, z⟩
      · exact f1 m hm (.inr ⟨b, hb, y, .inl z⟩)
      · rw [sJ_2] at z
        by_cases q : b = n ∧ j = i
        · rw [if_pos ⟨rfl, q⟩] at z; exact l m hm z
        · rw [if_neg (fun w => q w.2)] at z
          exact f1 m hm (.inr ⟨b, hb, y, .inr ⟨j, hj, z⟩⟩)
  · rw [hl]
    intro b m hb hm lb z
    by_cases q : b = n
    · subst q
      exact (hrr m z).elim (f2 b m hb hm lb) (l m hm)
    · exact f2 b m hb hm lb ((hrn b m q).1 z)
  · intro hp b m hb hm z y
    have q : b ≠ n := fun q => by subst q; exact nb hp z
    exact f3 hp b m hb hm z ((hrn b m q).1 y)
  · rw [hl]; exact f4
  · intro b hb
    obtain ⟨r1, r3, r4, r5, r6⟩ := h5.1 b hb
    refine ⟨r1, r3, r4, fun z j hj => ?_, ?_⟩
    · rw [sJ_2, sJ_2]
      by_cases q : b = n ∧ j = i
      · rw [if_pos ⟨rfl, q⟩, if_pos ⟨rfl, rfl, by omega⟩]
      · rw [if_neg (fun w => q w.2), if_neg (fun w => q (by omega))]
        exact r5 z j hj
    · rw [sJ_f (g := 1) (by decide), sJ_f (g := 2) (by decide), sJ_f (g := 1) (by decide), sJ_f (g := 2) (by decide)]
      exact r6
  · rw [sJ_f (g := 0) (by decide), sJ_f (g := 0) (by decide)]
    exact h5.2.1.1
/-- the PLACE of a coroutine -/
theorem HH_place {C M : CS} {n p : Nat} (h : HH C M) (hp : p ≤ 16) : HH (sI C 5 n (nI p)) (sI M 9 n (nI p)) := by
  obtain ⟨h1, h2, h3, h4, h5⟩ := h
  refine ⟨okC_5 h1 hp, okM_9 hp h2, Sm_fn (sI_f (by decide)) (sI_f (by decide)) (sI_f (by decide)) (sI_f (by decide)) (sI_f (by decide)) (sI_f (by decide)) (sI_f (by decide)) (sI_f (by decide)) h3, Safe_fn (sI_f (by decide)) (sI_f (by decide)) (sI_f (by decide)) (sI_f (by decide)) (sI_f (by decide)) (sI_f (by decide)) (sI_f (by decide)) rfl rfl rfl rfl h4, ⟨fun b hb => ?_, h5.2.1, h5.2.2⟩⟩
  obtain ⟨r1, r3, r4, r5, r6⟩ := h5.1 b hb
  refine ⟨r1, r3, fun z => ?_, r5, r6⟩
  obtain ⟨x1, x2, x3⟩ := r4 z
  refine ⟨x1, ?_, x3⟩
  rw [sI_1, sI_1]
  by_cases q : b = n
  · rw [if_pos ⟨rfl, q⟩, if_pos ⟨rfl, q⟩]
  · rw [if_neg (fun w => q w.2), if_neg (fun w => q w.2)]; exact x2
/-- the STATE of a coroutine -/
theorem HH_state {C M : CS} {n : Nat} {v : Int32} (h : HH C M) (hn : n < 16) (hv : v = 0 ∨ v = 1 ∨ v = 2 ∨ v = 3) (hk : C.1 0 n = 2) (h2' : v = 2 → live C n) (h0 : ¬ v = 0) (h1' : v = 1 → C.1 7 n = M.1 11 n) : HH (sI C 6 n v) (sI M 10 n v) := by
  obtain ⟨h1, h2, ⟨m1, m2, m3, m4⟩, ⟨f1, f2, f3, f4⟩, h5⟩ := h
  have hl : live (sI C 6 n v) = live C := live_fn (sI_f (by decide)) (sI_f (by decide)) (sI_f (by decide)) (sI_f (by decide))
  have hr : refsC (sI C 6 n v) = refsC C := refsC_fn (sI_f (by decide)) (sI_f (by decide)) (sI_f (by decide)) rfl rfl rfl
  have h13 : (sI C 6 n v).1 13 0 = C.1 13 0 := sI_e (by decide)
  refine ⟨okC_I h1 (by decide) (by decide) (by decide) (by decide) (by decide) (by decide) (by decide) (by decide), okM_keep (by decide) h2, ⟨fun b hb => ?_, m2, m3, m4⟩, ⟨?_, ?_, ?_, ?_⟩, ⟨fun b hb => ?_, h5.2.1, h5.2.2⟩⟩
  · obtain ⟨c1, c2, c3, c4⟩ := m1 b hb
    refine ⟨c1, c2, c3, ?_⟩
    rw [sI_1]
    split
    · exact hv
    · exact c4
  · rw [hl]
    intro m hm z
    rcases z with z | ⟨b, hb, y, z⟩
    · exact f1 m hm (.inl z)
    · by_cases q : b = n
      · subst q
        have v2 : v = 2 := by have := (cactive_iff.1 y).2; rw [sI_self] at this; exact this
        have ln := h2' v2
        rcases z with z | ⟨j, hj, z⟩
        · rw [z]; exact ln
        · exact f2 b m hb hm ln (.inl ⟨hk, j, hj, z⟩)
      · refine f1 m hm (.inr ⟨b, hb, ?_, z⟩)
        rw [cactive_iff] at y ⊢
        rw [sI_n q, sI_n q] at y
        exact y
  · rw [hl, hr]; exact f2
  · rw [hr, h13]
    intro hp b m hb hm z
    rw [sI_e (by decide)] at z ⊢
    exact f3 hp b m hb hm z
  · rw [hl]; exact f4
  · obtain ⟨r1, r3, r4, r5, r6⟩ := h5.1 b hb
    refine ⟨r1, r3, fun z => ?_, r5, r6⟩
    obtain ⟨x1, x2, x3, x4, x5⟩ := r4 z
    by_cases q : b = n
    · subst q
      rw [sI_self, sI_self]
      exact ⟨x1, x2, rfl, fun w => (h0 w).elim, h1'⟩
    · rw [sI_n q, sI_n q, sI_n q, sI_n q, sI_n q, sI_n q, sI_n q, sI_n q]
      exact ⟨x1, x2, x3, x4, x5⟩
/-- the REGISTER for what comes in, of an ACTIVE one -/
theorem HH_cin {C M : CS} {n a : Nat} (h : HH C M) (ha : a < 4) (h6 : C.1 6 n = 2) : HH (sI C 7 n (nI a)) (sI M 11 n (nI a)) := by
  obtain ⟨h1, h2, h3, h4, h5⟩ := h
  refine ⟨okC_7 h1 ha, okM_11 ha h2, Sm_fn (sI_f (by decide)) (sI_f (by decide)) (sI_f (by decide)) (sI_f (by decide)) (sI_f (by decide)) (sI_f (by decide)) (sI_f (by decide)) (sI_f (by decide)) h3, Safe_fn (sI_f (by decide)) (sI_f (by decide)) (sI_f (by decide)) (sI_f (by decide)) (sI_f (by decide)) (sI_f (by decide)) (sI_f (by decide)) rfl rfl rfl rfl h4, ⟨fun b hb => ?_, h5.2.1, h5.2.2⟩⟩
  obtain ⟨r1, r3, r4, r5, r6⟩ := h5.1 b hb
  refine ⟨r1, r3, fun z => ?_, r5, r6⟩
  obtain ⟨x1, x2, x3, x4, x5⟩ := r4 z
  by_cases q : b = n
  · subst q
    refine ⟨x1, x2, x3, fun w => ?_, fun w => ?_⟩
    · rw [sI_e (by decide), h6] at w; exact absurd w (by decide)
    · rw [sI_e (by decide), h6] at w; exact absurd w (by decide)
  · rw [sI_n q, sI_n q, sI_n q, sI_n q, sI_n q, sI_n q, sI_n q, sI_n q]
    exact ⟨x1, x2, x3, x4, x5⟩
theorem HH_win {C M : CS} {n a : Nat} (h : HH C M) (ha : a < 4) (h6 : C.1 6 n = 2) : HH C (sI M 11 n (nI a)) := by
  obtain ⟨h1, h2, h3, h4, h5⟩ := h
  refine ⟨h1, okM_11 ha h2, h3, h4, ⟨fun b hb => ?_, h5.2.1, h5.2.2⟩⟩
  obtain ⟨r1, r3, r4, r5, r6⟩ := h5.1 b hb
  refine ⟨r1, r3, fun z => ?_, r5, r6⟩
  obtain ⟨x1, x2, x3, x4, x5⟩ := r4 z
  by_cases q : b = n
  · subst q
    refine ⟨x1, x2, x3, x4, fun w => ?_⟩
    rw [h6] at w; exact absurd w (by decide)
  · rw [sI_n q, sI_n q, sI_n q, sI_n q]
    exact ⟨x1, x2, x3, x4, x5⟩
end

-- part 80.runR
section
/-! RESUMING, YIELD and RETURN, and the end of a run, on both sides -/
theorem sI_comm {C : CS} {f n g m : Nat} {v w : Int32} (h : f ≠ g ∨ n ≠ m) : sI (sI C f n v) g m w = sI (sI C g m w) f n v := by
  unfold sI
  refine Prod.ext ?_ rfl
  funext a b
  show (if a = g ∧ b = m then w else if a = f ∧ b = n then v else C.1 a b) = if a = f ∧ b = n then v else if a = g ∧ b = m then w else C.1 a b
  by_cases z : a = g ∧ b = m
  · rw [if_pos z, if_neg (by omega), if_pos z]
  · rw [if_neg z, if_neg z]
theorem touch_in {C : CS} {n i : Nat} {x : Int64} {v : Int32} : ctouch (sI (sJ C 3 n i x) 6 n v) n = sI (sJ (ctouch C n) 3 n i x) 6 n v := by
  unfold ctouch
  rw [sI_e (by decide), sI_e (by decide), sJ_1]
  split
  · rw [sI_comm (.inl (by decide))]; rfl
  · rfl
theorem mtouch_in {M : CS} {n i : Nat} {x : Int64} : mtouch (sJ M 3 0 i x) n = sJ (mtouch M n) 3 0 i x := by
  unfold mtouch
  rw [sJ_1]
  split <;> rfl
theorem okM_12 {M : CS} {d n : Nat} (hn : n < 16) (h : okM M) : okM (sI M 12 d (nI n)) := by
  obtain ⟨h1, h2, h3, h4, h5⟩ := h
  refine ⟨fun m hm => ?_, fun f j => h2 f j, ?_, ?_, fun k hk => ?_⟩
  · rw [sI_e (by decide), sI_e (by decide), sI_e (by decide), sI_e (by decide)]; exact h1 m hm
  · rw [sI_e (by decide)]; exact h3
  · rw [sI_e (by decide)]; exact h4
  · rw [sI_1]
    split
    · exact ⟨n, hn, rfl⟩
    · exact h5 k hk
theorem cDepth_eq {C : CS} {d : Nat} (h : C.1 19 0 = nI d) (hd : d ≤ 5) : cDepth C = d := by unfold cDepth; rw [h]; exact nI_clamp (by omega)
def push (a : Nat → Nat) (d n : Nat) : Nat → Nat := fun i => if i = d then n else a i
def Low (C : CS) (d : Nat) (a : Nat → Nat) : Prop := ∀ i, i + 1 < d → ∃ f p, f < 4 ∧ p ≤ 15 ∧ C.1 4 (a i) = nI f ∧ C.1 5 (a i) = nI p ∧ C.1 8 (a i) = nI (fmod (C.1 10 (f * 17 + p)) 4)
theorem live_of_touch {C : CS} {n : Nat} {v : Int64} (l : lv C v) : lv (ctouch C n) v := fun m hm e => live_touch.2 (l m hm e)
theorem enter_all {C M : CS} {d : Nat} {a : Nat → Nat} {v x : Int64} (h : HH C M) (s : Stk C M d a) (nb : NB C) (hv : okV v) (l : lv C v) (hx : okV x) (lx : lv C x) :
    ((¬ (center C v x).1 = 0) ∧ (center C v x).2 = C ∧ ∃ t, menter M v x = sI M 22 0 t ∧ trR (center C v x).1 t) ∨
    ((center C v x).1 = 0 ∧ d < 5 ∧ ∃ n, n < 16 ∧ (∀ i, i < d → a i ≠ n) ∧ HH (center C v x).2 (menter M v x) ∧ Stk (center C v x).2 (menter M v x) (d + 1) (push a d n) ∧ NB (center C v x).2 ∧ (∀ f, f ≠ 1 → f ≠ 6 → f ≠ 19 → (center C v x).2.1 f = C.1 f) ∧ (menter M v x).1 22 0 = M.1 22 0) := by
  obtain ⟨s1, s2, s3, s4, s5, s6⟩ := s
  unfold center menter
  rw [isA_mOf h hv]
  by_cases ha : isA C 2 v = true
  · obtain ⟨a1, a2, a3⟩ := lv_on hv l ha
    obtain ⟨-, -, r4, -, -⟩ := h.2.2.2.2.1 (on v) a1
    obtain ⟨x1, x2, x3, x4, x5⟩ := r4 a3
    rw [if_pos ha]
    simp only
    by_cases y : ¬ C.1 6 (on v) = 3 ∧ ¬ C.1 6 (on v) = 2
    · have st : C.1 6 (on v) = 0 ∨ C.1 6 (on v) = 1 := by
        rcases (h.2.2.1.1 (on v) a1).2.2.2 with w | w | w | w
        · exact .inl w
        · exact .inr w
        · exact (y.2 w).elim
        · exact (y.1 w).elim
      rw [if_neg (show ¬ 1 < M.1 10 (on v) by rw [← x3]; rcases st with w | w <;> rw [w] <;> decide)]
      by_cases d5 : C.1 19 0 = 5
      · have c2 : centerOk C v = 2 := by unfold centerOk; rw [if_pos ⟨ha, y⟩, if_pos d5]
        rw [c2, if_neg (by decide), if_pos (by rw [s3, ← s2]; exact d5)]
        exact .inl ⟨show ¬ (2 : Int32) = 0 by decide, rfl, 2, rfl, .inr (.inr (.inl ⟨rfl, rfl⟩))⟩
      · have c0 : centerOk C v = 0 := by unfold centerOk; rw [if_pos ⟨ha, y⟩, if_neg d5]
        have hd : d < 5 := by
          rcases Nat.lt_or_ge d 5 with w | w
          · exact w
          · exact absurd (by rw [s2, show d = 5 by omega]; rfl) d5
        rw [c0, if_pos rfl, if_neg (by rw [s3, ← s2]; exact d5)]
        generalize hn : on v = n at *
        obtain ⟨-, -, -, -, ⟨ci, hci, hci2⟩, -⟩ := h.1.1 n a1
        have eci : (if M.1 10 n = 1 then (M.1 11 n).toNatClampNeg else 0) = ci := by
          rcases st with w | w
          · rw [if_neg (by rw [← x3, w]; decide)]
            have := x4 w
            rw [hci2] at this
            have := (nI_eq (a := ci) (b := 0) (by omega) (by omega)).1 this
            omega
          · rw [if_pos (by rw [← x3]; exact w), ← x5 w, hci2]
            exact nI_clamp (by omega)
        rw [hci2, nI_clamp (by omega), eci, cDepth_eq s2 s1, mDepth_eq s3 s1, touch_in, mtouch_in, s2, s3, nI_1]
        have an : ∀ i, i < d → a i ≠ n := fun i hi e => by
          have := (cactive_iff.1 (s4 i hi).2.2.2).2
          rw [e] at this
          exact y.2 this
        have t1 := HH_touch h a1
        have p13 : (ctouch C n).1 13 0 = C.1 13 0 := ctouch_o (by decide)
        have t2 := HH_reg (i := ci) (v := x) t1 a1 hci hx (live_of_touch lx) (fun w => ctouch_n (by rw [← p13]; exact w))
        have t3 := HH_state (n := n) (v := 2) t2 a1 (by decide) (by rw [sJ_1, ctouch_o (by decide)]; exact a3) (fun _ => by rw [live_fn (C' := sJ (ctouch C n) 3 n ci x) (C := ctouch C n) rfl rfl rfl rfl]; exact live_touch.2 a2) (by decide) (fun w => absurd w (by decide))
        have o12 : okM (sI (sI (sI (sJ (mtouch M n) 3 0 (n * 4 + ci) x) 10 n 2) 12 d (nI n)) 13 0 (nI (d + 1))) := okM_13 (by omega) (okM_12 a1 t3.2.1)
        have t4 := HH_M (f := 13) (n := 0) (v := nI (d + 1)) (by omega) o12 (HH_M (f := 12) (n := d) (v := nI n) (by omega) (okM_12 a1 t3.2.1) t3)
        have oC : okC (sI (sA (sI (sJ (ctouch C n) 3 n ci x) 6 n 2) d n) 19 0 (nI (d + 1))) := by
          obtain ⟨q1, q2, q3, -⟩ := t3.1
          refine ⟨q1, q2, q3, d + 1, by omega, sI_self, fun i hi => ?_⟩
          show ∃ n_1, n_1 < 16 ∧ va_up (ctouch C n).2.2 d (some n) i = some n_1
          unfold va_up
          by_cases w : i = d
          · rw [if_pos w]; exact ⟨n, a1, rfl⟩
          · rw [if_neg w, ctouch_2]
            obtain ⟨z1, z2, -⟩ := s4 i (by omega)
            exact ⟨a i, z1, z2⟩
        have oA : okC (sA (sI (sJ (ctouch C n) 3 n ci x) 6 n 2) d n) := by
          obtain ⟨q1, q2, q3, -⟩ := t3.1
          refine ⟨q1, q2, q3, d, s1, ?_, fun i hi => ?_⟩
          · rw [sA_1, sI_e (by decide), sJ_1, ctouch_o (by decide)]; exact s2
          · show ∃ n_1, n_1 < 16 ∧ va_up (ctouch C n).2.2 d (some n) i = some n_1
            unfold va_up
            rw [if_neg (by omega), ctouch_2]
            obtain ⟨z1, z2, -⟩ := s4 i (by omega)
            exact ⟨a i, z1, z2⟩
        have t5 : HH (sA (sI (sJ (ctouch C n) 3 n ci x) 6 n 2) d n) (sI (sI (sI (sJ (mtouch M n) 3 0 (n * 4 + ci) x) 10 n 2) 12 d (nI n)) 13 0 (nI (d + 1))) := ⟨oA, t4.2.1, t4.2.2.1, t4.2.2.2.1, t4.2.2.2.2⟩
        have t6 := HH_C (f := 19) (n := 0) (v := nI (d + 1)) (by omega) oC t5
        have hact : ∀ b, cactive (sI (sA (sI (sJ (ctouch C n) 3 n ci x) 6 n 2) d n) 19 0 (nI (d + 1))) b = true ↔ (b = n ∨ cactive C b = true) := fun b => by
          rw [cactive_iff, cactive_iff, sI_e (by decide), sI_e (by decide), sA_1, sI_e (by decide), sJ_1, ctouch_o (by decide), sI_1]
          by_cases w : b = n
          · rw [if_pos ⟨rfl, w⟩, w]
            exact ⟨fun _ => .inl rfl, fun _ => ⟨a3, rfl⟩⟩
          · rw [if_neg (fun q => w q.2), sJ_1, ctouch_o (by decide)]
            exact ⟨.inr, fun q => q.resolve_left w⟩
        refine .inr ⟨rfl, hd, n, a1, an, t6, ⟨by omega, sI_self, sI_self, fun i hi => ?_, fun i j hi hj => ?_, fun b hb z => ?_⟩, ?_, fun f f1 f6 f19 => ?_, ?_⟩
        · unfold push
          by_cases w : i = d
          · rw [if_pos w]
            refine ⟨a1, ?_, ?_, (hact n).2 (.inl rfl)⟩
            · show va_up (ctouch C n).2.2 d (some n) i = some n
              unfold va_up
              rw [if_pos w]
            · rw [sI_e (by decide), sI_1, if_pos ⟨rfl, w⟩]
          · rw [if_neg w]
            obtain ⟨z1, z2, z3, z4⟩ := s4 i (by omega)
            refine ⟨z1, ?_, ?_, (hact _).2 (.inr z4)⟩
            · show va_up (ctouch C n).2.2 d (some n) i = some (a i)
              unfold va_up
              rw [if_neg w, ctouch_2]; exact z2
            · rw [sI_e (by decide), sI_1, if_neg (fun q => w q.2), sI_e (by decide), sJ_1, mtouch_1 (by decide)]; exact z3
        · unfold push
          by_cases w : i = d <;> by_cases w2 : j = d
          · intro _; omega
          · rw [if_pos w, if_neg w2]; exact fun e => (an j (by omega) e.symm).elim
          · rw [if_neg w, if_pos w2]; exact fun e => (an i (by omega) e).elim
          · rw [if_neg w, if_neg w2]; exact s5 i j (by omega) (by omega)
        · rcases (hact b).1 z with w | w
          · exact ⟨d, by omega, by unfold push; rw [if_pos rfl, w]⟩
          · obtain ⟨i, hi, e⟩ := s6 b hb w
            exact ⟨i, by omega, by unfold push; rw [if_neg (by omega)]; exact e⟩
        · unfold NB
          rw [sI_e (by decide), sA_1, sI_e (by decide), sJ_1, p13]
          intro hp b hb z
          rw [sI_e (by decide), sA_1, sI_e (by decide), sJ_1]
          rcases (hact b).1 z with w | w
          · rw [w]; exact ctouch_n hp
          · rcases ctouch_col (C := C) (n := n) (b := b) with q | ⟨-, -, q⟩
            · rw [q]; exact nb hp b hb w
            · rw [q]; decide
        · rw [sI_f f19, sA_1, sI_f f6, sJ_1]
          exact funext fun b => ctouch_o f1
        · rw [sI_e (by decide), sI_e (by decide), sI_e (by decide), sJ_1, mtouch_1 (by decide)]
    · have c1 : centerOk C v = 1 := by unfold centerOk; rw [if_neg (fun w => y w.2)]
      rw [c1, if_neg (by decide)]
      have gt : 1 < M.1 10 (on v) := by
        rw [← x3]
        rcases (h.2.2.1.1 (on v) a1).2.2.2 with w | w | w | w
        · exact (y ⟨by rw [w]; decide, by rw [w]; decide⟩).elim
        · exact (y ⟨by rw [w]; decide, by rw [w]; decide⟩).elim
        · rw [w]; decide
        · rw [w]; decide
      rw [if_pos gt]
      exact .inl ⟨show ¬ (1 : Int32) = 0 by decide, rfl, 3, rfl, .inr (.inl ⟨rfl, rfl⟩)⟩
  · have c1 : centerOk C v = 1 := by unfold centerOk; rw [if_neg (fun w => ha w.1)]
    rw [c1, if_neg (by decide), if_neg ha]
    exact .inl ⟨show ¬ (1 : Int32) = 0 by decide, rfl, 3, rfl, .inr (.inl ⟨rfl, rfl⟩)⟩
theorem end_loop {d : Nat} {a : Nat → Nat} : ∀ (c i : Nat) (C M : CS), i + c = d → d ≤ 5 → HH C M → (∀ j, j < d → a j < 16 ∧ C.2.2 j = some (a j) ∧ M.1 12 j = nI (a j) ∧ C.1 0 (a j) = 2) → (∀ b, b < 16 → cactive C b = true → ∃ j, i ≤ j ∧ j < d ∧ a j = b) → HH (cend c i C) (sI (mend c i M) 13 0 0) ∧ (∀ b, b < 16 → ¬ cactive (cend c i C) b = true) ∧ (cend c i C).1 19 0 = 0 ∧ (cend c i C).2 = C.2 ∧ (mend c i M).2 = M.2 ∧ (∀ f, f ≠ 6 → f ≠ 19 → (cend c i C).1 f = C.1 f) ∧ (∀ f, f ≠ 10 → (mend c i M).1 f = M.1 f)
  | 0, i, C, M, hi, hd, h, hs, ha => by
    refine ⟨HH_C (by omega) ?_ (HH_M (by omega) (okM_13 (p := 0) (by omega) h.2.1) h), fun b hb z => ?_, sI_self, rfl, rfl, fun f h6 h19 => sI_f h19, fun f _ => rfl⟩
    · obtain ⟨q1, q2, q3, -⟩ := h.1
      exact ⟨q1, q2, q3, 0, by omega, sI_self, fun j hj => by omega⟩
    · have z' : cactive C b = true := by rw [← cactive_of (C' := sI C 19 0 0) (C := C) (sI_e (by decide)) (sI_e (by decide))]; exact z
      obtain ⟨j, h1, h2, -⟩ := ha b hb z'
      omega
  | c + 1, i, C, M, hi, hd, h, hs, ha => by
    obtain ⟨t1, t2, t3, t4⟩ := hs i (by omega)
    have e1 : cact C i = a i := by unfold cact; rw [t2]; rfl
    have e2 : mAct M i = a i := mAct_eq t3 t1
    unfold cend mend
    rw [e1, e2]
    have h' := HH_state (n := a i) (v := 3) h t1 (by decide) t4 (fun w => absurd w (by decide)) (by decide) (fun w => absurd w (by decide))
    obtain ⟨u1, u2, u3, u4, u5, u6, u7⟩ := end_loop (a := a) c (i + 1) _ _ (by omega) hd h' (fun j hj => by
      obtain ⟨y1, y2, y3, y4⟩ := hs j hj
      exact ⟨y1, y2, by rw [sI_e (by decide)]; exact y3, by rw [sI_e (by decide)]; exact y4⟩) (fun b hb z => by
      rw [cactive_iff, sI_e (by decide), sI_1] at z
      by_cases w : b = a i
      · rw [if_pos ⟨rfl, w⟩] at z; exact absurd z.2 (by decide)
      · rw [if_neg (fun q => w q.2)] at z
        obtain ⟨j, g1, g2, g3⟩ := ha b hb (cactive_iff.2 z)
        refine ⟨j, ?_, g2, g3⟩
        by_cases w2 : j = i
        · subst w2; exact (w g3.symm).elim
        · omega)
    exact ⟨u1, u2, u3, u4.trans rfl, u5.trans rfl, fun f f6 f19 => (u6 f f6 f19).trans (sI_f f6), fun f f10 => (u7 f f10).trans (sI_f f10)⟩
end

-- part 81.leaveR
section
def KK (tr : Int32) (C M : CS) : Prop := ∃ d a, HH C M ∧ Stk C M d a ∧ NB C ∧ Low C d a ∧ trR tr (M.1 22 0) ∧ (tr = 0 → d = 0 → C.2.1 5 0 0 = M.2.1 4 0 0 ∧ lv C (C.2.1 5 0 0))
theorem tr_0 {tr x : Int32} (h : trR tr x) : tr = 0 ↔ x = 0 := by
  rcases h with ⟨rfl, rfl⟩ | ⟨rfl, rfl⟩ | ⟨rfl, rfl⟩ | ⟨rfl, rfl⟩ <;> decide
theorem Low_fn {C C' : CS} {d : Nat} {a : Nat → Nat} (h4 : ∀ i, i < d → C'.1 4 (a i) = C.1 4 (a i)) (h5 : ∀ i, i + 1 < d → C'.1 5 (a i) = C.1 5 (a i)) (h8 : ∀ i, i + 1 < d → C'.1 8 (a i) = C.1 8 (a i)) (h10 : C'.1 10 = C.1 10) (h : Low C d a) : Low C' d a := fun i hi => by
  obtain ⟨f, p, x1, x2, x3, x4, x5⟩ := h i hi
  exact ⟨f, p, x1, x2, by rw [h4 i (by omega)]; exact x3, by rw [h5 i hi]; exact x4, by rw [h8 i hi, h10]; exact x5⟩
theorem NB_fn {C C' : CS} (h0 : C'.1 0 = C.1 0) (h1 : C'.1 1 = C.1 1) (h6 : C'.1 6 = C.1 6) (h13 : C'.1 13 = C.1 13) (h : NB C) : NB C' := by
  unfold NB
  rw [cactive_fn h0 h6, h1, h13]
  exact h
theorem Low_keep {C C' M M' : CS} {d : Nat} {a : Nat → Nat} (k : rkeep C' C M' M d a) (h : Low C d a) : Low C' d a := Low_fn (fun i hi => (k.1 i hi).1) (fun i hi => (k.1 i (by omega)).2.1) (fun i hi => (k.1 i (by omega)).2.2) k.2.1 h
theorem Low_tkeep {C C' M M' : CS} {d : Nat} {a : Nat → Nat} (k : tkeep C' C M' M) (h : Low C d a) : Low C' d a := Low_fn (fun i _ => by rw [k.1 4 (by decide) (by decide) (by decide)]) (fun i _ => by rw [k.1 5 (by decide) (by decide) (by decide)]) (fun i _ => by rw [k.1 8 (by decide) (by decide) (by decide)]) (k.1 10 (by decide) (by decide) (by decide)) h
/-- a step that leaves the stack as it was: the next place -/
theorem plain {C2 M2 : CS} {e n p : Nat} {a : Nat → Nat} {tr : Int32} (h2 : HH C2 M2) (s2 : Stk C2 M2 (e + 1) a) (nb2 : NB C2) (low2 : Low C2 (e + 1) a) (hn : a e = n) (ht : trR tr (M2.1 22 0)) (hp : C2.1 21 0 = nI p) (hp2 : p ≤ 16) : KK tr (if tr = 0 then sI C2 5 n (C2.1 21 0) else C2) (if M2.1 22 0 = 0 then sI M2 9 n (nI p) else M2) := by
  by_cases z : tr = 0
  · rw [if_pos z, if_pos ((tr_0 ht).1 z), hp]
    refine ⟨e + 1, a, HH_place h2 hp2, Stk_of (sI_f (by decide)) (sI_f (by decide)) (sI_f (by decide)) rfl (sI_f (by decide)) (sI_f (by decide)) s2, NB_fn (sI_f (by decide)) (sI_f (by decide)) (sI_f (by decide)) (sI_f (by decide)) nb2, Low_fn (fun i _ => by rw [sI_e (by decide)]) (fun i hi => ?_) (fun i _ => by rw [sI_e (by decide)]) (sI_f (by decide)) low2, by rw [sI_e (by decide)]; exact ht, fun _ w => by omega⟩
    rw [sI_n]
    intro w
    have := s2.2.2.2.2.1 i e (by omega) (by omega) (w.trans hn.symm)
    omega
  · rw [if_neg z, if_neg (fun w => z ((tr_0 ht).2 w))]
    exact ⟨e + 1, a, h2, s2, nb2, low2, ht, fun w => (z w).elim⟩
theorem plainT {C2 M2 : CS} {e n p : Nat} {a : Nat → Nat} {tr : Int32} (h2 : HH C2 M2) (s2 : Stk C2 M2 (e + 1) a) (nb2 : NB C2) (low2 : Low C2 (e + 1) a) (hn : a e = n) (ht : trR tr (M2.1 22 0)) (hq : C2.1 5 n = nI p) (hp : C2.1 21 0 = nI (p + 1)) (hp2 : p ≤ 15) : KK tr (if tr = 0 then sI C2 5 n (C2.1 21 0) else C2) (mT M2 n) := by
  obtain ⟨t1, -, -, t4⟩ := s2.2.2.2.1 e (by omega)
  have e9 : M2.1 9 n = nI p := by
    rw [hn] at t1 t4
    rw [← ((h2.2.2.2.2.1 n t1).2.2.1 (cactive_iff.1 t4).1).2.1]
    exact hq
  unfold mT
  rw [e9, nI_1]
  exact plain h2 s2 nb2 low2 hn ht hp (by omega)
theorem mlA {A : CS} {n : Nat} {q y s : Int32} {x : Int64} : sJ (sI (sI (sI A 9 n q) 13 0 y) 10 n s) 4 0 0 x = sI (sJ (sI (sI A 10 n s) 13 0 y) 4 0 0 x) 9 n q := by
  rw [sI_comm (C := A) (f := 9) (g := 13) (.inl (by decide)), sI_comm (f := 9) (g := 10) (.inl (by decide)), sI_comm (C := A) (f := 13) (g := 10) (.inl (by decide))]
  rfl
theorem Stk_pop {B F M G : CS} {e : Nat} {a : Nat → Nat} {v : Int32} (s : Stk B M (e + 1) a) (h0 : F.1 0 = B.1 0) (h6 : F.1 6 = fun b => if b = a e then v else B.1 6 b) (hv : ¬ v = 2) (h19 : F.1 19 0 = nI e) (hs : F.2.2 = B.2.2) (m12 : G.1 12 = M.1 12) (m13 : G.1 13 0 = nI e) : Stk F G e a ∧ ∀ b, cactive F b = true → cactive B b = true := by
  obtain ⟨s1, s2, s3, s4, s5, s6⟩ := s
  have hact : ∀ b, cactive F b = true ↔ cactive B b = true ∧ b ≠ a e := fun b => by
    rw [cactive_iff, cactive_iff, h0, h6]
    simp only
    by_cases w : b = a e
    · rw [if_pos w]
      exact ⟨fun z => (hv z.2).elim, fun z => (z.2 w).elim⟩
    · rw [if_neg w]
      exact ⟨fun z => ⟨z, w⟩, fun z => z.1⟩
  refine ⟨⟨by omega, h19, m13, fun i hi => ?_, fun i j hi hj => s5 i j (by omega) (by omega), fun b hb z => ?_⟩, fun b z => ((hact b).1 z).1⟩
  · obtain ⟨t1, t2, t3, t4⟩ := s4 i (by omega)
    refine ⟨t1, by rw [hs]; exact t2, by rw [m12]; exact t3, (hact _).2 ⟨t4, fun w => ?_⟩⟩
    have := s5 i e (by omega) (by omega) w
    omega
  · obtain ⟨z1, z2⟩ := (hact b).1 z
    obtain ⟨i, hi, w⟩ := s6 b hb z1
    refine ⟨i, ?_, w⟩
    by_cases y : i = e
    · subst y; exact (z2 w.symm).elim
    · omega
theorem sI_fn {C : CS} {f n : Nat} {v : Int32} : (sI C f n v).1 f = fun b => if b = n then v else C.1 f b := by
  funext b
  rw [sI_1]
  simp
/-- YIELD or RETURN: X is the class's state with the new STATE, A the reference's with the REGISTER noted -/
theorem leave_all {B X M A : CS} {e n p : Nat} {a : Nat → Nat} {v : Int32} {x : Int64} (s : Stk B M (e + 1) a) (nb : NB B) (low : Low B (e + 1) a) (hn : a e = n) (hv : v = 1 ∨ v = 3)
    (hX : HH X (sI A 10 n v)) (x6 : X.1 6 = fun b => if b = n then v else B.1 6 b) (xf : ∀ f, f ≠ 6 → f ≠ 7 → X.1 f = B.1 f) (x2 : X.2 = B.2) (af : ∀ f, f ≠ 11 → A.1 f = M.1 f) (hx : okV x) (lx : lv B x) (h22 : M.1 22 0 = 0) (h21 : B.1 21 0 = nI (p + 1)) (hp : p ≤ 15) (h9 : M.1 9 n = nI p) :
    KK 0 (sI (cleave X x) 5 n ((cleave X x).1 21 0)) (mleave (sI A 9 n (M.1 9 n + 1)) v x) := by
  obtain ⟨s1, s2, s3, s4, s5, s6⟩ := s
  have s' : Stk B M (e + 1) a := ⟨s1, s2, s3, s4, s5, s6⟩
  have hlX : live X = live B := live_fn (xf 0 (by decide) (by decide)) (xf 1 (by decide) (by decide)) (xf 13 (by decide) (by decide)) (xf 14 (by decide) (by decide))
  have x19 : X.1 19 0 = nI (e + 1) := by rw [xf 19 (by decide) (by decide)]; exact s2
  obtain ⟨t1, t2, t3, t4⟩ := s4 e (by omega)
  rw [hn] at t1 t2 t3 t4
  have oX := hX.1
  have okd : okC (sI X 19 0 (nI e)) := by
    obtain ⟨q1, q2, q3, -⟩ := oX
    refine ⟨q1, q2, q3, e, by omega, sI_self, fun i hi => ?_⟩
    obtain ⟨y1, y2, -⟩ := s4 i (by omega)
    exact ⟨a i, y1, by show X.2.2 i = _; rw [x2]; exact y2⟩
  have g1 : HH (sI X 19 0 (nI e)) (sJ (sI (sI A 10 n v) 13 0 (nI e)) 4 0 0 x) := HH_MJ hx (HH_M (by omega) (okM_13 (by omega) hX.2.1) (HH_C (by omega) okd hX))
  have v2 : ¬ v = 2 := by rcases hv with w | w <;> rw [w] <;> decide
  have eq19 : X.1 19 0 - 1 = nI e := by rw [x19, nI_pred]
  have yd : mDepth (sI A 9 n (nI (p + 1))) = e + 1 := mDepth_eq (by rw [sI_e (by decide), af 13 (by decide)]; exact s3) s1
  have ya : ∀ i, i < e + 1 → mAct (sI A 9 n (nI (p + 1))) i = a i := fun i hi => by
    obtain ⟨y1, -, y3, -⟩ := s4 i hi
    exact mAct_eq (by rw [sI_e (by decide), af 12 (by decide)]; exact y3) y1
  have yl : mleaveA (sI A 9 n (nI (p + 1))) v x = sI (sJ (sI (sI A 10 n v) 13 0 (nI e)) 4 0 0 x) 9 n (nI (p + 1)) := by
    unfold mleaveA
    rw [yd, Nat.add_sub_cancel, ya e (by omega), hn, sI_e (by decide), af 13 (by decide), s3, nI_pred, mlA]
  rw [h9, nI_1]
  by_cases e0 : e = 0
  · subst e0
    have eC : cleave X x = sJ (sI X 19 0 (nI 0)) 5 0 0 x := by
      unfold cleave
      rw [eq19, if_pos nI_0]
    have eM : mleave (sI A 9 n (nI (p + 1))) v x = sI (sJ (sI (sI A 10 n v) 13 0 (nI 0)) 4 0 0 x) 9 n (nI (p + 1)) := by
      unfold mleave
      rw [yd, if_pos rfl, yl]
    have e21 : (sJ (sI X 19 0 (nI 0)) 5 0 0 x).1 21 0 = nI (p + 1) := by rw [sJ_1, sI_e (by decide), xf 21 (by decide) (by decide)]; exact h21
    rw [eC, eM, e21]
    have g2 := HH_place (n := n) (p := p + 1) (HH_CJ (f := 5) (n := 0) (i := 0) (v := x) (.inr rfl) hx g1) (by omega)
    obtain ⟨k1, k2⟩ := Stk_pop (F := sI (sJ (sI X 19 0 (nI 0)) 5 0 0 x) 5 n (nI (p + 1))) (G := sI (sJ (sI (sI A 10 n v) 13 0 (nI 0)) 4 0 0 x) 9 n (nI (p + 1))) (v := v) s' (by rw [sI_f (by decide), sJ_1, sI_f (by decide), xf 0 (by decide) (by decide)]) (by rw [sI_f (by decide), sJ_1, sI_f (by decide), x6, hn]) v2 (by rw [sI_e (by decide), sJ_1, sI_self]) (by show X.2.2 = B.2.2; rw [x2]) (by rw [sI_f (by decide), sJ_1, sI_f (by decide), sI_f (by decide), af 12 (by decide)]) (by rw [sI_e (by decide), sJ_1, sI_self])
    refine ⟨0, a, g2, k1, fun w b hb z y => ?_, fun i hi => by omega, .inl ⟨rfl, by rw [sI_e (by decide), sJ_1, sI_e (by decide), sI_e (by decide), af 22 (by decide)]; exact h22⟩, fun _ _ => ⟨?_, ?_⟩⟩
    · rw [sI_e (by decide), sJ_1, sI_e (by decide), xf 13 (by decide) (by decide)] at w
      rw [sI_e (by decide), sJ_1, sI_e (by decide), xf 1 (by decide) (by decide)] at y
      exact nb w b hb (k2 b z) y
    · rw [sI_2f, sI_2f, sJ_2, sJ_2, if_pos ⟨rfl, rfl, rfl⟩, if_pos ⟨rfl, rfl, rfl⟩]
    · rw [sI_2f, sJ_2, if_pos ⟨rfl, rfl, rfl⟩]
      intro m hm w
      rw [live_fn (C' := sI (sJ (sI X 19 0 (nI 0)) 5 0 0 x) 5 n (nI (p + 1))) (C := X) (by rw [sI_f (by decide), sJ_1, sI_f (by decide)]) (by rw [sI_f (by decide), sJ_1, sI_f (by decide)]) (by rw [sI_f (by decide), sJ_1, sI_f (by decide)]) (by rw [sI_f (by decide), sJ_1, sI_f (by decide)]), hlX]
      exact lx m hm w
  · obtain ⟨r, rfl⟩ : ∃ r, e = r + 1 := ⟨e - 1, by omega⟩
    obtain ⟨u1, u2, u3, u4⟩ := s4 r (by omega)
    obtain ⟨fm, pm, l1, l2, l3, l4, l5⟩ := low r (by omega)
    generalize hm : a r = m at *
    have mn : m ≠ n := fun w => by
      have := s5 r (r + 1) (by omega) (by omega) (by rw [hm, hn]; exact w)
      omega
    have km : X.1 0 m = 2 := by rw [xf 0 (by decide) (by decide)]; exact (cactive_iff.1 u4).1
    obtain ⟨-, -, r4, -, -⟩ := hX.2.2.2.2.1 m u1
    obtain ⟨q1, q2, -⟩ := r4 km
    have f8 : A.1 8 m = nI fm := by rw [xf 4 (by decide) (by decide), l3, sI_e (by decide)] at q1; exact q1.symm
    have f9 : A.1 9 m = nI pm := by rw [xf 5 (by decide) (by decide), l4, sI_e (by decide)] at q2; exact q2.symm
    have hri := (hX.2.2.2.2.2.2 fm pm l1 (by omega)).2.1
    rw [xf 10 (by decide) (by decide), sI_e (by decide)] at hri
    have eC : cleave X x = sI (sJ (sI X 19 0 (nI (r + 1))) 3 m (fmod (B.1 10 (fm * 17 + pm)) 4) x) 5 m (nI (pm + 1)) := by
      unfold cleave
      have cD : cDepth X = r + 1 + 1 := cDepth_eq x19 s1
      have cA : cact X (r + 1 + 1 - 2) = m := by unfold cact; rw [x2, show r + 1 + 1 - 2 = r by omega, u2]; rfl
      rw [eq19, if_neg (nI_ne0 (by omega) (by omega)), cD]
      simp only [cA]
      rw [xf 8 (by decide) (by decide), l5, nI_clamp (by have := fmod_lt (B.1 10 (fm * 17 + pm)) (m := 4) (by decide); omega), sJ_1, sI_e (by decide), xf 5 (by decide) (by decide), l4, nI_1]
    have eM : mleave (sI A 9 n (nI (p + 1))) v x = sI (sI (sJ (sJ (sI (sI A 10 n v) 13 0 (nI (r + 1))) 4 0 0 x) 3 0 (m * 4 + fmod (B.1 10 (fm * 17 + pm)) 4) x) 9 m (nI (pm + 1))) 9 n (nI (p + 1)) := by
      unfold mleave
      have ei : mIns (sI A 9 n (nI (p + 1))) m = fm * 16 + pm := by
        unfold mIns
        rw [sI_e (by decide), sI_n mn, f8, f9, nI_clamp (by omega), nI_clamp (by omega)]
      rw [yd, if_neg (by omega), yl, show r + 1 + 1 - 2 = r by omega, ya r (by omega), hm, ei, sI_e (by decide), ← hri, sI_n mn, f9, nI_1]
      rw [sI_comm (C := sJ (sJ (sI (sI A 10 n v) 13 0 (nI (r + 1))) 4 0 0 x) 3 0 (m * 4 + fmod (B.1 10 (fm * 17 + pm)) 4) x) (f := 9) (n := m) (g := 9) (m := n) (.inr mn)]
      rfl
    have e21 : (sI (sJ (sI X 19 0 (nI (r + 1))) 3 m (fmod (B.1 10 (fm * 17 + pm)) 4) x) 5 m (nI (pm + 1))).1 21 0 = nI (p + 1) := by rw [sI_e (by decide), sJ_1, sI_e (by decide), xf 21 (by decide) (by decide)]; exact h21
    rw [eC, eM, e21]
    have x13 : (sI X 19 0 (nI (r + 1))).1 13 0 = B.1 13 0 := by rw [sI_e (by decide), xf 13 (by decide) (by decide)]
    have g2 := HH_reg (n := m) (i := fmod (B.1 10 (fm * 17 + pm)) 4) (v := x) g1 u1 (fmod_lt _ (by decide)) hx (fun q hq w => by rw [live_fn (C' := sI X 19 0 (nI (r + 1))) (C := X) (sI_f (by decide)) (sI_f (by decide)) (sI_f (by decide)) (sI_f (by decide)), hlX]; exact lx q hq w) (fun w => by rw [x13] at w; rw [sI_e (by decide), xf 1 (by decide) (by decide)]; exact nb w m u1 u4)
    have g3 := HH_place (n := n) (p := p + 1) (HH_place (n := m) (p := pm + 1) g2 (by omega)) (by omega)
    have F0 : ∀ f, f ≠ 5 → f ≠ 19 → (sI (sI (sJ (sI X 19 0 (nI (r + 1))) 3 m (fmod (B.1 10 (fm * 17 + pm)) 4) x) 5 m (nI (pm + 1))) 5 n (nI (p + 1))).1 f = X.1 f := fun f f5 f19 => by rw [sI_f f5, sI_f f5, sJ_1, sI_f f19]
    obtain ⟨k1, k2⟩ := Stk_pop (F := sI (sI (sJ (sI X 19 0 (nI (r + 1))) 3 m (fmod (B.1 10 (fm * 17 + pm)) 4) x) 5 m (nI (pm + 1))) 5 n (nI (p + 1))) (G := sI (sI (sJ (sJ (sI (sI A 10 n v) 13 0 (nI (r + 1))) 4 0 0 x) 3 0 (m * 4 + fmod (B.1 10 (fm * 17 + pm)) 4) x) 9 m (nI (pm + 1))) 9 n (nI (p + 1))) (v := v) s' (by rw [F0 0 (by decide) (by decide), xf 0 (by decide) (by decide)]) (by rw [F0 6 (by decide) (by decide), x6, hn]) v2 (by rw [sI_e (by decide), sI_e (by decide), sJ_1, sI_self]) (by show X.2.2 = B.2.2; rw [x2]) (by rw [sI_f (by decide), sI_f (by decide), sJ_1, sJ_1, sI_f (by decide), sI_f (by decide), af 12 (by decide)]) (by rw [sI_e (by decide), sI_e (by decide), sJ_1, sJ_1, sI_self])
    refine ⟨r + 1, a, g3, k1, fun w b hb z y => ?_, fun i hi => ?_, .inl ⟨rfl, by rw [sI_e (by decide), sI_e (by decide), sJ_1, sJ_1, sI_e (by decide), sI_e (by decide), af 22 (by decide)]; exact h22⟩, fun _ w => by omega⟩
    · rw [F0 13 (by decide) (by decide), xf 13 (by decide) (by decide)] at w
      rw [F0 1 (by decide) (by decide), xf 1 (by decide) (by decide)] at y
      exact nb w b hb (k2 b z) y
    · obtain ⟨f, q, y1, y2, y3, y4, y5⟩ := low i (by omega)
      have i1 : a i ≠ n := fun w => by
        have := s5 i (r + 1) (by omega) (by omega) (by rw [hn]; exact w)
        omega
      have i2 : a i ≠ m := fun w => by
        have := s5 i r (by omega) (by omega) (by rw [hm]; exact w)
        omega
      refine ⟨f, q, y1, y2, ?_, ?_, ?_⟩
      · rw [F0 4 (by decide) (by decide), xf 4 (by decide) (by decide)]; exact y3
      · rw [sI_n i1, sI_n i2, sJ_1, sI_e (by decide), xf 5 (by decide) (by decide)]; exact y4
      · rw [F0 8 (by decide) (by decide), F0 10 (by decide) (by decide), xf 8 (by decide) (by decide), xf 10 (by decide) (by decide)]; exact y5
end

-- part 82.opsR
section
/-! the INSTRUCTIONS on both sides -/
def Ctx (C M : CS) (e n f p : Nat) (a : Nat → Nat) : Prop := HH C M ∧ Stk C M (e + 1) a ∧ NB C ∧ Low C (e + 1) a ∧ a e = n ∧ f < 4 ∧ p ≤ 15 ∧ C.1 4 n = nI f ∧ C.1 5 n = nI p ∧ M.1 22 0 = 0
theorem ctx_top {C M : CS} {e n f p : Nat} {a : Nat → Nat} (c : Ctx C M e n f p a) : n < 16 ∧ C.1 0 n = 2 ∧ C.1 6 n = 2 ∧ live C n ∧ (∀ j, j < 4 → lv C (C.2.1 3 n j)) ∧ (∀ j, j < 4 → M.2.1 3 0 (n * 4 + j) = C.2.1 3 n j) ∧ (C.1 13 0 = 1 → ¬ C.1 1 n = 2) ∧ (∀ i, i < e → a i ≠ n) := by
  obtain ⟨h, s, nb, low, hn, hf, hp, h4, h5, h22⟩ := c
  obtain ⟨t1, -, -, t4⟩ := s.2.2.2.1 e (by omega)
  rw [hn] at t1 t4
  obtain ⟨k, st⟩ := cactive_iff.1 t4
  refine ⟨t1, k, st, h.2.2.2.1.1 n t1 (.inr ⟨n, t1, t4, .inl rfl⟩), fun j hj m hm w => h.2.2.2.1.1 m hm (.inr ⟨n, t1, t4, .inr ⟨j, hj, w⟩⟩), fun j hj => ((h.2.2.2.2.1 n t1).2.2.2.1 k j hj).symm, fun w => nb w n t1 t4, fun i hi w => ?_⟩
  have := s.2.2.2.2.1 i e (by omega) (by omega) (w.trans hn.symm)
  omega
theorem beg_ctx {C M : CS} {e n f p : Nat} {a : Nat → Nat} (c : Ctx C M e n f p a) : Ctx (cbeg C n) (sI M 18 0 (M.1 18 0 + 1)) e n f p a ∧ (cbeg C n).1 21 0 = nI (p + 1) ∧ ∀ f, f ≠ 20 → f ≠ 21 → (cbeg C n).1 f = C.1 f := by
  obtain ⟨h, s, nb, low, hn, hf, hp, h4, h5, h22⟩ := c
  have e20 : C.1 20 0 + 1 = M.1 18 0 + 1 := by rw [h.2.2.2.2.2.1.2.2.2.2.2.2.2]
  have fr : ∀ f, f ≠ 20 → f ≠ 21 → (cbeg C n).1 f = C.1 f := fun f f20 f21 => by unfold cbeg; rw [sI_f f21, sI_f f20]
  have hB : HH (cbeg C n) (sI M 18 0 (M.1 18 0 + 1)) := by
    have h1 := HH_cnt (f := 20) (g := 18) (v := M.1 18 0 + 1) (.inr (.inr ⟨rfl, rfl⟩)) h
    rw [← e20] at h1
    have := HH_C (f := 21) (n := 0) (v := C.1 5 n + 1) (by omega) (okC_I h1.1 (by decide) (by decide) (by decide) (by decide) (by decide) (by decide) (by decide) (by decide)) h1
    rw [e20] at this
    unfold cbeg
    rw [e20]
    exact this
  refine ⟨⟨hB, Stk_of (fr 0 (by decide) (by decide)) (fr 6 (by decide) (by decide)) (fr 19 (by decide) (by decide)) rfl (sI_f (by decide)) (sI_f (by decide)) s, NB_fn (fr 0 (by decide) (by decide)) (fr 1 (by decide) (by decide)) (fr 6 (by decide) (by decide)) (fr 13 (by decide) (by decide)) nb, Low_fn (fun i _ => by rw [fr 4 (by decide) (by decide)]) (fun i _ => by rw [fr 5 (by decide) (by decide)]) (fun i _ => by rw [fr 8 (by decide) (by decide)]) (fr 10 (by decide) (by decide)) low, hn, hf, hp, by rw [fr 4 (by decide) (by decide)]; exact h4, by rw [fr 5 (by decide) (by decide)]; exact h5, by rw [sI_e (by decide)]; exact h22⟩, ?_, fr⟩
  unfold cbeg
  rw [sI_self, h5, nI_1]
theorem op_reg {B M : CS} {e n f p i : Nat} {a : Nat → Nat} {v : Int64} (c : Ctx B M e n f p a) (h21 : B.1 21 0 = nI (p + 1)) (hi : i < 4) (hv : okV v) (l : lv B v) : KK 0 (sI (sJ B 3 n i v) 5 n ((sJ B 3 n i v).1 21 0)) (mT (sJ M 3 0 (n * 4 + i) v) n) := by
  obtain ⟨t1, t2, t3, t4, t5, t6, t7, t8⟩ := ctx_top c
  obtain ⟨h, s, nb, low, hn, hf, hp, h4, h5, h22⟩ := c
  have := plainT (tr := 0) (p := p) (HH_reg h t1 hi hv l t7) (Stk_of (C := B) (M := M) rfl rfl rfl rfl rfl rfl s) (NB_fn (C := B) rfl rfl rfl rfl nb) (Low_fn (C := B) (fun _ _ => rfl) (fun _ _ => rfl) (fun _ _ => rfl) rfl low) hn (.inl ⟨rfl, h22⟩) h5 h21 hp
  rw [if_pos rfl] at this
  exact this
theorem op_glob {B M : CS} {e n f p i : Nat} {a : Nat → Nat} {v : Int64} (c : Ctx B M e n f p a) (h21 : B.1 21 0 = nI (p + 1)) (hi : i < 6) (hv : okV v) (l : lv B v) : KK 0 (sI (sJ B 0 0 i v) 5 n ((sJ B 0 0 i v).1 21 0)) (mT (sJ M 0 0 i v) n) := by
  obtain ⟨h, s, nb, low, hn, hf, hp, h4, h5, h22⟩ := c
  have := plainT (tr := 0) (p := p) (HH_glob h hi hv l) (Stk_of (C := B) (M := M) rfl rfl rfl rfl rfl rfl s) (NB_fn (C := B) rfl rfl rfl rfl nb) (Low_fn (C := B) (fun _ _ => rfl) (fun _ _ => rfl) (fun _ _ => rfl) rfl low) hn (.inl ⟨rfl, h22⟩) h5 h21 hp
  rw [if_pos rfl] at this
  exact this
/-- trouble, and nothing else -/
theorem op_bad {B B2 M : CS} {e n f p : Nat} {a : Nat → Nat} {tr t : Int32} (c : Ctx B M e n f p a) (hB : HH B2 M) (i0 : B2.1 = B.1) (i2 : B2.2.2 = B.2.2) (ht : trR tr t) (h0 : ¬ tr = 0) : KK tr B2 (sI M 22 0 t) := by
  obtain ⟨h, s, nb, low, hn, hf, hp, h4, h5, h22⟩ := c
  exact ⟨e + 1, a, HH_M (by omega) (okM_keep (by decide) h.2.1) hB, Stk_of (by rw [i0]) (by rw [i0]) (by rw [i0]) i2 (sI_f (by decide)) (sI_f (by decide)) s, NB_fn (by rw [i0]) (by rw [i0]) (by rw [i0]) (by rw [i0]) nb, Low_fn (fun _ _ => by rw [i0]) (fun _ _ => by rw [i0]) (fun _ _ => by rw [i0]) (by rw [i0]) low, by rw [sI_self]; exact ht, fun w => (h0 w).elim⟩
theorem mT_bad {M : CS} {n : Nat} {t : Int32} (h : ¬ t = 0) : mT (sI M 22 0 t) n = sI M 22 0 t := by unfold mT; rw [sI_self, if_neg h]
theorem op_new {B M : CS} {e n f p i q : Nat} {a : Nat → Nat} {k g g' : Int32} (c : Ctx B M e n f p a) (h21 : B.1 21 0 = nI (p + 1)) (hi : i < 4) (hk : k = 1 ∨ (k = 2 ∧ q < 4 ∧ g = nI q ∧ g' = nI q)) : KK (ckept (ccreate B k g) n i).1 (if (ckept (ccreate B k g) n i).1 = 0 then sI (ckept (ccreate B k g) n i).2 5 n ((ckept (ccreate B k g) n i).2.1 21 0) else (ckept (ccreate B k g) n i).2) (mT (mnew (mcreate M k g') (n * 4 + i)) n) := by
  obtain ⟨t1, t2, t3, t4, t5, t6, t7, t8⟩ := ctx_top c
  obtain ⟨h, s, nb, low, hn, hf, hp, h4, h5, h22⟩ := c
  obtain ⟨w1, w2, w3, w4, w5⟩ := create_all h s nb hk
  unfold ckept mnew
  simp only
  generalize ccreate B k g = r at *
  generalize mcreate M k g' = r' at *
  obtain ⟨x1, x2, x3, x4⟩ := w5
  have e5 : r.2.1 5 n = nI p := by rw [← hn, (x1 e (by omega)).2.1, hn]; exact h5
  have e21 : r.2.1 21 0 = nI (p + 1) := by rw [x3]; exact h21
  have low' : Low r.2 (e + 1) a := Low_keep ⟨x1, x2, x3, x4⟩ low
  rcases w1 with ⟨y1, y2⟩ | ⟨m, hm, y1, y2, y3, y4⟩
  · rw [y1, y2]
    simp only
    have : ckeep r.2 n i 3 = r.2 := by unfold ckeep; rw [if_neg (by decide)]
    rw [this]
    exact plainT (tr := 3) (p := p) (HH_M (by omega) (okM_keep (by decide) w2.2.1) w2) (Stk_of (C := r.2) rfl rfl rfl rfl (sI_f (by decide)) (sI_f (by decide)) w3) w4 low' hn (.inr (.inr (.inr ⟨rfl, sI_self⟩))) e5 e21 hp
  · rw [y1, y2]
    simp only
    have : ckeep r.2 n i 0 = sJ r.2 3 n i (oV m) := by unfold ckeep; rw [if_pos rfl, y3]
    rw [this, oV_nI hm]
    have an : cactive r.2 n = true := by have := (w3.2.2.2.1 e (by omega)).2.2.2; rw [hn] at this; exact this
    exact plainT (tr := 0) (p := p) (HH_reg w2 t1 hi (.inr ⟨m, hm, rfl⟩) (fun m' hm' z => by rw [← (oV_inj hm hm').1 z]; exact y4) (fun z => w4 z n t1 an)) (Stk_of (C := r.2) (M := r'.2) rfl rfl rfl rfl rfl rfl w3) (NB_fn (C := r.2) rfl rfl rfl rfl w4) (Low_fn (C := r.2) (fun _ _ => rfl) (fun _ _ => rfl) (fun _ _ => rfl) rfl low') hn (.inl ⟨rfl, by show r'.2.1 22 0 = 0; rw [x4]; exact h22⟩) e5 e21 hp
/-- a value found, or trouble -/
theorem op_found {B M : CS} {e n f p i : Nat} {a : Nat → Nat} {r : Int32 × CS} {r' : Int64 × CS} (c : Ctx B M e n f p a) (h21 : B.1 21 0 = nI (p + 1)) (hi : i < 4) (hr : (∃ v, okV v ∧ lv B v ∧ r = (0, sJ B 4 0 0 v) ∧ r' = (v, M)) ∨ (∃ tr t v w, ¬ tr = 0 ∧ ¬ t = 0 ∧ trR tr t ∧ okV v ∧ (r = (tr, sJ B 4 0 0 v) ∨ r = (tr, B)) ∧ r' = (w, sI M 22 0 t))) : KK (ckept r n i).1 (if (ckept r n i).1 = 0 then sI (ckept r n i).2 5 n ((ckept r n i).2.1 21 0) else (ckept r n i).2) (mT (mkeep r' (n * 4 + i)) n) := by
  have c' := c
  obtain ⟨t1, t2, t3, t4, t5, t6, t7, t8⟩ := ctx_top c
  obtain ⟨h, s, nb, low, hn, hf, hp, h4, h5, h22⟩ := c
  rcases hr with ⟨v, v1, v2, rfl, rfl⟩ | ⟨tr, t, v, w, q0, q1, q2, q3, q4, rfl⟩
  · have e1 : ckept (0, sJ B 4 0 0 v) n i = (0, sJ (sJ B 4 0 0 v) 3 n i v) := by unfold ckept ckeep; simp only [if_true]; rw [sJ_2, if_pos ⟨rfl, rfl, rfl⟩]
    have e2 : mkeep (v, M) (n * 4 + i) = sJ M 3 0 (n * 4 + i) v := by unfold mkeep; simp only; rw [if_pos h22]
    rw [e1, e2]
    simp only [if_true]
    have h' : HH (sJ B 4 0 0 v) M := HH_CJ (.inl rfl) v1 h
    have c2 : Ctx (sJ B 4 0 0 v) M e n f p a := ⟨h', Stk_of (C := B) (M := M) rfl rfl rfl rfl rfl rfl s, NB_fn (C := B) rfl rfl rfl rfl nb, Low_fn (C := B) (fun _ _ => rfl) (fun _ _ => rfl) (fun _ _ => rfl) rfl low, hn, hf, hp, h4, h5, h22⟩
    exact op_reg c2 h21 hi v1 (fun m hm z => by rw [live_fn (C' := sJ B 4 0 0 v) (C := B) rfl rfl rfl rfl]; exact v2 m hm z)
  · have e2 : mkeep (w, sI M 22 0 t) (n * 4 + i) = sI M 22 0 t := by unfold mkeep; simp only; rw [sI_self, if_neg q1]
    rw [e2, mT_bad q1]
    rcases q4 with rfl | rfl
    · have e1 : ckept (tr, sJ B 4 0 0 v) n i = (tr, sJ B 4 0 0 v) := by unfold ckept ckeep; simp only; rw [if_neg q0]
      rw [e1]
      simp only
      rw [if_neg q0]
      exact op_bad c' (HH_CJ (.inl rfl) q3 h) rfl rfl q2 q0
    · have e1 : ckept (tr, B) n i = (tr, B) := by unfold ckept ckeep; simp only; rw [if_neg q0]
      rw [e1]
      simp only
      rw [if_neg q0]
      exact op_bad c' h rfl rfl q2 q0
theorem op_tab {B C2 M M2 : CS} {e n f p : Nat} {a : Nat → Nat} {tr : Int32} (c : Ctx B M e n f p a) (h21 : B.1 21 0 = nI (p + 1)) (h2 : HH C2 M2) (k : tkeep C2 B M2 M) (ht : trR tr (M2.1 22 0)) : KK tr (if tr = 0 then sI C2 5 n (C2.1 21 0) else C2) (mT M2 n) := by
  obtain ⟨h, s, nb, low, hn, hf, hp, h4, h5, h22⟩ := c
  exact plainT (p := p) h2 (Stk_keep k s) (NB_keep k nb) (Low_tkeep k low) hn ht (by rw [k.1 5 (by decide) (by decide) (by decide)]; exact h5) (by rw [k.1 21 (by decide) (by decide) (by decide)]; exact h21) hp
/-- a jump: the next place is set -/
theorem op_jump {B M : CS} {e n f p q : Nat} {a : Nat → Nat} (c : Ctx B M e n f p a) (hq : B.1 21 0 = nI q) (hq2 : q ≤ 16) : KK 0 (sI B 5 n (B.1 21 0)) (sI M 9 n (nI q)) := by
  obtain ⟨h, s, nb, low, hn, hf, hp, h4, h5, h22⟩ := c
  have := plain (tr := 0) h s nb low hn (.inl ⟨rfl, h22⟩) hq hq2
  rw [if_pos rfl, if_pos h22] at this
  exact this
theorem ctx_21 {B M : CS} {e n f p : Nat} {a : Nat → Nat} {v : Int32} (c : Ctx B M e n f p a) : Ctx (sI B 21 0 v) M e n f p a := by
  obtain ⟨h, s, nb, low, hn, hf, hp, h4, h5, h22⟩ := c
  exact ⟨HH_C (by omega) (okC_I h.1 (by decide) (by decide) (by decide) (by decide) (by decide) (by decide) (by decide) (by decide)) h, Stk_of (sI_f (by decide)) (sI_f (by decide)) (sI_f (by decide)) rfl (Eq.refl (M.1 12)) (Eq.refl (M.1 13)) s, NB_fn (sI_f (by decide)) (sI_f (by decide)) (sI_f (by decide)) (sI_f (by decide)) nb, Low_fn (fun _ _ => by rw [sI_e (by decide)]) (fun _ _ => by rw [sI_e (by decide)]) (fun _ _ => by rw [sI_e (by decide)]) (sI_f (by decide)) low, hn, hf, hp, by rw [sI_e (by decide)]; exact h4, by rw [sI_e (by decide)]; exact h5, h22⟩
theorem op_enter {B M : CS} {e n f p i : Nat} {a : Nat → Nat} {y z : Int64} (c : Ctx B M e n f p a) (hi : nI i = nI (fmod (B.1 10 (f * 17 + p)) 4)) (i4 : i < 4) (hy : okV y) (ly : lv B y) (hz : okV z) (lz : lv B z) : KK (center (sI (sI B 21 0 (B.1 5 n)) 8 n (nI i)) y z).1 (if (center (sI (sI B 21 0 (B.1 5 n)) 8 n (nI i)) y z).1 = 0 then sI (center (sI (sI B 21 0 (B.1 5 n)) 8 n (nI i)) y z).2 5 n ((center (sI (sI B 21 0 (B.1 5 n)) 8 n (nI i)) y z).2.1 21 0) else (center (sI (sI B 21 0 (B.1 5 n)) 8 n (nI i)) y z).2) (menter M y z) := by
  obtain ⟨t1, t2, t3, t4, t5, t6, t7, t8⟩ := ctx_top c
  obtain ⟨h, s, nb, low, hn, hf, hp, h4, h5, h22⟩ := ctx_21 (v := B.1 5 n) c
  have b5 : B.1 5 n = nI p := c.2.2.2.2.2.2.2.2.1
  have fr : ∀ f, f ≠ 8 → f ≠ 21 → (sI (sI B 21 0 (B.1 5 n)) 8 n (nI i)).1 f = B.1 f := fun f f8 f21 => by rw [sI_f f8, sI_f f21]
  have hB : HH (sI (sI B 21 0 (B.1 5 n)) 8 n (nI i)) M := HH_C (by omega) (okC_8 h.1 i4) h
  have sB : Stk (sI (sI B 21 0 (B.1 5 n)) 8 n (nI i)) M (e + 1) a := Stk_of (sI_f (by decide)) (sI_f (by decide)) (sI_f (by decide)) rfl (Eq.refl (M.1 12)) (Eq.refl (M.1 13)) s
  have nB : NB (sI (sI B 21 0 (B.1 5 n)) 8 n (nI i)) := NB_fn (sI_f (by decide)) (sI_f (by decide)) (sI_f (by decide)) (sI_f (by decide)) nb
  have lB : Low (sI (sI B 21 0 (B.1 5 n)) 8 n (nI i)) (e + 1) a := Low_fn (fun _ _ => by rw [sI_e (by decide)]) (fun _ _ => by rw [sI_e (by decide)]) (fun j hj => by rw [sI_n (t8 j (by omega))]) (sI_f (by decide)) low
  have hl : live (sI (sI B 21 0 (B.1 5 n)) 8 n (nI i)) = live B := live_fn (fr 0 (by decide) (by decide)) (fr 1 (by decide) (by decide)) (fr 13 (by decide) (by decide)) (fr 14 (by decide) (by decide))
  have e21 : (sI (sI B 21 0 (B.1 5 n)) 8 n (nI i)).1 21 0 = nI p := by rw [sI_e (by decide), sI_self]; exact b5
  have e8 : (sI (sI B 21 0 (B.1 5 n)) 8 n (nI i)).1 8 n = nI i := sI_self
  rcases enter_all hB sB nB hy (fun m hm w => by rw [hl]; exact ly m hm w) hz (fun m hm w => by rw [hl]; exact lz m hm w) with ⟨q1, q2, t, q3, q4⟩ | ⟨q1, q2, m, q3, q4, q5, q6, q7, q8, q9⟩
  · rw [if_neg q1, q2, q3]
    exact ⟨e + 1, a, HH_M (by omega) (okM_keep (by decide) hB.2.1) hB, Stk_of (C := (sI (sI B 21 0 (B.1 5 n)) 8 n (nI i))) rfl rfl rfl rfl (sI_f (by decide)) (sI_f (by decide)) sB, nB, lB, by rw [sI_self]; exact q4, fun w => (q1 w).elim⟩
  · rw [q1, if_pos rfl]
    have c21 : (center (sI (sI B 21 0 (B.1 5 n)) 8 n (nI i)) y z).2.1 21 0 = nI p := by rw [q8 21 (by decide) (by decide) (by decide)]; exact e21
    have c5 : (center (sI (sI B 21 0 (B.1 5 n)) 8 n (nI i)) y z).2.1 5 n = nI p := by rw [q8 5 (by decide) (by decide) (by decide), fr 5 (by decide) (by decide)]; exact b5
    rw [c21, sI_id c5]
    refine ⟨e + 1 + 1, push a (e + 1) m, q5, q6, q7, fun j hj => ?_, by rw [q9]; exact .inl ⟨rfl, h22⟩, fun _ w => by omega⟩
    have pj : push a (e + 1) m j = a j := by unfold push; rw [if_neg (by omega)]
    rw [pj, q8 4 (by decide) (by decide) (by decide), q8 5 (by decide) (by decide) (by decide), q8 8 (by decide) (by decide) (by decide), q8 10 (by decide) (by decide) (by decide)]
    by_cases w : j = e
    · subst w
      rw [hn]
      refine ⟨f, p, hf, hp, ?_, ?_, ?_⟩
      · rw [fr 4 (by decide) (by decide)]; exact c.2.2.2.2.2.2.2.1
      · rw [fr 5 (by decide) (by decide)]; exact b5
      · rw [e8, fr 10 (by decide) (by decide)]; exact hi
    · exact lB j (by omega)
theorem op_yield {B M : CS} {e n f p i : Nat} {a : Nat → Nat} {v : Int32} {X : CS} (c : Ctx B M e n f p a) (h21 : B.1 21 0 = nI (p + 1)) (i4 : i < 4) (hv : (v = 1 ∧ X = sI (sI B 6 n 1) 7 n (nI i)) ∨ (v = 3 ∧ X = sI B 6 n 3)) : KK 0 (sI (cleave X (B.2.1 3 n i)) 5 n ((cleave X (B.2.1 3 n i)).1 21 0)) (mleave (sI (sI M 11 n (nI i)) 9 n (M.1 9 n + 1)) v (B.2.1 3 n i)) := by
  obtain ⟨t1, t2, t3, t4, t5, t6, t7, t8⟩ := ctx_top c
  obtain ⟨h, s, nb, low, hn, hf, hp, h4, h5, h22⟩ := c
  have h9 : M.1 9 n = nI p := by rw [← ((h.2.2.2.2.1 n t1).2.2.1 t2).2.1]; exact h5
  rcases hv with ⟨rfl, rfl⟩ | ⟨rfl, rfl⟩
  · have hX : HH (sI (sI B 6 n 1) 7 n (nI i)) (sI (sI M 11 n (nI i)) 10 n 1) := by
      have g := HH_state (n := n) (v := 1) (HH_cin (n := n) h i4 t3) t1 (by decide) (by rw [sI_e (by decide)]; exact t2) (fun w => absurd w (by decide)) (by decide) (fun _ => by rw [sI_self, sI_self])
      rw [sI_comm (.inl (by decide))] at g
      exact g
    exact leave_all s nb low hn (.inl rfl) hX (by rw [sI_f (by decide), sI_fn]) (fun f f6 f7 => by rw [sI_f f7, sI_f f6]) rfl (fun f hf => sI_f hf) (h.1.2.1 _ _ _) (t5 i i4) h22 h21 hp h9
  · have hX : HH (sI B 6 n 3) (sI (sI M 11 n (nI i)) 10 n 3) := HH_state (n := n) (v := 3) (HH_win (n := n) h i4 t3) t1 (by decide) t2 (fun w => absurd w (by decide)) (by decide) (fun w => absurd w (by decide))
    exact leave_all s nb low hn (.inr rfl) hX sI_fn (fun f f6 f7 => sI_f f6) rfl (fun f hf => sI_f hf) (h.1.2.1 _ _ _) (t5 i i4) h22 h21 hp h9
end

-- part 83.stepR
section
theorem op_jj {B M : CS} {e n f p q : Nat} {a : Nat → Nat} {J : Prop} [Decidable J] (c : Ctx B M e n f p a) (h21 : B.1 21 0 = nI (p + 1)) (hq : q ≤ 16) : KK 0 (sI (if J then sI B 21 0 (nI q) else B) 5 n ((if J then sI B 21 0 (nI q) else B).1 21 0)) (sI M 9 n (if J then nI q else M.1 9 n + 1)) := by
  obtain ⟨t1, t2, -⟩ := ctx_top c
  by_cases z : J
  · simp only [if_pos z]
    exact op_jump (ctx_21 c) sI_self hq
  · simp only [if_neg z]
    have h9 : M.1 9 n + 1 = nI (p + 1) := by rw [← ((c.1.2.2.2.2.1 n t1).2.2.1 t2).2.1, c.2.2.2.2.2.2.2.2.1, nI_1]
    rw [h9]
    exact op_jump c h21 (by have := c.2.2.2.2.2.2.1; omega)
theorem mjmp_o {M : CS} {n i : Nat} {op : Int32} (h : ¬ op = 11) (h22 : M.1 22 0 = 0) : mjmp M n i op = sI M 9 n (if (op = 11 ∧ mX M n i < mY M n i) ∨ op = 12 ∨ (op = 13 ∧ mX M n i = -1000000000000) ∨ (op = 14 ∧ mX M n i = mY M n i) then nI (fmod (M.1 3 i) 16) else M.1 9 n + 1) := by
  have e : mjumpsM M op (mX M n i) (mY M n i) = M := by unfold mjumpsM; rw [if_neg (fun z => h z.1)]
  unfold mjmp
  rw [e, if_pos h22]
theorem op_calc {B M : CS} {e n f p i : Nat} {a : Nat → Nat} {op : Int32} {x y : Int64} (c : Ctx B M e n f p a) (h21 : B.1 21 0 = nI (p + 1)) (hi : i < 4) : KK (ccalc B op n i x y).1 (if (ccalc B op n i x y).1 = 0 then sI (ccalc B op n i x y).2 5 n ((ccalc B op n i x y).2.1 21 0) else (ccalc B op n i x y).2) (mT (mcalc M op (n * 4 + i) x y) n) := by
  unfold ccalc mcalc
  by_cases z : isNum x ∧ isNum y
  · have z' : (-2147483648 ≤ x ∧ x ≤ 2147483647) ∧ (-2147483648 ≤ y ∧ y ≤ 2147483647) := z
    rw [if_pos z, if_pos z']
    simp only [if_true]
    have ev : (if op = 8 then (x + y).toInt32.toInt64 else if op = 9 then (x - y).toInt32.toInt64 else (x * y).toInt32.toInt64) = (if op = 8 then (x.toInt32 + y.toInt32).toInt64 else if op = 9 then (x.toInt32 - y.toInt32).toInt64 else (x.toInt32 * y.toInt32).toInt64) := by rw [Int64.toInt32_add, Int64.toInt32_sub, Int64.toInt32_mul]
    rw [ev]
    refine op_reg c h21 hi ?_ ?_
    · split
      · exact (okV_i _).1
      · split
        · exact (okV_i _).1
        · exact (okV_i _).1
    · split
      · exact (okV_i _).2 B
      · split
        · exact (okV_i _).2 B
        · exact (okV_i _).2 B
  · have z' : ¬ ((-2147483648 ≤ x ∧ x ≤ 2147483647) ∧ (-2147483648 ≤ y ∧ y ≤ 2147483647)) := z
    rw [if_neg z, if_neg z', mT_bad (by decide)]
    simp only [show ¬ (1 : Int32) = 0 by decide, if_false]
    exact op_bad c c.1 rfl rfl (.inr (.inl ⟨rfl, rfl⟩)) (by decide)
theorem op_all {C M : CS} {e n f p o : Nat} {a : Nat → Nat} (c : Ctx C M e n f p a) (ho : o ≤ 21) : KK (cperfO C n (f * 17 + p) o).1 (if (cperfO C n (f * 17 + p) o).1 = 0 then sI (cperfO C n (f * 17 + p) o).2 5 n ((cperfO C n (f * 17 + p) o).2.1 21 0) else (cperfO C n (f * 17 + p) o).2) (mstepO (sI M 18 0 (M.1 18 0 + 1)) n (f * 16 + p) o) := by
  obtain ⟨cB, h21, fr⟩ := beg_ctx c
  obtain ⟨t1, t2, t3, t4, t5, t6, t7, t8⟩ := ctx_top cB
  obtain ⟨-, eA, eB, eC⟩ := cB.1.2.2.2.2.2.2 f p cB.2.2.2.2.2.1 (by have := cB.2.2.2.2.2.2.1; omega)
  rw [fr 10 (by decide) (by decide)] at eA
  rw [fr 11 (by decide) (by decide)] at eB
  rw [fr 12 (by decide) (by decide)] at eC
  have hgl := cB.1.2.2.2.2.2.1.1
  have b22 := cB.2.2.2.2.2.2.2.2.2
  have hok := cB.1.1.2.1
  have hin : (cbeg C n).1 10 (f * 17 + p) = C.1 10 (f * 17 + p) := by rw [fr 10 (by decide) (by decide)]
  have h5n : (cbeg C n).1 5 n = C.1 5 n := by rw [fr 5 (by decide) (by decide)]
  have lgl : ∀ j, j < 6 → lv (cbeg C n) ((cbeg C n).2.1 0 0 j) := fun j hj m hm w => cB.1.2.2.2.1.1 m hm (.inl ⟨j, hj, w⟩)
  have A4 := fmod_lt (C.1 10 (f * 17 + p)) (m := 4) (by decide)
  have B4 := fmod_lt (C.1 11 (f * 17 + p)) (m := 4) (by decide)
  have C4 := fmod_lt (C.1 12 (f * 17 + p)) (m := 4) (by decide)
  have C6 := fmod_lt (C.1 12 (f * 17 + p)) (m := 6) (by decide)
  have C16 := fmod_lt (C.1 12 (f * 17 + p)) (m := 16) (by decide)
  generalize hM1 : sI M 18 0 (M.1 18 0 + 1) = M1 at *
  have eX : mX M1 n (f * 16 + p) = (cbeg C n).2.1 3 n (fmod (C.1 10 (f * 17 + p)) 4) := by show M1.2.1 3 0 (n * 4 + fmod (M1.1 1 (f * 16 + p)) 4) = _; rw [← eA]; exact t6 _ A4
  have eY : mY M1 n (f * 16 + p) = (cbeg C n).2.1 3 n (fmod (C.1 11 (f * 17 + p)) 4) := by show M1.2.1 3 0 (n * 4 + fmod (M1.1 2 (f * 16 + p)) 4) = _; rw [← eB]; exact t6 _ B4
  have eZ : mZ M1 n (f * 16 + p) = (cbeg C n).2.1 3 n (fmod (C.1 12 (f * 17 + p)) 4) := by show M1.2.1 3 0 (n * 4 + fmod (M1.1 3 (f * 16 + p)) 4) = _; rw [← eC]; exact t6 _ C4
  have eA' : mA M1 n (f * 16 + p) = n * 4 + fmod (C.1 10 (f * 17 + p)) 4 := by show n * 4 + fmod (M1.1 1 (f * 16 + p)) 4 = _; rw [← eA]
  have bad1 : KK 1 (cbeg C n) (mT (sI M1 22 0 3) n) := by rw [mT_bad (by decide)]; exact op_bad cB cB.1 rfl rfl (.inr (.inl ⟨rfl, rfl⟩)) (by decide)
  have e2 : ∀ g b i, C.2.1 g b i = (cbeg C n).2.1 g b i := fun _ _ _ => rfl
  match o, ho with
  | 0, _ =>
    show KK 0 (if (0 : Int32) = 0 then _ else _) (mT (sJ M1 3 0 (mA M1 n (f * 16 + p)) _) n)
    rw [if_pos rfl, eA']
    exact op_reg cB h21 A4 okV_nil lv_nil
  | 1, _ =>
    show KK 0 (if (0 : Int32) = 0 then _ else _) (mT (sJ M1 3 0 (mA M1 n (f * 16 + p)) (M1.1 3 (f * 16 + p)).toInt64) n)
    rw [if_pos rfl, eA', ← eC]
    exact op_reg cB h21 A4 (okV_i _).1 ((okV_i _).2 _)
  | 2, _ =>
    show KK 0 (if (0 : Int32) = 0 then _ else _) (mT (sJ M1 3 0 (mA M1 n (f * 16 + p)) (mY M1 n (f * 16 + p))) n)
    rw [if_pos rfl, eA', eY]
    exact op_reg cB h21 A4 (hok _ _ _) (t5 _ B4)
  | 3, _ =>
    show KK 0 (if (0 : Int32) = 0 then _ else _) (mT (sJ M1 3 0 (mA M1 n (f * 16 + p)) (M1.2.1 0 0 (fmod (M1.1 3 (f * 16 + p)) 6))) n)
    rw [if_pos rfl, eA', ← eC, ← hgl _ C6]
    exact op_reg cB h21 A4 (hok _ _ _) (lgl _ C6)
  | 4, _ =>
    show KK 0 (if (0 : Int32) = 0 then _ else _) (mT (sJ M1 0 0 (fmod (M1.1 3 (f * 16 + p)) 6) (mX M1 n (f * 16 + p))) n)
    rw [if_pos rfl, eX, ← eC]
    exact op_glob cB h21 C6 (hok _ _ _) (t5 _ A4)
  | 5, _ =>
    show KK (ckept (ccreate (cbeg C n) 1 0) n (fmod (C.1 10 (f * 17 + p)) 4)).1 _ (mT (mnew (mcreate M1 1 (nI (fmod (M1.1 3 (f * 16 + p)) 4))) (mA M1 n (f * 16 + p))) n)
    rw [eA']
    exact op_new (q := 0) cB h21 A4 (.inl rfl)
  | 6, _ =>
    show KK (ckept (cgetting (cbeg C n) ((cbeg C n).2.1 3 n (fmod (C.1 11 (f * 17 + p)) 4)) ((cbeg C n).2.1 3 n (fmod (C.1 12 (f * 17 + p)) 4))) n (fmod (C.1 10 (f * 17 + p)) 4)).1 (if (ckept (cgetting (cbeg C n) ((cbeg C n).2.1 3 n (fmod (C.1 11 (f * 17 + p)) 4)) ((cbeg C n).2.1 3 n (fmod (C.1 12 (f * 17 + p)) 4))) n (fmod (C.1 10 (f * 17 + p)) 4)).1 = 0 then sI (ckept (cgetting (cbeg C n) ((cbeg C n).2.1 3 n (fmod (C.1 11 (f * 17 + p)) 4)) ((cbeg C n).2.1 3 n (fmod (C.1 12 (f * 17 + p)) 4))) n (fmod (C.1 10 (f * 17 + p)) 4)).2 5 n _ else (ckept (cgetting (cbeg C n) ((cbeg C n).2.1 3 n (fmod (C.1 11 (f * 17 + p)) 4)) ((cbeg C n).2.1 3 n (fmod (C.1 12 (f * 17 + p)) 4))) n (fmod (C.1 10 (f * 17 + p)) 4)).2) (match mOf M1 1 (mY M1 n (f * 16 + p)) with
      | none => mT (sI M1 22 0 3) n
      | some t => mT (mkeep (mgetting M1 (mZ M1 n (f * 16 + p)) 5 t) (mA M1 n (f * 16 + p))) n)
    rw [eA', eY, eZ, isA_mOf cB.1 (hok _ _ _)]
    by_cases ha : isA (cbeg C n) 1 ((cbeg C n).2.1 3 n (fmod (C.1 11 (f * 17 + p)) 4)) = true
    · rw [if_pos ha]
      refine op_found cB h21 A4 ?_
      rcases getting_all (k := (cbeg C n).2.1 3 n (fmod (C.1 12 (f * 17 + p)) 4)) cB.1 (hok _ _ _) (t5 _ B4) ha with ⟨v, v1, v2, v3, v4⟩ | ⟨v1, v2⟩
      · exact .inl ⟨v, v1, v2, v3, v4⟩
      · exact .inr ⟨2, 2, _, _, by decide, by decide, .inr (.inr (.inl ⟨rfl, rfl⟩)), okV_nil, .inl v1, v2⟩
    · have eg : ∀ z, cgetting (cbeg C n) ((cbeg C n).2.1 3 n (fmod (C.1 11 (f * 17 + p)) 4)) z = (1, cbeg C n) := fun z => by unfold cgetting; rw [if_neg ha]
      rw [if_neg ha, eg]
      exact bad1
  | 7, _ =>
    show KK (csetting (cbeg C n) ((cbeg C n).2.1 3 n (fmod (C.1 10 (f * 17 + p)) 4)) ((cbeg C n).2.1 3 n (fmod (C.1 11 (f * 17 + p)) 4)) ((cbeg C n).2.1 3 n (fmod (C.1 12 (f * 17 + p)) 4))).1 (if (csetting (cbeg C n) ((cbeg C n).2.1 3 n (fmod (C.1 10 (f * 17 + p)) 4)) ((cbeg C n).2.1 3 n (fmod (C.1 11 (f * 17 + p)) 4)) ((cbeg C n).2.1 3 n (fmod (C.1 12 (f * 17 + p)) 4))).1 = 0 then sI (csetting (cbeg C n) ((cbeg C n).2.1 3 n (fmod (C.1 10 (f * 17 + p)) 4)) ((cbeg C n).2.1 3 n (fmod (C.1 11 (f * 17 + p)) 4)) ((cbeg C n).2.1 3 n (fmod (C.1 12 (f * 17 + p)) 4))).2 5 n _ else (csetting (cbeg C n) ((cbeg C n).2.1 3 n (fmod (C.1 10 (f * 17 + p)) 4)) ((cbeg C n).2.1 3 n (fmod (C.1 11 (f * 17 + p)) 4)) ((cbeg C n).2.1 3 n (fmod (C.1 12 (f * 17 + p)) 4))).2) (match mOf M1 1 (mX M1 n (f * 16 + p)) with
      | none => mT (sI M1 22 0 3) n
      | some t => mT (msetting M1 t (mY M1 n (f * 16 + p)) (mZ M1 n (f * 16 + p))) n)
    rw [eX, eY, eZ, isA_mOf cB.1 (hok _ _ _)]
    by_cases ha : isA (cbeg C n) 1 ((cbeg C n).2.1 3 n (fmod (C.1 10 (f * 17 + p)) 4)) = true
    · rw [if_pos ha]
      obtain ⟨w1, w2, w3⟩ := setting_all (k := (cbeg C n).2.1 3 n (fmod (C.1 11 (f * 17 + p)) 4)) (v := (cbeg C n).2.1 3 n (fmod (C.1 12 (f * 17 + p)) 4)) cB.1 (hok _ _ _) (t5 _ A4) (hok _ _ _) (t5 _ B4) (hok _ _ _) (t5 _ C4) ha b22
      exact op_tab cB h21 w1 w2 w3
    · have eg : ∀ y z, csetting (cbeg C n) ((cbeg C n).2.1 3 n (fmod (C.1 10 (f * 17 + p)) 4)) y z = (1, cbeg C n) := fun y z => by unfold csetting; rw [if_neg (fun w => ha w.1)]
      rw [if_neg ha, eg]
      exact bad1
  | 8, _ =>
    show KK (ccalc (cbeg C n) 8 n _ _ _).1 _ (mT (mcalc M1 8 (mA M1 n (f * 16 + p)) (mY M1 n (f * 16 + p)) (mZ M1 n (f * 16 + p))) n)
    rw [eA', eY, eZ]
    exact op_calc cB h21 A4
  | 9, _ =>
    show KK (ccalc (cbeg C n) 9 n _ _ _).1 _ (mT (mcalc M1 9 (mA M1 n (f * 16 + p)) (mY M1 n (f * 16 + p)) (mZ M1 n (f * 16 + p))) n)
    rw [eA', eY, eZ]
    exact op_calc cB h21 A4
  | 10, _ =>
    show KK (ccalc (cbeg C n) 10 n _ _ _).1 _ (mT (mcalc M1 10 (mA M1 n (f * 16 + p)) (mY M1 n (f * 16 + p)) (mZ M1 n (f * 16 + p))) n)
    rw [eA', eY, eZ]
    exact op_calc cB h21 A4
  | 11, _ =>
    show KK (cbelow (cbeg C n) ((cbeg C n).2.1 3 n (fmod (C.1 10 (f * 17 + p)) 4)) ((cbeg C n).2.1 3 n (fmod (C.1 11 (f * 17 + p)) 4)) (C.1 12 (f * 17 + p))).1 (if (cbelow (cbeg C n) ((cbeg C n).2.1 3 n (fmod (C.1 10 (f * 17 + p)) 4)) ((cbeg C n).2.1 3 n (fmod (C.1 11 (f * 17 + p)) 4)) (C.1 12 (f * 17 + p))).1 = 0 then sI (cbelow (cbeg C n) ((cbeg C n).2.1 3 n (fmod (C.1 10 (f * 17 + p)) 4)) ((cbeg C n).2.1 3 n (fmod (C.1 11 (f * 17 + p)) 4)) (C.1 12 (f * 17 + p))).2 5 n ((cbelow (cbeg C n) ((cbeg C n).2.1 3 n (fmod (C.1 10 (f * 17 + p)) 4)) ((cbeg C n).2.1 3 n (fmod (C.1 11 (f * 17 + p)) 4)) (C.1 12 (f * 17 + p))).2.1 21 0) else (cbelow (cbeg C n) ((cbeg C n).2.1 3 n (fmod (C.1 10 (f * 17 + p)) 4)) ((cbeg C n).2.1 3 n (fmod (C.1 11 (f * 17 + p)) 4)) (C.1 12 (f * 17 + p))).2) (mjmp M1 n (f * 16 + p) 11)
    unfold mjmp
    rw [eX, eY]
    generalize (cbeg C n).2.1 3 n (fmod (C.1 10 (f * 17 + p)) 4) = x
    generalize (cbeg C n).2.1 3 n (fmod (C.1 11 (f * 17 + p)) 4) = y
    unfold cbelow
    by_cases z : isNum x ∧ isNum y
    · have ej0 : mjumpsM M1 11 x y = M1 := by unfold mjumpsM; rw [if_neg (fun w => w.2 z)]
      rw [if_pos z, ej0, if_pos b22]
      simp only [if_true]
      have := op_jj (J := x < y) (q := fmod (C.1 12 (f * 17 + p)) 16) cB h21 (by omega)
      rw [eC] at this ⊢
      have ej : ((True ∧ x < y) ∨ (11 : Int32) = 12 ∨ ((11 : Int32) = 13 ∧ x = -1000000000000) ∨ ((11 : Int32) = 14 ∧ x = y)) ↔ x < y := by
        have n1 : ¬ (11 : Int32) = 12 := by decide
        have n2 : ¬ (11 : Int32) = 13 := by decide
        have n3 : ¬ (11 : Int32) = 14 := by decide
        simp [n1, n2, n3]
      simp only [ej]
      exact this
    · have nz : ¬ ((-2147483648 ≤ x ∧ x ≤ 2147483647) ∧ (-2147483648 ≤ y ∧ y ≤ 2147483647)) := z
      have ej0 : mjumpsM M1 11 x y = sI M1 22 0 3 := by unfold mjumpsM; rw [if_pos ⟨rfl, nz⟩]
      rw [if_neg z, ej0]
      simp only [sI_self, show ¬ (3 : Int32) = 0 by decide, show ¬ (1 : Int32) = 0 by decide, if_false]
      exact op_bad cB cB.1 rfl rfl (.inr (.inl ⟨rfl, rfl⟩)) (by decide)
  | 12, _ =>
    show KK 0 (if (0 : Int32) = 0 then sI (sI (cbeg C n) 21 0 (nI (fmod (C.1 12 (f * 17 + p)) 16))) 5 n _ else _) (mjmp M1 n (f * 16 + p) 12)
    rw [if_pos rfl, mjmp_o (by decide) b22, if_pos (.inr (.inl rfl)), ← eC]
    exact op_jump (ctx_21 cB) sI_self (by omega)
  | 13, _ =>
    show KK 0 (if (0 : Int32) = 0 then _ else _) (mjmp M1 n (f * 16 + p) 13)
    rw [if_pos rfl, mjmp_o (by decide) b22, eX, eY, ← eC]
    have ej : (((13 : Int32) = 11 ∧ (cbeg C n).2.1 3 n (fmod (C.1 10 (f * 17 + p)) 4) < (cbeg C n).2.1 3 n (fmod (C.1 11 (f * 17 + p)) 4)) ∨ (13 : Int32) = 12 ∨ (True ∧ (cbeg C n).2.1 3 n (fmod (C.1 10 (f * 17 + p)) 4) = -1000000000000) ∨ ((13 : Int32) = 14 ∧ (cbeg C n).2.1 3 n (fmod (C.1 10 (f * 17 + p)) 4) = (cbeg C n).2.1 3 n (fmod (C.1 11 (f * 17 + p)) 4))) ↔ (cbeg C n).2.1 3 n (fmod (C.1 10 (f * 17 + p)) 4) = -1000000000000 := by
      have n1 : ¬ (13 : Int32) = 12 := by decide
      have n2 : ¬ (13 : Int32) = 11 := by decide
      have n3 : ¬ (13 : Int32) = 14 := by decide
      simp [n1, n2, n3]
    simp only [ej]
    exact op_jj (q := fmod (C.1 12 (f * 17 + p)) 16) (J := (cbeg C n).2.1 3 n (fmod (C.1 10 (f * 17 + p)) 4) = -1000000000000) cB h21 (by omega)
  | 14, _ =>
    show KK 0 (if (0 : Int32) = 0 then _ else _) (mjmp M1 n (f * 16 + p) 14)
    rw [if_pos rfl, mjmp_o (by decide) b22, eX, eY, ← eC]
    have ej : (((14 : Int32) = 11 ∧ (cbeg C n).2.1 3 n (fmod (C.1 10 (f * 17 + p)) 4) < (cbeg C n).2.1 3 n (fmod (C.1 11 (f * 17 + p)) 4)) ∨ (14 : Int32) = 12 ∨ ((14 : Int32) = 13 ∧ (cbeg C n).2.1 3 n (fmod (C.1 10 (f * 17 + p)) 4) = -1000000000000) ∨ (True ∧ (cbeg C n).2.1 3 n (fmod (C.1 10 (f * 17 + p)) 4) = (cbeg C n).2.1 3 n (fmod (C.1 11 (f * 17 + p)) 4))) ↔ (cbeg C n).2.1 3 n (fmod (C.1 10 (f * 17 + p)) 4) = (cbeg C n).2.1 3 n (fmod (C.1 11 (f * 17 + p)) 4) := by
      have n1 : ¬ (14 : Int32) = 12 := by decide
      have n2 : ¬ (14 : Int32) = 11 := by decide
      have n3 : ¬ (14 : Int32) = 13 := by decide
      simp [n1, n2, n3]
    simp only [ej]
    exact op_jj (q := fmod (C.1 12 (f * 17 + p)) 16) (J := (cbeg C n).2.1 3 n (fmod (C.1 10 (f * 17 + p)) 4) = (cbeg C n).2.1 3 n (fmod (C.1 11 (f * 17 + p)) 4)) cB h21 (by omega)
  | 15, _ =>
    show KK (csetMeta (cbeg C n) ((cbeg C n).2.1 3 n (fmod (C.1 10 (f * 17 + p)) 4)) ((cbeg C n).2.1 3 n (fmod (C.1 11 (f * 17 + p)) 4))).1 _ (mT (mjoin M1 (mX M1 n (f * 16 + p)) (mY M1 n (f * 16 + p))) n)
    rw [eX, eY]
    obtain ⟨w1, w2, w3⟩ := meta_all (t := (cbeg C n).2.1 3 n (fmod (C.1 10 (f * 17 + p)) 4)) (m := (cbeg C n).2.1 3 n (fmod (C.1 11 (f * 17 + p)) 4)) cB.1 (hok _ _ _) (t5 _ A4) (hok _ _ _) (t5 _ B4) b22
    exact op_tab cB h21 w1 w2 w3
  | 16, _ =>
    show KK (ckept (ccreate (cbeg C n) 2 (nI (fmod (C.1 12 (f * 17 + p)) 4))) n (fmod (C.1 10 (f * 17 + p)) 4)).1 _ (mT (mnew (mcreate M1 2 (nI (fmod (M1.1 3 (f * 16 + p)) 4))) (mA M1 n (f * 16 + p))) n)
    rw [eA', ← eC]
    exact op_new (q := fmod (C.1 12 (f * 17 + p)) 4) cB h21 A4 (.inr ⟨rfl, C4, rfl, rfl⟩)
  | 17, _ =>
    show KK (center (sI (sI (cbeg C n) 21 0 (C.1 5 n)) 8 n (nI (fmod (C.1 10 (f * 17 + p)) 4))) ((cbeg C n).2.1 3 n (fmod (C.1 11 (f * 17 + p)) 4)) ((cbeg C n).2.1 3 n (fmod (C.1 12 (f * 17 + p)) 4))).1 _ (menter M1 (mY M1 n (f * 16 + p)) (mZ M1 n (f * 16 + p)))
    rw [eY, eZ]
    have := op_enter (i := fmod (C.1 10 (f * 17 + p)) 4) (y := (cbeg C n).2.1 3 n (fmod (C.1 11 (f * 17 + p)) 4)) (z := (cbeg C n).2.1 3 n (fmod (C.1 12 (f * 17 + p)) 4)) cB (by rw [hin]) A4 (hok _ _ _) (t5 _ B4) (hok _ _ _) (t5 _ C4)
    rw [h5n] at this
    exact this
  | 18, _ =>
    show KK 0 (if (0 : Int32) = 0 then _ else _) (mleave (mway M1 n (f * 16 + p)) 1 (mX M1 n (f * 16 + p)))
    rw [if_pos rfl, eX]
    unfold mway
    rw [← eA]
    exact op_yield (B := cbeg C n) (X := sI (sI (cbeg C n) 6 n 1) 7 n (nI (fmod (C.1 10 (f * 17 + p)) 4))) cB h21 A4 (.inl ⟨rfl, rfl⟩)
  | 19, _ =>
    show KK 0 (if (0 : Int32) = 0 then _ else _) (mleave (mway M1 n (f * 16 + p)) 3 (mX M1 n (f * 16 + p)))
    rw [if_pos rfl, eX]
    unfold mway
    rw [← eA]
    exact op_yield (B := cbeg C n) (X := sI (cbeg C n) 6 n 3) cB h21 A4 (.inr ⟨rfl, rfl⟩)
  | 20, _ =>
    show KK (ckept (ckeyAfter (cbeg C n) ((cbeg C n).2.1 3 n (fmod (C.1 11 (f * 17 + p)) 4)) ((cbeg C n).2.1 3 n (fmod (C.1 12 (f * 17 + p)) 4))) n (fmod (C.1 10 (f * 17 + p)) 4)).1 (if (ckept (ckeyAfter (cbeg C n) ((cbeg C n).2.1 3 n (fmod (C.1 11 (f * 17 + p)) 4)) ((cbeg C n).2.1 3 n (fmod (C.1 12 (f * 17 + p)) 4))) n (fmod (C.1 10 (f * 17 + p)) 4)).1 = 0 then sI (ckept (ckeyAfter (cbeg C n) ((cbeg C n).2.1 3 n (fmod (C.1 11 (f * 17 + p)) 4)) ((cbeg C n).2.1 3 n (fmod (C.1 12 (f * 17 + p)) 4))) n (fmod (C.1 10 (f * 17 + p)) 4)).2 5 n _ else (ckept (ckeyAfter (cbeg C n) ((cbeg C n).2.1 3 n (fmod (C.1 11 (f * 17 + p)) 4)) ((cbeg C n).2.1 3 n (fmod (C.1 12 (f * 17 + p)) 4))) n (fmod (C.1 10 (f * 17 + p)) 4)).2) (match mOf M1 1 (mY M1 n (f * 16 + p)) with
      | none => mT (sI M1 22 0 3) n
      | some t => mT (mkeep (mfollow M1 t (mZ M1 n (f * 16 + p))) (mA M1 n (f * 16 + p))) n)
    rw [eA', eY, eZ, isA_mOf cB.1 (hok _ _ _)]
    by_cases ha : isA (cbeg C n) 1 ((cbeg C n).2.1 3 n (fmod (C.1 11 (f * 17 + p)) 4)) = true
    · rw [if_pos ha]
      refine op_found cB h21 A4 ?_
      rcases follow_all (k := (cbeg C n).2.1 3 n (fmod (C.1 12 (f * 17 + p)) 4)) cB.1 (hok _ _ _) (t5 _ B4) ha with ⟨v, v1, v2, v3, v4⟩ | ⟨v1, v2⟩
      · exact .inl ⟨v, v1, v2, v3, v4⟩
      · exact .inr ⟨1, 3, _, _, by decide, by decide, .inr (.inl ⟨rfl, rfl⟩), okV_nil, .inr v1, v2⟩
    · have eg : ∀ z, ckeyAfter (cbeg C n) ((cbeg C n).2.1 3 n (fmod (C.1 11 (f * 17 + p)) 4)) z = (1, cbeg C n) := fun z => by unfold ckeyAfter; rw [if_neg ha]
      rw [if_neg ha, eg]
      exact bad1
  | 21, _ =>
    show KK (ckept (chowMany (cbeg C n) ((cbeg C n).2.1 3 n (fmod (C.1 11 (f * 17 + p)) 4))) n (fmod (C.1 10 (f * 17 + p)) 4)).1 (if (ckept (chowMany (cbeg C n) ((cbeg C n).2.1 3 n (fmod (C.1 11 (f * 17 + p)) 4))) n (fmod (C.1 10 (f * 17 + p)) 4)).1 = 0 then sI (ckept (chowMany (cbeg C n) ((cbeg C n).2.1 3 n (fmod (C.1 11 (f * 17 + p)) 4))) n (fmod (C.1 10 (f * 17 + p)) 4)).2 5 n _ else (ckept (chowMany (cbeg C n) ((cbeg C n).2.1 3 n (fmod (C.1 11 (f * 17 + p)) 4))) n (fmod (C.1 10 (f * 17 + p)) 4)).2) (match mOf M1 1 (mY M1 n (f * 16 + p)) with
      | none => mT (sI M1 22 0 3) n
      | some t => mT (sJ M1 3 0 (mA M1 n (f * 16 + p)) (M1.1 6 t).toInt64) n)
    rw [eA', eY, isA_mOf cB.1 (hok _ _ _)]
    by_cases ha : isA (cbeg C n) 1 ((cbeg C n).2.1 3 n (fmod (C.1 11 (f * 17 + p)) 4)) = true
    · rw [if_pos ha]
      have := op_found (i := fmod (C.1 10 (f * 17 + p)) 4) cB h21 A4 (.inl ⟨_, (okV_i _).1, (okV_i _).2 _, many_all cB.1 (hok _ _ _) (t5 _ B4) ha, rfl⟩)
      have em : ∀ v : Int64, mkeep (v, M1) (n * 4 + fmod (C.1 10 (f * 17 + p)) 4) = sJ M1 3 0 (n * 4 + fmod (C.1 10 (f * 17 + p)) 4) v := fun v => by unfold mkeep; simp only; rw [if_pos b22]
      rw [em] at this
      exact this
    · have eg : chowMany (cbeg C n) ((cbeg C n).2.1 3 n (fmod (C.1 11 (f * 17 + p)) 4)) = (1, cbeg C n) := by unfold chowMany; rw [if_neg ha]
      rw [if_neg ha, eg]
      exact bad1
  | o + 22, h => exact absurd h (by omega)
end

-- part 84.runR
section
/-! a whole run on both sides -/
noncomputable def cperf (C : CS) (n k : Nat) : Int32 × CS := if C.1 9 k = -1 then (1, C) else cperfO C n k (C.1 9 k).toNatClampNeg
def cself (C : CS) : Nat := cact C (cDepth C - 1)
def cidx (C : CS) (n : Nat) : Nat := (C.1 4 n).toNatClampNeg * 17 + (C.1 5 n).toNatClampNeg
noncomputable def cstep (C : CS) : Int32 × CS := ((cperf C (cself C) (cidx C (cself C))).1, if (cperf C (cself C) (cidx C (cself C))).1 = 0 then sI (cperf C (cself C) (cidx C (cself C))).2 5 (cself C) ((cperf C (cself C) (cidx C (cself C))).2.1 21 0) else (cperf C (cself C) (cidx C (cself C))).2)
noncomputable def crun : Nat → Int32 → CS → Int32 × CS
  | 0, tr, C => (tr, C)
  | c + 1, tr, C => if tr = 0 ∧ 0 < C.1 19 0 then crun c (cstep C).1 (cstep C).2 else (tr, C)
theorem nI_pos0 {d : Nat} (h : d < 2 ^ 31) : (0 < nI d) ↔ d ≠ 0 := by
  have := nI_ltI (a := 0) (b := d) (by omega) h
  rw [nI_0] at this
  rw [this]; omega
theorem depth_eq {C M : CS} {d : Nat} {a : Nat → Nat} (s : Stk C M d a) : ((0 < C.1 19 0) ↔ d ≠ 0) ∧ ((¬ M.1 13 0 ≤ 0) ↔ d ≠ 0) := by
  obtain ⟨s1, s2, s3, -⟩ := s
  rw [s2, s3]
  refine ⟨nI_pos0 (by omega), ?_⟩
  by_cases z : d = 0
  · subst z; exact ⟨fun w => absurd (by decide) w, fun w => absurd rfl w⟩
  · exact ⟨fun _ => z, fun _ => nI_nle (by omega) (by omega)⟩
theorem step_pre {C M : CS} {e : Nat} {a : Nat → Nat} (h : HH C M) (s : Stk C M (e + 1) a) : ∃ f p, f < 4 ∧ p ≤ 16 ∧ C.1 4 (a e) = nI f ∧ C.1 5 (a e) = nI p ∧ cself C = a e ∧ cidx C (a e) = f * 17 + p ∧ mAct M (mDepth M - 1) = a e ∧ mIns M (a e) = f * 16 + p ∧ M.1 8 (a e) = nI f ∧ M.1 9 (a e) = nI p ∧ a e < 16 := by
  obtain ⟨s1, s2, s3, s4, -⟩ := s
  obtain ⟨t1, t2, t3, t4⟩ := s4 e (by omega)
  obtain ⟨-, -, ⟨f, hf, hf2⟩, ⟨p, hp, hp2⟩, -⟩ := h.1.1 (a e) t1
  obtain ⟨x1, x2, -⟩ := (h.2.2.2.2.1 (a e) t1).2.2.1 (cactive_iff.1 t4).1
  rw [hf2] at x1
  rw [hp2] at x2
  refine ⟨f, p, hf, hp, hf2, hp2, ?_, ?_, ?_, ?_, x1.symm, x2.symm, t1⟩
  · unfold cself cact
    rw [cDepth_eq s2 s1, Nat.add_sub_cancel, t2]
    rfl
  · unfold cidx
    rw [hf2, hp2, nI_clamp (by omega), nI_clamp (by omega)]
  · rw [mDepth_eq s3 s1, Nat.add_sub_cancel]
    exact mAct_eq t3 t1
  · unfold mIns
    rw [← x1, ← x2, nI_clamp (by omega), nI_clamp (by omega)]
theorem step_all {C M : CS} (h : KK 0 C M) (hd : 0 < C.1 19 0) : KK (cstep C).1 (cstep C).2 (mstep M) := by
  obtain ⟨d, a, h, s, nb, low, ht, -⟩ := h
  obtain ⟨e, rfl⟩ : ∃ e, d = e + 1 := ⟨d - 1, by have := (depth_eq s).1.1 hd; omega⟩
  have h22 : M.1 22 0 = 0 := (tr_0 ht).1 rfl
  obtain ⟨f, p, hf, hp, h4, h5, es, ei, em, eim, h8, h9, hn⟩ := step_pre h s
  have bad : KK 1 C (sI M 22 0 3) := ⟨e + 1, a, HH_M (by omega) (okM_keep (by decide) h.2.1) h, Stk_of (C := C) rfl rfl rfl rfl (sI_f (by decide)) (sI_f (by decide)) s, nb, low, by rw [sI_self]; exact .inr (.inl ⟨rfl, rfl⟩), fun w => absurd w (by decide)⟩
  unfold cstep
  rw [es, ei]
  by_cases p16 : p = 16
  · have eC : cperf C (a e) (f * 17 + p) = (1, C) := by unfold cperf; rw [if_pos (by rw [p16]; exact h.2.2.1.2.2.2.2 f hf)]
    have eM : mstep M = sI M 22 0 3 := by
      unfold mstep
      rw [em, eim, h9, if_pos (.inl (by rw [p16]; decide))]
    rw [eC, eM]
    simp only [show ¬ (1 : Int32) = 0 by decide, if_false]
    exact bad
  · have hp15 : p ≤ 15 := by omega
    have eo := (h.2.2.2.2.2.2 f p hf (by omega)).1
    rcases h.2.2.1.2.2.2.1 (f * 17 + p) (by omega) with w | ⟨o, ho, w⟩
    · have eC : cperf C (a e) (f * 17 + p) = (1, C) := by unfold cperf; rw [if_pos w]
      have eM : mstep M = sI M 22 0 3 := by
        unfold mstep
        rw [em, eim, h9, if_pos (.inr (by rw [← eo, w]; decide))]
      rw [eC, eM]
      simp only [show ¬ (1 : Int32) = 0 by decide, if_false]
      exact bad
    · have nw : ¬ C.1 9 (f * 17 + p) = -1 := by
        rw [w]
        intro z
        exact absurd (by rw [z]; decide) (nI_pos (n := o) (by omega))
      have eC : cperf C (a e) (f * 17 + p) = cperfO C (a e) (f * 17 + p) o := by unfold cperf; rw [if_neg nw, w, nI_clamp (by omega)]
      have eM : mstep M = mstepO (sI M 18 0 (M.1 18 0 + 1)) (a e) (f * 16 + p) o := by
        unfold mstep
        rw [em, eim, h9, if_neg (fun z => z.elim (fun y => absurd y (nI_nlt (a := 15) (b := p) hp15 (by omega))) (fun y => absurd y (by rw [← eo, w]; exact nI_pos (by omega)))), ← eo, w, nI_clamp (by omega)]
      rw [eC, eM]
      exact op_all ⟨h, s, nb, low, rfl, hf, hp15, h4, h5, h22⟩ ho
theorem run_all : ∀ (c : Nat) (tr : Int32) (C M : CS), KK tr C M → KK (if (crun c tr C).1 = 0 ∧ 0 < (crun c tr C).2.1 19 0 then 2 else (crun c tr C).1) (crun c tr C).2 (mrun c M)
  | 0, tr, C, M, h => by
    have h' := h
    obtain ⟨d, a, h1, s, nb, low, ht, ho⟩ := h
    obtain ⟨d1, d2⟩ := depth_eq s
    show KK (if tr = 0 ∧ 0 < C.1 19 0 then 2 else tr) C (mrun 0 M)
    unfold mrun
    by_cases z : tr = 0 ∧ 0 < C.1 19 0
    · rw [if_pos z, if_pos ⟨(tr_0 ht).1 z.1, d2.2 (d1.1 z.2)⟩]
      exact ⟨d, a, HH_M (by omega) (okM_keep (by decide) h1.2.1) h1, Stk_of (C := C) rfl rfl rfl rfl (sI_f (by decide)) (sI_f (by decide)) s, nb, low, by rw [sI_self]; exact .inr (.inr (.inl ⟨rfl, rfl⟩)), fun w => absurd w (by decide)⟩
    · rw [if_neg z, if_neg (fun y => z ⟨(tr_0 ht).2 y.1, d1.2 (d2.1 y.2)⟩)]
      exact h'
  | c + 1, tr, C, M, h => by
    have h' := h
    obtain ⟨d, a, h1, s, nb, low, ht, ho⟩ := h
    obtain ⟨d1, d2⟩ := depth_eq s
    by_cases z : tr = 0 ∧ 0 < C.1 19 0
    · have eC : crun (c + 1) tr C = crun c (cstep C).1 (cstep C).2 := if_pos z
      have eM : mrun (c + 1) M = mrun c (mstep M) := if_pos ⟨(tr_0 ht).1 z.1, d2.2 (d1.1 z.2)⟩
      rw [eC, eM]
      exact run_all c _ _ _ (step_all (by rw [z.1] at h'; exact h') z.2)
    · have eC : crun (c + 1) tr C = (tr, C) := if_neg z
      have eM : mrun (c + 1) M = M := if_neg (fun y => z ⟨(tr_0 ht).2 y.1, d1.2 (d2.1 y.2)⟩)
      rw [eC, eM]
      show KK (if tr = 0 ∧ 0 < C.1 19 0 then 2 else tr) C M
      rw [if_neg z]
      exact h'
end

-- part 85.restR
section
/-! between calls: nothing is ACTIVE -/
def RR (C M : CS) : Prop := HH C M ∧ Stk C M 0 (fun _ => 0)
theorem NB_0 {C M : CS} {a : Nat → Nat} (s : Stk C M 0 a) : NB C := fun _ n hn z => by
  obtain ⟨i, hi, -⟩ := s.2.2.2.2.2 n hn z
  omega
theorem Low_0 {C : CS} {a : Nat → Nat} : Low C 0 a := fun i hi => by omega
theorem KK_mpre {tr : Int32} {C X : CS} (h : KK tr C X) (hd : ¬ X.1 13 0 ≤ 0) : mpre X := by
  obtain ⟨d, a, h, s, nb, low, ht, -⟩ := h
  obtain ⟨e, rfl⟩ : ∃ e, d = e + 1 := ⟨d - 1, by have := (depth_eq s).2.1 hd; omega⟩
  obtain ⟨f, p, hf, hp, h4, h5, es, ei, em, eim, h8, h9, hn⟩ := step_pre h s
  obtain ⟨s1, s2, s3, s4, s5, s6⟩ := s
  have am : ∀ i, i < e + 1 → mAct X i = a i := fun i hi => mAct_eq (s4 i hi).2.2.1 (s4 i hi).1
  refine ⟨e, f, s3, by omega, hf, by rw [am e (by omega)]; exact h8, fun i hi => ?_, fun r hr => ?_, fun r hr => ?_⟩
  · have q := (h.2.2.2.2.2.2 (i / 16) (i % 16) (by omega) (by omega)).1
    rw [show i / 16 * 16 + i % 16 = i by omega] at q
    rw [← q]
    exact h.2.2.1.2.2.2.1 _ (by omega)
  · obtain ⟨f', p', l1, l2, l3, l4, -⟩ := low r (by omega)
    obtain ⟨t1, -, -, t4⟩ := s4 r (by omega)
    obtain ⟨x1, x2, -⟩ := (h.2.2.2.2.1 (a r) t1).2.2.1 (cactive_iff.1 t4).1
    rw [am r (by omega)]
    exact ⟨f', p', l1, l2, by rw [← x1]; exact l3, by rw [← x2]; exact l4⟩
  · rw [am r (by omega), am e (by omega)]
    intro z
    have := s5 r e (by omega) (by omega) z
    omega
theorem KK_okM {tr : Int32} {C X : CS} (h : KK tr C X) : okM X := by
  obtain ⟨d, a, h, -⟩ := h
  exact h.2.1
/-- what the reference's resume asks for -/
def Irun (X : CS) : Prop := ∃ tr C, KK tr C X
theorem Irun_step {X : CS} (h : Irun X) (h22 : X.1 22 0 = 0) (hd : ¬ X.1 13 0 ≤ 0) : Irun (mstep X) := by
  obtain ⟨tr, C, h⟩ := h
  have h' := h
  obtain ⟨d, a, h1, s, nb, low, ht, -⟩ := h
  have z : tr = 0 := (tr_0 ht).2 h22
  subst z
  exact ⟨_, _, step_all h' ((depth_eq s).1.2 ((depth_eq s).2.1 hd))⟩
theorem start_KK {C M : CS} {g v : Int32} (h : RR C M) (hg : g.toNatClampNeg < 6) (hv : v.toNatClampNeg < 6) : KK (center C (C.2.1 0 0 g.toNatClampNeg) (C.2.1 0 0 v.toNatClampNeg)).1 (center C (C.2.1 0 0 g.toNatClampNeg) (C.2.1 0 0 v.toNatClampNeg)).2 (mres0 M g v) := by
  obtain ⟨h, s⟩ := h
  have h' : HH C (sI (sI (sI M 21 0 0) 22 0 0) 13 0 0) := HH_M (by omega) (okM_13 (p := 0) (by omega) (okM_keep (by decide) (okM_keep (by decide) h.2.1))) (HH_M (by omega) (okM_keep (by decide) (okM_keep (by decide) h.2.1)) (HH_M (by omega) (okM_keep (by decide) h.2.1) h))
  have s' : Stk C (sI (sI (sI M 21 0 0) 22 0 0) 13 0 0) 0 (fun _ => 0) := by
    obtain ⟨s1, s2, s3, s4, s5, s6⟩ := s
    exact ⟨s1, s2, sI_self, fun i hi => by omega, s5, s6⟩
  have lg : ∀ j, j < 6 → lv C (C.2.1 0 0 j) := fun j hj m hm w => h.2.2.2.1.1 m hm (.inl ⟨j, hj, w⟩)
  have h22 : (sI (sI (sI M 21 0 0) 22 0 0) 13 0 0).1 22 0 = 0 := by rw [sI_e (by decide), sI_self]
  unfold mres0 mgl
  rw [← h.2.2.2.2.2.1.1 _ hg, ← h.2.2.2.2.2.1.1 _ hv]
  rcases enter_all h' s' (NB_0 s') (h.1.2.1 _ _ _) (lg _ hg) (h.1.2.1 _ _ _) (lg _ hv) with ⟨q1, q2, t, q3, q4⟩ | ⟨q1, q2, m, q3, q4, q5, q6, q7, q8, q9⟩
  · rw [q2, q3]
    exact ⟨0, fun _ => 0, HH_M (by omega) (okM_keep (by decide) h'.2.1) h', Stk_of (C := C) rfl rfl rfl rfl (sI_f (by decide)) (sI_f (by decide)) s', NB_0 s', Low_0, by rw [sI_self]; exact q4, fun w => (q1 w).elim⟩
  · rw [q1]
    exact ⟨1, _, q5, q6, q7, fun i hi => by omega, by rw [q9]; exact .inl ⟨rfl, h22⟩, fun _ w => by omega⟩
theorem mends_21 {c i : Nat} {M : CS} : (mend c i M).2 = M.2 ∧ ∀ f, f ≠ 10 → (mend c i M).1 f = M.1 f := by
  induction c generalizing i M with
  | zero => exact ⟨rfl, fun _ _ => rfl⟩
  | succ c ih =>
    obtain ⟨a, b⟩ := ih (i := i + 1) (M := sI M 10 (mAct M i) 3)
    exact ⟨a, fun f hf => (b f hf).trans (sI_f hf)⟩
/-- the end of a run -/
theorem end_KK {tr : Int32} {C M : CS} (h : KK tr C M) : RR (cend (cDepth C) 0 C) (mresE M) ∧ (mresE M).1 21 0 = M.1 22 0 ∧ trR tr (M.1 22 0) ∧ (tr = 0 → C.1 19 0 = 0 → (cend (cDepth C) 0 C).2.1 5 0 0 = (mresE M).2.1 4 0 0 ∧ lv (cend (cDepth C) 0 C) ((cend (cDepth C) 0 C).2.1 5 0 0)) := by
  obtain ⟨d, a, h, s, nb, low, ht, ho⟩ := h
  have h' : HH C (sI M 21 0 (M.1 22 0)) := HH_M (by omega) (okM_keep (by decide) h.2.1) h
  obtain ⟨s1, s2, s3, s4, s5, s6⟩ := s
  obtain ⟨u1, u2, u3, u4, u5, u6, u7⟩ := end_loop (a := a) d 0 C (sI M 21 0 (M.1 22 0)) (by omega) s1 h' (fun j hj => by
    obtain ⟨t1, t2, t3, t4⟩ := s4 j hj
    exact ⟨t1, t2, by rw [sI_e (by decide)]; exact t3, (cactive_iff.1 t4).1⟩) (fun b hb z => by
    obtain ⟨i, hi, e⟩ := s6 b hb z
    exact ⟨i, by omega, hi, e⟩)
  unfold mresE
  rw [cDepth_eq s2 s1, mDepth_eq s3 s1]
  refine ⟨⟨u1, by omega, u3, sI_self, fun i hi => by omega, fun i j hi => by omega, fun b hb z => (u2 b hb z).elim⟩, ?_, ht, fun z w => ?_⟩
  · rw [sI_e (by decide), u7 21 (by decide), sI_self]
  · have d0 : d = 0 := by
      rw [s2] at w
      rcases Nat.eq_zero_or_pos d with y | y
      · exact y
      · exact absurd w (nI_ne0 y (by omega))
    obtain ⟨o1, o2⟩ := ho z d0
    rw [u4]
    refine ⟨?_, fun m hm y => ?_⟩
    · show C.2.1 5 0 0 = (mend d 0 (sI M 21 0 (M.1 22 0))).2.1 4 0 0
      rw [u5]
      exact o1
    · rw [live_fn (C' := cend d 0 C) (C := C) (u6 0 (by decide) (by decide)) (u6 1 (by decide) (by decide)) (u6 13 (by decide) (by decide)) (u6 14 (by decide) (by decide))]
      exact o2 m hm y
end

-- part 88.preR
section
/-! Processor.run: what it asks of a state, and what it does -/
def cpre (X : CS) : Prop := ∃ e n f p, e < 5 ∧ X.1 19 0 = nI (e + 1) ∧ (∀ i, i < e + 1 → ∃ n, n < 16 ∧ X.2.2 i = some n) ∧ X.2.2 e = some n ∧ n < 16 ∧ f < 4 ∧ p ≤ 16 ∧ X.1 4 n = nI f ∧ X.1 5 n = nI p ∧ (X.1 9 (f * 17 + p) = -1 ∨ ∃ o, o ≤ 21 ∧ X.1 9 (f * 17 + p) = nI o)
theorem KK_cpre {tr : Int32} {X M : CS} (h : KK tr X M) (hd : 0 < X.1 19 0) : cpre X := by
  obtain ⟨d, a, h, s, nb, low, ht, -⟩ := h
  obtain ⟨e, rfl⟩ : ∃ e, d = e + 1 := ⟨d - 1, by have := (depth_eq s).1.1 hd; omega⟩
  obtain ⟨f, p, hf, hp, h4, h5, es, ei, em, eim, h8, h9, hn⟩ := step_pre h s
  obtain ⟨s1, s2, s3, s4, s5, s6⟩ := s
  exact ⟨e, a e, f, p, by omega, s2, fun i hi => ⟨a i, (s4 i hi).1, (s4 i hi).2.1⟩, (s4 e (by omega)).2.1, hn, hf, hp, h4, h5, h.2.2.1.2.2.2.1 _ (by omega)⟩
noncomputable def crunT (C : CS) (v x : Int64) : Int32 × CS := (if (crun 200 (center C v x).1 (center C v x).2).1 = 0 ∧ 0 < (crun 200 (center C v x).1 (center C v x).2).2.1 19 0 then 2 else (crun 200 (center C v x).1 (center C v x).2).1, cend (cDepth (crun 200 (center C v x).1 (center C v x).2).2) 0 (crun 200 (center C v x).1 (center C v x).2).2)
theorem i32_nle {x : Int32} : ¬ x ≤ 0 ↔ 0 < x := Int32.not_le
theorem cself_eq {X : CS} {e n : Nat} (h : X.1 19 0 = nI (e + 1)) (he : e < 5) (hm : X.2.2 e = some n) : cself X = n := by
  unfold cself cact
  rw [cDepth_eq h (by omega), Nat.add_sub_cancel, hm]
  rfl
theorem cidx_eq {X : CS} {n f p : Nat} (h4 : X.1 4 n = nI f) (h5 : X.1 5 n = nI p) (hf : f < 4) (hp : p ≤ 16) : cidx X n = f * 17 + p := by
  unfold cidx
  rw [h4, h5, nI_clamp (by omega), nI_clamp (by omega)]
theorem crun_s {c : Nat} {X : CS} (h : 0 < X.1 19 0) : crun (c + 1) 0 X = crun c (cstep X).1 (cstep X).2 := if_pos ⟨rfl, h⟩
theorem okC_run {I : Int32 → CS → Prop} (hst : ∀ X, I 0 X → 0 < X.1 19 0 → I (cstep X).1 (cstep X).2) : ∀ (c : Nat) (tr : Int32) (X : CS), I tr X → I (crun c tr X).1 (crun c tr X).2
  | 0, _, _, h => h
  | c + 1, tr, X, h => by
    unfold crun
    by_cases z : tr = 0 ∧ 0 < X.1 19 0
    · rw [if_pos z]
      exact okC_run hst c _ _ (hst X (by rw [z.1] at h; exact h) z.2)
    · rw [if_neg z]; exact h
theorem run_e1 {a d : Int32} (h : ¬ a = 0) : some (Value.int a) = some (Value.int (if a = 0 ∧ 0 < d then 2 else a)) := by rw [if_neg (fun z => h z.1)]
theorem run_e2 {a d : Int32} (h : d ≤ 0) : some (Value.int a) = some (Value.int (if a = 0 ∧ 0 < d then 2 else a)) := by rw [if_neg (fun z => absurd h (i32_nle.2 z.2))]
theorem run_e3 {a d : Int32} (h : a = 0) (g : ¬ d ≤ 0) : some (Value.int 2) = some (Value.int (if a = 0 ∧ 0 < d then 2 else a)) := by rw [if_pos ⟨h, i32_nle.1 g⟩]
end

-- part 89.run
section
set_option maxHeartbeats 4000000 in
set_option maxRecDepth 100000 in
theorem c_Pro_run {l : Launch} {D : va_G} {t : Nat → ClassId} {ad : Nat → Nat} {C : CS} {v x : Int64} {I : Int32 → CS → Prop} (hok : okC C) (hv : okV v) (hI : ∀ tr X, I tr X → okC X) (hpre : ∀ X, I 0 X → 0 < X.1 19 0 → cpre X) (hst : ∀ X, I 0 X → 0 < X.1 19 0 → I (cstep X).1 (cstep X).2) (h0 : I (center C v x).1 (center C v x).2) : Cd l D t ad y_Pro_run b_Pro_run 8 (some .int) { frames := 6, cells := 0, slots := 0, locals := 153 } [.ref (ad (ix 10 0)), .long v, .long x] (C) (some (.int (crunT C v x).1)) ((crunT C v x).2) := by
  refine ct_of (by decide) (Nat.le_of_ble_eq_true rfl) ?_
  intro Γ _ _ hN h r
  have hres : crunT C v x = (if (crun 200 (center C v x).1 (center C v x).2).1 = 0 ∧ 0 < (crun 200 (center C v x).1 (center C v x).2).2.1 19 0 then 2 else (crun 200 (center C v x).1 (center C v x).2).1, cend (cDepth (crun 200 (center C v x).1 (center C v x).2).2) 0 (crun 200 (center C v x).1 (center C v x).2).2) := rfl
  have hA := okC_run hst 200 _ _ h0
  generalize hAA : (crun 200 (center C v x).1 (center C v x).2) = A at hres hA
  obtain ⟨D, hD5, hD, hDa⟩ := (hI _ _ hA).2.2.2
  have hDD : cDepth A.2 = D := cDepth_eq hD hD5
  have tail : ∀ (s : Nat), G Γ 0 0 171 ad (wc ad t A.2) 86 [some (.ref (ad (ix 10 0))), some (.long v), none, some (.long x), none, some (.int A.1), some (.int (nI s)), none] [] := by
    intro s
    refine g_iload h d_Pro_run_86 rfl ?_
    refine g_if_ne (tgt := 101) h d_Pro_run_88 (by decide) (fun c_88 => ?_) (fun c_88 => ?_)
    · refine g_aload_n h d_Pro_run_101 rfl rfl ?_
      refine g_dVv h tb_good (c_Pro_endActive hD5 hD hDa) (ix_lt 10 (by decide) _ (by decide)) (wc_at (by decide) (by decide)) rfl v_Pro_62 nm_Pro_endActive rfl ⟨rfl, rfl, Nat.le_of_ble_eq_true rfl, Nat.le_of_ble_eq_true rfl, Nat.zero_le _, Nat.zero_le _⟩ rfl (Nat.le_of_ble_eq_true rfl) d_Pro_run_102 ?_
      refine g_iload h d_Pro_run_105 rfl ?_
      exact g_iret h r d_Pro_run_107 (⟨by rw [hres]; first | exact run_e3 c_88 c_95 | exact run_e1 c_88 | exact run_e2 c_95, by rw [hres, hDD]⟩)
    · refine g_aload_n h d_Pro_run_91 rfl rfl ?_
      refine gf_Pro_depth h f_Pro_23 d_Pro_run_92 ?_
      refine g_if_le (tgt := 101) h d_Pro_run_95 (by decide) (fun c_95 => ?_) (fun c_95 => ?_)
      · refine g_aload_n h d_Pro_run_101 rfl rfl ?_
        refine g_dVv h tb_good (c_Pro_endActive hD5 hD hDa) (ix_lt 10 (by decide) _ (by decide)) (wc_at (by decide) (by decide)) rfl v_Pro_62 nm_Pro_endActive rfl ⟨rfl, rfl, Nat.le_of_ble_eq_true rfl, Nat.le_of_ble_eq_true rfl, Nat.zero_le _, Nat.zero_le _⟩ rfl (Nat.le_of_ble_eq_true rfl) d_Pro_run_102 ?_
        refine g_iload h d_Pro_run_105 rfl ?_
        exact g_iret h r d_Pro_run_107 (⟨by rw [hres]; first | exact run_e3 c_88 c_95 | exact run_e1 c_88 | exact run_e2 c_95, by rw [hres, hDD]⟩)
      · refine g_iconst (v := 2) h d_Pro_run_98 (by decide) ?_
        refine g_istore h d_Pro_run_99 rfl (by rw [hN]; decide) ?_
        refine g_aload_n h d_Pro_run_101 rfl rfl ?_
        refine g_dVv h tb_good (c_Pro_endActive hD5 hD hDa) (ix_lt 10 (by decide) _ (by decide)) (wc_at (by decide) (by decide)) rfl v_Pro_62 nm_Pro_endActive rfl ⟨rfl, rfl, Nat.le_of_ble_eq_true rfl, Nat.le_of_ble_eq_true rfl, Nat.zero_le _, Nat.zero_le _⟩ rfl (Nat.le_of_ble_eq_true rfl) d_Pro_run_102 ?_
        refine g_iload h d_Pro_run_105 rfl ?_
        exact g_iret h r d_Pro_run_107 (⟨by rw [hres]; first | exact run_e3 c_88 c_95 | exact run_e1 c_88 | exact run_e2 c_95, by rw [hres, hDD]⟩)
  have loop : ∀ (c s : Nat) (tr : Int32) (X : CS), s + c = 200 → I tr X → crun c tr X = A → G Γ 0 0 171 ad (wc ad t X) 11 [some (.ref (ad (ix 10 0))), some (.long v), none, some (.long x), none, some (.int tr), some (.int (nI s)), none] [] := by
    intro c
    induction c with
    | zero =>
      intro s tr X hs hX he
      refine g_iload h d_Pro_run_11 rfl ?_
      refine g_sipush (v := 200) h d_Pro_run_13 (by decide) ?_
      refine g_icmp_ge (tgt := 86) h d_Pro_run_16 (by decide) (fun c_16 => ?_) (fun c_16 => ?_)
      · have hXA : (tr, X) = A := by
          rw [← he]
          rfl
        rw [show tr = A.1 from congrArg Prod.fst hXA, show X = A.2 from congrArg Prod.snd hXA]
        exact tail _
      · exact absurd (nI_le (a := 200) (b := s) (by omega) (by omega)) c_16
    | succ c ih =>
      intro s tr X hs hX he
      refine g_iload h d_Pro_run_11 rfl ?_
      refine g_sipush (v := 200) h d_Pro_run_13 (by decide) ?_
      refine g_icmp_ge (tgt := 86) h d_Pro_run_16 (by decide) (fun c_16 => ?_) (fun c_16 => ?_)
      · exact absurd c_16 (nI_ge (b := 200) (by omega) (by decide))
      · refine g_iload h d_Pro_run_19 rfl ?_
        refine g_if_ne (tgt := 86) h d_Pro_run_21 (by decide) (fun c_21 => ?_) (fun c_21 => ?_)
        · have hXA : (tr, X) = A := by
            rw [← he]
            first | exact (if_neg (fun z => c_21 z.1)).symm | exact (if_neg (fun z => absurd c_28 (i32_nle.2 z.2))).symm
          rw [show tr = A.1 from congrArg Prod.fst hXA, show X = A.2 from congrArg Prod.snd hXA]
          exact tail _
        · refine g_aload_n h d_Pro_run_24 rfl rfl ?_
          refine gf_Pro_depth h f_Pro_23 d_Pro_run_25 ?_
          refine g_if_le (tgt := 86) h d_Pro_run_28 (by decide) (fun c_28 => ?_) (fun c_28 => ?_)
          · have hXA : (tr, X) = A := by
              rw [← he]
              first | exact (if_neg (fun z => c_21 z.1)).symm | exact (if_neg (fun z => absurd c_28 (i32_nle.2 z.2))).symm
            rw [show tr = A.1 from congrArg Prod.fst hXA, show X = A.2 from congrArg Prod.snd hXA]
            exact tail _
          · obtain rfl : tr = 0 := c_21
            have hlt := i32_nle.1 c_28
            obtain ⟨e, n, f, p, e5, hd, hact, hm, hn, hf, hp, h4, h5, hops⟩ := hpre X hX hlt
            have es := cself_eq hd e5 hm
            have ei := cidx_eq h4 h5 hf hp
            have hk : f * 17 + p < 68 := by omega
            have hstN := hst X hX hlt
            refine g_aload_n h d_Pro_run_31 rfl rfl ?_
            refine gf_Pro_active h f_Pro_19 d_Pro_run_32 ?_
            refine g_aload_n h d_Pro_run_35 rfl rfl ?_
            refine gf_Pro_depth h f_Pro_23 d_Pro_run_36 ?_
            refine g_iconst (v := 1) h d_Pro_run_39 (by decide) ?_
            rw [hd]
            refine g_isub h d_Pro_run_40 ?_
            refine ga_act h (nI_pred e) e5 hm d_Pro_run_41 ?_
            refine g_astore h d_Pro_run_42 rfl (by rw [hN]; decide) ?_
            refine g_aload_n h d_Pro_run_44 rfl rfl ?_
            refine g_aload h d_Pro_run_45 rfl ?_
            refine g_aload_n h d_Pro_run_47 rfl rfl ?_
            refine g_aload h d_Pro_run_48 rfl ?_
            refine gf_Cor_function h f_Pro_48 (by first | assumption | omega | (show _ < 16; omega) | (show _ < 68; omega)) d_Pro_run_50 ?_
            rw [h4]
            refine g_aload h d_Pro_run_53 rfl ?_
            refine gf_Cor_place h f_Pro_51 (by first | assumption | omega | (show _ < 16; omega) | (show _ < 68; omega)) d_Pro_run_55 ?_
            rw [h5]
            refine g_dVr h tb_good (c_Pro_instructionAt hf hp) (ix_lt 10 (by decide) _ (by decide)) (wc_at (by decide) (by decide)) rfl v_Pro_54 nm_Pro_instructionAt rfl ⟨rfl, rfl, Nat.le_of_ble_eq_true rfl, Nat.le_of_ble_eq_true rfl, Nat.zero_le _, Nat.zero_le _⟩ rfl (Nat.le_of_ble_eq_true rfl) d_Pro_run_58 ?_
            rcases hops with hop | ⟨o, ho, hop⟩
            · have hcs : cstep X = (1, X) := by
                unfold cstep cperf
                rw [es, ei, if_pos hop]
                rfl
              rw [hcs] at hstN
              refine g_dVi h tb_good (c_Pro_performN hn hk hop) (ix_lt 10 (by decide) _ (by decide)) (wc_at (by decide) (by decide)) rfl v_Pro_58 nm_Pro_perform rfl ⟨rfl, rfl, Nat.le_of_ble_eq_true rfl, Nat.le_of_ble_eq_true rfl, Nat.zero_le _, Nat.zero_le _⟩ rfl (Nat.le_of_ble_eq_true rfl) d_Pro_run_61 ?_
              refine g_istore h d_Pro_run_64 rfl (by rw [hN]; decide) ?_
              refine g_iload h d_Pro_run_66 rfl ?_
              refine g_if_ne (tgt := 80) h d_Pro_run_68 (by decide) (fun c_68 => ?_) (fun c_68 => ?_)
              · refine g_iinc (v := nI (s + 1)) h d_Pro_run_80 rfl (by rw [nI_succ]; rfl) rfl (by rw [hN]; decide) ?_
                refine g_goto (tgt := 11) h d_Pro_run_83 (by decide) ?_
                refine g_lessL (L' := [some (.ref (ad (ix 10 0))), some (.long v), none, some (.long x), none, some (.int 1), some (.int (nI (s + 1))), none]) (by simp [leL]) ?_
                exact ih (s + 1) 1 X (by omega) hstN (by rw [← he, crun_s hlt, hcs])
              · exact absurd c_68 (by decide)
            · have nop : ¬ X.1 9 (f * 17 + p) = -1 := by
                rw [hop]
                intro z
                exact absurd (by rw [z]; decide) (nI_pos (n := o) (by omega))
              have hcs : cstep X = ((cperfO X n (f * 17 + p) o).1, if (cperfO X n (f * 17 + p) o).1 = 0 then sI (cperfO X n (f * 17 + p) o).2 5 n ((cperfO X n (f * 17 + p) o).2.1 21 0) else (cperfO X n (f * 17 + p) o).2) := by
                unfold cstep cperf
                rw [es, ei, if_neg nop, hop, nI_clamp (by omega)]
              rw [hcs] at hstN
              refine g_dVi h tb_good (c_Pro_perform (hI 0 X hX) hn hk hop ho e5 hd hact) (ix_lt 10 (by decide) _ (by decide)) (wc_at (by decide) (by decide)) rfl v_Pro_58 nm_Pro_perform rfl ⟨rfl, rfl, Nat.le_of_ble_eq_true rfl, Nat.le_of_ble_eq_true rfl, Nat.zero_le _, Nat.zero_le _⟩ rfl (Nat.le_of_ble_eq_true rfl) d_Pro_run_61 ?_
              refine g_istore h d_Pro_run_64 rfl (by rw [hN]; decide) ?_
              refine g_iload h d_Pro_run_66 rfl ?_
              refine g_if_ne (tgt := 80) h d_Pro_run_68 (by decide) (fun c_68 => ?_) (fun c_68 => ?_)
              · refine g_iinc (v := nI (s + 1)) h d_Pro_run_80 rfl (by rw [nI_succ]; rfl) rfl (by rw [hN]; decide) ?_
                refine g_goto (tgt := 11) h d_Pro_run_83 (by decide) ?_
                refine g_lessL (L' := [some (.ref (ad (ix 10 0))), some (.long v), none, some (.long x), none, some (.int (cperfO X n (f * 17 + p) o).1), some (.int (nI (s + 1))), none]) (by simp [leL]) ?_
                first
                | (rw [if_neg c_68] at hstN hcs; exact ih (s + 1) _ _ (by omega) hstN (by rw [← he, crun_s hlt, hcs]))
                | (rw [if_pos c_68] at hstN hcs; exact ih (s + 1) _ _ (by omega) hstN (by rw [← he, crun_s hlt, hcs]))
              · refine g_aload h d_Pro_run_71 rfl ?_
                refine g_aload_n h d_Pro_run_73 rfl rfl ?_
                refine gf_Pro_nextPlace h f_Pro_30 d_Pro_run_74 ?_
                refine pf_Cor_place h f_Pro_51 (by first | assumption | omega | (show _ < 16; omega) | (show _ < 68; omega)) d_Pro_run_77 ?_
                refine g_iinc (v := nI (s + 1)) h d_Pro_run_80 rfl (by rw [nI_succ]; rfl) rfl (by rw [hN]; decide) ?_
                refine g_goto (tgt := 11) h d_Pro_run_83 (by decide) ?_
                refine g_lessL (L' := [some (.ref (ad (ix 10 0))), some (.long v), none, some (.long x), none, some (.int (cperfO X n (f * 17 + p) o).1), some (.int (nI (s + 1))), none]) (by simp [leL]) ?_
                first
                | (rw [if_neg c_68] at hstN hcs; exact ih (s + 1) _ _ (by omega) hstN (by rw [← he, crun_s hlt, hcs]))
                | (rw [if_pos c_68] at hstN hcs; exact ih (s + 1) _ _ (by omega) hstN (by rw [← he, crun_s hlt, hcs]))
  refine g_at (L' := [some (.ref (ad (ix 10 0))), some (.long v), none, some (.long x), none, none, none, none]) rfl rfl rfl ?_
  refine g_aload_n h d_Pro_run_0 rfl rfl ?_
  refine g_lload_n h d_Pro_run_1 rfl rfl ?_
  refine g_lload_n h d_Pro_run_2 rfl rfl ?_
  refine g_dVi h tb_good (c_Pro_enter hok hv) (ix_lt 10 (by decide) _ (by decide)) (wc_at (by decide) (by decide)) rfl v_Pro_44 nm_Pro_enter rfl ⟨rfl, rfl, Nat.le_of_ble_eq_true rfl, Nat.le_of_ble_eq_true rfl, Nat.zero_le _, Nat.zero_le _⟩ rfl (Nat.le_of_ble_eq_true rfl) d_Pro_run_3 ?_
  refine g_istore h d_Pro_run_6 rfl (by rw [hN]; decide) ?_
  refine g_iconst (v := 0) h d_Pro_run_8 (by decide) ?_
  refine g_istore h d_Pro_run_9 rfl (by rw [hN]; decide) ?_
  exact loop 200 0 _ _ (by omega) h0 hAA
end

-- part 90.resumeB
section
set_option maxHeartbeats 4000000 in
set_option maxRecDepth 100000 in
theorem c_Mod_resumeB {l : Launch} {D : va_G} {u : Nat → ClassId} {ad : Nat → Nat} {M : CS} {g v w : Int32} (hok : okM M) (hbad : (g < 0 ∨ 5 < g) ∨ (v < 0 ∨ 5 < v) ∨ (w < 0 ∨ 5 < w)) : Cm l D u ad y_Mod_resume b_Mod_resume 6 (some .long) { frames := 7, cells := 0, slots := 0, locals := 168 } [.ref (ad 0), .int g, .int v, .int w] (M) (some (.long 0)) (sI M 21 0 1) := by
  refine ct_of (by decide) (Nat.le_of_ble_eq_true rfl) ?_
  intro Γ _ _ hN h r
  refine g_at (L' := [some (.ref (ad 0)), some (.int g), some (.int v), some (.int w), none, none]) rfl rfl rfl ?_
  refine g_aload_n h d_Mod_resume_0 rfl rfl ?_
  refine g_aload_n h d_Mod_resume_1 rfl rfl ?_
  refine g_iload_n h d_Mod_resume_2 rfl rfl ?_
  refine g_dVi h tb_good (c_Mod_badGlobal) (q := 0) (by decide) rfl rfl v_Mod_78 nm_Mod_badGlobal rfl ⟨rfl, rfl, Nat.le_of_ble_eq_true rfl, Nat.le_of_ble_eq_true rfl, Nat.zero_le _, Nat.zero_le _⟩ rfl (Nat.le_of_ble_eq_true rfl) d_Mod_resume_3 ?_
  by_cases hb : g < 0 ∨ 5 < g
  · rw [if_pos hb]
    refine g_if_ne (tgt := 25) h d_Mod_resume_6 (by decide) (fun c_6 => ?_) (fun c_6 => ?_)
    · skip
      · refine g_iconst (v := 1) h d_Mod_resume_25 (by decide) ?_
        refine g_goto (tgt := 30) h d_Mod_resume_26 (by decide) ?_
        refine pf_Mod_thrown h f_Mod_64 d_Mod_resume_30 ?_
        refine g_aload_n h d_Mod_resume_33 rfl rfl ?_
        refine gf_Mod_thrown h f_Mod_64 d_Mod_resume_34 ?_
        simp only [sI_1, sI_2, sJ_1, sJ_2, sJ_3, sR_1, sR_2, sR_3, Nat.reduceEqDiff, Nat.zero_ne_one, Nat.one_ne_zero, Nat.succ_ne_zero, reduceCtorEq, false_and, if_false, true_and, and_self, if_true, and_true, and_false, reduceIte]
        refine g_if_eq (tgt := 42) h d_Mod_resume_37 (by decide) (fun c_37 => ?_) (fun c_37 => ?_)
        · exact absurd c_37 (by decide)
        · refine g_lconst (v := 0) h d_Mod_resume_40 (by decide) ?_
          exact g_lret h r d_Mod_resume_41 (⟨rfl, rfl⟩)
    · exact absurd c_6 (by decide)
  · rw [if_neg hb]
    obtain ⟨hj, hje⟩ := gl_num hb
    refine g_if_ne (tgt := 25) h d_Mod_resume_6 (by decide) (fun c_6 => ?_) (fun c_6 => ?_)
    · exact absurd rfl c_6
    · refine g_aload_n h d_Mod_resume_9 rfl rfl ?_
      refine g_iload_n h d_Mod_resume_10 rfl rfl ?_
      refine g_dVi h tb_good (c_Mod_badGlobal) (q := 0) (by decide) rfl rfl v_Mod_78 nm_Mod_badGlobal rfl ⟨rfl, rfl, Nat.le_of_ble_eq_true rfl, Nat.le_of_ble_eq_true rfl, Nat.zero_le _, Nat.zero_le _⟩ rfl (Nat.le_of_ble_eq_true rfl) d_Mod_resume_11 ?_
      by_cases hb2 : v < 0 ∨ 5 < v
      · rw [if_pos hb2]
        refine g_if_ne (tgt := 25) h d_Mod_resume_14 (by decide) (fun c_14 => ?_) (fun c_14 => ?_)
        · skip
          · refine g_iconst (v := 1) h d_Mod_resume_25 (by decide) ?_
            refine g_goto (tgt := 30) h d_Mod_resume_26 (by decide) ?_
            refine pf_Mod_thrown h f_Mod_64 d_Mod_resume_30 ?_
            refine g_aload_n h d_Mod_resume_33 rfl rfl ?_
            refine gf_Mod_thrown h f_Mod_64 d_Mod_resume_34 ?_
            simp only [sI_1, sI_2, sJ_1, sJ_2, sJ_3, sR_1, sR_2, sR_3, Nat.reduceEqDiff, Nat.zero_ne_one, Nat.one_ne_zero, Nat.succ_ne_zero, reduceCtorEq, false_and, if_false, true_and, and_self, if_true, and_true, and_false, reduceIte]
            refine g_if_eq (tgt := 42) h d_Mod_resume_37 (by decide) (fun c_37 => ?_) (fun c_37 => ?_)
            · exact absurd c_37 (by decide)
            · refine g_lconst (v := 0) h d_Mod_resume_40 (by decide) ?_
              exact g_lret h r d_Mod_resume_41 (⟨rfl, rfl⟩)
        · exact absurd c_14 (by decide)
      · rw [if_neg hb2]
        obtain ⟨hk, hke⟩ := gl_num hb2
        refine g_if_ne (tgt := 25) h d_Mod_resume_14 (by decide) (fun c_14 => ?_) (fun c_14 => ?_)
        · exact absurd rfl c_14
        · refine g_aload_n h d_Mod_resume_17 rfl rfl ?_
          refine g_iload_n h d_Mod_resume_18 rfl rfl ?_
          refine g_dVi h tb_good (c_Mod_badGlobal) (q := 0) (by decide) rfl rfl v_Mod_78 nm_Mod_badGlobal rfl ⟨rfl, rfl, Nat.le_of_ble_eq_true rfl, Nat.le_of_ble_eq_true rfl, Nat.zero_le _, Nat.zero_le _⟩ rfl (Nat.le_of_ble_eq_true rfl) d_Mod_resume_19 ?_
          by_cases hb3 : w < 0 ∨ 5 < w
          · rw [if_pos hb3]
            refine g_if_eq (tgt := 29) h d_Mod_resume_22 (by decide) (fun c_22 => ?_) (fun c_22 => ?_)
            · exact absurd c_22 (by decide)
            · skip
              · refine g_iconst (v := 1) h d_Mod_resume_25 (by decide) ?_
                refine g_goto (tgt := 30) h d_Mod_resume_26 (by decide) ?_
                refine pf_Mod_thrown h f_Mod_64 d_Mod_resume_30 ?_
                refine g_aload_n h d_Mod_resume_33 rfl rfl ?_
                refine gf_Mod_thrown h f_Mod_64 d_Mod_resume_34 ?_
                simp only [sI_1, sI_2, sJ_1, sJ_2, sJ_3, sR_1, sR_2, sR_3, Nat.reduceEqDiff, Nat.zero_ne_one, Nat.one_ne_zero, Nat.succ_ne_zero, reduceCtorEq, false_and, if_false, true_and, and_self, if_true, and_true, and_false, reduceIte]
                refine g_if_eq (tgt := 42) h d_Mod_resume_37 (by decide) (fun c_37 => ?_) (fun c_37 => ?_)
                · exact absurd c_37 (by decide)
                · refine g_lconst (v := 0) h d_Mod_resume_40 (by decide) ?_
                  exact g_lret h r d_Mod_resume_41 (⟨rfl, rfl⟩)
          · rw [if_neg hb3]
            obtain ⟨hv, hve⟩ := gl_num hb3
            refine g_if_eq (tgt := 29) h d_Mod_resume_22 (by decide) (fun c_22 => ?_) (fun c_22 => ?_)
            · skip
              · refine g_iconst (v := 0) h d_Mod_resume_29 (by decide) ?_
                refine pf_Mod_thrown h f_Mod_64 d_Mod_resume_30 ?_
                refine g_aload_n h d_Mod_resume_33 rfl rfl ?_
                refine gf_Mod_thrown h f_Mod_64 d_Mod_resume_34 ?_
                simp only [sI_1, sI_2, sJ_1, sJ_2, sJ_3, sR_1, sR_2, sR_3, Nat.reduceEqDiff, Nat.zero_ne_one, Nat.one_ne_zero, Nat.succ_ne_zero, reduceCtorEq, false_and, if_false, true_and, and_self, if_true, and_true, and_false, reduceIte]
                refine g_if_eq (tgt := 42) h d_Mod_resume_37 (by decide) (fun c_37 => ?_) (fun c_37 => ?_)
                · exact (hbad.elim hb (fun z => z.elim hb2 hb3)).elim
                · exact absurd rfl c_37
            · exact absurd rfl c_22
end
