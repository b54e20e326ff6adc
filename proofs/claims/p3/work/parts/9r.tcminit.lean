/-! the class's constructor: the 171 cells of a new object -/
def C00 : CS := (fun f _ => if f = 3 ∨ f = 9 then -1 else 0, fun f n i => if (f = 0 ∧ n = 0 ∧ i < 6) ∨ f = 4 ∨ f = 5 then -1000000000000 else 0, fun _ => none)
theorem C00_g : C00.2.1 0 0 = fun j => if j < 6 then (-1000000000000) else 0 := funext (fun j => by simp [C00])
theorem C00_z {f n : Nat} (h0 : f ≠ 0) (h4 : f ≠ 4) (h5 : f ≠ 5) : C00.2.1 f n = fun _ => 0 := funext (fun j => by simp [C00, h0, h4, h5])
/-- the heap's and the processor's cells, in the class's world -/
theorem wc_heap {a a8 : Nat → Nat} {t : Nat → ClassId} (ha : ∀ j, j < 99 → a (1 + j) = a8 j) {k : Nat} (h1 : 1 ≤ k) (h2 : k < 100) (h3 : ¬ k = 3) : wHeap a8 t (k - 1) = wc a t C00 k := by
  have A : ∀ j, 1 ≤ j → j < 100 → a j = a8 (j - 1) := fun j z1 z2 => by
    rw [← ha (j - 1) (by omega), show 1 + (j - 1) = j by omega]
  unfold wHeap
  rw [if_neg (by omega)]
  unfold wc
  rcases (show k = 1 ∨ k = 2 ∨ 4 ≤ k by omega) with rfl | rfl | h4
  · show wH a8 t 16 0 = ob a t C00 1 0
    simp only [wH, ob, ix, if_true]
    rw [A 2 (by omega) (by omega), A 3 (by omega) (by omega)]
    rfl
  · show wH a8 t 16 1 = ob a t C00 2 0
    show _ = (Sum.inl (t 0, 6, Sum.inr (Sum.inl (C00.2.1 0 0))) : va_E)
    rw [C00_g]
    rfl
  · obtain ⟨n, r, hn, hr, rfl⟩ : ∃ n r, n < 16 ∧ r < 6 ∧ k = 4 + 6 * n + r := ⟨(k - 4) / 6, (k - 4) % 6, by omega, Nat.mod_lt _ (by decide), by omega⟩
    have ek : kd (4 + 6 * n + r) = (4 + r, n) := by
      unfold kd
      rw [if_neg (by omega), if_pos (by omega), show (4 + 6 * n + r - 4) % 6 = r by omega, show (4 + 6 * n + r - 4) / 6 = n by omega]
    rw [ek]
    unfold wH
    rw [if_neg (by omega), if_neg (by omega), if_neg (by omega), show (4 + 6 * n + r - 1 - 3) / 6 = n by omega, show (4 + 6 * n + r - 1 - 3) % 6 = r by omega]
    have B : ∀ j, j < 6 → a8 (3 + 6 * n + j) = a (4 + 6 * n + j) := fun j hj => by rw [A _ (by omega) (by omega), show 4 + 6 * n + j - 1 = 3 + 6 * n + j by omega]
    rw [wCell_ad (b := fun j => a (4 + 6 * n + j)) B hr]
    rcases (show r = 0 ∨ r = 1 ∨ r = 2 ∨ r = 3 ∨ r = 4 ∨ r = 5 by omega) with rfl | rfl | rfl | rfl | rfl | rfl
    · simp only [wCell, ob, ix, C00]
      rw [show 4 + 6 * n + 1 = 5 + 6 * n by omega, show 4 + 6 * n + 4 = 8 + 6 * n by omega]
      rfl
    · simp only [wCell, ob, ix, C00]
      rw [show 4 + 6 * n + 2 = 6 + 6 * n by omega, show 4 + 6 * n + 3 = 7 + 6 * n by omega]
      rfl
    · show Z6 t = (Sum.inl (t 0, 6, Sum.inr (Sum.inl (C00.2.1 1 n))) : va_E)
      rw [C00_z (by decide) (by decide) (by decide)]
    · show Z6 t = (Sum.inl (t 0, 6, Sum.inr (Sum.inl (C00.2.1 2 n))) : va_E)
      rw [C00_z (by decide) (by decide) (by decide)]
    · simp only [wCell, ob, ix, C00]
      rw [show 4 + 6 * n + 5 = 9 + 6 * n by omega]
      rfl
    · show Z4 t = (Sum.inl (t 0, 4, Sum.inr (Sum.inl (C00.2.1 3 n))) : va_E)
      rw [C00_z (by decide) (by decide) (by decide)]
theorem wc_pro {a a23 : Nat → Nat} {t : Nat → ClassId} {hp : Nat} (ha : ∀ j, j < 71 → a (100 + j) = a23 j) (hh : a 1 = hp) {k : Nat} (h1 : 100 ≤ k) (h2 : k < 171) (h3 : ¬ k = 101) : wPro a23 t hp (k - 100) = wc a t C00 k := by
  unfold wPro wc
  rcases (show k = 100 ∨ k = 102 ∨ 103 ≤ k by omega) with rfl | rfl | h4
  · show wP a23 t hp 68 0 = ob a t C00 10 0
    simp only [wP, ob, ix, if_true]
    rw [show a 101 = a23 1 from ha 1 (by decide), show a 102 = a23 2 from ha 2 (by decide), hh]
    rfl
  · show wP a23 t hp 68 2 = ob a t C00 12 0
    simp only [wP, ob, C00]
    rfl
  · have ek : kd k = (13, k - 103) := by
      unfold kd
      rw [if_neg (by omega), if_neg (by omega), if_neg (by omega)]
    rw [ek]
    unfold wP
    rw [if_neg (by omega), if_neg (by omega), if_neg (by omega)]
    rfl
set_option maxHeartbeats 4000000 in
set_option maxRecDepth 100000 in
theorem n_TCM_init {l : Launch} {D : va_G} {t : Nat → ClassId} {ad : Nat → Nat} {σ : Nat → va_E} (hσ : σ 0 = .inr (6, [.null, .null])) : Cn l D t (tyc t) 171 ad y_TCM_init b_TCM_init 2 { frames := 4, cells := 170, slots := 863, locals := 140 } [.ref (ad 0)] σ 170 863 (fun ad2 => wc ad2 t C00) := by
  refine ctn_of (by decide) (Nat.le_of_ble_eq_true rfl) ?_
  intro Γ hL hDD hN h r hao hnm
  refine g_world (σ' := fun _ => .inr (6, [.null, .null])) (one_cell hσ) ?_
  refine g_at (L' := [some (.ref (ad 0)), none]) rfl rfl rfl ?_
  refine g_aload_n h d_TCM_init_0 rfl rfl ?_
  refine g_objInit h oi_TCM oi_in oi_cd ⟨by decide, by decide⟩ (by decide) d_TCM_init_1 ?_
  refine g_new (ci := 2) (fs := [.null, .null, .int 0, .int 0, .int 0, .int 0, .int 0, .int 0, .long 0]) h i_Heap t_Heap t_Heap_ok cl_TCM_9 ic_Heap ii_Heap rfl (by decide) ⟨by show _ ≤ 170; decide, by show _ ≤ 863; decide⟩ d_TCM_init_4 (fun q4 => ?_)
  refine g_dup h d_TCM_init_7 rfl ?_
  refine g_init (q := 1) h tb_good hao (by rw [hL, hDD]; exact n_Heap_init rfl) ⟨ml_TCM_11, wi_Heap.1, wi_Heap.2.1, wi_Heap.2.2⟩ rfl nm_Heap_init rfl ⟨rfl, rfl, by decide, by decide, by show _ ≤ 170; decide, by show _ ≤ 863; decide⟩ rfl (Nat.le_of_ble_eq_true rfl) d_TCM_init_8 ?_
  intro ad8 σ8 ea8 es8
  refine g_world (sgj_1 (fun k hk => rfl) es8) ?_
  refine g_astore_n h d_TCM_init_11 rfl rfl (by rw [hN]; decide) ?_
  refine g_aload_n h d_TCM_init_12 rfl rfl ?_
  refine g_aload_n h d_TCM_init_13 rfl rfl ?_
  refine g_putF h i_TCM 0 (by decide) rfl rfl 1 (by decide) t_TCM t_TCM_ok n_TCM f_TCM_12 rfl hnm rfl rfl rfl (Nat.le_of_ble_eq_true rfl) d_TCM_init_14 ?_
  refine g_aload_n h d_TCM_init_17 rfl rfl ?_
  refine g_new (ci := 4) (fs := [.null, .null, .null, .int 0, .int 0, .int 0, .long 0]) h i_Pro t_Pro t_Pro_ok cl_TCM_16 ic_Pro ii_Pro rfl (by decide) ⟨by show _ ≤ 170; decide, by show _ ≤ 863; decide⟩ d_TCM_init_18 (fun q18 => ?_)
  refine g_dup h d_TCM_init_21 rfl ?_
  refine g_aload_n h d_TCM_init_22 rfl rfl ?_
  refine g_init (q := 100) h tb_good hao (by rw [hL, hDD]; exact n_Pro_init (hp := q4) rfl) ⟨ml_TCM_18, wi_Pro.1, wi_Pro.2.1, wi_Pro.2.2⟩ rfl nm_Pro_init rfl ⟨rfl, rfl, by decide, by decide, by show _ ≤ 170; decide, by show _ ≤ 863; decide⟩ rfl (Nat.le_of_ble_eq_true rfl) d_TCM_init_23 ?_
  intro ad23 σ23 ea23 es23
  refine g_world (sgj_1 (fun k hk => rfl) es23) ?_
  refine g_putF h i_TCM 0 (by decide) rfl rfl 0 (by decide) t_TCM t_TCM_ok n_TCM f_TCM_21 rfl hnm rfl rfl rfl (Nat.le_of_ble_eq_true rfl) d_TCM_init_26 ?_
  have hA1 : ∀ j, j < 99 → adj 100 (va_up (adj 1 (va_up ad 1 q4) ad8) (1 + 99) q18) ad23 (1 + j) = ad8 j := fun j hj => by
    unfold adj va_up
    rw [if_pos (by omega), if_neg (by omega)]
    show (if 1 + j < 1 then _ else ad8 (1 + j - 1)) = ad8 j
    rw [if_neg (by omega), Nat.add_sub_cancel_left]
  have hA2 : ∀ j, j < 71 → adj 100 (va_up (adj 1 (va_up ad 1 q4) ad8) (1 + 99) q18) ad23 (100 + j) = ad23 j := fun j hj => by
    unfold adj
    rw [if_neg (by omega), Nat.add_sub_cancel_left]
  have e8 : ad8 0 = q4 := ea8
  have e23 : ad23 0 = q18 := ea23
  generalize hb : adj 100 (va_up (adj 1 (va_up ad 1 q4) ad8) (1 + 99) q18) ad23 = b at hA1 hA2 ⊢
  have hb0 : b 0 = ad 0 := by rw [← hb]; rfl
  refine g_arrq (q := 3) (n := 16) (f' := fun j => some (b (ix 4 j))) (by decide) rfl (fun j hj => ?_) ?_
  · show some (ad8 (3 + 6 * j)) = some (b (4 + 6 * j))
    rw [← hA1 _ (by omega), show 1 + (3 + 6 * j) = 4 + 6 * j by omega]
  refine g_arrq (q := 101) (n := 68) (f' := fun j => some (b (ix 13 j))) (by decide) rfl (fun j hj => ?_) ?_
  · show (if j < 68 then some (ad23 (3 + j)) else none) = some (b (103 + j))
    rw [if_pos hj, ← hA2 _ (by omega), show 100 + (3 + j) = 103 + j by omega]
  refine g_vretN h r d_TCM_init_29 (fun k hk => ?_) (fun k hk => ?_)
  · have z : k = 0 := by omega
    subst z
    exact hb0
  · show va_up _ 101 _ k = wc b t C00 k
    by_cases z101 : k = 101
    · subst z101
      rfl
    refine (if_neg z101).trans ?_
    by_cases z3 : k = 3
    · subst z3
      rfl
    refine (if_neg z3).trans ?_
    by_cases z0 : k = 0
    · subst z0
      show Sum.inr (6, [Value.ref q18, Value.ref q4]) = Sum.inr (6, [Value.ref (b 100), Value.ref (b 1)])
      rw [show b 100 = ad23 0 from hA2 0 (by decide), show b 1 = ad8 0 from hA1 0 (by decide), e8, e23]
    refine (if_neg z0).trans ?_
    by_cases z : k < 100
    · refine (if_pos z).trans ?_
      refine (if_neg (show ¬ k = 1 + 99 by omega)).trans ?_
      refine (if_neg z0).trans ?_
      refine (if_neg (show ¬ k < 1 by omega)).trans ?_
      exact wc_heap hA1 (by omega) z z3
    · refine (if_neg z).trans ?_
      exact wc_pro hA2 ((hA1 0 (by decide)).trans e8) (by omega) (by omega) z101
