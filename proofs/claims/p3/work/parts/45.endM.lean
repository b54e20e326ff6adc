/-! the reference's full collection ends -/
theorem sI_e {M : CS} {f n g b : Nat} {v : Int32} (h : g ≠ f) : (sI M f n v).1 g b = M.1 g b := by rw [sI_1, if_neg (fun z => h z.1)]
theorem sI_self {M : CS} {f n : Nat} {v : Int32} : (sI M f n v).1 f n = v := by rw [sI_1, if_pos ⟨rfl, rfl⟩]
theorem sI_over {M : CS} {f n : Nat} {v w : Int32} : sI (sI M f n v) f n w = sI M f n w := by
  unfold sI
  refine Prod.ext ?_ rfl
  funext a b
  show (if a = f ∧ b = n then w else if a = f ∧ b = n then v else M.1 a b) = if a = f ∧ b = n then w else M.1 a b
  split <;> rfl
theorem okM_15 {M : CS} {i : Nat} (hi : i < 16) (h : okM M) : okM (sI M 15 0 (nI i)) := by
  obtain ⟨h1, h2, -, h4, h5⟩ := h
  refine ⟨fun n hn => ?_, fun f j => h2 f j, ⟨i, hi, sI_self⟩, ?_, fun k hk => ?_⟩
  · rw [sI_e (by decide), sI_e (by decide), sI_e (by decide), sI_e (by decide)]; exact h1 n hn
  · rw [sI_e (by decide)]; exact h4
  · rw [sI_e (by decide)]; exact h5 k hk
theorem okM_unit {M : CS} (h : okM M) : okM (munit M).2 := by
  have h1 : okM (sI M 19 0 (M.1 19 0 + 1)) := okM_keep (by decide) h
  obtain ⟨i, hi, hk⟩ := h.2.2.1
  simp only [munit, hk, nI_clamp (show i < 2 ^ 31 by omega)]
  split
  · exact okM_keep (by decide) (okM_eq5 (eq5_shadeRoots (eq5_refl _)) h1)
  · split
    · split
      · exact okM_eq5 (eq5_blacken (eq5_refl _)) h1
      · split
        · exact okM_eq5 (eq5_shadeRoots (eq5_refl _)) h1
        · exact okM_15 (i := 0) (by decide) (okM_keep (by decide) (okM_eq5 (eq5_shadeRoots (eq5_refl _)) h1))
    · have h2 : okM (if ¬ M.1 4 i = 0 ∧ M.1 5 i = 0 then sI (sI (sI M 19 0 (M.1 19 0 + 1)) 4 i 0) 17 0 (M.1 17 0 + 1) else sI M 19 0 (M.1 19 0 + 1)) := by
        split
        · exact okM_keep (by decide) (okM_keep (by decide) h1)
        · exact h1
      have h3 := okM_keep (f := 5) (n := i) (v := 0) (by decide) h2
      by_cases hs : nI i + 1 = 16
      · rw [if_pos hs]
        refine okM_keep (f := 14) (by decide) ?_
        rw [sI_over]
        exact okM_15 (i := 0) (by decide) h3
      · rw [if_neg hs]
        have : i + 1 ≠ 16 := fun z => hs (by rw [nI_1, z]; rfl)
        show okM (sI _ 15 0 (nI i + 1))
        rw [nI_1]
        exact okM_15 (by omega) h3
def wt (M : CS) (n : Nat) : Nat := if M.1 5 n = 0 then 2 else if M.1 5 n = 1 then 1 else 0
def sumN (f : Nat → Nat) : Nat → Nat
  | 0 => 0
  | n + 1 => sumN f n + f n
theorem sumN_le {f g : Nat → Nat} : ∀ n, (∀ i, i < n → f i ≤ g i) → sumN f n ≤ sumN g n
  | 0, _ => Nat.le_refl _
  | n + 1, h => Nat.add_le_add (sumN_le n (fun i hi => h i (by omega))) (h n (by omega))
theorem sumN_lt {f g : Nat → Nat} {k : Nat} (hk2 : f k < g k) : ∀ n, k < n → (∀ i, i < n → f i ≤ g i) → sumN f n < sumN g n
  | 0, hk, _ => absurd hk (Nat.not_lt_zero _)
  | n + 1, hk, h => by
    have h1 := sumN_le n (fun i hi => h i (by omega))
    have h2 := h n (by omega)
    show sumN f n + f n < sumN g n + g n
    by_cases e : k = n
    · subst e; omega
    · have := sumN_lt hk2 n (by omega) (fun i hi => h i (by omega))
      omega
theorem sumN_up {f : Nat → Nat} {b : Nat} (h : ∀ i, f i ≤ b) : ∀ n, sumN f n ≤ n * b
  | 0 => Nat.zero_le _
  | n + 1 => by
    have := sumN_up h n
    have := h n
    show sumN f n + f n ≤ (n + 1) * b
    rw [Nat.succ_mul]; omega
theorem wt_ne {M : CS} {n j : Nat} {v : Int32} (e : ¬ j = n) : wt (sI M 5 n v) j = wt M j := by
  have : (sI M 5 n v).1 5 j = M.1 5 j := by rw [sI_1, if_neg (fun z => e z.2)]
  unfold wt
  rw [this]
theorem wt_2 (M : CS) (n : Nat) : wt M n ≤ 2 := by
  unfold wt
  split
  · omega
  · split <;> omega
def lew (M2 M : CS) : Prop := ∀ n, wt M2 n ≤ wt M n
theorem lew_shade {M2 M : CS} {v : Int64} (h : lew M2 M) : lew (mshade M2 v) M := fun n => by
  unfold mshade
  split
  · rename_i hc
    by_cases e : n = on v
    · have h1 : wt M2 n = 2 := by unfold wt; rw [e, if_pos hc.2]
      have h2 : wt (sI M2 5 (on v) 1) n = 1 := by unfold wt; rw [e, sI_self]; rfl
      have := h n
      omega
    · have h2 : wt (sI M2 5 (on v) 1) n = wt M2 n := wt_ne e
      rw [h2]; exact h n
  · exact h n
theorem lew_shades {row : Nat → Int64} : ∀ (c i : Nat) {M2 M : CS}, lew M2 M → lew (mshades row c i M2) M
  | 0, _, _, _, h => h
  | c + 1, i, _, _, h => lew_shades c (i + 1) (lew_shade h)
theorem lew_roots : ∀ (c k : Nat) {M2 M : CS}, lew M2 M → lew (mroots c k M2) M
  | 0, _, _, _, h => h
  | c + 1, k, _, _, h => lew_roots c (k + 1) (lew_shades 4 0 (lew_shade h))
theorem lew_shadeKV {ks vs : Nat → Int64} : ∀ (c i : Nat) {M2 M : CS}, lew M2 M → lew (mshadeKV ks vs c i M2) M
  | 0, _, _, _, h => h
  | c + 1, i, _, _, h => lew_shadeKV c (i + 1) (lew_shade (lew_shade h))
theorem lew_refl (M : CS) : lew M M := fun _ => Nat.le_refl _
theorem lew_shadeRoots (M : CS) : lew (mshadeRoots M) M := lew_roots _ _ (lew_shades 6 0 (lew_refl M))
theorem lew_blacken (M : CS) (n : Nat) : lew (mblacken M n) (sI M 5 n 2) := by
  unfold mblacken
  split
  · exact lew_shades _ _ (lew_refl _)
  · refine lew_shadeKV _ _ ?_
    split
    · exact lew_refl _
    · exact lew_shade (lew_refl _)
theorem lst_none {p : Nat → Bool} : ∀ (c i : Nat), lst p c i = none → ∀ j, i ≤ j → j < i + c → p j = false
  | 0, i, _, j, h1, h2 => by omega
  | c + 1, i, h, j, h1, h2 => by
    unfold lst at h
    by_cases hp : p i = true
    · rw [if_pos hp] at h; cases h
    · rw [if_neg hp] at h
      by_cases e : j = i
      · subst e; exact Bool.eq_false_iff.mpr hp
      · exact lst_none c (i + 1) h j (by omega) (by omega)
def mu (M : CS) : Nat := if M.1 14 0 = 0 then 0 else if M.1 14 0 = 1 then 18 + sumN (wt M) 16 else 17 - (M.1 15 0).toNatClampNeg
theorem mu_50 (M : CS) : mu M ≤ 50 := by
  have := sumN_up (wt_2 M) 16
  unfold mu
  split
  · omega
  · split <;> omega
theorem mu_unit {M : CS} (h : okM M) (hp : ¬ M.1 14 0 = 0) : mu (munit M).2 < mu M := by
  obtain ⟨i, hi, hk⟩ := h.2.2.1
  have hcl : (nI i).toNatClampNeg = i := nI_clamp (by omega)
  have hw : ∀ n, wt (sI M 19 0 (M.1 19 0 + 1)) n = wt M n := fun n => by unfold wt; rw [sI_e (by decide)]
  simp only [munit, hk, hcl, if_neg hp]
  by_cases h1 : M.1 14 0 = 1
  · have hM : mu M = 18 + sumN (wt M) 16 := by unfold mu; rw [if_neg hp, if_pos h1]
    have hE : ∀ M2, eq5 M2 (sI M 19 0 (M.1 19 0 + 1)) → mu M2 = 18 + sumN (wt M2) 16 := fun M2 e => by
      have : M2.1 14 0 = 1 := by rw [e.2 14 (by decide), sI_e (by decide)]; exact h1
      unfold mu
      rw [if_neg (by rw [this]; decide), if_pos this]
    rw [if_pos h1, hM]
    split
    · rename_i n hg
      have hgn := (lst_lt _ _ _ hg).2.2
      have hc : M.1 5 n = 1 := by
        have : (!((sI M 19 0 (M.1 19 0 + 1)).1 4 n == 0) && (sI M 19 0 (M.1 19 0 + 1)).1 5 n == 1) = true := hgn
        rw [Bool.and_eq_true] at this
        have := eq_of_beq this.2
        rw [sI_e (by decide)] at this
        exact this
      rw [hE _ (eq5_blacken (eq5_refl _))]
      have hl := lew_blacken (sI M 19 0 (M.1 19 0 + 1)) n
      have hle : ∀ j, wt (sI (sI M 19 0 (M.1 19 0 + 1)) 5 n 2) j ≤ wt M j := fun j => by
        by_cases e : j = n
        · have : wt (sI (sI M 19 0 (M.1 19 0 + 1)) 5 n 2) j = 0 := by unfold wt; rw [e, sI_self]; rfl
          omega
        · have : wt (sI (sI M 19 0 (M.1 19 0 + 1)) 5 n 2) j = wt (sI M 19 0 (M.1 19 0 + 1)) j := wt_ne e
          rw [this, hw]; exact Nat.le_refl _
      have hz : wt (sI (sI M 19 0 (M.1 19 0 + 1)) 5 n 2) n = 0 := by unfold wt; rw [sI_self]; rfl
      have hz2 : wt M n = 1 := by unfold wt; rw [hc]; rfl
      have := sumN_lt (f := wt (mblacken (sI M 19 0 (M.1 19 0 + 1)) n)) (g := wt M) (k := n) (by have := hl n; omega) 16 (mgray_lt hg) (fun j _ => Nat.le_trans (hl j) (hle j))
      omega
    · rename_i hg
      split
      · rename_i j hg2
        have hl := lew_shadeRoots (sI M 19 0 (M.1 19 0 + 1))
        have e5 := eq5_shadeRoots (eq5_refl (sI M 19 0 (M.1 19 0 + 1)))
        have hj := mgray_lt hg2
        have g2 : (!((mshadeRoots (sI M 19 0 (M.1 19 0 + 1))).1 4 j == 0) && (mshadeRoots (sI M 19 0 (M.1 19 0 + 1))).1 5 j == 1) = true := (lst_lt _ _ _ hg2).2.2
        have g1 : (!((sI M 19 0 (M.1 19 0 + 1)).1 4 j == 0) && (sI M 19 0 (M.1 19 0 + 1)).1 5 j == 1) = false := lst_none 16 0 hg j (by omega) (by omega)
        rw [Bool.and_eq_true, e5.2 4 (by decide)] at g2
        rw [g2.1, Bool.true_and] at g1
        have c2 := eq_of_beq g2.2
        have c1 : ¬ M.1 5 j = 1 := by
          rw [sI_e (by decide)] at g1
          exact fun z => absurd g1 (by rw [z]; decide)
        have w2 : wt (mshadeRoots (sI M 19 0 (M.1 19 0 + 1))) j = 1 := by unfold wt; rw [c2]; rfl
        have w1 : wt M j ≠ 1 := by
          unfold wt
          rw [if_neg c1]
          split <;> omega
        have := hl j
        rw [hw] at this
        rw [hE _ e5]
        have := sumN_lt (f := wt (mshadeRoots (sI M 19 0 (M.1 19 0 + 1)))) (g := wt M) (k := j) (by omega) 16 hj (fun k _ => by rw [← hw k]; exact hl k)
        omega
      · have : mu (sI (sI (mshadeRoots (sI M 19 0 (M.1 19 0 + 1))) 14 0 2) 15 0 0) = 17 := by
          unfold mu
          rw [sI_e (by decide), sI_self, if_neg (by decide), if_neg (by decide), sI_self]
          rfl
        show mu (sI (sI (mshadeRoots (sI M 19 0 (M.1 19 0 + 1))) 14 0 2) 15 0 0) < _
        omega
  · have hM : mu M = 17 - i := by unfold mu; rw [if_neg hp, if_neg h1, hk, hcl]
    rw [if_neg h1, hM]
    by_cases hs : nI i + 1 = 16
    · rw [if_pos hs]
      have : ∀ A : CS, mu (sI A 14 0 0) = 0 := fun A => by unfold mu; rw [sI_self, if_pos rfl]
      show mu (sI _ 14 0 0) < _
      rw [this]; omega
    · rw [if_neg hs]
      have hph : ∀ A : CS, A.1 14 0 = M.1 14 0 → mu (sI A 15 0 (nI i + 1)) = 17 - (i + 1) := fun A e => by
        unfold mu
        rw [sI_e (by decide), e, if_neg hp, if_neg h1, sI_self, nI_1, nI_clamp (by omega)]
      show mu (sI _ 15 0 (nI i + 1)) < _
      rw [hph _ (by
        rw [sI_e (by decide)]
        split
        · rw [sI_e (by decide), sI_e (by decide), sI_e (by decide)]
        · rw [sI_e (by decide)])]
      omega
def mwhile : Nat → Int32 → CS → Int32 × CS
  | 0, a, M => (a, M)
  | c + 1, a, M => if M.1 14 0 = 0 then (a, M) else mwhile c (a + (munit M).1) (munit M).2
theorem okM_while : ∀ (c : Nat) (a : Int32) {M : CS}, okM M → okM (mwhile c a M).2
  | 0, _, _, h => h
  | c + 1, a, M, h => by
    unfold mwhile
    split
    · exact h
    · exact okM_while c _ (okM_unit h)
def mwhole (M : CS) : Int32 × CS :=
  let A := mwhile 1000 0 (sI M 20 0 (M.1 20 0 + 1))
  mwhile 1000 (A.1 + (munit A.2).1) (munit A.2).2
theorem okM_whole {M : CS} (h : okM M) : okM (mwhole M).2 := okM_while _ _ (okM_unit (okM_while _ _ (okM_keep (by decide) h)))
