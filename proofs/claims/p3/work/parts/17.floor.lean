/-! Math.floorMod by 4, 6, 16 -/
theorem fm_bm (z : Int) (h1 : -2147483648 ≤ z) (h2 : z < 2147483648) : z.bmod (2 ^ 32) = z := Int.bmod_eq_of_le (by omega) (by omega)
theorem fm_rng (x : Int32) : -2147483648 ≤ x.toInt ∧ x.toInt < 2147483648 := ⟨by have := Int32.le_toInt x; omega, by have := Int32.toInt_lt x; omega⟩
theorem fm_rem (x : Int32) {m : Nat} (hm : m = 4 ∨ m = 6 ∨ m = 16) : (x - x / nI m * nI m).toInt = x.toInt - x.toInt.tdiv m * m ∧ (if 0 ≤ x.toInt ∨ (m : Int) ∣ x.toInt then x.toInt - x.toInt.tdiv m * m = x.toInt % m else x.toInt - x.toInt.tdiv m * m = x.toInt % m - m) := by
  obtain ⟨r1, r2⟩ := fm_rng x
  have hy : (nI m).toInt = (m : Int) := nI_toInt (by omega)
  have hne : nI m ≠ -1 := by
    intro z
    have := congrArg Int32.toInt z
    rw [hy] at this
    have e : (-1 : Int32).toInt = -1 := by decide
    rw [e] at this
    omega
  have hd : (x / nI m).toInt = x.toInt.tdiv m := by rw [Int32.toInt_div_of_ne_right _ _ hne, hy]
  have hs : (m : Int).sign = 1 := by rcases hm with rfl | rfl | rfl <;> rfl
  rw [Int32.toInt_sub, Int32.toInt_mul, hd, hy, Int.tdiv_eq_ediv, hs]
  generalize x.toInt = X at r1 r2
  rcases hm with rfl | rfl | rfl
  · by_cases h : 0 ≤ X ∨ ((4 : Nat) : Int) ∣ X
    · rw [if_pos h, if_pos h]
      have e : (X / ((4 : Nat) : Int) + 0) * ((4 : Nat) : Int) = X - X % 4 := by omega
      rw [e, fm_bm (X - X % 4) (by omega) (by omega), fm_bm _ (by omega) (by omega)]
      exact ⟨rfl, by omega⟩
    · rw [if_neg h, if_neg h]
      have e : (X / ((4 : Nat) : Int) + 1) * ((4 : Nat) : Int) = X - X % 4 + 4 := by omega
      rw [e, fm_bm (X - X % 4 + 4) (by omega) (by omega), fm_bm _ (by omega) (by omega)]
      exact ⟨rfl, by omega⟩
  · by_cases h : 0 ≤ X ∨ ((6 : Nat) : Int) ∣ X
    · rw [if_pos h, if_pos h]
      have e : (X / ((6 : Nat) : Int) + 0) * ((6 : Nat) : Int) = X - X % 6 := by omega
      rw [e, fm_bm (X - X % 6) (by omega) (by omega), fm_bm _ (by omega) (by omega)]
      exact ⟨rfl, by omega⟩
    · rw [if_neg h, if_neg h]
      have e : (X / ((6 : Nat) : Int) + 1) * ((6 : Nat) : Int) = X - X % 6 + 6 := by omega
      rw [e, fm_bm (X - X % 6 + 6) (by omega) (by omega), fm_bm _ (by omega) (by omega)]
      exact ⟨rfl, by omega⟩
  · by_cases h : 0 ≤ X ∨ ((16 : Nat) : Int) ∣ X
    · rw [if_pos h, if_pos h]
      have e : (X / ((16 : Nat) : Int) + 0) * ((16 : Nat) : Int) = X - X % 16 := by omega
      rw [e, fm_bm (X - X % 16) (by omega) (by omega), fm_bm _ (by omega) (by omega)]
      exact ⟨rfl, by omega⟩
    · rw [if_neg h, if_neg h]
      have e : (X / ((16 : Nat) : Int) + 1) * ((16 : Nat) : Int) = X - X % 16 + 16 := by omega
      rw [e, fm_bm (X - X % 16 + 16) (by omega) (by omega), fm_bm _ (by omega) (by omega)]
      exact ⟨rfl, by omega⟩
theorem fm_xor (x y : Int32) (hy : 0 ≤ y.toInt) : (x ^^^ y).toInt < 0 ↔ x.toInt < 0 := by
  have a : (x ^^^ y).toBitVec.msb = (x.toBitVec.msb ^^ y.toBitVec.msb) := by rw [Int32.toBitVec_xor, BitVec.msb_xor]
  have e : ∀ z : Int32, z.toBitVec.msb = decide (z.toInt < 0) := fun z => BitVec.msb_eq_toInt
  rw [e, e, e, decide_eq_false (show ¬ y.toInt < 0 by omega), Bool.xor_false] at a
  exact decide_eq_decide.mp a
theorem fmod_lt (x : Int32) {m : Nat} (h : 0 < m) : fmod x m < m := by
  unfold fmod
  have h1 := Int.emod_nonneg x.toInt (show (m : Int) ≠ 0 by omega)
  have h2 := Int.emod_lt_of_pos x.toInt (show (0 : Int) < m by omega)
  omega
theorem fmod_int (x : Int32) {m : Nat} (hm : 0 < m) (h2 : m < 2 ^ 30) : (nI (fmod x m)).toInt = x.toInt % m := by
  have h := fmod_lt x hm
  rw [nI_toInt (by omega)]
  unfold fmod
  have h1 := Int.emod_nonneg x.toInt (show (m : Int) ≠ 0 by omega)
  omega
theorem fm_pos {x : Int32} {m : Nat} (hm : m = 4 ∨ m = 6 ∨ m = 16) (h : 0 ≤ x ^^^ nI m) : x - x / nI m * nI m = nI (fmod x m) := by
  obtain ⟨a, b⟩ := fm_rem x hm
  have hx : 0 ≤ x.toInt := by
    have h1 : ¬ (x ^^^ nI m).toInt < 0 := by
      have := Int32.le_iff_toInt_le.mp h
      rw [Int32.toInt_zero] at this
      omega
    have h2 := mt (fm_xor x (nI m) (by rw [nI_toInt (by omega)]; omega)).mpr h1
    omega
  rw [if_pos (Or.inl hx)] at b
  apply Int32.toInt_inj.mp
  rw [a, b, fmod_int x (by omega) (by omega)]
theorem fm_zero {x : Int32} {m : Nat} (hm : m = 4 ∨ m = 6 ∨ m = 16) (h : x - x / nI m * nI m = 0) : x - x / nI m * nI m = nI (fmod x m) := by
  obtain ⟨a, b⟩ := fm_rem x hm
  rw [h, Int32.toInt_zero] at a
  apply Int32.toInt_inj.mp
  rw [h, Int32.toInt_zero, fmod_int x (by omega) (by omega)]
  have h1 := Int.emod_nonneg x.toInt (show (m : Int) ≠ 0 by omega)
  have h2 := Int.emod_lt_of_pos x.toInt (show (0 : Int) < m by omega)
  by_cases c : 0 ≤ x.toInt ∨ (m : Int) ∣ x.toInt
  · rw [if_pos c] at b; omega
  · rw [if_neg c] at b; omega
theorem fm_neg {x : Int32} {m : Nat} (hm : m = 4 ∨ m = 6 ∨ m = 16) (h0 : ¬ 0 ≤ x ^^^ nI m) (h : ¬ x - x / nI m * nI m = 0) : x - x / nI m * nI m + nI m = nI (fmod x m) := by
  obtain ⟨a, b⟩ := fm_rem x hm
  have hy : (nI m).toInt = (m : Int) := nI_toInt (by omega)
  have hx : x.toInt < 0 := by
    have h1 : (x ^^^ nI m).toInt < 0 := by
      have := mt Int32.le_iff_toInt_le.mpr h0
      rw [Int32.toInt_zero] at this
      omega
    exact (fm_xor x (nI m) (by rw [hy]; omega)).mp h1
  have h1 := Int.emod_nonneg x.toInt (show (m : Int) ≠ 0 by omega)
  have h2 := Int.emod_lt_of_pos x.toInt (show (0 : Int) < m by omega)
  have hne : x.toInt - x.toInt.tdiv m * m ≠ 0 := by
    intro z
    apply h
    apply Int32.toInt_inj.mp
    rw [a, z, Int32.toInt_zero]
  have hc : ¬ (0 ≤ x.toInt ∨ (m : Int) ∣ x.toInt) := by
    intro c
    rw [if_pos c] at b
    rcases c with c | c
    · omega
    · rw [Int.emod_eq_zero_of_dvd c] at b
      exact hne b
  rw [if_neg hc] at b
  apply Int32.toInt_inj.mp
  rw [Int32.toInt_add, a, b, hy, fmod_int x (by omega) (by omega)]
  rw [show x.toInt % (m : Int) - m + m = x.toInt % m by omega]
  exact fm_bm _ (by omega) (by omega)
/-- a contract out of a walk, of a method of a class whose natives the machine knows -/
theorem ct_ofF {l : Launch} {D : va_G} {cl : List vw_C} {tys : List (ClassId × FieldType)} {nl : List (String × Nat × MethodName × String)} {N : Nat} {ad : Nat → Nat} {y : MethodName} {TB : List Cond} {rm : Room} {As : List Value} {σ : Nat → va_E} {Rr : Option Value → (Nat → va_E) → Prop} {cc : ByteArray} {n : Nat} {ret : Option FieldType}
    (hy : plainFor y = true) (hn : (lg_sl As).length ≤ n)
    (body : ∀ Γ : GT, gL Γ = l → gD Γ = D → gN Γ = n → Cx Γ cc y.cls rm TB cl tys nl → Rx Γ N ad ret Rr 0 0 → G Γ 0 0 N ad σ 0 (inL As n) []) : Ct l D cl tys nl N ad y (.code y cc n ret :: TB) rm As σ Rr := by
  intro sz
  refine va_MetF (cc := cc) (maxL := n) (ret := ret) hy rfl ?_
  intro p e s m args below meth c s₁ B hml hv
  obtain ⟨rfl, hsz, hP, hK, hD0⟩ := hv
  have hts := atoms_spec (ws := .code y cc n ret :: TB) B.pre
  have hown : s.vm.findClass y.cls = some m.cls := findClass_of_methodNamed B.named
  subst hsz
  have hD := hD0.self (sz := s.heap.size)
  rw [lg_entry_eq]
  exact body (p, l, e, rm, s, m, As.toArray, below, meth, c, MQ below (cQc D cl N ad (va_A (gl N ad σ) s.heap.size) Rr) As.toArray s 0 0 (va_A (gl N ad σ) s.heap.size), D, cl, va_A (gl N ad σ) s.heap.size, n) rfl rfl rfl
    ⟨B.exec, B.bytes, hml, hown, rfl, fun w hw => hts w (List.mem_cons_of_mem _ hw), rfl, hK, fun q h => Or.inr h⟩ ⟨B.returns, B.notSynchronized, rfl⟩ s.heap [] _ hP hD va_S.rf (inL_has hn)
theorem okC_I {C : CS} {f n : Nat} {v : Int32} (h : okC C) (h2 : f ≠ 2) (h3 : f ≠ 3) (h4 : f ≠ 4) (h5 : f ≠ 5) (h7 : f ≠ 7) (h8 : f ≠ 8) (h14 : f ≠ 14) (h19 : f ≠ 19) : okC (sI C f n v) :=
  okC_of h (fun g hg m => sI_o (by omega)) rfl (by rw [sI_o (by omega)]; exact h.2.2.1)
theorem okC_7 {C : CS} {n a : Nat} (h : okC C) (ha : a < 4) : okC (sI C 7 n (nI a)) := by
  obtain ⟨h1, h2, h3, h4⟩ := h
  refine ⟨fun m hm => ?_, h2, by rw [sI_o (by decide)]; exact h3, by rw [sI_o (by decide)]; exact h4⟩
  obtain ⟨a1, a2, a3, a4, a5, a6⟩ := h1 m hm
  rw [sI_o (by decide), sI_o (by decide), sI_o (by decide), sI_o (by decide), sI_o (f := 7) (g := 8) (by decide)]
  refine ⟨a1, a2, a3, a4, ?_, a6⟩
  rw [sI_1]
  split
  · exact ⟨a, ha, rfl⟩
  · exact a5
theorem okC_8 {C : CS} {n a : Nat} (h : okC C) (ha : a < 4) : okC (sI C 8 n (nI a)) := by
  obtain ⟨h1, h2, h3, h4⟩ := h
  refine ⟨fun m hm => ?_, h2, by rw [sI_o (by decide)]; exact h3, by rw [sI_o (by decide)]; exact h4⟩
  obtain ⟨a1, a2, a3, a4, a5, a6⟩ := h1 m hm
  rw [sI_o (by decide), sI_o (by decide), sI_o (by decide), sI_o (by decide), sI_o (f := 8) (g := 7) (by decide)]
  refine ⟨a1, a2, a3, a4, a5, ?_⟩
  rw [sI_1]
  split
  · exact ⟨a, ha, rfl⟩
  · exact a6
theorem okC_beg {C : CS} {n : Nat} (h : okC C) : okC (cbeg C n) := okC_I (okC_I h (by decide) (by decide) (by decide) (by decide) (by decide) (by decide) (by decide) (by decide)) (by decide) (by decide) (by decide) (by decide) (by decide) (by decide) (by decide) (by decide)
theorem cbelow_y {C : CS} {x y : Int64} {p : Int32} (h1 : isNum x) (h2 : isNum y) : cbelow C x y p = (0, if x < y then sI C 21 0 (nI (fmod p 16)) else C) := by unfold cbelow; rw [if_pos ⟨h1, h2⟩]
