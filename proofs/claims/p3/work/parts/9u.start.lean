/-! what the tables give the law -/
theorem zq_of {args : Array Value} {s : State} {C n d : String} {A : Nat → Prop} (hl : (Cond.laysStatic C n d).before args s = true) (hini : (Cond.initialized C).before args s = true) (h : (Cond.isRef (.static C n d)).before args s = true) (hA : ∀ a : Nat, a < s.heap.size → ¬ A a) : zq C n d A s s.heap := ⟨va_Zqof hl hini h hA, by
  obtain ⟨c, k, i, f, a, cell, hc, hi, hst, ha, hcell, hs, hcls, hlt, hty⟩ := Cond.laysStatic_spec hl
  exact ⟨c, k, i, f, a, cell, ⟨hc, hi, hst, ha, hty⟩, hcell, ⟨hs, hcls, hlt⟩, hA a (Array.getElem?_eq_some_iff.mp hcell).1⟩⟩
theorem nc_of {A B : String} {args : Array Value} {s : State} {n : Nat} (h : (Cond.not (.castable A B)).before args s = true) (hi : (Cond.instantiable B n).before args s = true) : nc A B s := by
  obtain ⟨d, k, h1, h2, -⟩ := Cond.instantiable_spec hi
  simp only [Cond.before, Cond.holds, Cond.value, h1] at h
  cases hc : s.vm.findClass A with
  | none => simp [hc] at h
  | some c =>
    simp [hc] at h
    exact ⟨c, d, hc, h1, ⟨k, h2⟩, h⟩
theorem arr_of {args : Array Value} {s : State} {ty : FieldType} (h : (Cond.arrayClass ty).before args s = true) (hp : ∀ cA, s.vm.findClass ("[" ++ ty.toString) = some cA → va_RA s cA ty) : ∃ cA, ArrOfT s cA ty ∧ va_RA s cA ty := by
  obtain ⟨c, k, comp, h1, h2, h3⟩ := Cond.arrayClass_spec h
  exact ⟨c, fun n z => ⟨fun k h => (by cases h), k, h2, comp, h3⟩, hp c h1⟩
theorem arrq_of {s : State} {C : String} (h : va_AO C s) : ∃ cA, ArrOfT s cA (.object C) ∧ va_RA s cA (.object C) := by
  obtain ⟨comp, c, k, h1, h2, h3, h4, h5⟩ := Cond.arrayOver_spec h
  exact ⟨c, fun n z => ⟨fun k h => (by cases h), k, h3, comp, h4⟩, k, comp, h3, h4, h1, h5⟩
theorem nl_tbl : ∀ q ∈ NL, Cond.methodLinkNest q.1 q.2.1 q.2.2.1 q.2.2.2 ∈ lw_tbl := by decide +kernel
theorem ao_tbl : ∀ C ∈ aoL, Cond.arrayOver (.object C) ∈ lw_tbl := by decide +kernel
theorem law_known {args : Array Value} {s : State} (hts : ∀ w ∈ lw_tbl, w.before args s = true) : ∃ (D : va_G) (t : Nat → ClassId), va_K D CL (tyl t) s ∧ aos s ∧ ∀ q ∈ NL, va_Nw (.methodLinkNest q.1 q.2.1 q.2.2.1 q.2.2.2) s := by
  have hT : ∀ w ∈ TB, w.before args s = true := fun w hw => hts w (tb_tbl hw)
  have hao : aos s := fun C hC => va_AO.of (hts _ (ao_tbl C hC))
  obtain ⟨c0, j0, k0⟩ := u_known (C := R_Cell) (T := F_Cell) (N := 4) (n := 4) hT i_Cell (hT _ ic_Cell)
  obtain ⟨c1, j1, k1⟩ := u_known (C := R_Cor) (T := F_Cor) (N := 6) (n := 6) hT i_Cor (hT _ ic_Cor)
  obtain ⟨c2, j2, k2⟩ := u_known (C := R_Heap) (T := F_Heap) (N := 9) (n := 9) hT i_Heap (hT _ ic_Heap)
  obtain ⟨c3, j3, k3⟩ := u_known (C := R_Ins) (T := F_Ins) (N := 4) (n := 4) hT i_Ins (hT _ ic_Ins)
  obtain ⟨c4, j4, k4⟩ := u_known (C := R_Pro) (T := F_Pro) (N := 7) (n := 7) hT i_Pro (hT _ ic_Pro)
  obtain ⟨c5, j5, k5⟩ := u_known (C := R_Tab) (T := F_Tab) (N := 4) (n := 4) hT i_Tab (hT _ ic_Tab)
  obtain ⟨c6, j6, k6⟩ := u_known (C := R_TCM) (T := F_TCM) (N := 2) (n := 2) hT i_TCM (hT _ ic_TCM)
  obtain ⟨c7, j7, k7⟩ := u_known (C := R_Mod) (T := F_Mod) (N := 28) (n := 28) hT i_Mod (hT _ ic_Mod)
  obtain ⟨t0, u0, v0⟩ := arr_of (ty := .long) (hT _ ac_long) (fun _ h => h)
  obtain ⟨t4, u4, v4⟩ := arr_of (ty := .int) (hT _ ac_int) (fun _ h => h)
  obtain ⟨t1, u1, v1⟩ := arrq_of (hao "TriColourMachine$Cell" (by decide))
  obtain ⟨t2, u2, v2⟩ := arrq_of (hao "TriColourMachine$Instruction" (by decide))
  obtain ⟨t3, u3, v3⟩ := arrq_of (hao "TriColourMachine$Coroutine" (by decide))
  refine ⟨(fun k => match k with | 0 => c0 | 1 => c1 | 2 => c2 | 3 => c3 | 4 => c4 | 5 => c5 | 6 => c6 | _ => c7, fun k => match k with | 0 => j0 | 1 => j1 | 2 => j2 | 3 => j3 | 4 => j4 | 5 => j5 | 6 => j6 | _ => j7), fun k => match k with | 0 => t0 | 1 => t1 | 2 => t2 | 3 => t3 | _ => t4, ⟨fun k q hq => ?_, fun k q hq => ?_⟩, hao, fun q hq => va_Nw.of rfl (hts _ (nl_tbl q hq))⟩
  · match k, hq with
    | 0, hq => cases hq; exact k0
    | 1, hq => cases hq; exact k1
    | 2, hq => cases hq; exact k2
    | 3, hq => cases hq; exact k3
    | 4, hq => cases hq; exact k4
    | 5, hq => cases hq; exact k5
    | 6, hq => cases hq; exact k6
    | 7, hq => cases hq; exact k7
    | k + 8, hq => cases hq
  · match k, hq with
    | 0, hq => cases hq; exact ⟨u0, v0⟩
    | 1, hq => cases hq; exact ⟨u1, v1⟩
    | 2, hq => cases hq; exact ⟨u2, v2⟩
    | 3, hq => cases hq; exact ⟨u3, v3⟩
    | 4, hq => cases hq; exact ⟨u4, v4⟩
    | k + 5, hq => cases hq
theorem ctn_sub {l : Launch} {D : va_G} {cl : List vw_C} {tys tys' : List (ClassId × FieldType)} {nl : List (String × Nat × MethodName × String)} {N N2 : Nat} {ad : Nat → Nat} {y : MethodName} {ws : List Cond} {rm : Room} {As : List Value} {σ : Nat → va_E} {mc ms : Nat} {Rr : (Nat → Nat) → (Nat → va_E) → Prop} (is : List Nat) (hs : is.filterMap (fun i => tys[i]?) = tys') (h : Ctn l D cl tys' nl N N2 ad y ws rm As σ mc ms Rr) : Ctn l D cl tys nl N N2 ad y ws rm As σ mc ms Rr := by
  intro sz p e' h1 h2 h3 s m args below h4 h5 hP hK
  obtain ⟨q0, ⟨q1, q2, q3, q4⟩, q5⟩ := hP
  exact h sz p e' h1 h2 h3 s m args below h4 h5 ⟨q0, ⟨q1, q2, q3.sub is hs, q4⟩, q5⟩ hK
theorem wc_ad {a b : Nat → Nat} {t : Nat → ClassId} (h : ∀ j, j < 171 → a j = b j) {k : Nat} (hk : k < 171) (h3 : ¬ k = 3) (h101 : ¬ k = 101) : wc a t C00 k = wc b t C00 k := by
  unfold wc
  rcases (show k = 0 ∨ k = 1 ∨ k = 2 ∨ (4 ≤ k ∧ k < 100) ∨ k = 100 ∨ k = 102 ∨ 103 ≤ k by omega) with rfl | rfl | rfl | ⟨h4, h5⟩ | rfl | rfl | h4
  · show ob a t C00 0 0 = ob b t C00 0 0
    simp only [ob, ix]
    rw [h 100 (by omega), h 1 (by omega)]
  · show ob a t C00 1 0 = ob b t C00 1 0
    simp only [ob, ix]
    rw [h 2 (by omega), h 3 (by omega)]
  · rfl
  · obtain ⟨n, r, hn, hr, rfl⟩ : ∃ n r, n < 16 ∧ r < 6 ∧ k = 4 + 6 * n + r := ⟨(k - 4) / 6, (k - 4) % 6, by omega, Nat.mod_lt _ (by decide), by omega⟩
    have ek : kd (4 + 6 * n + r) = (4 + r, n) := by
      unfold kd
      rw [if_neg (by omega), if_pos (by omega), show (4 + 6 * n + r - 4) % 6 = r by omega, show (4 + 6 * n + r - 4) / 6 = n by omega]
    rw [ek]
    rcases (show r = 0 ∨ r = 1 ∨ r = 2 ∨ r = 3 ∨ r = 4 ∨ r = 5 by omega) with rfl | rfl | rfl | rfl | rfl | rfl
    · simp only [ob, ix]
      rw [h (5 + 6 * n) (by omega), h (8 + 6 * n) (by omega)]
    · simp only [ob, ix]
      rw [h (6 + 6 * n) (by omega), h (7 + 6 * n) (by omega)]
    · rfl
    · rfl
    · simp only [ob, ix]
      rw [h (9 + 6 * n) (by omega)]
    · rfl
  · show ob a t C00 10 0 = ob b t C00 10 0
    simp only [ob, ix]
    rw [h 1 (by omega), h 101 (by omega), h 102 (by omega)]
  · rfl
  · have ek : kd k = (13, k - 103) := by
      unfold kd
      rw [if_neg (by omega), if_neg (by omega), if_neg (by omega)]
    rw [ek]
    rfl
