/-! what the class keeps true of its own numbers -/
def okC (C : CS) : Prop :=
  (∀ n, n < 16 → (∃ p, p ≤ 6 ∧ C.1 2 n = nI p) ∧ (C.1 3 n = -1 ∨ ∃ m, m < 16 ∧ C.1 3 n = nI m) ∧ (∃ f, f < 4 ∧ C.1 4 n = nI f) ∧ (∃ p, p ≤ 16 ∧ C.1 5 n = nI p) ∧ (∃ a, a < 4 ∧ C.1 7 n = nI a) ∧ (∃ a, a < 4 ∧ C.1 8 n = nI a)) ∧
  (∀ f n i, okV (C.2.1 f n i)) ∧ (∃ k, k < 16 ∧ C.1 14 0 = nI k) ∧ (∃ d, d ≤ 5 ∧ C.1 19 0 = nI d ∧ ∀ i, i < d → ∃ n, n < 16 ∧ C.2.2 i = some n)
theorem cPairs_eq {C : CS} {n P : Nat} (hp : C.1 2 n = nI P) (hP : P ≤ 6) : cPairs C n = P := by unfold cPairs; rw [hp]; exact nI_clamp (by omega)
theorem tfind_lt {C : CS} {n P q : Nat} {key : Int64} (hp : C.1 2 n = nI P) (hP : P ≤ 6) (hf : tfind C n key = some q) : q < P := by
  unfold tfind at hf
  rw [cPairs_eq hp hP] at hf
  have := (lst_lt _ _ _ hf).2.1
  omega
theorem isA_on {C : CS} {k : Int32} {v : Int64} (hv : okV v) (ha : isA C k v = true) : on v < 16 ∧ (v - 10000000000).toInt32 = nI (on v) ∧ C.1 0 (on v) = k ∧ ¬ v < 10000000000 := by
  simp only [isA, Bool.and_eq_true, Bool.not_eq_true', decide_eq_false_iff_not, decide_eq_true_eq] at ha
  obtain ⟨h1, -, h2⟩ := okV_on hv ha.1
  exact ⟨h1, h2, ha.2, ha.1⟩
theorem tlinked_nI {C : CS} {j : Nat} {link : Int64} (hj : j < 16) : tlinked C (nI j) link = match tfind C j link with
    | none => none
    | some q => if isA C 1 (C.2.1 2 j q) = true then some (on (C.2.1 2 j q)) else none := by
  unfold tlinked
  rw [if_neg (nI_pos (by omega)), nI_clamp (by omega)]
  cases tfind C j link <;> rfl
theorem tlinked_m1 {C : CS} {link : Int64} : tlinked C (-1) link = none := by
  unfold tlinked
  rw [if_pos (by decide)]
theorem tlinked_lt {C : CS} {m : Int32} {link : Int64} {k : Nat} (hok : okC C) (h : tlinked C m link = some k) : k < 16 := by
  unfold tlinked at h
  by_cases hm : m < 0
  · rw [if_pos hm] at h; cases h
  · rw [if_neg hm] at h
    split at h
    · cases h
    · split at h
      · rename_i q _ ha
        cases h
        exact (isA_on (hok.2.1 _ _ _) ha).1
      · cases h
/-- fewer locals are known, by lists -/
def leL : List (Option Value) → List (Option Value) → Prop
  | [], _ => True
  | none :: a, _ :: b => leL a b
  | some x :: a, some y :: b => x = y ∧ leL a b
  | _, _ => False
theorem leL_get : ∀ (L' L : List (Option Value)), leL L' L → ∀ (i : Nat) (v : Value), L'[i]? = some (some v) → L[i]? = some (some v)
  | [], _, _, i, v, hi => by simp at hi
  | none :: a, _ :: b, h, i, v, hi => by
    cases i with
    | zero => simp at hi
    | succ i => exact leL_get a b h i v (by simpa using hi)
  | some x :: a, some y :: b, h, i, v, hi => by
    obtain ⟨h1, h2⟩ := h
    cases i with
    | zero => subst h1; simpa using hi
    | succ i => exact leL_get a b h2 i v (by simpa using hi)
  | none :: _, [], h, _, _, _ => by cases h
  | some _ :: _, [], h, _, _, _ => by cases h
  | some _ :: _, none :: _, h, _, _, _ => by cases h
theorem g_lessL {Γ : GT} {kc ks N pc : Nat} {ad : Nat → Nat} {σ : Nat → va_E} {L L' : List (Option Value)} {st : List Value} (h : leL L' L) (k : G Γ kc ks N ad σ pc L' st) : G Γ kc ks N ad σ pc L st := g_less (leL_get L' L h) k
theorem nI_neg {n : Nat} (h : n < 2 ^ 31) : ¬ nI n < 0 := nI_pos h
theorem cshadeRow_2 (row : Nat → Int64) : ∀ (c i : Nat) (a : Int32) (C : CS), (cshadeRow row c i a C).2.2 = C.2
  | 0, _, _, _ => rfl
  | c + 1, i, a, C => by
    unfold cshadeRow
    split
    · rw [cshadeRow_2 row c]; rfl
    · exact cshadeRow_2 row c _ _ _
theorem cshadeRow_1 (row : Nat → Int64) : ∀ (c i : Nat) (a : Int32) (C : CS) (f n : Nat), f ≠ 1 → (cshadeRow row c i a C).2.1 f n = C.1 f n
  | 0, _, _, _, _, _, _ => rfl
  | c + 1, i, a, C, f, n, hf => by
    unfold cshadeRow
    split
    · rw [cshadeRow_1 row c _ _ _ _ _ hf, sI_1, if_neg (fun z => hf z.1)]
    · exact cshadeRow_1 row c _ _ _ _ _ hf
theorem fil_step (C : CS) (f n i : Nat) (v : Int64) : sJ (sR C f n (fil v i (C.2.1 f n))) f n i v = sR C f n (fil v (i + 1) (C.2.1 f n)) := by
  unfold sJ sR
  refine Prod.ext rfl (Prod.ext ?_ rfl)
  funext a b c
  show (if a = f ∧ b = n ∧ c = i then v else if a = f ∧ b = n then fil v i (C.2.1 f n) c else C.2.1 a b c) = if a = f ∧ b = n then fil v (i + 1) (C.2.1 f n) c else C.2.1 a b c
  unfold fil
  by_cases h1 : a = f ∧ b = n
  · by_cases h2 : c = i
    · subst h2; simp [h1]
    · simp only [h1, h2, and_false, and_self, if_true, if_false]
      by_cases h3 : c < i
      · rw [if_pos h3, if_pos (show c < i + 1 by omega)]
      · rw [if_neg h3, if_neg (show ¬ c < i + 1 by omega)]
  · rw [if_neg (fun z => h1 ⟨z.1, z.2.1⟩), if_neg h1, if_neg h1]
theorem fil_0 (C : CS) (f n : Nat) (v : Int64) : sR C f n (fil v 0 (C.2.1 f n)) = C := by
  unfold sR
  refine Prod.ext rfl (Prod.ext ?_ rfl)
  funext a b c
  show (if a = f ∧ b = n then fil v 0 (C.2.1 f n) c else C.2.1 a b c) = C.2.1 a b c
  by_cases h1 : a = f ∧ b = n
  · obtain ⟨rfl, rfl⟩ := h1; simp [fil]
  · rw [if_neg h1]
theorem cshade_2 (C : CS) (n : Nat) : (cshade C n).2.2 = C.2 := by unfold cshade; split <;> rfl
theorem cshade_1 (C : CS) (n f m : Nat) (hf : f ≠ 1) : (cshade C n).2.1 f m = C.1 f m := by
  unfold cshade
  split
  · show (sI C 1 n 1).1 f m = _
    rw [sI_1, if_neg (fun z => hf z.1)]
  · rfl
theorem croots_2 : ∀ (c n : Nat) (a : Int32) (C : CS), (croots c n a C).2.2 = C.2
  | 0, _, _, _ => rfl
  | c + 1, n, a, C => by
    unfold croots
    split
    · rw [croots_2 c, cshadeRow_2, cshade_2]
    · exact croots_2 c _ _ _
theorem croots_1 : ∀ (c n : Nat) (a : Int32) (C : CS) (f m : Nat), f ≠ 1 → (croots c n a C).2.1 f m = C.1 f m
  | 0, _, _, _, _, _, _ => rfl
  | c + 1, n, a, C, f, m, hf => by
    unfold croots
    split
    · rw [croots_1 c _ _ _ _ _ hf, cshadeRow_1 _ _ _ _ _ _ _ hf, cshade_1 _ _ _ _ hf]
    · exact croots_1 c _ _ _ _ _ hf
theorem okC_of {C C' : CS} (h : okC C) (h1 : ∀ f, f = 2 ∨ f = 3 ∨ f = 4 ∨ f = 5 ∨ f = 7 ∨ f = 8 ∨ f = 19 → ∀ n, C'.1 f n = C.1 f n) (h2 : C'.2 = C.2) (h3 : ∃ k, k < 16 ∧ C'.1 14 0 = nI k) : okC C' := by
  obtain ⟨a, b, -, d⟩ := h
  refine ⟨fun n hn => ?_, ?_, h3, ?_⟩
  · rw [h1 2 (by omega), h1 3 (by omega), h1 4 (by omega), h1 5 (by omega), h1 7 (by omega), h1 8 (by omega)]
    exact a n hn
  · rw [h2]; exact b
  · rw [h1 19 (by omega), h2]; exact d
theorem cblacken_2 (C : CS) (n : Nat) : (cblacken C n).2 = C.2 := by
  unfold cblacken
  simp only
  split
  · rw [cshadeRow_2]; rfl
  · split
    · rw [cshadeRow_2, cshadeRow_2]; rfl
    · rw [cshade_2, cshadeRow_2, cshadeRow_2]; rfl
theorem cblacken_1 (C : CS) (n f m : Nat) (hf : f ≠ 1) : (cblacken C n).1 f m = C.1 f m := by
  have e : (sI C 1 n 2).1 f m = C.1 f m := by rw [sI_1, if_neg (fun z => hf z.1)]
  unfold cblacken
  simp only
  split
  · rw [cshadeRow_1 _ _ _ _ _ _ _ hf]; exact e
  · split
    · rw [cshadeRow_1 _ _ _ _ _ _ _ hf, cshadeRow_1 _ _ _ _ _ _ _ hf]; exact e
    · rw [cshade_1 _ _ _ _ hf, cshadeRow_1 _ _ _ _ _ _ _ hf, cshadeRow_1 _ _ _ _ _ _ _ hf]; exact e
theorem cshadeRoots_2 (C : CS) : (cshadeRoots C).2.2 = C.2 := by unfold cshadeRoots; rw [croots_2, cshadeRow_2]
theorem cshadeRoots_1 (C : CS) (f m : Nat) (hf : f ≠ 1) : (cshadeRoots C).2.1 f m = C.1 f m := by unfold cshadeRoots; rw [croots_1 _ _ _ _ _ _ hf, cshadeRow_1 _ _ _ _ _ _ _ hf]
section RowsOf
variable {ad : Nat → Nat} {t : Nat → ClassId} {C : CS} {n : Nat}
theorem row_g : ∀ C2 : CS, C2.2 = C.2 → wc ad t C2 (ix 2 0) = .inl (t 0, 6, .inr (.inl (C.2.1 0 0))) := fun C2 e => by
  rw [wc_at (by decide) (by decide)]
  show Sum.inl (t 0, 6, Sum.inr (Sum.inl (C2.2.1 0 0))) = _
  rw [e]
theorem row_k (hn : n < 16) : ∀ C2 : CS, C2.2 = C.2 → wc ad t C2 (ix 6 n) = .inl (t 0, 6, .inr (.inl (C.2.1 1 n))) := fun C2 e => by
  rw [wc_at (by decide) hn]
  show Sum.inl (t 0, 6, Sum.inr (Sum.inl (C2.2.1 1 n))) = _
  rw [e]
theorem row_v (hn : n < 16) : ∀ C2 : CS, C2.2 = C.2 → wc ad t C2 (ix 7 n) = .inl (t 0, 6, .inr (.inl (C.2.1 2 n))) := fun C2 e => by
  rw [wc_at (by decide) hn]
  show Sum.inl (t 0, 6, Sum.inr (Sum.inl (C2.2.1 2 n))) = _
  rw [e]
theorem row_r (hn : n < 16) : ∀ C2 : CS, C2.2 = C.2 → wc ad t C2 (ix 9 n) = .inl (t 0, 4, .inr (.inl (C.2.1 3 n))) := fun C2 e => by
  rw [wc_at (by decide) hn]
  show Sum.inl (t 0, 4, Sum.inr (Sum.inl (C2.2.1 3 n))) = _
  rw [e]
end RowsOf
theorem sI_o {C : CS} {f n g m : Nat} {v : Int32} (h : g ≠ f) : (sI C f n v).1 g m = C.1 g m := by rw [sI_1, if_neg (fun z => h z.1)]
theorem csweep_2 (C : CS) : (csweep C).2 = C.2 := by unfold csweep; simp only; split <;> split <;> rfl
theorem csweep_1 (C : CS) (f m : Nat) (h0 : f ≠ 0) (h1 : f ≠ 1) (h2 : f ≠ 13) (h3 : f ≠ 14) (h4 : f ≠ 16) : (csweep C).1 f m = C.1 f m := by
  unfold csweep
  simp only
  split <;> split <;> simp only [sI_o h0, sI_o h1, sI_o h2, sI_o h3, sI_o h4]
theorem csweep_14 (C : CS) {i : Nat} (hi : i < 16) (hk : C.1 14 0 = nI i) : ∃ k, k < 16 ∧ (csweep C).1 14 0 = nI k := by
  unfold csweep
  simp only
  by_cases h : C.1 14 0 + 1 = 16
  · rw [if_pos h]
    exact ⟨0, by omega, by rw [sI_o (by decide), sI_1, if_pos ⟨rfl, rfl⟩]; rfl⟩
  · rw [if_neg h]
    have hne : i + 1 < 16 := by
      rcases Nat.lt_or_ge (i + 1) 16 with z | z
      · exact z
      · exfalso
        apply h
        have : i = 15 := by omega
        subst this
        rw [hk]
        decide
    exact ⟨i + 1, hne, by rw [sI_1, if_pos ⟨rfl, rfl⟩, hk, nI_succ]⟩
theorem okC_17 {C : CS} {v : Int32} (h : okC C) : okC (sI C 17 0 v) := okC_of h (fun f hf n => sI_o (by omega)) rfl (by obtain ⟨k, h1, h2⟩ := h.2.2.1; exact ⟨k, h1, by rw [sI_o (by decide)]; exact h2⟩)
theorem okC_18 {C : CS} {v : Int32} (h : okC C) : okC (sI C 18 0 v) := okC_of h (fun f hf n => sI_o (by omega)) rfl (by obtain ⟨k, h1, h2⟩ := h.2.2.1; exact ⟨k, h1, by rw [sI_o (by decide)]; exact h2⟩)
theorem okC_unit {C : CS} (h : okC C) : okC (cunit C) := by
  have h1 := okC_17 (v := C.1 17 0 + 1) h
  unfold cunit
  simp only
  split
  · obtain ⟨k, hk, hk2⟩ := h1.2.2.1
    exact okC_of h1 (fun f hf n => csweep_1 _ f n (by omega) (by omega) (by omega) (by omega) (by omega)) (csweep_2 _) (csweep_14 _ hk hk2)
  · split
    · exact okC_of h1 (fun f hf n => cblacken_1 _ _ f n (by omega)) (cblacken_2 _ _) (by rw [cblacken_1 _ _ _ _ (by decide)]; exact h1.2.2.1)
    · refine okC_of h1 (fun f hf n => ?_) (cshadeRoots_2 _) ?_
      · rw [sI_o (by omega)]; exact cshadeRoots_1 _ f n (by omega)
      · rw [sI_o (by decide), cshadeRoots_1 _ _ _ (by decide)]; exact h1.2.2.1
theorem okC_while : ∀ (c : Nat) (C : CS), okC C → okC (cwhile c C)
  | 0, _, h => h
  | c + 1, C, h => by
    unfold cwhile
    split
    · exact h
    · exact okC_while c _ (okC_unit h)
theorem okC_full {C : CS} (h : okC C) : okC (cfull C) := okC_while _ _ (okC_unit (okC_while _ _ (okC_18 h)))
theorem cgray_lt {C : CS} {q : Nat} (h : cgray C = some q) : q < 16 := by have := (lst_lt _ _ _ h).2.1; omega
theorem cfree_lt {C : CS} {q : Nat} (h : cfree C = some q) : q < 16 := by have := (lst_lt _ _ _ h).2.1; omega
theorem tlast_lt {C : CS} {key link : Int64} (hok : okC C) : ∀ (c n q : Nat), n < 16 → tlast C key link c n = some q → q < 16
  | 0, _, _, _, h => by cases h
  | c + 1, n, q, hn, h => by
    unfold tlast at h
    split at h
    · cases h; exact hn
    · rename_i m hm
      refine tlast_lt hok c m q ?_ h
      split at hm
      · cases hm
      · exact tlinked_lt hok hm
theorem okC_J {C : CS} {f n i : Nat} {v : Int64} (h : okC C) (hv : okV v) : okC (sJ C f n i v) := by
  obtain ⟨a, b, c, d⟩ := h
  refine ⟨a, fun f' n' i' => ?_, c, d⟩
  rw [sJ_2]
  split
  · exact hv
  · exact b _ _ _
theorem okV_nil : okV (-1000000000000) := Or.inl (by decide)
section CopyRows
variable {Γ : GT} {cc : ByteArray} {own : String} {rm : Room} {nl : List (String × Nat × MethodName × String)} {kc ks pc index : Nat} {ad : Nat → Nat} {t : Nat → ClassId} {C : CS} {L : List (Option Value)} {st : List Value}
theorem pc_row (h : Cx Γ cc own rm TB CL (tyc t) nl) {cd f : Nat} (hf : rdJ f = cd) (h14 : cd < 14) (hl : Cond.methodLink own index arraycopyName ∈ TB) (hnat : Cond.native arraycopyName ∈ TB) (hsta : Cond.static arraycopyName ∈ TB) (hini : Cond.initialized "java/lang/System" ∈ TB) {n sp dp m : Nat} (hn : n < nk cd) (he : ∀ C2 : CS, ob ad t C2 cd n = .inl (t 0, 6, .inr (.inl (C2.2.1 f n)))) (h4 : sp + m ≤ 6) (h5 : dp + m ≤ 6) {x y z : Int32} (ex : x = nI sp) (ey : y = nI dp) (ez : z = nI m) (hfr : 1 ≤ rm.frames) (hlo : (st.map fun v => v.category).sum + (nativeFrameWords "java/lang/System" "arraycopy" 5 + 11) ≤ rm.locals) (hd : decode cc pc = .ok (.invokestatic index, 3))
    (k : G Γ kc ks 171 ad (wc ad t (sR C f n (va_cpy (C.2.1 f n) (C.2.1 f n) sp dp m))) (pc + 3) L st) : G Γ kc ks 171 ad (wc ad t C) pc L (.int z :: .int y :: .ref (ad (ix cd n)) :: .int x :: .ref (ad (ix cd n)) :: st) := by
  subst ex; subst ey; subst ez
  intro H locs ls hP hD hS hl0
  have c1 : (nI sp).toNatClampNeg = sp := nI_clamp (by omega)
  have c2 : (nI dp).toNatClampNeg = dp := nI_clamp (by omega)
  have c3 : (nI m).toNatClampNeg = m := nI_clamp (by omega)
  have hq := ix_lt cd h14 n hn
  have ha : (gl 171 ad (wc ad t C))[ix cd n]? = some (ad (ix cd n), .inl (t 0, 6, .inr (.inl (C.2.1 f n)))) := gl_he hq ((wc_at h14 hn).trans (he C))
  refine va_copyl h.x h.b (h.ml.trans hl0.1.symm) h.ow (h.ts _ hl) (h.ts _ hnat) (h.ts _ hsta) (h.ts _ hini) h.K hP hD hS (ix cd n) (ix cd n) 0 0 ha ha rfl rfl rfl (nI_pos (by omega)) (nI_pos (by omega)) (nI_pos (by omega)) (by rw [c1, c3]; exact h4) (by rw [c2, c3]; exact h5) (fun _ _ => rfl) (by rw [h.R]; exact hfr) (by rw [h.R]; exact hlo) hd (fun H1 locs1 hP hD hS => ?_)
  rw [c1, c2, c3, gl_set hq] at hP hD
  exact g_world (wc_sR hf h14 hn (by rw [he]; show Sum.inl (t 0, 6, Sum.inr (Sum.inl ((sR C f n _).2.1 f n))) = _; congr 5; funext c; simp [sR_2])) k H1 locs1 ls hP hD hS hl0
end CopyRows
theorem lt6 {P : Nat} (hP : P ≤ 6) (h : ¬ nI P = 6) : P < 6 := by
  rcases Nat.lt_or_ge P 6 with z | z
  · exact z
  · exact absurd (by rw [show P = 6 by omega]; rfl) h
theorem ctouch_o {C : CS} {n f m : Nat} (hf : f ≠ 1) : (ctouch C n).1 f m = C.1 f m := by
  unfold ctouch
  split
  · exact sI_o hf
  · rfl
theorem ctouch_2 {C : CS} {n : Nat} : (ctouch C n).2 = C.2 := by unfold ctouch; split <;> rfl
