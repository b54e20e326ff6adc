/-! what the class keeps true of its own numbers -/
def okC (C : CS) : Prop :=
  (∀ n, n < 16 → (∃ p, p ≤ 6 ∧ C.1 2 n = nI p) ∧ (C.1 3 n = -1 ∨ ∃ m, m < 16 ∧ C.1 3 n = nI m) ∧ (∃ f, f < 4 ∧ C.1 4 n = nI f) ∧ (∃ p, p ≤ 16 ∧ C.1 5 n = nI p) ∧ (∃ a, a < 4 ∧ C.1 7 n = nI a) ∧ (∃ a, a < 4 ∧ C.1 8 n = nI a)) ∧
  (∀ f n i, okV (C.2.1 f n i)) ∧ (∃ k, k < 16 ∧ C.1 14 0 = nI k) ∧ (∃ d, d ≤ 5 ∧ C.1 19 0 = nI d ∧ ∀ i, i < d → ∃ n, n < 16 ∧ C.2.2 i = some n)
theorem cPairs_eq {C : CS} {n P : Nat} (hp : C.1 2 n = nI P) (hP : P ≤ 6) : cPairs C n = P := by unfold cPairs; rw [hp]; exact nI_clamp (by omega)
theorem tfind_lt {C : CS} {n P q : Nat} {key : Int64} (hp : C.1 2 n = nI P) (hP : P ≤ 6) (hf : tfind C n key = some q) : q < P := by
  unfold tfind at hf
  rw [cPairs_eq hp hP] at hf
  have := (lst_lt _ _ _ hf).2.1
  omega
theorem isA_on {C : CS} {k : Int32} {v : Int64} (hv : okV v) (ha : isA C k v = true) : on v < 16 ∧ (v - 10000000000).toInt32 = nI (on v) ∧ C.1 0 (on v) = k ∧ ¬ v < 10000000000 := by
  simp only [isA, Bool.and_eq_true, Bool.not_eq_true', decide_eq_false_iff_not, decide_eq_true_eq] at ha
  obtain ⟨h1, -, h2⟩ := okV_on hv ha.1
  exact ⟨h1, h2, ha.2, ha.1⟩
theorem tlinked_nI {C : CS} {j : Nat} {link : Int64} (hj : j < 16) : tlinked C (nI j) link = match tfind C j link with
    | none => none
    | some q => if isA C 1 (C.2.1 2 j q) = true then some (on (C.2.1 2 j q)) else none := by
  unfold tlinked
  rw [if_neg (nI_pos (by omega)), nI_clamp (by omega)]
  cases tfind C j link <;> rfl
theorem tlinked_m1 {C : CS} {link : Int64} : tlinked C (-1) link = none := by
  unfold tlinked
  rw [if_pos (by decide)]
theorem tlinked_lt {C : CS} {m : Int32} {link : Int64} {k : Nat} (hok : okC C) (h : tlinked C m link = some k) : k < 16 := by
  unfold tlinked at h
  by_cases hm : m < 0
  · rw [if_pos hm] at h; cases h
  · rw [if_neg hm] at h
    split at h
    · cases h
    · split at h
      · rename_i q _ ha
        cases h
        exact (isA_on (hok.2.1 _ _ _) ha).1
      · cases h
/-- fewer locals are known, by lists -/
def leL : List (Option Value) → List (Option Value) → Prop
  | [], _ => True
  | none :: a, _ :: b => leL a b
  | some x :: a, some y :: b => x = y ∧ leL a b
  | _, _ => False
theorem leL_get : ∀ (L' L : List (Option Value)), leL L' L → ∀ (i : Nat) (v : Value), L'[i]? = some (some v) → L[i]? = some (some v)
  | [], _, _, i, v, hi => by simp at hi
  | none :: a, _ :: b, h, i, v, hi => by
    cases i with
    | zero => simp at hi
    | succ i => exact leL_get a b h i v (by simpa using hi)
  | some x :: a, some y :: b, h, i, v, hi => by
    obtain ⟨h1, h2⟩ := h
    cases i with
    | zero => subst h1; simpa using hi
    | succ i => exact leL_get a b h2 i v (by simpa using hi)
  | none :: _, [], h, _, _, _ => by cases h
  | some _ :: _, [], h, _, _, _ => by cases h
  | some _ :: _, none :: _, h, _, _, _ => by cases h
theorem g_lessL {Γ : GT} {kc ks N pc : Nat} {ad : Nat → Nat} {σ : Nat → va_E} {L L' : List (Option Value)} {st : List Value} (h : leL L' L) (k : G Γ kc ks N ad σ pc L' st) : G Γ kc ks N ad σ pc L st := g_less (leL_get L' L h) k
theorem nI_neg {n : Nat} (h : n < 2 ^ 31) : ¬ nI n < 0 := nI_pos h
theorem cshadeRow_2 (row : Nat → Int64) : ∀ (c i : Nat) (a : Int32) (C : CS), (cshadeRow row c i a C).2.2 = C.2
  | 0, _, _, _ => rfl
  | c + 1, i, a, C => by
    unfold cshadeRow
    split
    · rw [cshadeRow_2 row c]; rfl
    · exact cshadeRow_2 row c _ _ _
theorem cshadeRow_1 (row : Nat → Int64) : ∀ (c i : Nat) (a : Int32) (C : CS) (f n : Nat), f ≠ 1 → (cshadeRow row c i a C).2.1 f n = C.1 f n
  | 0, _, _, _, _, _, _ => rfl
  | c + 1, i, a, C, f, n, hf => by
    unfold cshadeRow
    split
    · rw [cshadeRow_1 row c _ _ _ _ _ hf, sI_1, if_neg (fun z => hf z.1)]
    · exact cshadeRow_1 row c _ _ _ _ _ hf
