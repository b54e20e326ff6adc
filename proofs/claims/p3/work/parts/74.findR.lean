/-! GETTING and the like on both sides -/
theorem HH_kind {C M : CS} {n : Nat} (h : HH C M) (hn : n < 16) : C.1 0 n = M.1 4 n := (h.2.2.2.2.1 n hn).1.1
theorem find_eq {C M : CS} {n : Nat} {key : Int64} (h : HH C M) (hn : n < 16) (hk : C.1 0 n = 1) : tfind C n key = mpair M n key ∧ ∃ P, P ≤ 6 ∧ C.1 2 n = nI P ∧ M.1 6 n = nI P ∧ cPairs C n = P ∧ mSize M n = P := by
  obtain ⟨⟨r1, r2⟩, r3, r4, r5, r6⟩ := h.2.2.2.2.1 n hn
  obtain ⟨⟨P, hP, hP2⟩, -⟩ := h.1.1 n hn
  have e6 : M.1 6 n = nI P := by rw [← (r3 hk).1]; exact hP2
  have eP : cPairs C n = P := cPairs_eq hP2 hP
  have eQ : mSize M n = P := mSize_eq e6 hP
  refine ⟨?_, P, hP, hP2, e6, eP, eQ⟩
  unfold tfind mpair
  rw [eP, eQ]
  exact lst_congr P 0 (fun j _ hj => by rw [(r6 j (by omega)).1])
theorem isA_mOf {C M : CS} {v : Int64} {k : Int32} (h : HH C M) (hv : okV v) : mOf M k v = if isA C k v = true then some (on v) else none := by
  unfold mOf isA
  by_cases z : v < 10000000000
  · simp [z]
  · have := HH_kind h (okV_on hv z).1
    simp [z, this]
theorem lv_refs {C : CS} (h : Safe C) {n : Nat} (hn : n < 16) (l : live C n) (hk : C.1 0 n = 1) {j : Nat} (hj : j < cPairs C n) : lv C (C.2.1 1 n j) ∧ lv C (C.2.1 2 n j) := by
  have n2 : ¬ C.1 0 n = 2 := by rw [hk]; decide
  exact ⟨fun m hm e => h.2.1 n m hn hm l (.inr ⟨n2, .inl ⟨j, hj, .inl e⟩⟩), fun m hm e => h.2.1 n m hn hm l (.inr ⟨n2, .inl ⟨j, hj, .inr e⟩⟩)⟩
theorem lv_on {C : CS} {v : Int64} (hv : okV v) (l : lv C v) {k : Int32} (ha : isA C k v = true) : on v < 16 ∧ live C (on v) ∧ C.1 0 (on v) = k := by
  obtain ⟨h1, h2, h3, h4⟩ := isA_on hv ha
  exact ⟨h1, l _ h1 (okV_on hv h4).2.1, h3⟩
theorem linked_eq {C M : CS} {n : Nat} {link : Int64} (h : HH C M) (hn : n < 16) (hk : C.1 0 n = 1) (l : live C n) : tlinked C (C.1 3 n) link = mnext M n link ∧ ∀ m, tlinked C (C.1 3 n) link = some m → m < 16 ∧ live C m ∧ C.1 0 m = 1 := by
  obtain ⟨⟨r1, r2⟩, r3, r4, r5, r6⟩ := h.2.2.2.2.1 n hn
  obtain ⟨-, hM, -⟩ := h.1.1 n hn
  have e7 := (r3 hk).2
  unfold mnext
  rw [← e7]
  rcases hM with z | ⟨q, hq, z⟩
  · rw [z, tlinked_m1, if_pos (by decide)]
    exact ⟨rfl, fun m y => by cases y⟩
  · have kq := h.2.2.2.1.2.2.2 n q hn hq l hk z
    have lq : live C q := h.2.2.2.1.2.1 n q hn hq l (meta_refs hq hk z)
    rw [z, tlinked_nI hq, if_neg (nI_pos (by omega)), nI_clamp (by omega)]
    obtain ⟨e, P, hP, hP2, -, eP, -⟩ := find_eq (key := link) h hq kq
    rw [← e]
    cases hf : tfind C q link with
    | none => exact ⟨rfl, fun m y => by cases y⟩
    | some j =>
      have hj := tfind_lt hP2 hP hf
      have ev := ((h.2.2.2.2.1 q hq).2.2.2.2 j (by omega)).2
      simp only
      rw [← ev, isA_mOf h (h.1.2.1 _ _ _)]
      refine ⟨rfl, fun m y => ?_⟩
      split at y
      · rename_i ha
        cases y
        exact lv_on (h.1.2.1 _ _ _) (lv_refs h.2.2.2.1 hq lq kq (by omega)).2 ha
      · cases y
theorem last_eq {C M : CS} {key link : Int64} (h : HH C M) : ∀ (c n : Nat), n < 16 → C.1 0 n = 1 → live C n → ∀ q, tlast C key link c n = some q → q < 16 ∧ C.1 0 q = 1 ∧ live C q
  | 0, _, _, _, _, q, z => by cases z
  | c + 1, n, hn, hk, l, q, z => by
    unfold tlast at z
    split at z
    · cases z; exact ⟨hn, hk, l⟩
    · rename_i m hm
      split at hm
      · cases hm
      · obtain ⟨a1, a2, a3⟩ := (linked_eq h hn hk l).2 m hm
        exact last_eq h c m a1 a3 a2 q z
theorem set_eq {C M : CS} {key : Int64} (h : HH C M) : ∀ (c n : Nat), n < 16 → C.1 0 n = 1 → live C n → msetAt M key c n = tlast C key 1 c n
  | 0, _, _, _, _ => rfl
  | c + 1, n, hn, hk, l => by
    unfold tlast msetAt
    rw [← (find_eq (key := key) h hn hk).1]
    by_cases z : (tfind C n key).isSome = true
    · rw [if_pos z, if_pos z]
    · rw [if_neg z, if_neg z]
      obtain ⟨a, b⟩ := linked_eq (link := 1) h hn hk l
      rw [← a]
      cases hl : tlinked C (C.1 3 n) 1 with
      | none => rfl
      | some m =>
        obtain ⟨b1, b2, b3⟩ := b m hl
        exact set_eq h c m b1 b3 b2
def fval (C : CS) (q : Nat) (key : Int64) : Int64 := match tfind C q key with
  | none => -1000000000000
  | some j => C.2.1 2 q j
theorem get_eq {C M : CS} {key : Int64} (h : HH C M) (hkey : ¬ key = -1000000000000) : ∀ (c n : Nat), n < 16 → C.1 0 n = 1 → live C n → mgetting M key c n = match tlast C key 0 c n with
    | none => (-1000000000000, sI M 22 0 2)
    | some q => (fval C q key, M)
  | 0, _, _, _, _ => rfl
  | c + 1, n, hn, hk, l => by
    unfold tlast mgetting
    rw [if_neg hkey]
    obtain ⟨e, P, hP, hP2, -, eP, -⟩ := find_eq (key := key) h hn hk
    rw [← e]
    cases hf : tfind C n key with
    | some j =>
      have hj := tfind_lt hP2 hP hf
      have ev := ((h.2.2.2.2.1 n hn).2.2.2.2 j (by omega)).2
      simp only [Option.isSome_some, if_true, fval, hf]
      rw [ev]
    | none =>
      obtain ⟨a, b⟩ := linked_eq (link := 0) h hn hk l
      rw [← a]
      simp only [Option.isSome_none, Bool.false_eq_true, if_false]
      cases hl : tlinked C (C.1 3 n) 0 with
      | none => simp only [fval, hf]
      | some m =>
        obtain ⟨b1, b2, b3⟩ := b m hl
        exact get_eq h hkey c m b1 b3 b2
theorem sJ_over {C : CS} {f n i : Nat} {v w : Int64} : sJ (sJ C f n i v) f n i w = sJ C f n i w := by
  unfold sJ
  refine Prod.ext rfl (Prod.ext ?_ rfl)
  funext a b c
  show (if a = f ∧ b = n ∧ c = i then w else if a = f ∧ b = n ∧ c = i then v else C.2.1 a b c) = if a = f ∧ b = n ∧ c = i then w else C.2.1 a b c
  split <;> rfl
theorem lv_nil {C : CS} : lv C (-1000000000000) := fun m hm e => absurd e (by
  have : ∀ m, m < 16 → ¬ (-1000000000000 : Int64) = oV m := by decide
  exact this m hm)
theorem fval_ok {C : CS} {q : Nat} {key : Int64} (hok : okC C) (hs : Safe C) (hq : q < 16) (hk : C.1 0 q = 1) (l : live C q) : okV (fval C q key) ∧ lv C (fval C q key) := by
  unfold fval
  obtain ⟨⟨P, hP, hP2⟩, -⟩ := hok.1 q hq
  cases hf : tfind C q key with
  | none => exact ⟨okV_nil, lv_nil⟩
  | some j =>
    have hj := tfind_lt hP2 hP hf
    exact ⟨hok.2.1 _ _ _, (lv_refs hs hq l hk (by rw [cPairs_eq hP2 hP]; exact hj)).2⟩
theorem getting_all {C M : CS} {t k : Int64} (h : HH C M) (ht : okV t) (lt : lv C t) (ha : isA C 1 t = true) : (∃ v, okV v ∧ lv C v ∧ cgetting C t k = (0, sJ C 4 0 0 v) ∧ mgetting M k 5 (on t) = (v, M)) ∨ (cgetting C t k = (2, sJ C 4 0 0 (-1000000000000)) ∧ mgetting M k 5 (on t) = (-1000000000000, sI M 22 0 2)) := by
  obtain ⟨a1, a2, a3⟩ := lv_on ht lt ha
  unfold cgetting
  rw [if_pos ha]
  simp only
  by_cases z : k = -1000000000000
  · rw [if_pos z]
    refine .inl ⟨_, okV_nil, lv_nil, rfl, ?_⟩
    unfold mgetting
    rw [if_pos z]
  · rw [if_neg z]
    have h' : HH (sJ C 4 0 0 (-1000000000000)) M := HH_CJ (.inl rfl) okV_nil h
    have hl : live (sJ C 4 0 0 (-1000000000000)) = live C := live_fn rfl rfl rfl rfl
    have g := get_eq (key := k) h' z 5 (on t) a1 a3 (by rw [hl]; exact a2)
    cases hq : tlast (sJ C 4 0 0 (-1000000000000)) k 0 5 (on t) with
    | none =>
      rw [hq] at g
      exact .inr ⟨rfl, g⟩
    | some q =>
      rw [hq] at g
      simp only at g ⊢
      obtain ⟨b1, b2, b3⟩ := last_eq h' 5 (on t) a1 a3 (by rw [hl]; exact a2) q hq
      obtain ⟨f1, f2⟩ := fval_ok (key := k) h'.1 h'.2.2.2.1 b1 b2 b3
      refine .inl ⟨fval (sJ C 4 0 0 (-1000000000000)) q k, f1, fun m hm e => ?_, ?_, g⟩
      · have := f2 m hm e
        rw [hl] at this
        exact this
      · unfold fval
        cases tfind (sJ C 4 0 0 (-1000000000000)) q k with
        | none => rfl
        | some j => simp only; rw [sJ_over]
theorem follow_all {C M : CS} {t k : Int64} (h : HH C M) (ht : okV t) (lt : lv C t) (ha : isA C 1 t = true) : (∃ v, okV v ∧ lv C v ∧ ckeyAfter C t k = (0, sJ C 4 0 0 v) ∧ mfollow M (on t) k = (v, M)) ∨ (ckeyAfter C t k = (1, C) ∧ mfollow M (on t) k = (-1000000000000, sI M 22 0 3)) := by
  obtain ⟨a1, a2, a3⟩ := lv_on ht lt ha
  obtain ⟨e, P, hP, hP2, -, eP, eQ⟩ := find_eq (key := k) h a1 a3
  have r6 := (h.2.2.2.2.1 (on t) a1).2.2.2.2
  unfold ckeyAfter mfollow
  rw [if_pos ha, eP, eQ, ← e]
  by_cases z : k = -1000000000000
  · rw [if_pos z, if_pos z]
    by_cases y : 0 < P
    · rw [if_pos y, if_pos y]
      exact .inl ⟨_, h.1.2.1 _ _ _, (lv_refs h.2.2.2.1 a1 a2 a3 (by omega)).1, rfl, by rw [(r6 0 (by omega)).1]; rfl⟩
    · rw [if_neg y, if_neg y]
      exact .inl ⟨_, okV_nil, lv_nil, rfl, rfl⟩
  · rw [if_neg z, if_neg z]
    cases hf : tfind C (on t) k with
    | none => exact .inr ⟨rfl, rfl⟩
    | some j =>
      simp only
      by_cases y : j + 1 < P
      · rw [if_pos y, if_pos y]
        exact .inl ⟨_, h.1.2.1 _ _ _, (lv_refs h.2.2.2.1 a1 a2 a3 (by omega)).1, rfl, by rw [(r6 (j + 1) (by omega)).1]; rfl⟩
      · rw [if_neg y, if_neg y]
        exact .inl ⟨_, okV_nil, lv_nil, rfl, rfl⟩
theorem okV_i (x : Int32) : okV x.toInt64 ∧ ∀ C, lv C x.toInt64 := by
  have h1 : x.toInt64 < 10000000000 := by
    rw [Int64.lt_iff_toInt_lt, Int32.toInt_toInt64]
    have := (fm_rng x).2
    have e : (10000000000 : Int64).toInt = 10000000000 := by decide
    rw [e]; omega
  exact ⟨.inl h1, fun C m hm e => absurd h1 (by rw [e]; exact oV_ge m hm)⟩
theorem many_all {C M : CS} {t : Int64} (h : HH C M) (ht : okV t) (lt : lv C t) (ha : isA C 1 t = true) : chowMany C t = (0, sJ C 4 0 0 (M.1 6 (on t)).toInt64) := by
  obtain ⟨a1, a2, a3⟩ := lv_on ht lt ha
  unfold chowMany
  rw [if_pos ha, ((h.2.2.2.2.1 (on t) a1).2.1 a3).1]
