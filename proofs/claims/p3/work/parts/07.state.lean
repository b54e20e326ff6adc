/-! THE CLASS'S WORLD: 171 cells in the order in which the constructors make them -/
/-- the place of thing n of code cd: 0 the machine, 1 heap, 2 globals, 3 cells, 4 Cell, 5 Table, 6 keys, 7 values, 8 Coroutine, 9 registers, 10 processor, 11 instructions, 12 active, 13 Instruction -/
def ix (cd n : Nat) : Nat := match cd with
  | 0 => 0
  | 1 => 1
  | 2 => 2
  | 3 => 3
  | 4 => 4 + 6 * n
  | 5 => 5 + 6 * n
  | 6 => 6 + 6 * n
  | 7 => 7 + 6 * n
  | 8 => 8 + 6 * n
  | 9 => 9 + 6 * n
  | 10 => 100
  | 11 => 101
  | 12 => 102
  | _ => 103 + n
def kd (k : Nat) : Nat × Nat := if k < 4 then (k, 0) else if k < 100 then (4 + (k - 4) % 6, (k - 4) / 6) else if k < 103 then (k - 90, 0) else (13, k - 103)
/-- how many of a code there are -/
def nk (cd : Nat) : Nat := if cd < 4 then 1 else if cd < 10 then 16 else if cd < 13 then 1 else 68
theorem kd_ix : ∀ cd, cd < 14 → ∀ n, n < nk cd → kd (ix cd n) = (cd, n) := by decide +kernel
theorem ix_lt : ∀ cd, cd < 14 → ∀ n, n < nk cd → ix cd n < 171 := by decide +kernel
theorem ix_kd : ∀ k, k < 171 → ix (kd k).1 (kd k).2 = k := by decide +kernel
def ob (ad : Nat → Nat) (t : Nat → ClassId) (C : CS) (cd n : Nat) : va_E := match cd with
  | 0 => .inr (6, [.ref (ad (ix 10 0)), .ref (ad (ix 1 0))])
  | 1 => .inr (2, [.ref (ad (ix 2 0)), .ref (ad (ix 3 0)), .int (C.1 13 n), .int (C.1 14 n), .int (C.1 15 n), .int (C.1 16 n), .int (C.1 17 n), .int (C.1 18 n), .long (C.2.1 4 n 0)])
  | 2 => .inl (t 0, 6, .inr (.inl (C.2.1 0 n)))
  | 3 => .inl (t 1, 16, .inr (.inr (.inr (.inr (fun i => some (ad (ix 4 i)))))))
  | 4 => .inr (0, [.ref (ad (ix 5 n)), .ref (ad (ix 8 n)), .int (C.1 0 n), .int (C.1 1 n)])
  | 5 => .inr (5, [.ref (ad (ix 6 n)), .ref (ad (ix 7 n)), .int (C.1 2 n), .int (C.1 3 n)])
  | 6 => .inl (t 0, 6, .inr (.inl (C.2.1 1 n)))
  | 7 => .inl (t 0, 6, .inr (.inl (C.2.1 2 n)))
  | 8 => .inr (1, [.ref (ad (ix 9 n)), .int (C.1 4 n), .int (C.1 5 n), .int (C.1 6 n), .int (C.1 7 n), .int (C.1 8 n)])
  | 9 => .inl (t 0, 4, .inr (.inl (C.2.1 3 n)))
  | 10 => .inr (4, [.ref (ad (ix 1 0)), .ref (ad (ix 11 0)), .ref (ad (ix 12 0)), .int (C.1 19 n), .int (C.1 20 n), .int (C.1 21 n), .long (C.2.1 5 n 0)])
  | 11 => .inl (t 2, 68, .inr (.inr (.inr (.inr (fun i => some (ad (ix 13 i)))))))
  | 12 => .inl (t 3, 5, .inr (.inr (.inr (.inr (fun i => if n = 0 then (C.2.2 i).map (fun m => ad (ix 8 m)) else none)))))
  | 13 => .inr (3, [.int (C.1 9 n), .int (C.1 10 n), .int (C.1 11 n), .int (C.1 12 n)])
  | _ => .inr (3, [])
def wc (ad : Nat → Nat) (t : Nat → ClassId) (C : CS) : Nat → va_E := fun k => ob ad t C (kd k).1 (kd k).2
abbrev tyc (t : Nat → ClassId) : List (ClassId × FieldType) := [(t 0, .long), (t 1, .object "TriColourMachine$Cell"), (t 2, .object "TriColourMachine$Instruction"), (t 3, .object "TriColourMachine$Coroutine")]
/-- which code holds an int field, a row of longs -/
def rdI (f : Nat) : Nat := if f < 2 then 4 else if f < 4 then 5 else if f < 9 then 8 else if f < 13 then 13 else if f < 19 then 1 else 10
def rdJ (f : Nat) : Nat := if f = 0 then 2 else if f = 1 then 6 else if f = 2 then 7 else if f = 3 then 9 else if f = 4 then 1 else 10
section State
variable {ad : Nat → Nat} {t : Nat → ClassId} {C : CS} {cd n f i : Nat}
theorem wc_at (h1 : cd < 14) (h2 : n < nk cd) : wc ad t C (ix cd n) = ob ad t C cd n := by unfold wc; rw [kd_ix cd h1 n h2]
theorem ob_same {C' : CS} (cd' n' : Nat) (h1 : ∀ g, rdI g = cd' → C'.1 g n' = C.1 g n') (h2 : ∀ g, rdJ g = cd' → C'.2.1 g n' = C.2.1 g n') (h3 : cd' = 12 → n' = 0 → C'.2.2 = C.2.2) : ob ad t C' cd' n' = ob ad t C cd' n' := by
  unfold ob
  split
  · rfl
  · rw [h1 13 rfl, h1 14 rfl, h1 15 rfl, h1 16 rfl, h1 17 rfl, h1 18 rfl, h2 4 rfl]
  · rw [h2 0 rfl]
  · rfl
  · rw [h1 0 rfl, h1 1 rfl]
  · rw [h1 2 rfl, h1 3 rfl]
  · rw [h2 1 rfl]
  · rw [h2 2 rfl]
  · rw [h1 4 rfl, h1 5 rfl, h1 6 rfl, h1 7 rfl, h1 8 rfl]
  · rw [h2 3 rfl]
  · rw [h1 19 rfl, h1 20 rfl, h1 21 rfl, h2 5 rfl]
  · rfl
  · by_cases hn : n' = 0
    · rw [h3 rfl hn]
    · simp [hn]
  · rw [h1 9 rfl, h1 10 rfl, h1 11 rfl, h1 12 rfl]
  · rfl
theorem wc_up {C' : CS} {e : va_E} (h1 : cd < 14) (h2 : n < nk cd) (he : ob ad t C' cd n = e) (hne : ∀ cd' n', ¬ (cd' = cd ∧ n' = n) → ob ad t C' cd' n' = ob ad t C cd' n') : ∀ k, k < 171 → va_up (wc ad t C) (ix cd n) e k = wc ad t C' k := by
  intro k hk
  by_cases hq : k = ix cd n
  · subst hq
    rw [wc_at h1 h2, he]
    simp [va_up]
  · simp only [va_up, if_neg hq]
    refine (hne _ _ (fun z => hq ?_)).symm
    rw [← ix_kd k hk, z.1, z.2]
theorem wc_sI {v : Int32} {e : va_E} (hf : rdI f = cd) (h1 : cd < 14) (h2 : n < nk cd) (he : ob ad t (sI C f n v) cd n = e) : ∀ k, k < 171 → va_up (wc ad t C) (ix cd n) e k = wc ad t (sI C f n v) k := by
  refine wc_up h1 h2 he (fun cd' n' hne => ob_same cd' n' (fun g hg => ?_) (fun g hg => rfl) (fun _ _ => rfl))
  rw [sI_1, if_neg]
  rintro ⟨rfl, rfl⟩
  exact hne ⟨hg.symm.trans hf, rfl⟩
theorem wc_sJ {v : Int64} {e : va_E} (hf : rdJ f = cd) (h1 : cd < 14) (h2 : n < nk cd) (he : ob ad t (sJ C f n i v) cd n = e) : ∀ k, k < 171 → va_up (wc ad t C) (ix cd n) e k = wc ad t (sJ C f n i v) k := by
  refine wc_up h1 h2 he (fun cd' n' hne => ob_same cd' n' (fun g hg => rfl) (fun g hg => ?_) (fun _ _ => rfl))
  funext c
  rw [sJ_2, if_neg]
  rintro ⟨rfl, rfl, rfl⟩
  exact hne ⟨hg.symm.trans hf, rfl⟩
theorem wc_sR {r : Nat → Int64} {e : va_E} (hf : rdJ f = cd) (h1 : cd < 14) (h2 : n < nk cd) (he : ob ad t (sR C f n r) cd n = e) : ∀ k, k < 171 → va_up (wc ad t C) (ix cd n) e k = wc ad t (sR C f n r) k := by
  refine wc_up h1 h2 he (fun cd' n' hne => ob_same cd' n' (fun g hg => rfl) (fun g hg => ?_) (fun _ _ => rfl))
  funext c
  rw [sR_2, if_neg]
  rintro ⟨rfl, rfl⟩
  exact hne ⟨hg.symm.trans hf, rfl⟩
theorem wc_sA {m : Nat} {e : va_E} (he : ob ad t (sA C i m) 12 0 = e) : ∀ k, k < 171 → va_up (wc ad t C) (ix 12 0) e k = wc ad t (sA C i m) k := by
  refine wc_up (by decide) (by decide) he (fun cd' n' hne => ob_same cd' n' (fun g hg => rfl) (fun g hg => rfl) (fun h1 h2 => absurd ⟨h1, h2⟩ hne))
end State
section FieldRows
variable {Γ : GT} {cc : ByteArray} {own : String} {rm : Room} {nl : List (String × Nat × MethodName × String)} {kc ks pc index : Nat} {ad : Nat → Nat} {t : Nat → ClassId} {C : CS} {L : List (Option Value)} {st : List Value}
theorem gf_Cell_table (h : Cx Γ cc own rm TB CL (tyc t) nl) {n : Nat} (hlink : Cond.fieldLink own index "TriColourMachine$Cell" "table" "LTriColourMachine$Table;" ∈ TB) (hn : n < 16) (hd : decode cc pc = .ok (.getfield index, 3)) (k : G Γ kc ks 171 ad (wc ad t C) (pc + 3) L (.ref (ad (ix 5 n)) :: st)) : G Γ kc ks 171 ad (wc ad t C) pc L (.ref (ad (ix 4 n)) :: st) := g_get h i_Cell (ix 4 n) (ix_lt 4 (by decide) _ hn) (wc_at (by decide) hn) rfl 0 (by decide) hlink rfl hd k
theorem gf_Cell_coroutine (h : Cx Γ cc own rm TB CL (tyc t) nl) {n : Nat} (hlink : Cond.fieldLink own index "TriColourMachine$Cell" "coroutine" "LTriColourMachine$Coroutine;" ∈ TB) (hn : n < 16) (hd : decode cc pc = .ok (.getfield index, 3)) (k : G Γ kc ks 171 ad (wc ad t C) (pc + 3) L (.ref (ad (ix 8 n)) :: st)) : G Γ kc ks 171 ad (wc ad t C) pc L (.ref (ad (ix 4 n)) :: st) := g_get h i_Cell (ix 4 n) (ix_lt 4 (by decide) _ hn) (wc_at (by decide) hn) rfl 1 (by decide) hlink rfl hd k
theorem gf_Cell_kind (h : Cx Γ cc own rm TB CL (tyc t) nl) {n : Nat} (hlink : Cond.fieldLink own index "TriColourMachine$Cell" "kind" "I" ∈ TB) (hn : n < 16) (hd : decode cc pc = .ok (.getfield index, 3)) (k : G Γ kc ks 171 ad (wc ad t C) (pc + 3) L (.int (C.1 0 n) :: st)) : G Γ kc ks 171 ad (wc ad t C) pc L (.ref (ad (ix 4 n)) :: st) := g_get h i_Cell (ix 4 n) (ix_lt 4 (by decide) _ hn) (wc_at (by decide) hn) rfl 2 (by decide) hlink rfl hd k
theorem pf_Cell_kind (h : Cx Γ cc own rm TB CL (tyc t) nl) {n : Nat} {v : Int32} (hlink : Cond.fieldLink own index "TriColourMachine$Cell" "kind" "I" ∈ TB) (hn : n < 16) (hd : decode cc pc = .ok (.putfield index, 3)) (k : G Γ kc ks 171 ad (wc ad t (sI C 0 n v)) (pc + 3) L st) : G Γ kc ks 171 ad (wc ad t C) pc L (.int v :: .ref (ad (ix 4 n)) :: st) := g_put h i_Cell (ix 4 n) (ix_lt 4 (by decide) _ hn) (wc_at (by decide) hn) rfl 2 (by decide) t_Cell t_Cell_ok n_Cell hlink rfl rfl rfl (Nat.le_of_ble_eq_true rfl) hd (g_world (wc_sI rfl (by decide) hn (by simp [ob, sI_1, sI_2])) k)
theorem gf_Cell_colour (h : Cx Γ cc own rm TB CL (tyc t) nl) {n : Nat} (hlink : Cond.fieldLink own index "TriColourMachine$Cell" "colour" "I" ∈ TB) (hn : n < 16) (hd : decode cc pc = .ok (.getfield index, 3)) (k : G Γ kc ks 171 ad (wc ad t C) (pc + 3) L (.int (C.1 1 n) :: st)) : G Γ kc ks 171 ad (wc ad t C) pc L (.ref (ad (ix 4 n)) :: st) := g_get h i_Cell (ix 4 n) (ix_lt 4 (by decide) _ hn) (wc_at (by decide) hn) rfl 3 (by decide) hlink rfl hd k
theorem pf_Cell_colour (h : Cx Γ cc own rm TB CL (tyc t) nl) {n : Nat} {v : Int32} (hlink : Cond.fieldLink own index "TriColourMachine$Cell" "colour" "I" ∈ TB) (hn : n < 16) (hd : decode cc pc = .ok (.putfield index, 3)) (k : G Γ kc ks 171 ad (wc ad t (sI C 1 n v)) (pc + 3) L st) : G Γ kc ks 171 ad (wc ad t C) pc L (.int v :: .ref (ad (ix 4 n)) :: st) := g_put h i_Cell (ix 4 n) (ix_lt 4 (by decide) _ hn) (wc_at (by decide) hn) rfl 3 (by decide) t_Cell t_Cell_ok n_Cell hlink rfl rfl rfl (Nat.le_of_ble_eq_true rfl) hd (g_world (wc_sI rfl (by decide) hn (by simp [ob, sI_1, sI_2])) k)
theorem gf_Tab_keys (h : Cx Γ cc own rm TB CL (tyc t) nl) {n : Nat} (hlink : Cond.fieldLink own index "TriColourMachine$Table" "keys" "[J" ∈ TB) (hn : n < 16) (hd : decode cc pc = .ok (.getfield index, 3)) (k : G Γ kc ks 171 ad (wc ad t C) (pc + 3) L (.ref (ad (ix 6 n)) :: st)) : G Γ kc ks 171 ad (wc ad t C) pc L (.ref (ad (ix 5 n)) :: st) := g_get h i_Tab (ix 5 n) (ix_lt 5 (by decide) _ hn) (wc_at (by decide) hn) rfl 0 (by decide) hlink rfl hd k
theorem gf_Tab_values (h : Cx Γ cc own rm TB CL (tyc t) nl) {n : Nat} (hlink : Cond.fieldLink own index "TriColourMachine$Table" "values" "[J" ∈ TB) (hn : n < 16) (hd : decode cc pc = .ok (.getfield index, 3)) (k : G Γ kc ks 171 ad (wc ad t C) (pc + 3) L (.ref (ad (ix 7 n)) :: st)) : G Γ kc ks 171 ad (wc ad t C) pc L (.ref (ad (ix 5 n)) :: st) := g_get h i_Tab (ix 5 n) (ix_lt 5 (by decide) _ hn) (wc_at (by decide) hn) rfl 1 (by decide) hlink rfl hd k
theorem gf_Tab_pairs (h : Cx Γ cc own rm TB CL (tyc t) nl) {n : Nat} (hlink : Cond.fieldLink own index "TriColourMachine$Table" "pairs" "I" ∈ TB) (hn : n < 16) (hd : decode cc pc = .ok (.getfield index, 3)) (k : G Γ kc ks 171 ad (wc ad t C) (pc + 3) L (.int (C.1 2 n) :: st)) : G Γ kc ks 171 ad (wc ad t C) pc L (.ref (ad (ix 5 n)) :: st) := g_get h i_Tab (ix 5 n) (ix_lt 5 (by decide) _ hn) (wc_at (by decide) hn) rfl 2 (by decide) hlink rfl hd k
theorem pf_Tab_pairs (h : Cx Γ cc own rm TB CL (tyc t) nl) {n : Nat} {v : Int32} (hlink : Cond.fieldLink own index "TriColourMachine$Table" "pairs" "I" ∈ TB) (hn : n < 16) (hd : decode cc pc = .ok (.putfield index, 3)) (k : G Γ kc ks 171 ad (wc ad t (sI C 2 n v)) (pc + 3) L st) : G Γ kc ks 171 ad (wc ad t C) pc L (.int v :: .ref (ad (ix 5 n)) :: st) := g_put h i_Tab (ix 5 n) (ix_lt 5 (by decide) _ hn) (wc_at (by decide) hn) rfl 2 (by decide) t_Tab t_Tab_ok n_Tab hlink rfl rfl rfl (Nat.le_of_ble_eq_true rfl) hd (g_world (wc_sI rfl (by decide) hn (by simp [ob, sI_1, sI_2])) k)
theorem gf_Tab_meta (h : Cx Γ cc own rm TB CL (tyc t) nl) {n : Nat} (hlink : Cond.fieldLink own index "TriColourMachine$Table" "meta" "I" ∈ TB) (hn : n < 16) (hd : decode cc pc = .ok (.getfield index, 3)) (k : G Γ kc ks 171 ad (wc ad t C) (pc + 3) L (.int (C.1 3 n) :: st)) : G Γ kc ks 171 ad (wc ad t C) pc L (.ref (ad (ix 5 n)) :: st) := g_get h i_Tab (ix 5 n) (ix_lt 5 (by decide) _ hn) (wc_at (by decide) hn) rfl 3 (by decide) hlink rfl hd k
theorem pf_Tab_meta (h : Cx Γ cc own rm TB CL (tyc t) nl) {n : Nat} {v : Int32} (hlink : Cond.fieldLink own index "TriColourMachine$Table" "meta" "I" ∈ TB) (hn : n < 16) (hd : decode cc pc = .ok (.putfield index, 3)) (k : G Γ kc ks 171 ad (wc ad t (sI C 3 n v)) (pc + 3) L st) : G Γ kc ks 171 ad (wc ad t C) pc L (.int v :: .ref (ad (ix 5 n)) :: st) := g_put h i_Tab (ix 5 n) (ix_lt 5 (by decide) _ hn) (wc_at (by decide) hn) rfl 3 (by decide) t_Tab t_Tab_ok n_Tab hlink rfl rfl rfl (Nat.le_of_ble_eq_true rfl) hd (g_world (wc_sI rfl (by decide) hn (by simp [ob, sI_1, sI_2])) k)
theorem gf_Cor_registers (h : Cx Γ cc own rm TB CL (tyc t) nl) {n : Nat} (hlink : Cond.fieldLink own index "TriColourMachine$Coroutine" "registers" "[J" ∈ TB) (hn : n < 16) (hd : decode cc pc = .ok (.getfield index, 3)) (k : G Γ kc ks 171 ad (wc ad t C) (pc + 3) L (.ref (ad (ix 9 n)) :: st)) : G Γ kc ks 171 ad (wc ad t C) pc L (.ref (ad (ix 8 n)) :: st) := g_get h i_Cor (ix 8 n) (ix_lt 8 (by decide) _ hn) (wc_at (by decide) hn) rfl 0 (by decide) hlink rfl hd k
theorem gf_Cor_function (h : Cx Γ cc own rm TB CL (tyc t) nl) {n : Nat} (hlink : Cond.fieldLink own index "TriColourMachine$Coroutine" "function" "I" ∈ TB) (hn : n < 16) (hd : decode cc pc = .ok (.getfield index, 3)) (k : G Γ kc ks 171 ad (wc ad t C) (pc + 3) L (.int (C.1 4 n) :: st)) : G Γ kc ks 171 ad (wc ad t C) pc L (.ref (ad (ix 8 n)) :: st) := g_get h i_Cor (ix 8 n) (ix_lt 8 (by decide) _ hn) (wc_at (by decide) hn) rfl 1 (by decide) hlink rfl hd k
theorem pf_Cor_function (h : Cx Γ cc own rm TB CL (tyc t) nl) {n : Nat} {v : Int32} (hlink : Cond.fieldLink own index "TriColourMachine$Coroutine" "function" "I" ∈ TB) (hn : n < 16) (hd : decode cc pc = .ok (.putfield index, 3)) (k : G Γ kc ks 171 ad (wc ad t (sI C 4 n v)) (pc + 3) L st) : G Γ kc ks 171 ad (wc ad t C) pc L (.int v :: .ref (ad (ix 8 n)) :: st) := g_put h i_Cor (ix 8 n) (ix_lt 8 (by decide) _ hn) (wc_at (by decide) hn) rfl 1 (by decide) t_Cor t_Cor_ok n_Cor hlink rfl rfl rfl (Nat.le_of_ble_eq_true rfl) hd (g_world (wc_sI rfl (by decide) hn (by simp [ob, sI_1, sI_2])) k)
theorem gf_Cor_place (h : Cx Γ cc own rm TB CL (tyc t) nl) {n : Nat} (hlink : Cond.fieldLink own index "TriColourMachine$Coroutine" "place" "I" ∈ TB) (hn : n < 16) (hd : decode cc pc = .ok (.getfield index, 3)) (k : G Γ kc ks 171 ad (wc ad t C) (pc + 3) L (.int (C.1 5 n) :: st)) : G Γ kc ks 171 ad (wc ad t C) pc L (.ref (ad (ix 8 n)) :: st) := g_get h i_Cor (ix 8 n) (ix_lt 8 (by decide) _ hn) (wc_at (by decide) hn) rfl 2 (by decide) hlink rfl hd k
theorem pf_Cor_place (h : Cx Γ cc own rm TB CL (tyc t) nl) {n : Nat} {v : Int32} (hlink : Cond.fieldLink own index "TriColourMachine$Coroutine" "place" "I" ∈ TB) (hn : n < 16) (hd : decode cc pc = .ok (.putfield index, 3)) (k : G Γ kc ks 171 ad (wc ad t (sI C 5 n v)) (pc + 3) L st) : G Γ kc ks 171 ad (wc ad t C) pc L (.int v :: .ref (ad (ix 8 n)) :: st) := g_put h i_Cor (ix 8 n) (ix_lt 8 (by decide) _ hn) (wc_at (by decide) hn) rfl 2 (by decide) t_Cor t_Cor_ok n_Cor hlink rfl rfl rfl (Nat.le_of_ble_eq_true rfl) hd (g_world (wc_sI rfl (by decide) hn (by simp [ob, sI_1, sI_2])) k)
theorem gf_Cor_state (h : Cx Γ cc own rm TB CL (tyc t) nl) {n : Nat} (hlink : Cond.fieldLink own index "TriColourMachine$Coroutine" "state" "I" ∈ TB) (hn : n < 16) (hd : decode cc pc = .ok (.getfield index, 3)) (k : G Γ kc ks 171 ad (wc ad t C) (pc + 3) L (.int (C.1 6 n) :: st)) : G Γ kc ks 171 ad (wc ad t C) pc L (.ref (ad (ix 8 n)) :: st) := g_get h i_Cor (ix 8 n) (ix_lt 8 (by decide) _ hn) (wc_at (by decide) hn) rfl 3 (by decide) hlink rfl hd k
theorem pf_Cor_state (h : Cx Γ cc own rm TB CL (tyc t) nl) {n : Nat} {v : Int32} (hlink : Cond.fieldLink own index "TriColourMachine$Coroutine" "state" "I" ∈ TB) (hn : n < 16) (hd : decode cc pc = .ok (.putfield index, 3)) (k : G Γ kc ks 171 ad (wc ad t (sI C 6 n v)) (pc + 3) L st) : G Γ kc ks 171 ad (wc ad t C) pc L (.int v :: .ref (ad (ix 8 n)) :: st) := g_put h i_Cor (ix 8 n) (ix_lt 8 (by decide) _ hn) (wc_at (by decide) hn) rfl 3 (by decide) t_Cor t_Cor_ok n_Cor hlink rfl rfl rfl (Nat.le_of_ble_eq_true rfl) hd (g_world (wc_sI rfl (by decide) hn (by simp [ob, sI_1, sI_2])) k)
theorem gf_Cor_comesIn (h : Cx Γ cc own rm TB CL (tyc t) nl) {n : Nat} (hlink : Cond.fieldLink own index "TriColourMachine$Coroutine" "comesIn" "I" ∈ TB) (hn : n < 16) (hd : decode cc pc = .ok (.getfield index, 3)) (k : G Γ kc ks 171 ad (wc ad t C) (pc + 3) L (.int (C.1 7 n) :: st)) : G Γ kc ks 171 ad (wc ad t C) pc L (.ref (ad (ix 8 n)) :: st) := g_get h i_Cor (ix 8 n) (ix_lt 8 (by decide) _ hn) (wc_at (by decide) hn) rfl 4 (by decide) hlink rfl hd k
theorem pf_Cor_comesIn (h : Cx Γ cc own rm TB CL (tyc t) nl) {n : Nat} {v : Int32} (hlink : Cond.fieldLink own index "TriColourMachine$Coroutine" "comesIn" "I" ∈ TB) (hn : n < 16) (hd : decode cc pc = .ok (.putfield index, 3)) (k : G Γ kc ks 171 ad (wc ad t (sI C 7 n v)) (pc + 3) L st) : G Γ kc ks 171 ad (wc ad t C) pc L (.int v :: .ref (ad (ix 8 n)) :: st) := g_put h i_Cor (ix 8 n) (ix_lt 8 (by decide) _ hn) (wc_at (by decide) hn) rfl 4 (by decide) t_Cor t_Cor_ok n_Cor hlink rfl rfl rfl (Nat.le_of_ble_eq_true rfl) hd (g_world (wc_sI rfl (by decide) hn (by simp [ob, sI_1, sI_2])) k)
theorem gf_Cor_awaits (h : Cx Γ cc own rm TB CL (tyc t) nl) {n : Nat} (hlink : Cond.fieldLink own index "TriColourMachine$Coroutine" "awaits" "I" ∈ TB) (hn : n < 16) (hd : decode cc pc = .ok (.getfield index, 3)) (k : G Γ kc ks 171 ad (wc ad t C) (pc + 3) L (.int (C.1 8 n) :: st)) : G Γ kc ks 171 ad (wc ad t C) pc L (.ref (ad (ix 8 n)) :: st) := g_get h i_Cor (ix 8 n) (ix_lt 8 (by decide) _ hn) (wc_at (by decide) hn) rfl 5 (by decide) hlink rfl hd k
theorem pf_Cor_awaits (h : Cx Γ cc own rm TB CL (tyc t) nl) {n : Nat} {v : Int32} (hlink : Cond.fieldLink own index "TriColourMachine$Coroutine" "awaits" "I" ∈ TB) (hn : n < 16) (hd : decode cc pc = .ok (.putfield index, 3)) (k : G Γ kc ks 171 ad (wc ad t (sI C 8 n v)) (pc + 3) L st) : G Γ kc ks 171 ad (wc ad t C) pc L (.int v :: .ref (ad (ix 8 n)) :: st) := g_put h i_Cor (ix 8 n) (ix_lt 8 (by decide) _ hn) (wc_at (by decide) hn) rfl 5 (by decide) t_Cor t_Cor_ok n_Cor hlink rfl rfl rfl (Nat.le_of_ble_eq_true rfl) hd (g_world (wc_sI rfl (by decide) hn (by simp [ob, sI_1, sI_2])) k)
theorem gf_Heap_globals (h : Cx Γ cc own rm TB CL (tyc t) nl) (hlink : Cond.fieldLink own index "TriColourMachine$Heap" "globals" "[J" ∈ TB) (hd : decode cc pc = .ok (.getfield index, 3)) (k : G Γ kc ks 171 ad (wc ad t C) (pc + 3) L (.ref (ad (ix 2 0)) :: st)) : G Γ kc ks 171 ad (wc ad t C) pc L (.ref (ad (ix 1 0)) :: st) := g_get h i_Heap (ix 1 0) (ix_lt 1 (by decide) _ (by decide)) (wc_at (by decide) (by decide)) rfl 0 (by decide) hlink rfl hd k
theorem gf_Heap_cells (h : Cx Γ cc own rm TB CL (tyc t) nl) (hlink : Cond.fieldLink own index "TriColourMachine$Heap" "cells" "[LTriColourMachine$Cell;" ∈ TB) (hd : decode cc pc = .ok (.getfield index, 3)) (k : G Γ kc ks 171 ad (wc ad t C) (pc + 3) L (.ref (ad (ix 3 0)) :: st)) : G Γ kc ks 171 ad (wc ad t C) pc L (.ref (ad (ix 1 0)) :: st) := g_get h i_Heap (ix 1 0) (ix_lt 1 (by decide) _ (by decide)) (wc_at (by decide) (by decide)) rfl 1 (by decide) hlink rfl hd k
theorem gf_Heap_phase (h : Cx Γ cc own rm TB CL (tyc t) nl) (hlink : Cond.fieldLink own index "TriColourMachine$Heap" "phase" "I" ∈ TB) (hd : decode cc pc = .ok (.getfield index, 3)) (k : G Γ kc ks 171 ad (wc ad t C) (pc + 3) L (.int (C.1 13 0) :: st)) : G Γ kc ks 171 ad (wc ad t C) pc L (.ref (ad (ix 1 0)) :: st) := g_get h i_Heap (ix 1 0) (ix_lt 1 (by decide) _ (by decide)) (wc_at (by decide) (by decide)) rfl 2 (by decide) hlink rfl hd k
theorem pf_Heap_phase (h : Cx Γ cc own rm TB CL (tyc t) nl) {v : Int32} (hlink : Cond.fieldLink own index "TriColourMachine$Heap" "phase" "I" ∈ TB) (hd : decode cc pc = .ok (.putfield index, 3)) (k : G Γ kc ks 171 ad (wc ad t (sI C 13 0 v)) (pc + 3) L st) : G Γ kc ks 171 ad (wc ad t C) pc L (.int v :: .ref (ad (ix 1 0)) :: st) := g_put h i_Heap (ix 1 0) (ix_lt 1 (by decide) _ (by decide)) (wc_at (by decide) (by decide)) rfl 2 (by decide) t_Heap t_Heap_ok n_Heap hlink rfl rfl rfl (Nat.le_of_ble_eq_true rfl) hd (g_world (wc_sI rfl (by decide) (by decide) (by simp [ob, sI_1, sI_2])) k)
theorem gf_Heap_sweepFrom (h : Cx Γ cc own rm TB CL (tyc t) nl) (hlink : Cond.fieldLink own index "TriColourMachine$Heap" "sweepFrom" "I" ∈ TB) (hd : decode cc pc = .ok (.getfield index, 3)) (k : G Γ kc ks 171 ad (wc ad t C) (pc + 3) L (.int (C.1 14 0) :: st)) : G Γ kc ks 171 ad (wc ad t C) pc L (.ref (ad (ix 1 0)) :: st) := g_get h i_Heap (ix 1 0) (ix_lt 1 (by decide) _ (by decide)) (wc_at (by decide) (by decide)) rfl 3 (by decide) hlink rfl hd k
theorem pf_Heap_sweepFrom (h : Cx Γ cc own rm TB CL (tyc t) nl) {v : Int32} (hlink : Cond.fieldLink own index "TriColourMachine$Heap" "sweepFrom" "I" ∈ TB) (hd : decode cc pc = .ok (.putfield index, 3)) (k : G Γ kc ks 171 ad (wc ad t (sI C 14 0 v)) (pc + 3) L st) : G Γ kc ks 171 ad (wc ad t C) pc L (.int v :: .ref (ad (ix 1 0)) :: st) := g_put h i_Heap (ix 1 0) (ix_lt 1 (by decide) _ (by decide)) (wc_at (by decide) (by decide)) rfl 3 (by decide) t_Heap t_Heap_ok n_Heap hlink rfl rfl rfl (Nat.le_of_ble_eq_true rfl) hd (g_world (wc_sI rfl (by decide) (by decide) (by simp [ob, sI_1, sI_2])) k)
theorem gf_Heap_made (h : Cx Γ cc own rm TB CL (tyc t) nl) (hlink : Cond.fieldLink own index "TriColourMachine$Heap" "made" "I" ∈ TB) (hd : decode cc pc = .ok (.getfield index, 3)) (k : G Γ kc ks 171 ad (wc ad t C) (pc + 3) L (.int (C.1 15 0) :: st)) : G Γ kc ks 171 ad (wc ad t C) pc L (.ref (ad (ix 1 0)) :: st) := g_get h i_Heap (ix 1 0) (ix_lt 1 (by decide) _ (by decide)) (wc_at (by decide) (by decide)) rfl 4 (by decide) hlink rfl hd k
theorem pf_Heap_made (h : Cx Γ cc own rm TB CL (tyc t) nl) {v : Int32} (hlink : Cond.fieldLink own index "TriColourMachine$Heap" "made" "I" ∈ TB) (hd : decode cc pc = .ok (.putfield index, 3)) (k : G Γ kc ks 171 ad (wc ad t (sI C 15 0 v)) (pc + 3) L st) : G Γ kc ks 171 ad (wc ad t C) pc L (.int v :: .ref (ad (ix 1 0)) :: st) := g_put h i_Heap (ix 1 0) (ix_lt 1 (by decide) _ (by decide)) (wc_at (by decide) (by decide)) rfl 4 (by decide) t_Heap t_Heap_ok n_Heap hlink rfl rfl rfl (Nat.le_of_ble_eq_true rfl) hd (g_world (wc_sI rfl (by decide) (by decide) (by simp [ob, sI_1, sI_2])) k)
theorem gf_Heap_gone (h : Cx Γ cc own rm TB CL (tyc t) nl) (hlink : Cond.fieldLink own index "TriColourMachine$Heap" "gone" "I" ∈ TB) (hd : decode cc pc = .ok (.getfield index, 3)) (k : G Γ kc ks 171 ad (wc ad t C) (pc + 3) L (.int (C.1 16 0) :: st)) : G Γ kc ks 171 ad (wc ad t C) pc L (.ref (ad (ix 1 0)) :: st) := g_get h i_Heap (ix 1 0) (ix_lt 1 (by decide) _ (by decide)) (wc_at (by decide) (by decide)) rfl 5 (by decide) hlink rfl hd k
theorem pf_Heap_gone (h : Cx Γ cc own rm TB CL (tyc t) nl) {v : Int32} (hlink : Cond.fieldLink own index "TriColourMachine$Heap" "gone" "I" ∈ TB) (hd : decode cc pc = .ok (.putfield index, 3)) (k : G Γ kc ks 171 ad (wc ad t (sI C 16 0 v)) (pc + 3) L st) : G Γ kc ks 171 ad (wc ad t C) pc L (.int v :: .ref (ad (ix 1 0)) :: st) := g_put h i_Heap (ix 1 0) (ix_lt 1 (by decide) _ (by decide)) (wc_at (by decide) (by decide)) rfl 5 (by decide) t_Heap t_Heap_ok n_Heap hlink rfl rfl rfl (Nat.le_of_ble_eq_true rfl) hd (g_world (wc_sI rfl (by decide) (by decide) (by simp [ob, sI_1, sI_2])) k)
theorem gf_Heap_units (h : Cx Γ cc own rm TB CL (tyc t) nl) (hlink : Cond.fieldLink own index "TriColourMachine$Heap" "units" "I" ∈ TB) (hd : decode cc pc = .ok (.getfield index, 3)) (k : G Γ kc ks 171 ad (wc ad t C) (pc + 3) L (.int (C.1 17 0) :: st)) : G Γ kc ks 171 ad (wc ad t C) pc L (.ref (ad (ix 1 0)) :: st) := g_get h i_Heap (ix 1 0) (ix_lt 1 (by decide) _ (by decide)) (wc_at (by decide) (by decide)) rfl 6 (by decide) hlink rfl hd k
theorem pf_Heap_units (h : Cx Γ cc own rm TB CL (tyc t) nl) {v : Int32} (hlink : Cond.fieldLink own index "TriColourMachine$Heap" "units" "I" ∈ TB) (hd : decode cc pc = .ok (.putfield index, 3)) (k : G Γ kc ks 171 ad (wc ad t (sI C 17 0 v)) (pc + 3) L st) : G Γ kc ks 171 ad (wc ad t C) pc L (.int v :: .ref (ad (ix 1 0)) :: st) := g_put h i_Heap (ix 1 0) (ix_lt 1 (by decide) _ (by decide)) (wc_at (by decide) (by decide)) rfl 6 (by decide) t_Heap t_Heap_ok n_Heap hlink rfl rfl rfl (Nat.le_of_ble_eq_true rfl) hd (g_world (wc_sI rfl (by decide) (by decide) (by simp [ob, sI_1, sI_2])) k)
theorem gf_Heap_fullCollections (h : Cx Γ cc own rm TB CL (tyc t) nl) (hlink : Cond.fieldLink own index "TriColourMachine$Heap" "fullCollections" "I" ∈ TB) (hd : decode cc pc = .ok (.getfield index, 3)) (k : G Γ kc ks 171 ad (wc ad t C) (pc + 3) L (.int (C.1 18 0) :: st)) : G Γ kc ks 171 ad (wc ad t C) pc L (.ref (ad (ix 1 0)) :: st) := g_get h i_Heap (ix 1 0) (ix_lt 1 (by decide) _ (by decide)) (wc_at (by decide) (by decide)) rfl 7 (by decide) hlink rfl hd k
theorem pf_Heap_fullCollections (h : Cx Γ cc own rm TB CL (tyc t) nl) {v : Int32} (hlink : Cond.fieldLink own index "TriColourMachine$Heap" "fullCollections" "I" ∈ TB) (hd : decode cc pc = .ok (.putfield index, 3)) (k : G Γ kc ks 171 ad (wc ad t (sI C 18 0 v)) (pc + 3) L st) : G Γ kc ks 171 ad (wc ad t C) pc L (.int v :: .ref (ad (ix 1 0)) :: st) := g_put h i_Heap (ix 1 0) (ix_lt 1 (by decide) _ (by decide)) (wc_at (by decide) (by decide)) rfl 7 (by decide) t_Heap t_Heap_ok n_Heap hlink rfl rfl rfl (Nat.le_of_ble_eq_true rfl) hd (g_world (wc_sI rfl (by decide) (by decide) (by simp [ob, sI_1, sI_2])) k)
theorem gf_Heap_found (h : Cx Γ cc own rm TB CL (tyc t) nl) (hlink : Cond.fieldLink own index "TriColourMachine$Heap" "found" "J" ∈ TB) (hd : decode cc pc = .ok (.getfield index, 3)) (k : G Γ kc ks 171 ad (wc ad t C) (pc + 3) L (.long (C.2.1 4 0 0) :: st)) : G Γ kc ks 171 ad (wc ad t C) pc L (.ref (ad (ix 1 0)) :: st) := g_get h i_Heap (ix 1 0) (ix_lt 1 (by decide) _ (by decide)) (wc_at (by decide) (by decide)) rfl 8 (by decide) hlink rfl hd k
theorem pf_Heap_found (h : Cx Γ cc own rm TB CL (tyc t) nl) {v : Int64} (hlink : Cond.fieldLink own index "TriColourMachine$Heap" "found" "J" ∈ TB) (hd : decode cc pc = .ok (.putfield index, 3)) (k : G Γ kc ks 171 ad (wc ad t (sJ C 4 0 0 v)) (pc + 3) L st) : G Γ kc ks 171 ad (wc ad t C) pc L (.long v :: .ref (ad (ix 1 0)) :: st) := g_put h i_Heap (ix 1 0) (ix_lt 1 (by decide) _ (by decide)) (wc_at (by decide) (by decide)) rfl 8 (by decide) t_Heap t_Heap_ok n_Heap hlink rfl rfl rfl (Nat.le_of_ble_eq_true rfl) hd (g_world (wc_sJ rfl (by decide) (by decide) (by simp [ob, sJ_1, sJ_2])) k)
theorem gf_Pro_heap (h : Cx Γ cc own rm TB CL (tyc t) nl) (hlink : Cond.fieldLink own index "TriColourMachine$Processor" "heap" "LTriColourMachine$Heap;" ∈ TB) (hd : decode cc pc = .ok (.getfield index, 3)) (k : G Γ kc ks 171 ad (wc ad t C) (pc + 3) L (.ref (ad (ix 1 0)) :: st)) : G Γ kc ks 171 ad (wc ad t C) pc L (.ref (ad (ix 10 0)) :: st) := g_get h i_Pro (ix 10 0) (ix_lt 10 (by decide) _ (by decide)) (wc_at (by decide) (by decide)) rfl 0 (by decide) hlink rfl hd k
theorem gf_Pro_instructions (h : Cx Γ cc own rm TB CL (tyc t) nl) (hlink : Cond.fieldLink own index "TriColourMachine$Processor" "instructions" "[LTriColourMachine$Instruction;" ∈ TB) (hd : decode cc pc = .ok (.getfield index, 3)) (k : G Γ kc ks 171 ad (wc ad t C) (pc + 3) L (.ref (ad (ix 11 0)) :: st)) : G Γ kc ks 171 ad (wc ad t C) pc L (.ref (ad (ix 10 0)) :: st) := g_get h i_Pro (ix 10 0) (ix_lt 10 (by decide) _ (by decide)) (wc_at (by decide) (by decide)) rfl 1 (by decide) hlink rfl hd k
theorem gf_Pro_active (h : Cx Γ cc own rm TB CL (tyc t) nl) (hlink : Cond.fieldLink own index "TriColourMachine$Processor" "active" "[LTriColourMachine$Coroutine;" ∈ TB) (hd : decode cc pc = .ok (.getfield index, 3)) (k : G Γ kc ks 171 ad (wc ad t C) (pc + 3) L (.ref (ad (ix 12 0)) :: st)) : G Γ kc ks 171 ad (wc ad t C) pc L (.ref (ad (ix 10 0)) :: st) := g_get h i_Pro (ix 10 0) (ix_lt 10 (by decide) _ (by decide)) (wc_at (by decide) (by decide)) rfl 2 (by decide) hlink rfl hd k
theorem gf_Pro_depth (h : Cx Γ cc own rm TB CL (tyc t) nl) (hlink : Cond.fieldLink own index "TriColourMachine$Processor" "depth" "I" ∈ TB) (hd : decode cc pc = .ok (.getfield index, 3)) (k : G Γ kc ks 171 ad (wc ad t C) (pc + 3) L (.int (C.1 19 0) :: st)) : G Γ kc ks 171 ad (wc ad t C) pc L (.ref (ad (ix 10 0)) :: st) := g_get h i_Pro (ix 10 0) (ix_lt 10 (by decide) _ (by decide)) (wc_at (by decide) (by decide)) rfl 3 (by decide) hlink rfl hd k
theorem pf_Pro_depth (h : Cx Γ cc own rm TB CL (tyc t) nl) {v : Int32} (hlink : Cond.fieldLink own index "TriColourMachine$Processor" "depth" "I" ∈ TB) (hd : decode cc pc = .ok (.putfield index, 3)) (k : G Γ kc ks 171 ad (wc ad t (sI C 19 0 v)) (pc + 3) L st) : G Γ kc ks 171 ad (wc ad t C) pc L (.int v :: .ref (ad (ix 10 0)) :: st) := g_put h i_Pro (ix 10 0) (ix_lt 10 (by decide) _ (by decide)) (wc_at (by decide) (by decide)) rfl 3 (by decide) t_Pro t_Pro_ok n_Pro hlink rfl rfl rfl (Nat.le_of_ble_eq_true rfl) hd (g_world (wc_sI rfl (by decide) (by decide) (by simp [ob, sI_1, sI_2])) k)
theorem gf_Pro_begun (h : Cx Γ cc own rm TB CL (tyc t) nl) (hlink : Cond.fieldLink own index "TriColourMachine$Processor" "begun" "I" ∈ TB) (hd : decode cc pc = .ok (.getfield index, 3)) (k : G Γ kc ks 171 ad (wc ad t C) (pc + 3) L (.int (C.1 20 0) :: st)) : G Γ kc ks 171 ad (wc ad t C) pc L (.ref (ad (ix 10 0)) :: st) := g_get h i_Pro (ix 10 0) (ix_lt 10 (by decide) _ (by decide)) (wc_at (by decide) (by decide)) rfl 4 (by decide) hlink rfl hd k
theorem pf_Pro_begun (h : Cx Γ cc own rm TB CL (tyc t) nl) {v : Int32} (hlink : Cond.fieldLink own index "TriColourMachine$Processor" "begun" "I" ∈ TB) (hd : decode cc pc = .ok (.putfield index, 3)) (k : G Γ kc ks 171 ad (wc ad t (sI C 20 0 v)) (pc + 3) L st) : G Γ kc ks 171 ad (wc ad t C) pc L (.int v :: .ref (ad (ix 10 0)) :: st) := g_put h i_Pro (ix 10 0) (ix_lt 10 (by decide) _ (by decide)) (wc_at (by decide) (by decide)) rfl 4 (by decide) t_Pro t_Pro_ok n_Pro hlink rfl rfl rfl (Nat.le_of_ble_eq_true rfl) hd (g_world (wc_sI rfl (by decide) (by decide) (by simp [ob, sI_1, sI_2])) k)
theorem gf_Pro_nextPlace (h : Cx Γ cc own rm TB CL (tyc t) nl) (hlink : Cond.fieldLink own index "TriColourMachine$Processor" "nextPlace" "I" ∈ TB) (hd : decode cc pc = .ok (.getfield index, 3)) (k : G Γ kc ks 171 ad (wc ad t C) (pc + 3) L (.int (C.1 21 0) :: st)) : G Γ kc ks 171 ad (wc ad t C) pc L (.ref (ad (ix 10 0)) :: st) := g_get h i_Pro (ix 10 0) (ix_lt 10 (by decide) _ (by decide)) (wc_at (by decide) (by decide)) rfl 5 (by decide) hlink rfl hd k
theorem pf_Pro_nextPlace (h : Cx Γ cc own rm TB CL (tyc t) nl) {v : Int32} (hlink : Cond.fieldLink own index "TriColourMachine$Processor" "nextPlace" "I" ∈ TB) (hd : decode cc pc = .ok (.putfield index, 3)) (k : G Γ kc ks 171 ad (wc ad t (sI C 21 0 v)) (pc + 3) L st) : G Γ kc ks 171 ad (wc ad t C) pc L (.int v :: .ref (ad (ix 10 0)) :: st) := g_put h i_Pro (ix 10 0) (ix_lt 10 (by decide) _ (by decide)) (wc_at (by decide) (by decide)) rfl 5 (by decide) t_Pro t_Pro_ok n_Pro hlink rfl rfl rfl (Nat.le_of_ble_eq_true rfl) hd (g_world (wc_sI rfl (by decide) (by decide) (by simp [ob, sI_1, sI_2])) k)
theorem gf_Pro_outcome (h : Cx Γ cc own rm TB CL (tyc t) nl) (hlink : Cond.fieldLink own index "TriColourMachine$Processor" "outcome" "J" ∈ TB) (hd : decode cc pc = .ok (.getfield index, 3)) (k : G Γ kc ks 171 ad (wc ad t C) (pc + 3) L (.long (C.2.1 5 0 0) :: st)) : G Γ kc ks 171 ad (wc ad t C) pc L (.ref (ad (ix 10 0)) :: st) := g_get h i_Pro (ix 10 0) (ix_lt 10 (by decide) _ (by decide)) (wc_at (by decide) (by decide)) rfl 6 (by decide) hlink rfl hd k
theorem pf_Pro_outcome (h : Cx Γ cc own rm TB CL (tyc t) nl) {v : Int64} (hlink : Cond.fieldLink own index "TriColourMachine$Processor" "outcome" "J" ∈ TB) (hd : decode cc pc = .ok (.putfield index, 3)) (k : G Γ kc ks 171 ad (wc ad t (sJ C 5 0 0 v)) (pc + 3) L st) : G Γ kc ks 171 ad (wc ad t C) pc L (.long v :: .ref (ad (ix 10 0)) :: st) := g_put h i_Pro (ix 10 0) (ix_lt 10 (by decide) _ (by decide)) (wc_at (by decide) (by decide)) rfl 6 (by decide) t_Pro t_Pro_ok n_Pro hlink rfl rfl rfl (Nat.le_of_ble_eq_true rfl) hd (g_world (wc_sJ rfl (by decide) (by decide) (by simp [ob, sJ_1, sJ_2])) k)
theorem gf_TCM_processor (h : Cx Γ cc own rm TB CL (tyc t) nl) (hlink : Cond.fieldLink own index "TriColourMachine" "processor" "LTriColourMachine$Processor;" ∈ TB) (hd : decode cc pc = .ok (.getfield index, 3)) (k : G Γ kc ks 171 ad (wc ad t C) (pc + 3) L (.ref (ad (ix 10 0)) :: st)) : G Γ kc ks 171 ad (wc ad t C) pc L (.ref (ad (ix 0 0)) :: st) := g_get h i_TCM (ix 0 0) (ix_lt 0 (by decide) _ (by decide)) (wc_at (by decide) (by decide)) rfl 0 (by decide) hlink rfl hd k
theorem gf_TCM_heap (h : Cx Γ cc own rm TB CL (tyc t) nl) (hlink : Cond.fieldLink own index "TriColourMachine" "heap" "LTriColourMachine$Heap;" ∈ TB) (hd : decode cc pc = .ok (.getfield index, 3)) (k : G Γ kc ks 171 ad (wc ad t C) (pc + 3) L (.ref (ad (ix 1 0)) :: st)) : G Γ kc ks 171 ad (wc ad t C) pc L (.ref (ad (ix 0 0)) :: st) := g_get h i_TCM (ix 0 0) (ix_lt 0 (by decide) _ (by decide)) (wc_at (by decide) (by decide)) rfl 1 (by decide) hlink rfl hd k
theorem gf_Ins_op (h : Cx Γ cc own rm TB CL (tyc t) nl) {n : Nat} (hlink : Cond.fieldLink own index "TriColourMachine$Instruction" "op" "I" ∈ TB) (hn : n < 68) (hd : decode cc pc = .ok (.getfield index, 3)) (k : G Γ kc ks 171 ad (wc ad t C) (pc + 3) L (.int (C.1 9 n) :: st)) : G Γ kc ks 171 ad (wc ad t C) pc L (.ref (ad (ix 13 n)) :: st) := g_get h i_Ins (ix 13 n) (ix_lt 13 (by decide) _ hn) (wc_at (by decide) hn) rfl 0 (by decide) hlink rfl hd k
theorem pf_Ins_op (h : Cx Γ cc own rm TB CL (tyc t) nl) {n : Nat} {v : Int32} (hlink : Cond.fieldLink own index "TriColourMachine$Instruction" "op" "I" ∈ TB) (hn : n < 68) (hd : decode cc pc = .ok (.putfield index, 3)) (k : G Γ kc ks 171 ad (wc ad t (sI C 9 n v)) (pc + 3) L st) : G Γ kc ks 171 ad (wc ad t C) pc L (.int v :: .ref (ad (ix 13 n)) :: st) := g_put h i_Ins (ix 13 n) (ix_lt 13 (by decide) _ hn) (wc_at (by decide) hn) rfl 0 (by decide) t_Ins t_Ins_ok n_Ins hlink rfl rfl rfl (Nat.le_of_ble_eq_true rfl) hd (g_world (wc_sI rfl (by decide) hn (by simp [ob, sI_1, sI_2])) k)
theorem gf_Ins_a (h : Cx Γ cc own rm TB CL (tyc t) nl) {n : Nat} (hlink : Cond.fieldLink own index "TriColourMachine$Instruction" "a" "I" ∈ TB) (hn : n < 68) (hd : decode cc pc = .ok (.getfield index, 3)) (k : G Γ kc ks 171 ad (wc ad t C) (pc + 3) L (.int (C.1 10 n) :: st)) : G Γ kc ks 171 ad (wc ad t C) pc L (.ref (ad (ix 13 n)) :: st) := g_get h i_Ins (ix 13 n) (ix_lt 13 (by decide) _ hn) (wc_at (by decide) hn) rfl 1 (by decide) hlink rfl hd k
theorem pf_Ins_a (h : Cx Γ cc own rm TB CL (tyc t) nl) {n : Nat} {v : Int32} (hlink : Cond.fieldLink own index "TriColourMachine$Instruction" "a" "I" ∈ TB) (hn : n < 68) (hd : decode cc pc = .ok (.putfield index, 3)) (k : G Γ kc ks 171 ad (wc ad t (sI C 10 n v)) (pc + 3) L st) : G Γ kc ks 171 ad (wc ad t C) pc L (.int v :: .ref (ad (ix 13 n)) :: st) := g_put h i_Ins (ix 13 n) (ix_lt 13 (by decide) _ hn) (wc_at (by decide) hn) rfl 1 (by decide) t_Ins t_Ins_ok n_Ins hlink rfl rfl rfl (Nat.le_of_ble_eq_true rfl) hd (g_world (wc_sI rfl (by decide) hn (by simp [ob, sI_1, sI_2])) k)
theorem gf_Ins_b (h : Cx Γ cc own rm TB CL (tyc t) nl) {n : Nat} (hlink : Cond.fieldLink own index "TriColourMachine$Instruction" "b" "I" ∈ TB) (hn : n < 68) (hd : decode cc pc = .ok (.getfield index, 3)) (k : G Γ kc ks 171 ad (wc ad t C) (pc + 3) L (.int (C.1 11 n) :: st)) : G Γ kc ks 171 ad (wc ad t C) pc L (.ref (ad (ix 13 n)) :: st) := g_get h i_Ins (ix 13 n) (ix_lt 13 (by decide) _ hn) (wc_at (by decide) hn) rfl 2 (by decide) hlink rfl hd k
theorem pf_Ins_b (h : Cx Γ cc own rm TB CL (tyc t) nl) {n : Nat} {v : Int32} (hlink : Cond.fieldLink own index "TriColourMachine$Instruction" "b" "I" ∈ TB) (hn : n < 68) (hd : decode cc pc = .ok (.putfield index, 3)) (k : G Γ kc ks 171 ad (wc ad t (sI C 11 n v)) (pc + 3) L st) : G Γ kc ks 171 ad (wc ad t C) pc L (.int v :: .ref (ad (ix 13 n)) :: st) := g_put h i_Ins (ix 13 n) (ix_lt 13 (by decide) _ hn) (wc_at (by decide) hn) rfl 2 (by decide) t_Ins t_Ins_ok n_Ins hlink rfl rfl rfl (Nat.le_of_ble_eq_true rfl) hd (g_world (wc_sI rfl (by decide) hn (by simp [ob, sI_1, sI_2])) k)
theorem gf_Ins_c (h : Cx Γ cc own rm TB CL (tyc t) nl) {n : Nat} (hlink : Cond.fieldLink own index "TriColourMachine$Instruction" "c" "I" ∈ TB) (hn : n < 68) (hd : decode cc pc = .ok (.getfield index, 3)) (k : G Γ kc ks 171 ad (wc ad t C) (pc + 3) L (.int (C.1 12 n) :: st)) : G Γ kc ks 171 ad (wc ad t C) pc L (.ref (ad (ix 13 n)) :: st) := g_get h i_Ins (ix 13 n) (ix_lt 13 (by decide) _ hn) (wc_at (by decide) hn) rfl 3 (by decide) hlink rfl hd k
theorem pf_Ins_c (h : Cx Γ cc own rm TB CL (tyc t) nl) {n : Nat} {v : Int32} (hlink : Cond.fieldLink own index "TriColourMachine$Instruction" "c" "I" ∈ TB) (hn : n < 68) (hd : decode cc pc = .ok (.putfield index, 3)) (k : G Γ kc ks 171 ad (wc ad t (sI C 12 n v)) (pc + 3) L st) : G Γ kc ks 171 ad (wc ad t C) pc L (.int v :: .ref (ad (ix 13 n)) :: st) := g_put h i_Ins (ix 13 n) (ix_lt 13 (by decide) _ hn) (wc_at (by decide) hn) rfl 3 (by decide) t_Ins t_Ins_ok n_Ins hlink rfl rfl rfl (Nat.le_of_ble_eq_true rfl) hd (g_world (wc_sI rfl (by decide) hn (by simp [ob, sI_1, sI_2])) k)
theorem ga_glo (h : Cx Γ cc own rm TB CL (tyc t) nl) {j : Nat} {i : Int32} (hi : i = nI j) (hj : j < 6) (hd : decode cc pc = .ok (.laload, 1)) (k : G Γ kc ks 171 ad (wc ad t C) (pc + 1) L (.long (C.2.1 0 0 j) :: st)) : G Γ kc ks 171 ad (wc ad t C) pc L (.int i :: .ref (ad (ix 2 0)) :: st) := by
  subst hi
  have hc : (nI j).toNatClampNeg = j := nI_clamp (by omega)
  refine g_laload h (ix 2 0) 0 (ix_lt 2 (by decide) _ (by decide)) (wc_at (by decide) (by decide)) rfl (vp_in_nI hj (by decide)) hd ?_
  rw [hc]; exact k
theorem pa_glo (h : Cx Γ cc own rm TB CL (tyc t) nl) {j : Nat} {i : Int32} {v : Int64} (hi : i = nI j) (hj : j < 6) (hd : decode cc pc = .ok (.lastore, 1)) (k : G Γ kc ks 171 ad (wc ad t (sJ C 0 0 j v)) (pc + 1) L st) : G Γ kc ks 171 ad (wc ad t C) pc L (.long v :: .int i :: .ref (ad (ix 2 0)) :: st) := by
  subst hi
  have hc : (nI j).toNatClampNeg = j := nI_clamp (by omega)
  refine g_lastore h (ix 2 0) 0 (ix_lt 2 (by decide) _ (by decide)) (wc_at (by decide) (by decide)) rfl (vp_in_nI hj (by decide)) hd ?_
  rw [hc]
  refine g_world (wc_sJ (f := 0) rfl (by decide) (by decide) ?_) k
  have e : (sJ C 0 0 j v).2.1 0 0 = vp_updL (C.2.1 0 0) j v := by
    funext c
    simp [sJ_2, vp_updL]
  show Sum.inl (t 0, 6, Sum.inr (Sum.inl ((sJ C 0 0 j v).2.1 0 0))) = _
  rw [e]
theorem ga_keys (h : Cx Γ cc own rm TB CL (tyc t) nl) {n j : Nat} {i : Int32} (hn : n < 16) (hi : i = nI j) (hj : j < 6) (hd : decode cc pc = .ok (.laload, 1)) (k : G Γ kc ks 171 ad (wc ad t C) (pc + 1) L (.long (C.2.1 1 n j) :: st)) : G Γ kc ks 171 ad (wc ad t C) pc L (.int i :: .ref (ad (ix 6 n)) :: st) := by
  subst hi
  have hc : (nI j).toNatClampNeg = j := nI_clamp (by omega)
  refine g_laload h (ix 6 n) 0 (ix_lt 6 (by decide) _ hn) (wc_at (by decide) hn) rfl (vp_in_nI hj (by decide)) hd ?_
  rw [hc]; exact k
theorem pa_keys (h : Cx Γ cc own rm TB CL (tyc t) nl) {n j : Nat} {i : Int32} {v : Int64} (hn : n < 16) (hi : i = nI j) (hj : j < 6) (hd : decode cc pc = .ok (.lastore, 1)) (k : G Γ kc ks 171 ad (wc ad t (sJ C 1 n j v)) (pc + 1) L st) : G Γ kc ks 171 ad (wc ad t C) pc L (.long v :: .int i :: .ref (ad (ix 6 n)) :: st) := by
  subst hi
  have hc : (nI j).toNatClampNeg = j := nI_clamp (by omega)
  refine g_lastore h (ix 6 n) 0 (ix_lt 6 (by decide) _ hn) (wc_at (by decide) hn) rfl (vp_in_nI hj (by decide)) hd ?_
  rw [hc]
  refine g_world (wc_sJ (f := 1) rfl (by decide) hn ?_) k
  have e : (sJ C 1 n j v).2.1 1 n = vp_updL (C.2.1 1 n) j v := by
    funext c
    simp [sJ_2, vp_updL]
  show Sum.inl (t 0, 6, Sum.inr (Sum.inl ((sJ C 1 n j v).2.1 1 n))) = _
  rw [e]
theorem ga_vals (h : Cx Γ cc own rm TB CL (tyc t) nl) {n j : Nat} {i : Int32} (hn : n < 16) (hi : i = nI j) (hj : j < 6) (hd : decode cc pc = .ok (.laload, 1)) (k : G Γ kc ks 171 ad (wc ad t C) (pc + 1) L (.long (C.2.1 2 n j) :: st)) : G Γ kc ks 171 ad (wc ad t C) pc L (.int i :: .ref (ad (ix 7 n)) :: st) := by
  subst hi
  have hc : (nI j).toNatClampNeg = j := nI_clamp (by omega)
  refine g_laload h (ix 7 n) 0 (ix_lt 7 (by decide) _ hn) (wc_at (by decide) hn) rfl (vp_in_nI hj (by decide)) hd ?_
  rw [hc]; exact k
theorem pa_vals (h : Cx Γ cc own rm TB CL (tyc t) nl) {n j : Nat} {i : Int32} {v : Int64} (hn : n < 16) (hi : i = nI j) (hj : j < 6) (hd : decode cc pc = .ok (.lastore, 1)) (k : G Γ kc ks 171 ad (wc ad t (sJ C 2 n j v)) (pc + 1) L st) : G Γ kc ks 171 ad (wc ad t C) pc L (.long v :: .int i :: .ref (ad (ix 7 n)) :: st) := by
  subst hi
  have hc : (nI j).toNatClampNeg = j := nI_clamp (by omega)
  refine g_lastore h (ix 7 n) 0 (ix_lt 7 (by decide) _ hn) (wc_at (by decide) hn) rfl (vp_in_nI hj (by decide)) hd ?_
  rw [hc]
  refine g_world (wc_sJ (f := 2) rfl (by decide) hn ?_) k
  have e : (sJ C 2 n j v).2.1 2 n = vp_updL (C.2.1 2 n) j v := by
    funext c
    simp [sJ_2, vp_updL]
  show Sum.inl (t 0, 6, Sum.inr (Sum.inl ((sJ C 2 n j v).2.1 2 n))) = _
  rw [e]
theorem ga_regs (h : Cx Γ cc own rm TB CL (tyc t) nl) {n j : Nat} {i : Int32} (hn : n < 16) (hi : i = nI j) (hj : j < 4) (hd : decode cc pc = .ok (.laload, 1)) (k : G Γ kc ks 171 ad (wc ad t C) (pc + 1) L (.long (C.2.1 3 n j) :: st)) : G Γ kc ks 171 ad (wc ad t C) pc L (.int i :: .ref (ad (ix 9 n)) :: st) := by
  subst hi
  have hc : (nI j).toNatClampNeg = j := nI_clamp (by omega)
  refine g_laload h (ix 9 n) 0 (ix_lt 9 (by decide) _ hn) (wc_at (by decide) hn) rfl (vp_in_nI hj (by decide)) hd ?_
  rw [hc]; exact k
theorem pa_regs (h : Cx Γ cc own rm TB CL (tyc t) nl) {n j : Nat} {i : Int32} {v : Int64} (hn : n < 16) (hi : i = nI j) (hj : j < 4) (hd : decode cc pc = .ok (.lastore, 1)) (k : G Γ kc ks 171 ad (wc ad t (sJ C 3 n j v)) (pc + 1) L st) : G Γ kc ks 171 ad (wc ad t C) pc L (.long v :: .int i :: .ref (ad (ix 9 n)) :: st) := by
  subst hi
  have hc : (nI j).toNatClampNeg = j := nI_clamp (by omega)
  refine g_lastore h (ix 9 n) 0 (ix_lt 9 (by decide) _ hn) (wc_at (by decide) hn) rfl (vp_in_nI hj (by decide)) hd ?_
  rw [hc]
  refine g_world (wc_sJ (f := 3) rfl (by decide) hn ?_) k
  have e : (sJ C 3 n j v).2.1 3 n = vp_updL (C.2.1 3 n) j v := by
    funext c
    simp [sJ_2, vp_updL]
  show Sum.inl (t 0, 4, Sum.inr (Sum.inl ((sJ C 3 n j v).2.1 3 n))) = _
  rw [e]
theorem ga_cells (h : Cx Γ cc own rm TB CL (tyc t) nl) {j : Nat} {i : Int32} (hi : i = nI j) (hj : j < 16) (hd : decode cc pc = .ok (.aaload, 1)) (k : G Γ kc ks 171 ad (wc ad t C) (pc + 1) L (.ref (ad (ix 4 j)) :: st)) : G Γ kc ks 171 ad (wc ad t C) pc L (.int i :: .ref (ad (ix 3 0)) :: st) := by
  subst hi
  have hc : (nI j).toNatClampNeg = j := nI_clamp (by omega)
  refine g_aaload h (ix 3 0) 1 (ix_lt 3 (by decide) _ (by decide)) (wc_at (by decide) (by decide)) rfl (vp_in_nI hj (by decide)) hd ?_
  rw [hc]; exact k
theorem ga_ins (h : Cx Γ cc own rm TB CL (tyc t) nl) {j : Nat} {i : Int32} (hi : i = nI j) (hj : j < 68) (hd : decode cc pc = .ok (.aaload, 1)) (k : G Γ kc ks 171 ad (wc ad t C) (pc + 1) L (.ref (ad (ix 13 j)) :: st)) : G Γ kc ks 171 ad (wc ad t C) pc L (.int i :: .ref (ad (ix 11 0)) :: st) := by
  subst hi
  have hc : (nI j).toNatClampNeg = j := nI_clamp (by omega)
  refine g_aaload h (ix 11 0) 2 (ix_lt 11 (by decide) _ (by decide)) (wc_at (by decide) (by decide)) rfl (vp_in_nI hj (by decide)) hd ?_
  rw [hc]; exact k
theorem ga_act (h : Cx Γ cc own rm TB CL (tyc t) nl) {j m : Nat} {i : Int32} (hi : i = nI j) (hj : j < 5) (hm : C.2.2 j = some m) (hd : decode cc pc = .ok (.aaload, 1)) (k : G Γ kc ks 171 ad (wc ad t C) (pc + 1) L (.ref (ad (ix 8 m)) :: st)) : G Γ kc ks 171 ad (wc ad t C) pc L (.int i :: .ref (ad (ix 12 0)) :: st) := by
  subst hi
  have hc : (nI j).toNatClampNeg = j := nI_clamp (by omega)
  refine g_aaload h (ix 12 0) 3 (ix_lt 12 (by decide) _ (by decide)) (wc_at (by decide) (by decide)) rfl (vp_in_nI hj (by decide)) hd ?_
  rw [hc]
  simp only [if_true, hm, Option.map_some]
  exact k
theorem pa_act (h : Cx Γ cc own rm TB CL (tyc t) nl) {j m : Nat} {i : Int32} (hi : i = nI j) (hj : j < 5) (hm : m < 16) (hd : decode cc pc = .ok (.aastore, 1)) (k : G Γ kc ks 171 ad (wc ad t (sA C j m)) (pc + 1) L st) : G Γ kc ks 171 ad (wc ad t C) pc L (.ref (ad (ix 8 m)) :: .int i :: .ref (ad (ix 12 0)) :: st) := by
  subst hi
  have hc : (nI j).toNatClampNeg = j := nI_clamp (by omega)
  refine g_aastore h (ix 12 0) 3 (ix 8 m) (ix_lt 12 (by decide) _ (by decide)) (ix_lt 8 (by decide) _ hm) (wc_at (by decide) (by decide)) rfl (wc_at (cd := 8) (by decide) hm) rfl (vp_in_nI hj (by decide)) hd ?_
  rw [hc]
  refine g_world (wc_sA ?_) k
  have e : (fun i => if (0 : Nat) = 0 then ((sA C j m).2.2 i).map (fun m => ad (ix 8 m)) else none) = va_up (fun i => if (0 : Nat) = 0 then (C.2.2 i).map (fun m => ad (ix 8 m)) else none) j (some (ad (ix 8 m))) := by
    funext c
    by_cases hq : c = j
    · simp [sA_3, va_up, hq]
    · simp [sA_3, va_up, hq]
  show Sum.inl (t 3, 5, Sum.inr (Sum.inr (Sum.inr (Sum.inr (fun i => if (0 : Nat) = 0 then ((sA C j m).2.2 i).map (fun m => ad (ix 8 m)) else none))))) = _
  rw [e]
end FieldRows
