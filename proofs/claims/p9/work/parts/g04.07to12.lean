-- part 07.state
section
/-! THE CLASS'S WORLD: 171 cells in the order in which the constructors make them -/
/-- the place of thing n of code cd: 0 the machine, 1 heap, 2 globals, 3 cells, 4 Cell, 5 Table, 6 keys, 7 values, 8 Coroutine, 9 registers, 10 processor, 11 instructions, 12 active, 13 Instruction -/
def ix (cd n : Nat) : Nat := match cd with
  | 0 => 0
  | 1 => 1
  | 2 => 2
  | 3 => 3
  | 4 => 4 + 6 * n
  | 5 => 5 + 6 * n
  | 6 => 6 + 6 * n
  | 7 => 7 + 6 * n
  | 8 => 8 + 6 * n
  | 9 => 9 + 6 * n
  | 10 => 100
  | 11 => 101
  | 12 => 102
  | _ => 103 + n
def kd (k : Nat) : Nat × Nat := if k < 4 then (k, 0) else if k < 100 then (4 + (k - 4) % 6, (k - 4) / 6) else if k < 103 then (k - 90, 0) else (13, k - 103)
/-- how many of a code there are -/
def nk (cd : Nat) : Nat := if cd < 4 then 1 else if cd < 10 then 16 else if cd < 13 then 1 else 68
theorem kd_ix : ∀ cd, cd < 14 → ∀ n, n < nk cd → kd (ix cd n) = (cd, n) := by decide +kernel
theorem ix_lt : ∀ cd, cd < 14 → ∀ n, n < nk cd → ix cd n < 171 := by decide +kernel
theorem ix_kd : ∀ k, k < 171 → ix (kd k).1 (kd k).2 = k := by decide +kernel
def ob (ad : Nat → Nat) (t : Nat → ClassId) (C : CS) (cd n : Nat) : va_E := match cd with
  | 0 => .inr (6, [.ref (ad (ix 10 0)), .ref (ad (ix 1 0))])
  | 1 => .inr (2, [.ref (ad (ix 2 0)), .ref (ad (ix 3 0)), .int (C.1 13 n), .int (C.1 14 n), .int (C.1 15 n), .int (C.1 16 n), .int (C.1 17 n), .int (C.1 18 n), .long (C.2.1 4 n 0)])
  | 2 => .inl (t 0, 6, .inr (.inl (C.2.1 0 n)))
  | 3 => .inl (t 1, 16, .inr (.inr (.inr (.inr (fun i => some (ad (ix 4 i)))))))
  | 4 => .inr (0, [.ref (ad (ix 5 n)), .ref (ad (ix 8 n)), .int (C.1 0 n), .int (C.1 1 n)])
  | 5 => .inr (5, [.ref (ad (ix 6 n)), .ref (ad (ix 7 n)), .int (C.1 2 n), .int (C.1 3 n)])
  | 6 => .inl (t 0, 6, .inr (.inl (C.2.1 1 n)))
  | 7 => .inl (t 0, 6, .inr (.inl (C.2.1 2 n)))
  | 8 => .inr (1, [.ref (ad (ix 9 n)), .int (C.1 4 n), .int (C.1 5 n), .int (C.1 6 n), .int (C.1 7 n), .int (C.1 8 n)])
  | 9 => .inl (t 0, 4, .inr (.inl (C.2.1 3 n)))
  | 10 => .inr (4, [.ref (ad (ix 1 0)), .ref (ad (ix 11 0)), .ref (ad (ix 12 0)), .int (C.1 19 n), .int (C.1 20 n), .int (C.1 21 n), .long (C.2.1 5 n 0)])
  | 11 => .inl (t 2, 68, .inr (.inr (.inr (.inr (fun i => some (ad (ix 13 i)))))))
  | 12 => .inl (t 3, 5, .inr (.inr (.inr (.inr (fun i => if n = 0 then (C.2.2 i).map (fun m => ad (ix 8 m)) else none)))))
  | 13 => .inr (3, [.int (C.1 9 n), .int (C.1 10 n), .int (C.1 11 n), .int (C.1 12 n)])
  | _ => .inr (3, [])
def wc (ad : Nat → Nat) (t : Nat → ClassId) (C : CS) : Nat → va_E := fun k => ob ad t C (kd k).1 (kd k).2
abbrev tyc (t : Nat → ClassId) : List (ClassId × FieldType) := [(t 0, .long), (t 1, .object "TriColourMachine$Cell"), (t 2, .object "TriColourMachine$Instruction"), (t 3, .object "TriColourMachine$Coroutine")]
/-- which code holds an int field, a row of longs -/
def rdI (f : Nat) : Nat := if f < 2 then 4 else if f < 4 then 5 else if f < 9 then 8 else if f < 13 then 13 else if f < 19 then 1 else 10
def rdJ (f : Nat) : Nat := if f = 0 then 2 else if f = 1 then 6 else if f = 2 then 7 else if f = 3 then 9 else if f = 4 then 1 else 10
section State
variable {ad : Nat → Nat} {t : Nat → ClassId} {C : CS} {cd n f i : Nat}
theorem wc_at (h1 : cd < 14) (h2 : n < nk cd) : wc ad t C (ix cd n) = ob ad t C cd n := by unfold wc; rw [kd_ix cd h1 n h2]
theorem ob_same {C' : CS} (cd' n' : Nat) (h1 : ∀ g, rdI g = cd' → C'.1 g n' = C.1 g n') (h2 : ∀ g, rdJ g = cd' → C'.2.1 g n' = C.2.1 g n') (h3 : cd' = 12 → n' = 0 → C'.2.2 = C.2.2) : ob ad t C' cd' n' = ob ad t C cd' n' := by
  unfold ob
  split
  · rfl
  · rw [h1 13 rfl, h1 14 rfl, h1 15 rfl, h1 16 rfl, h1 17 rfl, h1 18 rfl, h2 4 rfl]
  · rw [h2 0 rfl]
  · rfl
  · rw [h1 0 rfl, h1 1 rfl]
  · rw [h1 2 rfl, h1 3 rfl]
  · rw [h2 1 rfl]
  · rw [h2 2 rfl]
  · rw [h1 4 rfl, h1 5 rfl, h1 6 rfl, h1 7 rfl, h1 8 rfl]
  · rw [h2 3 rfl]
  · rw [h1 19 rfl, h1 20 rfl, h1 21 rfl, h2 5 rfl]
  · rfl
  · by_cases hn : n' = 0
    · rw [h3 rfl hn]
    · simp [hn]
  · rw [h1 9 rfl, h1 10 rfl, h1 11 rfl, h1 12 rfl]
  · rfl
theorem wc_up {C' : CS} {e : va_E} (h1 : cd < 14) (h2 : n < nk cd) (he : ob ad t C' cd n = e) (hne : ∀ cd' n', ¬ (cd' = cd ∧ n' = n) → ob ad t C' cd' n' = ob ad t C cd' n') : ∀ k, k < 171 → va_up (wc ad t C) (ix cd n) e k = wc ad t C' k := by
  intro k hk
  by_cases hq : k = ix cd n
  · subst hq
    rw [wc_at h1 h2, he]
    simp [va_up]
  · simp only [va_up, if_neg hq]
    refine (hne _ _ (fun z => hq ?_)).symm
    rw [← ix_kd k hk, z.1, z.2]
theorem wc_sI {v : Int32} {e : va_E} (hf : rdI f = cd) (h1 : cd < 14) (h2 : n < nk cd) (he : ob ad t (sI C f n v) cd n = e) : ∀ k, k < 171 → va_up (wc ad t C) (ix cd n) e k = wc ad t (sI C f n v) k := by
  refine wc_up h1 h2 he (fun cd' n' hne => ob_same cd' n' (fun g hg => ?_) (fun g hg => rfl) (fun _ _ => rfl))
  rw [sI_1, if_neg]
  rintro ⟨rfl, rfl⟩
  exact hne ⟨hg.symm.trans hf, rfl⟩
theorem wc_sJ {v : Int64} {e : va_E} (hf : rdJ f = cd) (h1 : cd < 14) (h2 : n < nk cd) (he : ob ad t (sJ C f n i v) cd n = e) : ∀ k, k < 171 → va_up (wc ad t C) (ix cd n) e k = wc ad t (sJ C f n i v) k := by
  refine wc_up h1 h2 he (fun cd' n' hne => ob_same cd' n' (fun g hg => rfl) (fun g hg => ?_) (fun _ _ => rfl))
  funext c
  rw [sJ_2, if_neg]
  rintro ⟨rfl, rfl, rfl⟩
  exact hne ⟨hg.symm.trans hf, rfl⟩
theorem wc_sR {r : Nat → Int64} {e : va_E} (hf : rdJ f = cd) (h1 : cd < 14) (h2 : n < nk cd) (he : ob ad t (sR C f n r) cd n = e) : ∀ k, k < 171 → va_up (wc ad t C) (ix cd n) e k = wc ad t (sR C f n r) k := by
  refine wc_up h1 h2 he (fun cd' n' hne => ob_same cd' n' (fun g hg => rfl) (fun g hg => ?_) (fun _ _ => rfl))
  funext c
  rw [sR_2, if_neg]
  rintro ⟨rfl, rfl⟩
  exact hne ⟨hg.symm.trans hf, rfl⟩
theorem wc_sA {m : Nat} {e : va_E} (he : ob ad t (sA C i m) 12 0 = e) : ∀ k, k < 171 → va_up (wc ad t C) (ix 12 0) e k = wc ad t (sA C i m) k := by
  refine wc_up (by decide) (by decide) he (fun cd' n' hne => ob_same cd' n' (fun g hg => rfl) (fun g hg => rfl) (fun h1 h2 => absurd ⟨h1, h2⟩ hne))
end State
section FieldRows
variable {Γ : GT} {cc : ByteArray} {own : String} {rm : Room} {nl : List (String × Nat × MethodName × String)} {kc ks pc index : Nat} {ad : Nat → Nat} {t : Nat → ClassId} {C : CS} {L : List (Option Value)} {st : List Value}
theorem gf_Cell_table (h : Cx Γ cc own rm TB CL (tyc t) nl) {n : Nat} (hlink : Cond.fieldLink own index "TriColourMachine$Cell" "table" "LTriColourMachine$Table;" ∈ TB) (hn : n < 16) (hd : decode cc pc = .ok (.getfield index, 3)) (k : G Γ kc ks 171 ad (wc ad t C) (pc + 3) L (.ref (ad (ix 5 n)) :: st)) : G Γ kc ks 171 ad (wc ad t C) pc L (.ref (ad (ix 4 n)) :: st) := g_get h i_Cell (ix 4 n) (ix_lt 4 (by decide) _ hn) (wc_at (by decide) hn) rfl 0 (by decide) hlink rfl hd k
theorem gf_Cell_coroutine (h : Cx Γ cc own rm TB CL (tyc t) nl) {n : Nat} (hlink : Cond.fieldLink own index "TriColourMachine$Cell" "coroutine" "LTriColourMachine$Coroutine;" ∈ TB) (hn : n < 16) (hd : decode cc pc = .ok (.getfield index, 3)) (k : G Γ kc ks 171 ad (wc ad t C) (pc + 3) L (.ref (ad (ix 8 n)) :: st)) : G Γ kc ks 171 ad (wc ad t C) pc L (.ref (ad (ix 4 n)) :: st) := g_get h i_Cell (ix 4 n) (ix_lt 4 (by decide) _ hn) (wc_at (by decide) hn) rfl 1 (by decide) hlink rfl hd k
theorem gf_Cell_kind (h : Cx Γ cc own rm TB CL (tyc t) nl) {n : Nat} (hlink : Cond.fieldLink own index "TriColourMachine$Cell" "kind" "I" ∈ TB) (hn : n < 16) (hd : decode cc pc = .ok (.getfield index, 3)) (k : G Γ kc ks 171 ad (wc ad t C) (pc + 3) L (.int (C.1 0 n) :: st)) : G Γ kc ks 171 ad (wc ad t C) pc L (.ref (ad (ix 4 n)) :: st) := g_get h i_Cell (ix 4 n) (ix_lt 4 (by decide) _ hn) (wc_at (by decide) hn) rfl 2 (by decide) hlink rfl hd k
theorem pf_Cell_kind (h : Cx Γ cc own rm TB CL (tyc t) nl) {n : Nat} {v : Int32} (hlink : Cond.fieldLink own index "TriColourMachine$Cell" "kind" "I" ∈ TB) (hn : n < 16) (hd : decode cc pc = .ok (.putfield index, 3)) (k : G Γ kc ks 171 ad (wc ad t (sI C 0 n v)) (pc + 3) L st) : G Γ kc ks 171 ad (wc ad t C) pc L (.int v :: .ref (ad (ix 4 n)) :: st) := g_put h i_Cell (ix 4 n) (ix_lt 4 (by decide) _ hn) (wc_at (by decide) hn) rfl 2 (by decide) t_Cell t_Cell_ok n_Cell hlink rfl rfl rfl (Nat.le_of_ble_eq_true rfl) hd (g_world (wc_sI rfl (by decide) hn (by simp [ob, sI_1, sI_2])) k)
theorem gf_Cell_colour (h : Cx Γ cc own rm TB CL (tyc t) nl) {n : Nat} (hlink : Cond.fieldLink own index "TriColourMachine$Cell" "colour" "I" ∈ TB) (hn : n < 16) (hd : decode cc pc = .ok (.getfield index, 3)) (k : G Γ kc ks 171 ad (wc ad t C) (pc + 3) L (.int (C.1 1 n) :: st)) : G Γ kc ks 171 ad (wc ad t C) pc L (.ref (ad (ix 4 n)) :: st) := g_get h i_Cell (ix 4 n) (ix_lt 4 (by decide) _ hn) (wc_at (by decide) hn) rfl 3 (by decide) hlink rfl hd k
theorem pf_Cell_colour (h : Cx Γ cc own rm TB CL (tyc t) nl) {n : Nat} {v : Int32} (hlink : Cond.fieldLink own index "TriColourMachine$Cell" "colour" "I" ∈ TB) (hn : n < 16) (hd : decode cc pc = .ok (.putfield index, 3)) (k : G Γ kc ks 171 ad (wc ad t (sI C 1 n v)) (pc + 3) L st) : G Γ kc ks 171 ad (wc ad t C) pc L (.int v :: .ref (ad (ix 4 n)) :: st) := g_put h i_Cell (ix 4 n) (ix_lt 4 (by decide) _ hn) (wc_at (by decide) hn) rfl 3 (by decide) t_Cell t_Cell_ok n_Cell hlink rfl rfl rfl (Nat.le_of_ble_eq_true rfl) hd (g_world (wc_sI rfl (by decide) hn (by simp [ob, sI_1, sI_2])) k)
theorem gf_Tab_keys (h : Cx Γ cc own rm TB CL (tyc t) nl) {n : Nat} (hlink : Cond.fieldLink own index "TriColourMachine$Table" "keys" "[J" ∈ TB) (hn : n < 16) (hd : decode cc pc = .ok (.getfield index, 3)) (k : G Γ kc ks 171 ad (wc ad t C) (pc + 3) L (.ref (ad (ix 6 n)) :: st)) : G Γ kc ks 171 ad (wc ad t C) pc L (.ref (ad (ix 5 n)) :: st) := g_get h i_Tab (ix 5 n) (ix_lt 5 (by decide) _ hn) (wc_at (by decide) hn) rfl 0 (by decide) hlink rfl hd k
theorem gf_Tab_values (h : Cx Γ cc own rm TB CL (tyc t) nl) {n : Nat} (hlink : Cond.fieldLink own index "TriColourMachine$Table" "values" "[J" ∈ TB) (hn : n < 16) (hd : decode cc pc = .ok (.getfield index, 3)) (k : G Γ kc ks 171 ad (wc ad t C) (pc + 3) L (.ref (ad (ix 7 n)) :: st)) : G Γ kc ks 171 ad (wc ad t C) pc L (.ref (ad (ix 5 n)) :: st) := g_get h i_Tab (ix 5 n) (ix_lt 5 (by decide) _ hn) (wc_at (by decide) hn) rfl 1 (by decide) hlink rfl hd k
theorem gf_Tab_pairs (h : Cx Γ cc own rm TB CL (tyc t) nl) {n : Nat} (hlink : Cond.fieldLink own index "TriColourMachine$Table" "pairs" "I" ∈ TB) (hn : n < 16) (hd : decode cc pc = .ok (.getfield index, 3)) (k : G Γ kc ks 171 ad (wc ad t C) (pc + 3) L (.int (C.1 2 n) :: st)) : G Γ kc ks 171 ad (wc ad t C) pc L (.ref (ad (ix 5 n)) :: st) := g_get h i_Tab (ix 5 n) (ix_lt 5 (by decide) _ hn) (wc_at (by decide) hn) rfl 2 (by decide) hlink rfl hd k
theorem pf_Tab_pairs (h : Cx Γ cc own rm TB CL (tyc t) nl) {n : Nat} {v : Int32} (hlink : Cond.fieldLink own index "TriColourMachine$Table" "pairs" "I" ∈ TB) (hn : n < 16) (hd : decode cc pc = .ok (.putfield index, 3)) (k : G Γ kc ks 171 ad (wc ad t (sI C 2 n v)) (pc + 3) L st) : G Γ kc ks 171 ad (wc ad t C) pc L (.int v :: .ref (ad (ix 5 n)) :: st) := g_put h i_Tab (ix 5 n) (ix_lt 5 (by decide) _ hn) (wc_at (by decide) hn) rfl 2 (by decide) t_Tab t_Tab_ok n_Tab hlink rfl rfl rfl (Nat.le_of_ble_eq_true rfl) hd (g_world (wc_sI rfl (by decide) hn (by simp [ob, sI_1, sI_2])) k)
theorem gf_Tab_meta (h : Cx Γ cc own rm TB CL (tyc t) nl) {n : Nat} (hlink : Cond.fieldLink own index "TriColourMachine$Table" "meta" "I" ∈ TB) (hn : n < 16) (hd : decode cc pc = .ok (.getfield index, 3)) (k : G Γ kc ks 171 ad (wc ad t C) (pc + 3) L (.int (C.1 3 n) :: st)) : G Γ kc ks 171 ad (wc ad t C) pc L (.ref (ad (ix 5 n)) :: st) := g_get h i_Tab (ix 5 n) (ix_lt 5 (by decide) _ hn) (wc_at (by decide) hn) rfl 3 (by decide) hlink rfl hd k
theorem pf_Tab_meta (h : Cx Γ cc own rm TB CL (tyc t) nl) {n : Nat} {v : Int32} (hlink : Cond.fieldLink own index "TriColourMachine$Table" "meta" "I" ∈ TB) (hn : n < 16) (hd : decode cc pc = .ok (.putfield index, 3)) (k : G Γ kc ks 171 ad (wc ad t (sI C 3 n v)) (pc + 3) L st) : G Γ kc ks 171 ad (wc ad t C) pc L (.int v :: .ref (ad (ix 5 n)) :: st) := g_put h i_Tab (ix 5 n) (ix_lt 5 (by decide) _ hn) (wc_at (by decide) hn) rfl 3 (by decide) t_Tab t_Tab_ok n_Tab hlink rfl rfl rfl (Nat.le_of_ble_eq_true rfl) hd (g_world (wc_sI rfl (by decide) hn (by simp [ob, sI_1, sI_2])) k)
theorem gf_Cor_registers (h : Cx Γ cc own rm TB CL (tyc t) nl) {n : Nat} (hlink : Cond.fieldLink own index "TriColourMachine$Coroutine" "registers" "[J" ∈ TB) (hn : n < 16) (hd : decode cc pc = .ok (.getfield index, 3)) (k : G Γ kc ks 171 ad (wc ad t C) (pc + 3) L (.ref (ad (ix 9 n)) :: st)) : G Γ kc ks 171 ad (wc ad t C) pc L (.ref (ad (ix 8 n)) :: st) := g_get h i_Cor (ix 8 n) (ix_lt 8 (by decide) _ hn) (wc_at (by decide) hn) rfl 0 (by decide) hlink rfl hd k
theorem gf_Cor_function (h : Cx Γ cc own rm TB CL (tyc t) nl) {n : Nat} (hlink : Cond.fieldLink own index "TriColourMachine$Coroutine" "function" "I" ∈ TB) (hn : n < 16) (hd : decode cc pc = .ok (.getfield index, 3)) (k : G Γ kc ks 171 ad (wc ad t C) (pc + 3) L (.int (C.1 4 n) :: st)) : G Γ kc ks 171 ad (wc ad t C) pc L (.ref (ad (ix 8 n)) :: st) := g_get h i_Cor (ix 8 n) (ix_lt 8 (by decide) _ hn) (wc_at (by decide) hn) rfl 1 (by decide) hlink rfl hd k
theorem pf_Cor_function (h : Cx Γ cc own rm TB CL (tyc t) nl) {n : Nat} {v : Int32} (hlink : Cond.fieldLink own index "TriColourMachine$Coroutine" "function" "I" ∈ TB) (hn : n < 16) (hd : decode cc pc = .ok (.putfield index, 3)) (k : G Γ kc ks 171 ad (wc ad t (sI C 4 n v)) (pc + 3) L st) : G Γ kc ks 171 ad (wc ad t C) pc L (.int v :: .ref (ad (ix 8 n)) :: st) := g_put h i_Cor (ix 8 n) (ix_lt 8 (by decide) _ hn) (wc_at (by decide) hn) rfl 1 (by decide) t_Cor t_Cor_ok n_Cor hlink rfl rfl rfl (Nat.le_of_ble_eq_true rfl) hd (g_world (wc_sI rfl (by decide) hn (by simp [ob, sI_1, sI_2])) k)
theorem gf_Cor_place (h : Cx Γ cc own rm TB CL (tyc t) nl) {n : Nat} (hlink : Cond.fieldLink own index "TriColourMachine$Coroutine" "place" "I" ∈ TB) (hn : n < 16) (hd : decode cc pc = .ok (.getfield index, 3)) (k : G Γ kc ks 171 ad (wc ad t C) (pc + 3) L (.int (C.1 5 n) :: st)) : G Γ kc ks 171 ad (wc ad t C) pc L (.ref (ad (ix 8 n)) :: st) := g_get h i_Cor (ix 8 n) (ix_lt 8 (by decide) _ hn) (wc_at (by decide) hn) rfl 2 (by decide) hlink rfl hd k
theorem pf_Cor_place (h : Cx Γ cc own rm TB CL (tyc t) nl) {n : Nat} {v : Int32} (hlink : Cond.fieldLink own index "TriColourMachine$Coroutine" "place" "I" ∈ TB) (hn : n < 16) (hd : decode cc pc = .ok (.putfield index, 3)) (k : G Γ kc ks 171 ad (wc ad t (sI C 5 n v)) (pc + 3) L st) : G Γ kc ks 171 ad (wc ad t C) pc L (.int v :: .ref (ad (ix 8 n)) :: st) := g_put h i_Cor (ix 8 n) (ix_lt 8 (by decide) _ hn) (wc_at (by decide) hn) rfl 2 (by decide) t_Cor t_Cor_ok n_Cor hlink rfl rfl rfl (Nat.le_of_ble_eq_true rfl) hd (g_world (wc_sI rfl (by decide) hn (by simp [ob, sI_1, sI_2])) k)
theorem gf_Cor_state (h : Cx Γ cc own rm TB CL (tyc t) nl) {n : Nat} (hlink : Cond.fieldLink own index "TriColourMachine$Coroutine" "state" "I" ∈ TB) (hn : n < 16) (hd : decode cc pc = .ok (.getfield index, 3)) (k : G Γ kc ks 171 ad (wc ad t C) (pc + 3) L (.int (C.1 6 n) :: st)) : G Γ kc ks 171 ad (wc ad t C) pc L (.ref (ad (ix 8 n)) :: st) := g_get h i_Cor (ix 8 n) (ix_lt 8 (by decide) _ hn) (wc_at (by decide) hn) rfl 3 (by decide) hlink rfl hd k
theorem pf_Cor_state (h : Cx Γ cc own rm TB CL (tyc t) nl) {n : Nat} {v : Int32} (hlink : Cond.fieldLink own index "TriColourMachine$Coroutine" "state" "I" ∈ TB) (hn : n < 16) (hd : decode cc pc = .ok (.putfield index, 3)) (k : G Γ kc ks 171 ad (wc ad t (sI C 6 n v)) (pc + 3) L st) : G Γ kc ks 171 ad (wc ad t C) pc L (.int v :: .ref (ad (ix 8 n)) :: st) := g_put h i_Cor (ix 8 n) (ix_lt 8 (by decide) _ hn) (wc_at (by decide) hn) rfl 3 (by decide) t_Cor t_Cor_ok n_Cor hlink rfl rfl rfl (Nat.le_of_ble_eq_true rfl) hd (g_world (wc_sI rfl (by decide) hn (by simp [ob, sI_1, sI_2])) k)
theorem gf_Cor_comesIn (h : Cx Γ cc own rm TB CL (tyc t) nl) {n : Nat} (hlink : Cond.fieldLink own index "TriColourMachine$Coroutine" "comesIn" "I" ∈ TB) (hn : n < 16) (hd : decode cc pc = .ok (.getfield index, 3)) (k : G Γ kc ks 171 ad (wc ad t C) (pc + 3) L (.int (C.1 7 n) :: st)) : G Γ kc ks 171 ad (wc ad t C) pc L (.ref (ad (ix 8 n)) :: st) := g_get h i_Cor (ix 8 n) (ix_lt 8 (by decide) _ hn) (wc_at (by decide) hn) rfl 4 (by decide) hlink rfl hd k
theorem pf_Cor_comesIn (h : Cx Γ cc own rm TB CL (tyc t) nl) {n : Nat} {v : Int32} (hlink : Cond.fieldLink own index "TriColourMachine$Coroutine" "comesIn" "I" ∈ TB) (hn : n < 16) (hd : decode cc pc = .ok (.putfield index, 3)) (k : G Γ kc ks 171 ad (wc ad t (sI C 7 n v)) (pc + 3) L st) : G Γ kc ks 171 ad (wc ad t C) pc L (.int v :: .ref (ad (ix 8 n)) :: st) := g_put h i_Cor (ix 8 n) (ix_lt 8 (by decide) _ hn) (wc_at (by decide) hn) rfl 4 (by decide) t_Cor t_Cor_ok n_Cor hlink rfl rfl rfl (Nat.le_of_ble_eq_true rfl) hd (g_world (wc_sI rfl (by decide) hn (by simp [ob, sI_1, sI_2])) k)
theorem gf_Cor_awaits (h : Cx Γ cc own rm TB CL (tyc t) nl) {n : Nat} (hlink : Cond.fieldLink own index "TriColourMachine$Coroutine" "awaits" "I" ∈ TB) (hn : n < 16) (hd : decode cc pc = .ok (.getfield index, 3)) (k : G Γ kc ks 171 ad (wc ad t C) (pc + 3) L (.int (C.1 8 n) :: st)) : G Γ kc ks 171 ad (wc ad t C) pc L (.ref (ad (ix 8 n)) :: st) := g_get h i_Cor (ix 8 n) (ix_lt 8 (by decide) _ hn) (wc_at (by decide) hn) rfl 5 (by decide) hlink rfl hd k
theorem pf_Cor_awaits (h : Cx Γ cc own rm TB CL (tyc t) nl) {n : Nat} {v : Int32} (hlink : Cond.fieldLink own index "TriColourMachine$Coroutine" "awaits" "I" ∈ TB) (hn : n < 16) (hd : decode cc pc = .ok (.putfield index, 3)) (k : G Γ kc ks 171 ad (wc ad t (sI C 8 n v)) (pc + 3) L st) : G Γ kc ks 171 ad (wc ad t C) pc L (.int v :: .ref (ad (ix 8 n)) :: st) := g_put h i_Cor (ix 8 n) (ix_lt 8 (by decide) _ hn) (wc_at (by decide) hn) rfl 5 (by decide) t_Cor t_Cor_ok n_Cor hlink rfl rfl rfl (Nat.le_of_ble_eq_true rfl) hd (g_world (wc_sI rfl (by decide) hn (by simp [ob, sI_1, sI_2])) k)
theorem gf_Heap_globals (h : Cx Γ cc own rm TB CL (tyc t) nl) (hlink : Cond.fieldLink own index "TriColourMachine$Heap" "globals" "[J" ∈ TB) (hd : decode cc pc = .ok (.getfield index, 3)) (k : G Γ kc ks 171 ad (wc ad t C) (pc + 3) L (.ref (ad (ix 2 0)) :: st)) : G Γ kc ks 171 ad (wc ad t C) pc L (.ref (ad (ix 1 0)) :: st) := g_get h i_Heap (ix 1 0) (ix_lt 1 (by decide) _ (by decide)) (wc_at (by decide) (by decide)) rfl 0 (by decide) hlink rfl hd k
theorem gf_Heap_cells (h : Cx Γ cc own rm TB CL (tyc t) nl) (hlink : Cond.fieldLink own index "TriColourMachine$Heap" "cells" "[LTriColourMachine$Cell;" ∈ TB) (hd : decode cc pc = .ok (.getfield index, 3)) (k : G Γ kc ks 171 ad (wc ad t C) (pc + 3) L (.ref (ad (ix 3 0)) :: st)) : G Γ kc ks 171 ad (wc ad t C) pc L (.ref (ad (ix 1 0)) :: st) := g_get h i_Heap (ix 1 0) (ix_lt 1 (by decide) _ (by decide)) (wc_at (by decide) (by decide)) rfl 1 (by decide) hlink rfl hd k
theorem gf_Heap_phase (h : Cx Γ cc own rm TB CL (tyc t) nl) (hlink : Cond.fieldLink own index "TriColourMachine$Heap" "phase" "I" ∈ TB) (hd : decode cc pc = .ok (.getfield index, 3)) (k : G Γ kc ks 171 ad (wc ad t C) (pc + 3) L (.int (C.1 13 0) :: st)) : G Γ kc ks 171 ad (wc ad t C) pc L (.ref (ad (ix 1 0)) :: st) := g_get h i_Heap (ix 1 0) (ix_lt 1 (by decide) _ (by decide)) (wc_at (by decide) (by decide)) rfl 2 (by decide) hlink rfl hd k
theorem pf_Heap_phase (h : Cx Γ cc own rm TB CL (tyc t) nl) {v : Int32} (hlink : Cond.fieldLink own index "TriColourMachine$Heap" "phase" "I" ∈ TB) (hd : decode cc pc = .ok (.putfield index, 3)) (k : G Γ kc ks 171 ad (wc ad t (sI C 13 0 v)) (pc + 3) L st) : G Γ kc ks 171 ad (wc ad t C) pc L (.int v :: .ref (ad (ix 1 0)) :: st) := g_put h i_Heap (ix 1 0) (ix_lt 1 (by decide) _ (by decide)) (wc_at (by decide) (by decide)) rfl 2 (by decide) t_Heap t_Heap_ok n_Heap hlink rfl rfl rfl (Nat.le_of_ble_eq_true rfl) hd (g_world (wc_sI rfl (by decide) (by decide) (by simp [ob, sI_1, sI_2])) k)
theorem gf_Heap_sweepFrom (h : Cx Γ cc own rm TB CL (tyc t) nl) (hlink : Cond.fieldLink own index "TriColourMachine$Heap" "sweepFrom" "I" ∈ TB) (hd : decode cc pc = .ok (.getfield index, 3)) (k : G Γ kc ks 171 ad (wc ad t C) (pc + 3) L (.int (C.1 14 0) :: st)) : G Γ kc ks 171 ad (wc ad t C) pc L (.ref (ad (ix 1 0)) :: st) := g_get h i_Heap (ix 1 0) (ix_lt 1 (by decide) _ (by decide)) (wc_at (by decide) (by decide)) rfl 3 (by decide) hlink rfl hd k
theorem pf_Heap_sweepFrom (h : Cx Γ cc own rm TB CL (tyc t) nl) {v : Int32} (hlink : Cond.fieldLink own index "TriColourMachine$Heap" "sweepFrom" "I" ∈ TB) (hd : decode cc pc = .ok (.putfield index, 3)) (k : G Γ kc ks 171 ad (wc ad t (sI C 14 0 v)) (pc + 3) L st) : G Γ kc ks 171 ad (wc ad t C) pc L (.int v :: .ref (ad (ix 1 0)) :: st) := g_put h i_Heap (ix 1 0) (ix_lt 1 (by decide) _ (by decide)) (wc_at (by decide) (by decide)) rfl 3 (by decide) t_Heap t_Heap_ok n_Heap hlink rfl rfl rfl (Nat.le_of_ble_eq_true rfl) hd (g_world (wc_sI rfl (by decide) (by decide) (by simp [ob, sI_1, sI_2])) k)
theorem gf_Heap_made (h : Cx Γ cc own rm TB CL (tyc t) nl) (hlink : Cond.fieldLink own index "TriColourMachine$Heap" "made" "I" ∈ TB) (hd : decode cc pc = .ok (.getfield index, 3)) (k : G Γ kc ks 171 ad (wc ad t C) (pc + 3) L (.int (C.1 15 0) :: st)) : G Γ kc ks 171 ad (wc ad t C) pc L (.ref (ad (ix 1 0)) :: st) := g_get h i_Heap (ix 1 0) (ix_lt 1 (by decide) _ (by decide)) (wc_at (by decide) (by decide)) rfl 4 (by decide) hlink rfl hd k
theorem pf_Heap_made (h : Cx Γ cc own rm TB CL (tyc t) nl) {v : Int32} (hlink : Cond.fieldLink own index "TriColourMachine$Heap" "made" "I" ∈ TB) (hd : decode cc pc = .ok (.putfield index, 3)) (k : G Γ kc ks 171 ad (wc ad t (sI C 15 0 v)) (pc + 3) L st) : G Γ kc ks 171 ad (wc ad t C) pc L (.int v :: .ref (ad (ix 1 0)) :: st) := g_put h i_Heap (ix 1 0) (ix_lt 1 (by decide) _ (by decide)) (wc_at (by decide) (by decide)) rfl 4 (by decide) t_Heap t_Heap_ok n_Heap hlink rfl rfl rfl (Nat.le_of_ble_eq_true rfl) hd (g_world (wc_sI rfl (by decide) (by decide) (by simp [ob, sI_1, sI_2])) k)
theorem gf_Heap_gone (h : Cx Γ cc own rm TB CL (tyc t) nl) (hlink : Cond.fieldLink own index "TriColourMachine$Heap" "gone" "I" ∈ TB) (hd : decode cc pc = .ok (.getfield index, 3)) (k : G Γ kc ks 171 ad (wc ad t C) (pc + 3) L (.int (C.1 16 0) :: st)) : G Γ kc ks 171 ad (wc ad t C) pc L (.ref (ad (ix 1 0)) :: st) := g_get h i_Heap (ix 1 0) (ix_lt 1 (by decide) _ (by decide)) (wc_at (by decide) (by decide)) rfl 5 (by decide) hlink rfl hd k
theorem pf_Heap_gone (h : Cx Γ cc own rm TB CL (tyc t) nl) {v : Int32} (hlink : Cond.fieldLink own index "TriColourMachine$Heap" "gone" "I" ∈ TB) (hd : decode cc pc = .ok (.putfield index, 3)) (k : G Γ kc ks 171 ad (wc ad t (sI C 16 0 v)) (pc + 3) L st) : G Γ kc ks 171 ad (wc ad t C) pc L (.int v :: .ref (ad (ix 1 0)) :: st) := g_put h i_Heap (ix 1 0) (ix_lt 1 (by decide) _ (by decide)) (wc_at (by decide) (by decide)) rfl 5 (by decide) t_Heap t_Heap_ok n_Heap hlink rfl rfl rfl (Nat.le_of_ble_eq_true rfl) hd (g_world (wc_sI rfl (by decide) (by decide) (by simp [ob, sI_1, sI_2])) k)
theorem gf_Heap_units (h : Cx Γ cc own rm TB CL (tyc t) nl) (hlink : Cond.fieldLink own index "TriColourMachine$Heap" "units" "I" ∈ TB) (hd : decode cc pc = .ok (.getfield index, 3)) (k : G Γ kc ks 171 ad (wc ad t C) (pc + 3) L (.int (C.1 17 0) :: st)) : G Γ kc ks 171 ad (wc ad t C) pc L (.ref (ad (ix 1 0)) :: st) := g_get h i_Heap (ix 1 0) (ix_lt 1 (by decide) _ (by decide)) (wc_at (by decide) (by decide)) rfl 6 (by decide) hlink rfl hd k
theorem pf_Heap_units (h : Cx Γ cc own rm TB CL (tyc t) nl) {v : Int32} (hlink : Cond.fieldLink own index "TriColourMachine$Heap" "units" "I" ∈ TB) (hd : decode cc pc = .ok (.putfield index, 3)) (k : G Γ kc ks 171 ad (wc ad t (sI C 17 0 v)) (pc + 3) L st) : G Γ kc ks 171 ad (wc ad t C) pc L (.int v :: .ref (ad (ix 1 0)) :: st) := g_put h i_Heap (ix 1 0) (ix_lt 1 (by decide) _ (by decide)) (wc_at (by decide) (by decide)) rfl 6 (by decide) t_Heap t_Heap_ok n_Heap hlink rfl rfl rfl (Nat.le_of_ble_eq_true rfl) hd (g_world (wc_sI rfl (by decide) (by decide) (by simp [ob, sI_1, sI_2])) k)
theorem gf_Heap_fullCollections (h : Cx Γ cc own rm TB CL (tyc t) nl) (hlink : Cond.fieldLink own index "TriColourMachine$Heap" "fullCollections" "I" ∈ TB) (hd : decode cc pc = .ok (.getfield index, 3)) (k : G Γ kc ks 171 ad (wc ad t C) (pc + 3) L (.int (C.1 18 0) :: st)) : G Γ kc ks 171 ad (wc ad t C) pc L (.ref (ad (ix 1 0)) :: st) := g_get h i_Heap (ix 1 0) (ix_lt 1 (by decide) _ (by decide)) (wc_at (by decide) (by decide)) rfl 7 (by decide) hlink rfl hd k
theorem pf_Heap_fullCollections (h : Cx Γ cc own rm TB CL (tyc t) nl) {v : Int32} (hlink : Cond.fieldLink own index "TriColourMachine$Heap" "fullCollections" "I" ∈ TB) (hd : decode cc pc = .ok (.putfield index, 3)) (k : G Γ kc ks 171 ad (wc ad t (sI C 18 0 v)) (pc + 3) L st) : G Γ kc ks 171 ad (wc ad t C) pc L (.int v :: .ref (ad (ix 1 0)) :: st) := g_put h i_Heap (ix 1 0) (ix_lt 1 (by decide) _ (by decide)) (wc_at (by decide) (by decide)) rfl 7 (by decide) t_Heap t_Heap_ok n_Heap hlink rfl rfl rfl (Nat.le_of_ble_eq_true rfl) hd (g_world (wc_sI rfl (by decide) (by decide) (by simp [ob, sI_1, sI_2])) k)
theorem gf_Heap_found (h : Cx Γ cc own rm TB CL (tyc t) nl) (hlink : Cond.fieldLink own index "TriColourMachine$Heap" "found" "J" ∈ TB) (hd : decode cc pc = .ok (.getfield index, 3)) (k : G Γ kc ks 171 ad (wc ad t C) (pc + 3) L (.long (C.2.1 4 0 0) :: st)) : G Γ kc ks 171 ad (wc ad t C) pc L (.ref (ad (ix 1 0)) :: st) := g_get h i_Heap (ix 1 0) (ix_lt 1 (by decide) _ (by decide)) (wc_at (by decide) (by decide)) rfl 8 (by decide) hlink rfl hd k
theorem pf_Heap_found (h : Cx Γ cc own rm TB CL (tyc t) nl) {v : Int64} (hlink : Cond.fieldLink own index "TriColourMachine$Heap" "found" "J" ∈ TB) (hd : decode cc pc = .ok (.putfield index, 3)) (k : G Γ kc ks 171 ad (wc ad t (sJ C 4 0 0 v)) (pc + 3) L st) : G Γ kc ks 171 ad (wc ad t C) pc L (.long v :: .ref (ad (ix 1 0)) :: st) := g_put h i_Heap (ix 1 0) (ix_lt 1 (by decide) _ (by decide)) (wc_at (by decide) (by decide)) rfl 8 (by decide) t_Heap t_Heap_ok n_Heap hlink rfl rfl rfl (Nat.le_of_ble_eq_true rfl) hd (g_world (wc_sJ rfl (by decide) (by decide) (by simp [ob, sJ_1, sJ_2])) k)
theorem gf_Pro_heap (h : Cx Γ cc own rm TB CL (tyc t) nl) (hlink : Cond.fieldLink own index "TriColourMachine$Processor" "heap" "LTriColourMachine$Heap;" ∈ TB) (hd : decode cc pc = .ok (.getfield index, 3)) (k : G Γ kc ks 171 ad (wc ad t C) (pc + 3) L (.ref (ad (ix 1 0)) :: st)) : G Γ kc ks 171 ad (wc ad t C) pc L (.ref (ad (ix 10 0)) :: st) := g_get h i_Pro (ix 10 0) (ix_lt 10 (by decide) _ (by decide)) (wc_at (by decide) (by decide)) rfl 0 (by decide) hlink rfl hd k
theorem gf_Pro_instructions (h : Cx Γ cc own rm TB CL (tyc t) nl) (hlink : Cond.fieldLink own index "TriColourMachine$Processor" "instructions" "[LTriColourMachine$Instruction;" ∈ TB) (hd : decode cc pc = .ok (.getfield index, 3)) (k : G Γ kc ks 171 ad (wc ad t C) (pc + 3) L (.ref (ad (ix 11 0)) :: st)) : G Γ kc ks 171 ad (wc ad t C) pc L (.ref (ad (ix 10 0)) :: st) := g_get h i_Pro (ix 10 0) (ix_lt 10 (by decide) _ (by decide)) (wc_at (by decide) (by decide)) rfl 1 (by decide) hlink rfl hd k
theorem gf_Pro_active (h : Cx Γ cc own rm TB CL (tyc t) nl) (hlink : Cond.fieldLink own index "TriColourMachine$Processor" "active" "[LTriColourMachine$Coroutine;" ∈ TB) (hd : decode cc pc = .ok (.getfield index, 3)) (k : G Γ kc ks 171 ad (wc ad t C) (pc + 3) L (.ref (ad (ix 12 0)) :: st)) : G Γ kc ks 171 ad (wc ad t C) pc L (.ref (ad (ix 10 0)) :: st) := g_get h i_Pro (ix 10 0) (ix_lt 10 (by decide) _ (by decide)) (wc_at (by decide) (by decide)) rfl 2 (by decide) hlink rfl hd k
theorem gf_Pro_depth (h : Cx Γ cc own rm TB CL (tyc t) nl) (hlink : Cond.fieldLink own index "TriColourMachine$Processor" "depth" "I" ∈ TB) (hd : decode cc pc = .ok (.getfield index, 3)) (k : G Γ kc ks 171 ad (wc ad t C) (pc + 3) L (.int (C.1 19 0) :: st)) : G Γ kc ks 171 ad (wc ad t C) pc L (.ref (ad (ix 10 0)) :: st) := g_get h i_Pro (ix 10 0) (ix_lt 10 (by decide) _ (by decide)) (wc_at (by decide) (by decide)) rfl 3 (by decide) hlink rfl hd k
theorem pf_Pro_depth (h : Cx Γ cc own rm TB CL (tyc t) nl) {v : Int32} (hlink : Cond.fieldLink own index "TriColourMachine$Processor" "depth" "I" ∈ TB) (hd : decode cc pc = .ok (.putfield index, 3)) (k : G Γ kc ks 171 ad (wc ad t (sI C 19 0 v)) (pc + 3) L st) : G Γ kc ks 171 ad (wc ad t C) pc L (.int v :: .ref (ad (ix 10 0)) :: st) := g_put h i_Pro (ix 10 0) (ix_lt 10 (by decide) _ (by decide)) (wc_at (by decide) (by decide)) rfl 3 (by decide) t_Pro t_Pro_ok n_Pro hlink rfl rfl rfl (Nat.le_of_ble_eq_true rfl) hd (g_world (wc_sI rfl (by decide) (by decide) (by simp [ob, sI_1, sI_2])) k)
theorem gf_Pro_begun (h : Cx Γ cc own rm TB CL (tyc t) nl) (hlink : Cond.fieldLink own index "TriColourMachine$Processor" "begun" "I" ∈ TB) (hd : decode cc pc = .ok (.getfield index, 3)) (k : G Γ kc ks 171 ad (wc ad t C) (pc + 3) L (.int (C.1 20 0) :: st)) : G Γ kc ks 171 ad (wc ad t C) pc L (.ref (ad (ix 10 0)) :: st) := g_get h i_Pro (ix 10 0) (ix_lt 10 (by decide) _ (by decide)) (wc_at (by decide) (by decide)) rfl 4 (by decide) hlink rfl hd k
theorem pf_Pro_begun (h : Cx Γ cc own rm TB CL (tyc t) nl) {v : Int32} (hlink : Cond.fieldLink own index "TriColourMachine$Processor" "begun" "I" ∈ TB) (hd : decode cc pc = .ok (.putfield index, 3)) (k : G Γ kc ks 171 ad (wc ad t (sI C 20 0 v)) (pc + 3) L st) : G Γ kc ks 171 ad (wc ad t C) pc L (.int v :: .ref (ad (ix 10 0)) :: st) := g_put h i_Pro (ix 10 0) (ix_lt 10 (by decide) _ (by decide)) (wc_at (by decide) (by decide)) rfl 4 (by decide) t_Pro t_Pro_ok n_Pro hlink rfl rfl rfl (Nat.le_of_ble_eq_true rfl) hd (g_world (wc_sI rfl (by decide) (by decide) (by simp [ob, sI_1, sI_2])) k)
theorem gf_Pro_nextPlace (h : Cx Γ cc own rm TB CL (tyc t) nl) (hlink : Cond.fieldLink own index "TriColourMachine$Processor" "nextPlace" "I" ∈ TB) (hd : decode cc pc = .ok (.getfield index, 3)) (k : G Γ kc ks 171 ad (wc ad t C) (pc + 3) L (.int (C.1 21 0) :: st)) : G Γ kc ks 171 ad (wc ad t C) pc L (.ref (ad (ix 10 0)) :: st) := g_get h i_Pro (ix 10 0) (ix_lt 10 (by decide) _ (by decide)) (wc_at (by decide) (by decide)) rfl 5 (by decide) hlink rfl hd k
theorem pf_Pro_nextPlace (h : Cx Γ cc own rm TB CL (tyc t) nl) {v : Int32} (hlink : Cond.fieldLink own index "TriColourMachine$Processor" "nextPlace" "I" ∈ TB) (hd : decode cc pc = .ok (.putfield index, 3)) (k : G Γ kc ks 171 ad (wc ad t (sI C 21 0 v)) (pc + 3) L st) : G Γ kc ks 171 ad (wc ad t C) pc L (.int v :: .ref (ad (ix 10 0)) :: st) := g_put h i_Pro (ix 10 0) (ix_lt 10 (by decide) _ (by decide)) (wc_at (by decide) (by decide)) rfl 5 (by decide) t_Pro t_Pro_ok n_Pro hlink rfl rfl rfl (Nat.le_of_ble_eq_true rfl) hd (g_world (wc_sI rfl (by decide) (by decide) (by simp [ob, sI_1, sI_2])) k)
theorem gf_Pro_outcome (h : Cx Γ cc own rm TB CL (tyc t) nl) (hlink : Cond.fieldLink own index "TriColourMachine$Processor" "outcome" "J" ∈ TB) (hd : decode cc pc = .ok (.getfield index, 3)) (k : G Γ kc ks 171 ad (wc ad t C) (pc + 3) L (.long (C.2.1 5 0 0) :: st)) : G Γ kc ks 171 ad (wc ad t C) pc L (.ref (ad (ix 10 0)) :: st) := g_get h i_Pro (ix 10 0) (ix_lt 10 (by decide) _ (by decide)) (wc_at (by decide) (by decide)) rfl 6 (by decide) hlink rfl hd k
theorem pf_Pro_outcome (h : Cx Γ cc own rm TB CL (tyc t) nl) {v : Int64} (hlink : Cond.fieldLink own index "TriColourMachine$Processor" "outcome" "J" ∈ TB) (hd : decode cc pc = .ok (.putfield index, 3)) (k : G Γ kc ks 171 ad (wc ad t (sJ C 5 0 0 v)) (pc + 3) L st) : G Γ kc ks 171 ad (wc ad t C) pc L (.long v :: .ref (ad (ix 10 0)) :: st) := g_put h i_Pro (ix 10 0) (ix_lt 10 (by decide) _ (by decide)) (wc_at (by decide) (by decide)) rfl 6 (by decide) t_Pro t_Pro_ok n_Pro hlink rfl rfl rfl (Nat.le_of_ble_eq_true rfl) hd (g_world (wc_sJ rfl (by decide) (by decide) (by simp [ob, sJ_1, sJ_2])) k)
theorem gf_TCM_processor (h : Cx Γ cc own rm TB CL (tyc t) nl) (hlink : Cond.fieldLink own index "TriColourMachine" "processor" "LTriColourMachine$Processor;" ∈ TB) (hd : decode cc pc = .ok (.getfield index, 3)) (k : G Γ kc ks 171 ad (wc ad t C) (pc + 3) L (.ref (ad (ix 10 0)) :: st)) : G Γ kc ks 171 ad (wc ad t C) pc L (.ref (ad (ix 0 0)) :: st) := g_get h i_TCM (ix 0 0) (ix_lt 0 (by decide) _ (by decide)) (wc_at (by decide) (by decide)) rfl 0 (by decide) hlink rfl hd k
theorem gf_TCM_heap (h : Cx Γ cc own rm TB CL (tyc t) nl) (hlink : Cond.fieldLink own index "TriColourMachine" "heap" "LTriColourMachine$Heap;" ∈ TB) (hd : decode cc pc = .ok (.getfield index, 3)) (k : G Γ kc ks 171 ad (wc ad t C) (pc + 3) L (.ref (ad (ix 1 0)) :: st)) : G Γ kc ks 171 ad (wc ad t C) pc L (.ref (ad (ix 0 0)) :: st) := g_get h i_TCM (ix 0 0) (ix_lt 0 (by decide) _ (by decide)) (wc_at (by decide) (by decide)) rfl 1 (by decide) hlink rfl hd k
theorem gf_Ins_op (h : Cx Γ cc own rm TB CL (tyc t) nl) {n : Nat} (hlink : Cond.fieldLink own index "TriColourMachine$Instruction" "op" "I" ∈ TB) (hn : n < 68) (hd : decode cc pc = .ok (.getfield index, 3)) (k : G Γ kc ks 171 ad (wc ad t C) (pc + 3) L (.int (C.1 9 n) :: st)) : G Γ kc ks 171 ad (wc ad t C) pc L (.ref (ad (ix 13 n)) :: st) := g_get h i_Ins (ix 13 n) (ix_lt 13 (by decide) _ hn) (wc_at (by decide) hn) rfl 0 (by decide) hlink rfl hd k
theorem pf_Ins_op (h : Cx Γ cc own rm TB CL (tyc t) nl) {n : Nat} {v : Int32} (hlink : Cond.fieldLink own index "TriColourMachine$Instruction" "op" "I" ∈ TB) (hn : n < 68) (hd : decode cc pc = .ok (.putfield index, 3)) (k : G Γ kc ks 171 ad (wc ad t (sI C 9 n v)) (pc + 3) L st) : G Γ kc ks 171 ad (wc ad t C) pc L (.int v :: .ref (ad (ix 13 n)) :: st) := g_put h i_Ins (ix 13 n) (ix_lt 13 (by decide) _ hn) (wc_at (by decide) hn) rfl 0 (by decide) t_Ins t_Ins_ok n_Ins hlink rfl rfl rfl (Nat.le_of_ble_eq_true rfl) hd (g_world (wc_sI rfl (by decide) hn (by simp [ob, sI_1, sI_2])) k)
theorem gf_Ins_a (h : Cx Γ cc own rm TB CL (tyc t) nl) {n : Nat} (hlink : Cond.fieldLink own index "TriColourMachine$Instruction" "a" "I" ∈ TB) (hn : n < 68) (hd : decode cc pc = .ok (.getfield index, 3)) (k : G Γ kc ks 171 ad (wc ad t C) (pc + 3) L (.int (C.1 10 n) :: st)) : G Γ kc ks 171 ad (wc ad t C) pc L (.ref (ad (ix 13 n)) :: st) := g_get h i_Ins (ix 13 n) (ix_lt 13 (by decide) _ hn) (wc_at (by decide) hn) rfl 1 (by decide) hlink rfl hd k
theorem pf_Ins_a (h : Cx Γ cc own rm TB CL (tyc t) nl) {n : Nat} {v : Int32} (hlink : Cond.fieldLink own index "TriColourMachine$Instruction" "a" "I" ∈ TB) (hn : n < 68) (hd : decode cc pc = .ok (.putfield index, 3)) (k : G Γ kc ks 171 ad (wc ad t (sI C 10 n v)) (pc + 3) L st) : G Γ kc ks 171 ad (wc ad t C) pc L (.int v :: .ref (ad (ix 13 n)) :: st) := g_put h i_Ins (ix 13 n) (ix_lt 13 (by decide) _ hn) (wc_at (by decide) hn) rfl 1 (by decide) t_Ins t_Ins_ok n_Ins hlink rfl rfl rfl (Nat.le_of_ble_eq_true rfl) hd (g_world (wc_sI rfl (by decide) hn (by simp [ob, sI_1, sI_2])) k)
theorem gf_Ins_b (h : Cx Γ cc own rm TB CL (tyc t) nl) {n : Nat} (hlink : Cond.fieldLink own index "TriColourMachine$Instruction" "b" "I" ∈ TB) (hn : n < 68) (hd : decode cc pc = .ok (.getfield index, 3)) (k : G Γ kc ks 171 ad (wc ad t C) (pc + 3) L (.int (C.1 11 n) :: st)) : G Γ kc ks 171 ad (wc ad t C) pc L (.ref (ad (ix 13 n)) :: st) := g_get h i_Ins (ix 13 n) (ix_lt 13 (by decide) _ hn) (wc_at (by decide) hn) rfl 2 (by decide) hlink rfl hd k
theorem pf_Ins_b (h : Cx Γ cc own rm TB CL (tyc t) nl) {n : Nat} {v : Int32} (hlink : Cond.fieldLink own index "TriColourMachine$Instruction" "b" "I" ∈ TB) (hn : n < 68) (hd : decode cc pc = .ok (.putfield index, 3)) (k : G Γ kc ks 171 ad (wc ad t (sI C 11 n v)) (pc + 3) L st) : G Γ kc ks 171 ad (wc ad t C) pc L (.int v :: .ref (ad (ix 13 n)) :: st) := g_put h i_Ins (ix 13 n) (ix_lt 13 (by decide) _ hn) (wc_at (by decide) hn) rfl 2 (by decide) t_Ins t_Ins_ok n_Ins hlink rfl rfl rfl (Nat.le_of_ble_eq_true rfl) hd (g_world (wc_sI rfl (by decide) hn (by simp [ob, sI_1, sI_2])) k)
theorem gf_Ins_c (h : Cx Γ cc own rm TB CL (tyc t) nl) {n : Nat} (hlink : Cond.fieldLink own index "TriColourMachine$Instruction" "c" "I" ∈ TB) (hn : n < 68) (hd : decode cc pc = .ok (.getfield index, 3)) (k : G Γ kc ks 171 ad (wc ad t C) (pc + 3) L (.int (C.1 12 n) :: st)) : G Γ kc ks 171 ad (wc ad t C) pc L (.ref (ad (ix 13 n)) :: st) := g_get h i_Ins (ix 13 n) (ix_lt 13 (by decide) _ hn) (wc_at (by decide) hn) rfl 3 (by decide) hlink rfl hd k
theorem pf_Ins_c (h : Cx Γ cc own rm TB CL (tyc t) nl) {n : Nat} {v : Int32} (hlink : Cond.fieldLink own index "TriColourMachine$Instruction" "c" "I" ∈ TB) (hn : n < 68) (hd : decode cc pc = .ok (.putfield index, 3)) (k : G Γ kc ks 171 ad (wc ad t (sI C 12 n v)) (pc + 3) L st) : G Γ kc ks 171 ad (wc ad t C) pc L (.int v :: .ref (ad (ix 13 n)) :: st) := g_put h i_Ins (ix 13 n) (ix_lt 13 (by decide) _ hn) (wc_at (by decide) hn) rfl 3 (by decide) t_Ins t_Ins_ok n_Ins hlink rfl rfl rfl (Nat.le_of_ble_eq_true rfl) hd (g_world (wc_sI rfl (by decide) hn (by simp [ob, sI_1, sI_2])) k)
theorem ga_glo (h : Cx Γ cc own rm TB CL (tyc t) nl) {j : Nat} {i : Int32} (hi : i = nI j) (hj : j < 6) (hd : decode cc pc = .ok (.laload, 1)) (k : G Γ kc ks 171 ad (wc ad t C) (pc + 1) L (.long (C.2.1 0 0 j) :: st)) : G Γ kc ks 171 ad (wc ad t C) pc L (.int i :: .ref (ad (ix 2 0)) :: st) := by
  subst hi
  have hc : (nI j).toNatClampNeg = j := nI_clamp (by omega)
  refine g_laload h (ix 2 0) 0 (ix_lt 2 (by decide) _ (by decide)) (wc_at (by decide) (by decide)) rfl (vp_in_nI hj (by decide)) hd ?_
  rw [hc]; exact k
theorem pa_glo (h : Cx Γ cc own rm TB CL (tyc t) nl) {j : Nat} {i : Int32} {v : Int64} (hi : i = nI j) (hj : j < 6) (hd : decode cc pc = .ok (.lastore, 1)) (k : G Γ kc ks 171 ad (wc ad t (sJ C 0 0 j v)) (pc + 1) L st) : G Γ kc ks 171 ad (wc ad t C) pc L (.long v :: .int i :: .ref (ad (ix 2 0)) :: st) := by
  subst hi
  have hc : (nI j).toNatClampNeg = j := nI_clamp (by omega)
  refine g_lastore h (ix 2 0) 0 (ix_lt 2 (by decide) _ (by decide)) (wc_at (by decide) (by decide)) rfl (vp_in_nI hj (by decide)) hd ?_
  rw [hc]
  refine g_world (wc_sJ (f := 0) rfl (by decide) (by decide) ?_) k
  have e : (sJ C 0 0 j v).2.1 0 0 = vp_updL (C.2.1 0 0) j v := by
    funext c
    simp [sJ_2, vp_updL]
  show Sum.inl (t 0, 6, Sum.inr (Sum.inl ((sJ C 0 0 j v).2.1 0 0))) = _
  rw [e]
theorem ga_keys (h : Cx Γ cc own rm TB CL (tyc t) nl) {n j : Nat} {i : Int32} (hn : n < 16) (hi : i = nI j) (hj : j < 6) (hd : decode cc pc = .ok (.laload, 1)) (k : G Γ kc ks 171 ad (wc ad t C) (pc + 1) L (.long (C.2.1 1 n j) :: st)) : G Γ kc ks 171 ad (wc ad t C) pc L (.int i :: .ref (ad (ix 6 n)) :: st) := by
  subst hi
  have hc : (nI j).toNatClampNeg = j := nI_clamp (by omega)
  refine g_laload h (ix 6 n) 0 (ix_lt 6 (by decide) _ hn) (wc_at (by decide) hn) rfl (vp_in_nI hj (by decide)) hd ?_
  rw [hc]; exact k
theorem pa_keys (h : Cx Γ cc own rm TB CL (tyc t) nl) {n j : Nat} {i : Int32} {v : Int64} (hn : n < 16) (hi : i = nI j) (hj : j < 6) (hd : decode cc pc = .ok (.lastore, 1)) (k : G Γ kc ks 171 ad (wc ad t (sJ C 1 n j v)) (pc + 1) L st) : G Γ kc ks 171 ad (wc ad t C) pc L (.long v :: .int i :: .ref (ad (ix 6 n)) :: st) := by
  subst hi
  have hc : (nI j).toNatClampNeg = j := nI_clamp (by omega)
  refine g_lastore h (ix 6 n) 0 (ix_lt 6 (by decide) _ hn) (wc_at (by decide) hn) rfl (vp_in_nI hj (by decide)) hd ?_
  rw [hc]
  refine g_world (wc_sJ (f := 1) rfl (by decide) hn ?_) k
  have e : (sJ C 1 n j v).2.1 1 n = vp_updL (C.2.1 1 n) j v := by
    funext c
    simp [sJ_2, vp_updL]
  show Sum.inl (t 0, 6, Sum.inr (Sum.inl ((sJ C 1 n j v).2.1 1 n))) = _
  rw [e]
theorem ga_vals (h : Cx Γ cc own rm TB CL (tyc t) nl) {n j : Nat} {i : Int32} (hn : n < 16) (hi : i = nI j) (hj : j < 6) (hd : decode cc pc = .ok (.laload, 1)) (k : G Γ kc ks 171 ad (wc ad t C) (pc + 1) L (.long (C.2.1 2 n j) :: st)) : G Γ kc ks 171 ad (wc ad t C) pc L (.int i :: .ref (ad (ix 7 n)) :: st) := by
  subst hi
  have hc : (nI j).toNatClampNeg = j := nI_clamp (by omega)
  refine g_laload h (ix 7 n) 0 (ix_lt 7 (by decide) _ hn) (wc_at (by decide) hn) rfl (vp_in_nI hj (by decide)) hd ?_
  rw [hc]; exact k
theorem pa_vals (h : Cx Γ cc own rm TB CL (tyc t) nl) {n j : Nat} {i : Int32} {v : Int64} (hn : n < 16) (hi : i = nI j) (hj : j < 6) (hd : decode cc pc = .ok (.lastore, 1)) (k : G Γ kc ks 171 ad (wc ad t (sJ C 2 n j v)) (pc + 1) L st) : G Γ kc ks 171 ad (wc ad t C) pc L (.long v :: .int i :: .ref (ad (ix 7 n)) :: st) := by
  subst hi
  have hc : (nI j).toNatClampNeg = j := nI_clamp (by omega)
  refine g_lastore h (ix 7 n) 0 (ix_lt 7 (by decide) _ hn) (wc_at (by decide) hn) rfl (vp_in_nI hj (by decide)) hd ?_
  rw [hc]
  refine g_world (wc_sJ (f := 2) rfl (by decide) hn ?_) k
  have e : (sJ C 2 n j v).2.1 2 n = vp_updL (C.2.1 2 n) j v := by
    funext c
    simp [sJ_2, vp_updL]
  show Sum.inl (t 0, 6, Sum.inr (Sum.inl ((sJ C 2 n j v).2.1 2 n))) = _
  rw [e]
theorem ga_regs (h : Cx Γ cc own rm TB CL (tyc t) nl) {n j : Nat} {i : Int32} (hn : n < 16) (hi : i = nI j) (hj : j < 4) (hd : decode cc pc = .ok (.laload, 1)) (k : G Γ kc ks 171 ad (wc ad t C) (pc + 1) L (.long (C.2.1 3 n j) :: st)) : G Γ kc ks 171 ad (wc ad t C) pc L (.int i :: .ref (ad (ix 9 n)) :: st) := by
  subst hi
  have hc : (nI j).toNatClampNeg = j := nI_clamp (by omega)
  refine g_laload h (ix 9 n) 0 (ix_lt 9 (by decide) _ hn) (wc_at (by decide) hn) rfl (vp_in_nI hj (by decide)) hd ?_
  rw [hc]; exact k
theorem pa_regs (h : Cx Γ cc own rm TB CL (tyc t) nl) {n j : Nat} {i : Int32} {v : Int64} (hn : n < 16) (hi : i = nI j) (hj : j < 4) (hd : decode cc pc = .ok (.lastore, 1)) (k : G Γ kc ks 171 ad (wc ad t (sJ C 3 n j v)) (pc + 1) L st) : G Γ kc ks 171 ad (wc ad t C) pc L (.long v :: .int i :: .ref (ad (ix 9 n)) :: st) := by
  subst hi
  have hc : (nI j).toNatClampNeg = j := nI_clamp (by omega)
  refine g_lastore h (ix 9 n) 0 (ix_lt 9 (by decide) _ hn) (wc_at (by decide) hn) rfl (vp_in_nI hj (by decide)) hd ?_
  rw [hc]
  refine g_world (wc_sJ (f := 3) rfl (by decide) hn ?_) k
  have e : (sJ C 3 n j v).2.1 3 n = vp_updL (C.2.1 3 n) j v := by
    funext c
    simp [sJ_2, vp_updL]
  show Sum.inl (t 0, 4, Sum.inr (Sum.inl ((sJ C 3 n j v).2.1 3 n))) = _
  rw [e]
theorem ga_cells (h : Cx Γ cc own rm TB CL (tyc t) nl) {j : Nat} {i : Int32} (hi : i = nI j) (hj : j < 16) (hd : decode cc pc = .ok (.aaload, 1)) (k : G Γ kc ks 171 ad (wc ad t C) (pc + 1) L (.ref (ad (ix 4 j)) :: st)) : G Γ kc ks 171 ad (wc ad t C) pc L (.int i :: .ref (ad (ix 3 0)) :: st) := by
  subst hi
  have hc : (nI j).toNatClampNeg = j := nI_clamp (by omega)
  refine g_aaload h (ix 3 0) 1 (ix_lt 3 (by decide) _ (by decide)) (wc_at (by decide) (by decide)) rfl (vp_in_nI hj (by decide)) hd ?_
  rw [hc]; exact k
theorem ga_ins (h : Cx Γ cc own rm TB CL (tyc t) nl) {j : Nat} {i : Int32} (hi : i = nI j) (hj : j < 68) (hd : decode cc pc = .ok (.aaload, 1)) (k : G Γ kc ks 171 ad (wc ad t C) (pc + 1) L (.ref (ad (ix 13 j)) :: st)) : G Γ kc ks 171 ad (wc ad t C) pc L (.int i :: .ref (ad (ix 11 0)) :: st) := by
  subst hi
  have hc : (nI j).toNatClampNeg = j := nI_clamp (by omega)
  refine g_aaload h (ix 11 0) 2 (ix_lt 11 (by decide) _ (by decide)) (wc_at (by decide) (by decide)) rfl (vp_in_nI hj (by decide)) hd ?_
  rw [hc]; exact k
theorem ga_act (h : Cx Γ cc own rm TB CL (tyc t) nl) {j m : Nat} {i : Int32} (hi : i = nI j) (hj : j < 5) (hm : C.2.2 j = some m) (hd : decode cc pc = .ok (.aaload, 1)) (k : G Γ kc ks 171 ad (wc ad t C) (pc + 1) L (.ref (ad (ix 8 m)) :: st)) : G Γ kc ks 171 ad (wc ad t C) pc L (.int i :: .ref (ad (ix 12 0)) :: st) := by
  subst hi
  have hc : (nI j).toNatClampNeg = j := nI_clamp (by omega)
  refine g_aaload h (ix 12 0) 3 (ix_lt 12 (by decide) _ (by decide)) (wc_at (by decide) (by decide)) rfl (vp_in_nI hj (by decide)) hd ?_
  rw [hc]
  simp only [if_true, hm, Option.map_some]
  exact k
theorem pa_act (h : Cx Γ cc own rm TB CL (tyc t) nl) {j m : Nat} {i : Int32} (hi : i = nI j) (hj : j < 5) (hm : m < 16) (hd : decode cc pc = .ok (.aastore, 1)) (k : G Γ kc ks 171 ad (wc ad t (sA C j m)) (pc + 1) L st) : G Γ kc ks 171 ad (wc ad t C) pc L (.ref (ad (ix 8 m)) :: .int i :: .ref (ad (ix 12 0)) :: st) := by
  subst hi
  have hc : (nI j).toNatClampNeg = j := nI_clamp (by omega)
  refine g_aastore h (ix 12 0) 3 (ix 8 m) (ix_lt 12 (by decide) _ (by decide)) (ix_lt 8 (by decide) _ hm) (wc_at (by decide) (by decide)) rfl (wc_at (cd := 8) (by decide) hm) rfl (vp_in_nI hj (by decide)) hd ?_
  rw [hc]
  refine g_world (wc_sA ?_) k
  have e : (fun i => if (0 : Nat) = 0 then ((sA C j m).2.2 i).map (fun m => ad (ix 8 m)) else none) = va_up (fun i => if (0 : Nat) = 0 then (C.2.2 i).map (fun m => ad (ix 8 m)) else none) j (some (ad (ix 8 m))) := by
    funext c
    by_cases hq : c = j
    · simp [sA_3, va_up, hq]
    · simp [sA_3, va_up, hq]
  show Sum.inl (t 3, 5, Sum.inr (Sum.inr (Sum.inr (Sum.inr (fun i => if (0 : Nat) = 0 then ((sA C j m).2.2 i).map (fun m => ad (ix 8 m)) else none))))) = _
  rw [e]
end FieldRows
end

-- part 08.calls
section
/-! calls of methods whose contracts say just one answer and one world -/
def NL : List (String × Nat × MethodName × String) := [("TriColourMachine$Heap", 52, y_Cell_init, "TriColourMachine"), ("TriColourMachine$Cell", 11, y_Tab_init, "TriColourMachine"), ("TriColourMachine$Cell", 20, y_Cor_init, "TriColourMachine"), ("TriColourMachine$Processor", 43, y_Ins_init, "TriColourMachine"), ("TriColourMachine$Heap", 55, y_TCM_numberOf, "TriColourMachine"), ("TriColourMachine$Processor", 71, y_TCM_numberOf, "TriColourMachine"), ("TriColourMachine$Processor", 165, y_TCM_isNumber, "TriColourMachine")]
/-- the contract of a method of the class: from C it answers v0 and leaves C2 -/
abbrev Cd (l : Launch) (D : va_G) (t : Nat → ClassId) (ad : Nat → Nat) (y : MethodName) (b : ByteArray) (n : Nat) (ret : Option FieldType) (rm : Room) (As : List Value) (C : CS) (v0 : Option Value) (C2 : CS) : Prop := Ct l D CL (tyc t) NL 171 ad y (.code y b n ret :: TB) rm As (wc ad t C) (fun v σ2 => v = v0 ∧ σ2 = wc ad t C2)
section DRows
variable {Γ : GT} {cc : ByteArray} {own : String} {rm : Room} {Ts : List Cond} {cl : List vw_C} {tys : List (ClassId × FieldType)} {nl : List (String × Nat × MethodName × String)} {kc ks N pc : Nat} {ad : Nat → Nat} {σ σ' : Nat → va_E} {L : List (Option Value)} {st rest : List Value}
variable {y : MethodName} {bytes : ByteArray} {maxL n index : Nat} {ret : Option FieldType} {rmY : Room} {As : List Value}
theorem g_dVi (h : Cx Γ cc own rm Ts cl tys nl) (hG : GoodIn Ts Ts) {C : String} {T : u_T} {nf ci q : Nat} {fs : List Value} {x : Int32} (hM : Ct (gL Γ) (gD Γ) cl tys nl N ad y (.code y bytes maxL ret :: Ts) rmY (.ref (ad q) :: As) σ (fun v σ2 => v = some (.int x) ∧ σ2 = σ')) (hq : q < N) (he : σ q = .inr (ci, fs)) (hc : cl[ci]? = some (C, T, nf)) (hw : ∀ w ∈ cwsV own index C y bytes maxL ret, w ∈ Ts) (hd0 : cNm y C n) (hn : As.length = n) (hroom : cRm rmY rm maxL kc ks) (hst : st = As.reverse ++ .ref (ad q) :: rest) (hrest : (rest.map fun v => v.category).sum ≤ 8) (hd : decode cc pc = .ok (.invokevirtual index, 3)) (k : G Γ kc ks N ad σ' (pc + 3) L (.int x :: rest)) : G Γ kc ks N ad σ pc L st := g_callV h hG hM hq he hc hw hd0 hn hroom hst hrest hd (fun v σ2 hv => by obtain ⟨rfl, rfl⟩ := hv; exact k)
theorem g_dSi (h : Cx Γ cc own rm Ts cl tys nl) (hG : GoodIn Ts Ts) {x : Int32} (hM : Ct (gL Γ) (gD Γ) cl tys nl N ad y (.code y bytes maxL ret :: Ts) rmY As σ (fun v σ2 => v = some (.int x) ∧ σ2 = σ')) (hw : ∀ w ∈ cwsS own index y bytes maxL ret, w ∈ Ts) (hd0 : cNm y y.cls n) (hn : As.length = n) (hroom : cRm rmY rm maxL kc ks) (hst : st = As.reverse ++ rest) (hrest : (rest.map fun v => v.category).sum ≤ 8) (hd : decode cc pc = .ok (.invokestatic index, 3)) (k : G Γ kc ks N ad σ' (pc + 3) L (.int x :: rest)) : G Γ kc ks N ad σ pc L st := g_callS h hG hM hw hd0 hn hroom hst hrest hd (fun v σ2 hv => by obtain ⟨rfl, rfl⟩ := hv; exact k)
theorem g_dNi (h : Cx Γ cc own rm Ts cl tys nl) (hG : GoodIn Ts Ts) {host : String} {x : Int32} (hM : Ct (gL Γ) (gD Γ) cl tys nl N ad y (.code y bytes maxL ret :: Ts) rmY As σ (fun v σ2 => v = some (.int x) ∧ σ2 = σ')) (hnl : (own, index, y, host) ∈ nl) (hcd : Cond.code y bytes maxL ret ∈ Ts) (hini : Cond.initialized y.cls ∈ Ts) (hst0 : Cond.static y ∈ Ts) (hd0 : cNm y y.cls n) (hn : As.length = n) (hroom : cRm rmY rm maxL kc ks) (hst : st = As.reverse ++ rest) (hrest : (rest.map fun v => v.category).sum ≤ 8) (hd : decode cc pc = .ok (.invokestatic index, 3)) (k : G Γ kc ks N ad σ' (pc + 3) L (.int x :: rest)) : G Γ kc ks N ad σ pc L st := g_callSN h hG hM hnl hcd hini hst0 hd0 hn hroom hst hrest hd (fun v σ2 hv => by obtain ⟨rfl, rfl⟩ := hv; exact k)
theorem g_dVl (h : Cx Γ cc own rm Ts cl tys nl) (hG : GoodIn Ts Ts) {C : String} {T : u_T} {nf ci q : Nat} {fs : List Value} {x : Int64} (hM : Ct (gL Γ) (gD Γ) cl tys nl N ad y (.code y bytes maxL ret :: Ts) rmY (.ref (ad q) :: As) σ (fun v σ2 => v = some (.long x) ∧ σ2 = σ')) (hq : q < N) (he : σ q = .inr (ci, fs)) (hc : cl[ci]? = some (C, T, nf)) (hw : ∀ w ∈ cwsV own index C y bytes maxL ret, w ∈ Ts) (hd0 : cNm y C n) (hn : As.length = n) (hroom : cRm rmY rm maxL kc ks) (hst : st = As.reverse ++ .ref (ad q) :: rest) (hrest : (rest.map fun v => v.category).sum ≤ 8) (hd : decode cc pc = .ok (.invokevirtual index, 3)) (k : G Γ kc ks N ad σ' (pc + 3) L (.long x :: rest)) : G Γ kc ks N ad σ pc L st := g_callV h hG hM hq he hc hw hd0 hn hroom hst hrest hd (fun v σ2 hv => by obtain ⟨rfl, rfl⟩ := hv; exact k)
theorem g_dSl (h : Cx Γ cc own rm Ts cl tys nl) (hG : GoodIn Ts Ts) {x : Int64} (hM : Ct (gL Γ) (gD Γ) cl tys nl N ad y (.code y bytes maxL ret :: Ts) rmY As σ (fun v σ2 => v = some (.long x) ∧ σ2 = σ')) (hw : ∀ w ∈ cwsS own index y bytes maxL ret, w ∈ Ts) (hd0 : cNm y y.cls n) (hn : As.length = n) (hroom : cRm rmY rm maxL kc ks) (hst : st = As.reverse ++ rest) (hrest : (rest.map fun v => v.category).sum ≤ 8) (hd : decode cc pc = .ok (.invokestatic index, 3)) (k : G Γ kc ks N ad σ' (pc + 3) L (.long x :: rest)) : G Γ kc ks N ad σ pc L st := g_callS h hG hM hw hd0 hn hroom hst hrest hd (fun v σ2 hv => by obtain ⟨rfl, rfl⟩ := hv; exact k)
theorem g_dNl (h : Cx Γ cc own rm Ts cl tys nl) (hG : GoodIn Ts Ts) {host : String} {x : Int64} (hM : Ct (gL Γ) (gD Γ) cl tys nl N ad y (.code y bytes maxL ret :: Ts) rmY As σ (fun v σ2 => v = some (.long x) ∧ σ2 = σ')) (hnl : (own, index, y, host) ∈ nl) (hcd : Cond.code y bytes maxL ret ∈ Ts) (hini : Cond.initialized y.cls ∈ Ts) (hst0 : Cond.static y ∈ Ts) (hd0 : cNm y y.cls n) (hn : As.length = n) (hroom : cRm rmY rm maxL kc ks) (hst : st = As.reverse ++ rest) (hrest : (rest.map fun v => v.category).sum ≤ 8) (hd : decode cc pc = .ok (.invokestatic index, 3)) (k : G Γ kc ks N ad σ' (pc + 3) L (.long x :: rest)) : G Γ kc ks N ad σ pc L st := g_callSN h hG hM hnl hcd hini hst0 hd0 hn hroom hst hrest hd (fun v σ2 hv => by obtain ⟨rfl, rfl⟩ := hv; exact k)
theorem g_dVr (h : Cx Γ cc own rm Ts cl tys nl) (hG : GoodIn Ts Ts) {C : String} {T : u_T} {nf ci q : Nat} {fs : List Value} {x : Nat} (hM : Ct (gL Γ) (gD Γ) cl tys nl N ad y (.code y bytes maxL ret :: Ts) rmY (.ref (ad q) :: As) σ (fun v σ2 => v = some (.ref x) ∧ σ2 = σ')) (hq : q < N) (he : σ q = .inr (ci, fs)) (hc : cl[ci]? = some (C, T, nf)) (hw : ∀ w ∈ cwsV own index C y bytes maxL ret, w ∈ Ts) (hd0 : cNm y C n) (hn : As.length = n) (hroom : cRm rmY rm maxL kc ks) (hst : st = As.reverse ++ .ref (ad q) :: rest) (hrest : (rest.map fun v => v.category).sum ≤ 8) (hd : decode cc pc = .ok (.invokevirtual index, 3)) (k : G Γ kc ks N ad σ' (pc + 3) L (.ref x :: rest)) : G Γ kc ks N ad σ pc L st := g_callV h hG hM hq he hc hw hd0 hn hroom hst hrest hd (fun v σ2 hv => by obtain ⟨rfl, rfl⟩ := hv; exact k)
theorem g_dSr (h : Cx Γ cc own rm Ts cl tys nl) (hG : GoodIn Ts Ts) {x : Nat} (hM : Ct (gL Γ) (gD Γ) cl tys nl N ad y (.code y bytes maxL ret :: Ts) rmY As σ (fun v σ2 => v = some (.ref x) ∧ σ2 = σ')) (hw : ∀ w ∈ cwsS own index y bytes maxL ret, w ∈ Ts) (hd0 : cNm y y.cls n) (hn : As.length = n) (hroom : cRm rmY rm maxL kc ks) (hst : st = As.reverse ++ rest) (hrest : (rest.map fun v => v.category).sum ≤ 8) (hd : decode cc pc = .ok (.invokestatic index, 3)) (k : G Γ kc ks N ad σ' (pc + 3) L (.ref x :: rest)) : G Γ kc ks N ad σ pc L st := g_callS h hG hM hw hd0 hn hroom hst hrest hd (fun v σ2 hv => by obtain ⟨rfl, rfl⟩ := hv; exact k)
theorem g_dNr (h : Cx Γ cc own rm Ts cl tys nl) (hG : GoodIn Ts Ts) {host : String} {x : Nat} (hM : Ct (gL Γ) (gD Γ) cl tys nl N ad y (.code y bytes maxL ret :: Ts) rmY As σ (fun v σ2 => v = some (.ref x) ∧ σ2 = σ')) (hnl : (own, index, y, host) ∈ nl) (hcd : Cond.code y bytes maxL ret ∈ Ts) (hini : Cond.initialized y.cls ∈ Ts) (hst0 : Cond.static y ∈ Ts) (hd0 : cNm y y.cls n) (hn : As.length = n) (hroom : cRm rmY rm maxL kc ks) (hst : st = As.reverse ++ rest) (hrest : (rest.map fun v => v.category).sum ≤ 8) (hd : decode cc pc = .ok (.invokestatic index, 3)) (k : G Γ kc ks N ad σ' (pc + 3) L (.ref x :: rest)) : G Γ kc ks N ad σ pc L st := g_callSN h hG hM hnl hcd hini hst0 hd0 hn hroom hst hrest hd (fun v σ2 hv => by obtain ⟨rfl, rfl⟩ := hv; exact k)
theorem g_dVv (h : Cx Γ cc own rm Ts cl tys nl) (hG : GoodIn Ts Ts) {C : String} {T : u_T} {nf ci q : Nat} {fs : List Value} (hM : Ct (gL Γ) (gD Γ) cl tys nl N ad y (.code y bytes maxL ret :: Ts) rmY (.ref (ad q) :: As) σ (fun v σ2 => v = none ∧ σ2 = σ')) (hq : q < N) (he : σ q = .inr (ci, fs)) (hc : cl[ci]? = some (C, T, nf)) (hw : ∀ w ∈ cwsV own index C y bytes maxL ret, w ∈ Ts) (hd0 : cNm y C n) (hn : As.length = n) (hroom : cRm rmY rm maxL kc ks) (hst : st = As.reverse ++ .ref (ad q) :: rest) (hrest : (rest.map fun v => v.category).sum ≤ 8) (hd : decode cc pc = .ok (.invokevirtual index, 3)) (k : G Γ kc ks N ad σ' (pc + 3) L (rest)) : G Γ kc ks N ad σ pc L st := g_callV h hG hM hq he hc hw hd0 hn hroom hst hrest hd (fun v σ2 hv => by obtain ⟨rfl, rfl⟩ := hv; exact k)
theorem g_dSv (h : Cx Γ cc own rm Ts cl tys nl) (hG : GoodIn Ts Ts) (hM : Ct (gL Γ) (gD Γ) cl tys nl N ad y (.code y bytes maxL ret :: Ts) rmY As σ (fun v σ2 => v = none ∧ σ2 = σ')) (hw : ∀ w ∈ cwsS own index y bytes maxL ret, w ∈ Ts) (hd0 : cNm y y.cls n) (hn : As.length = n) (hroom : cRm rmY rm maxL kc ks) (hst : st = As.reverse ++ rest) (hrest : (rest.map fun v => v.category).sum ≤ 8) (hd : decode cc pc = .ok (.invokestatic index, 3)) (k : G Γ kc ks N ad σ' (pc + 3) L (rest)) : G Γ kc ks N ad σ pc L st := g_callS h hG hM hw hd0 hn hroom hst hrest hd (fun v σ2 hv => by obtain ⟨rfl, rfl⟩ := hv; exact k)
theorem g_dNv (h : Cx Γ cc own rm Ts cl tys nl) (hG : GoodIn Ts Ts) {host : String} (hM : Ct (gL Γ) (gD Γ) cl tys nl N ad y (.code y bytes maxL ret :: Ts) rmY As σ (fun v σ2 => v = none ∧ σ2 = σ')) (hnl : (own, index, y, host) ∈ nl) (hcd : Cond.code y bytes maxL ret ∈ Ts) (hini : Cond.initialized y.cls ∈ Ts) (hst0 : Cond.static y ∈ Ts) (hd0 : cNm y y.cls n) (hn : As.length = n) (hroom : cRm rmY rm maxL kc ks) (hst : st = As.reverse ++ rest) (hrest : (rest.map fun v => v.category).sum ≤ 8) (hd : decode cc pc = .ok (.invokestatic index, 3)) (k : G Γ kc ks N ad σ' (pc + 3) L (rest)) : G Γ kc ks N ad σ pc L st := g_callSN h hG hM hnl hcd hini hst0 hd0 hn hroom hst hrest hd (fun v σ2 hv => by obtain ⟨rfl, rfl⟩ := hv; exact k)
end DRows
theorem nm_TCM_init : cNm y_TCM_init "TriColourMachine" 0 := ⟨rfl, by decide, by decide, by decide +kernel⟩
theorem nm_Heap_init : cNm y_Heap_init "TriColourMachine$Heap" 0 := ⟨rfl, by decide, by decide, by decide +kernel⟩
theorem nm_Arr_fill : cNm y_Arr_fill "java/util/Arrays" 2 := ⟨rfl, by decide, by decide, by decide +kernel⟩
theorem nm_Cell_init : cNm y_Cell_init "TriColourMachine$Cell" 0 := ⟨rfl, by decide, by decide, by decide +kernel⟩
theorem nm_Tab_init : cNm y_Tab_init "TriColourMachine$Table" 0 := ⟨rfl, by decide, by decide, by decide +kernel⟩
theorem nm_Cor_init : cNm y_Cor_init "TriColourMachine$Coroutine" 0 := ⟨rfl, by decide, by decide, by decide +kernel⟩
theorem nm_Pro_init : cNm y_Pro_init "TriColourMachine$Processor" 1 := ⟨rfl, by decide, by decide, by decide +kernel⟩
theorem nm_Ins_init : cNm y_Ins_init "TriColourMachine$Instruction" 0 := ⟨rfl, by decide, by decide, by decide +kernel⟩
theorem nm_TCM_full : cNm y_TCM_full "TriColourMachine" 0 := ⟨rfl, by decide, by decide, by decide +kernel⟩
theorem nm_Heap_fullCollection : cNm y_Heap_fullCollection "TriColourMachine$Heap" 0 := ⟨rfl, by decide, by decide, by decide +kernel⟩
theorem nm_Heap_unit : cNm y_Heap_unit "TriColourMachine$Heap" 0 := ⟨rfl, by decide, by decide, by decide +kernel⟩
theorem nm_Heap_sweepOne : cNm y_Heap_sweepOne "TriColourMachine$Heap" 0 := ⟨rfl, by decide, by decide, by decide +kernel⟩
theorem nm_Heap_leastGray : cNm y_Heap_leastGray "TriColourMachine$Heap" 0 := ⟨rfl, by decide, by decide, by decide +kernel⟩
theorem nm_Heap_blacken : cNm y_Heap_blacken "TriColourMachine$Heap" 1 := ⟨rfl, by decide, by decide, by decide +kernel⟩
theorem nm_Heap_shadeRow : cNm y_Heap_shadeRow "TriColourMachine$Heap" 2 := ⟨rfl, by decide, by decide, by decide +kernel⟩
theorem nm_Heap_shade : cNm y_Heap_shade "TriColourMachine$Heap" 1 := ⟨rfl, by decide, by decide, by decide +kernel⟩
theorem nm_Heap_shadeRoots : cNm y_Heap_shadeRoots "TriColourMachine$Heap" 0 := ⟨rfl, by decide, by decide, by decide +kernel⟩
theorem nm_Cell_isActive : cNm y_Cell_isActive "TriColourMachine$Cell" 0 := ⟨rfl, by decide, by decide, by decide +kernel⟩
theorem nm_TCM_count : cNm y_TCM_count "TriColourMachine" 1 := ⟨rfl, by decide, by decide, by decide +kernel⟩
theorem nm_Heap_grayOnes : cNm y_Heap_grayOnes "TriColourMachine$Heap" 0 := ⟨rfl, by decide, by decide, by decide +kernel⟩
theorem nm_TCM_code : cNm y_TCM_code "TriColourMachine" 6 := ⟨rfl, by decide, by decide, by decide +kernel⟩
theorem nm_TCM_checkRange : cNm y_TCM_checkRange "TriColourMachine" 3 := ⟨rfl, by decide, by decide, by decide +kernel⟩
theorem nm_Pro_instructionAt : cNm y_Pro_instructionAt "TriColourMachine$Processor" 2 := ⟨rfl, by decide, by decide, by decide +kernel⟩
theorem nm_TCM_number : cNm y_TCM_number "TriColourMachine" 2 := ⟨rfl, by decide, by decide, by decide +kernel⟩
theorem nm_TCM_checkGlobal : cNm y_TCM_checkGlobal "TriColourMachine" 1 := ⟨rfl, by decide, by decide, by decide +kernel⟩
theorem nm_TCM_move : cNm y_TCM_move "TriColourMachine" 2 := ⟨rfl, by decide, by decide, by decide +kernel⟩
theorem nm_TCM_make : cNm y_TCM_make "TriColourMachine" 2 := ⟨rfl, by decide, by decide, by decide +kernel⟩
theorem nm_Heap_create : cNm y_Heap_create "TriColourMachine$Heap" 2 := ⟨rfl, by decide, by decide, by decide +kernel⟩
theorem nm_Heap_leastFree : cNm y_Heap_leastFree "TriColourMachine$Heap" 0 := ⟨rfl, by decide, by decide, by decide +kernel⟩
theorem nm_Heap_birthColour : cNm y_Heap_birthColour "TriColourMachine$Heap" 1 := ⟨rfl, by decide, by decide, by decide +kernel⟩
theorem nm_Tab_clear : cNm y_Tab_clear "TriColourMachine$Table" 0 := ⟨rfl, by decide, by decide, by decide +kernel⟩
theorem nm_Cor_clear : cNm y_Cor_clear "TriColourMachine$Coroutine" 1 := ⟨rfl, by decide, by decide, by decide +kernel⟩
theorem nm_TCM_raise : cNm y_TCM_raise "TriColourMachine" 1 := ⟨rfl, by decide, by decide, by decide +kernel⟩
theorem nm_TCM_numberOf : cNm y_TCM_numberOf "TriColourMachine" 1 := ⟨rfl, by decide, by decide, by decide +kernel⟩
theorem nm_TCM_set : cNm y_TCM_set "TriColourMachine" 3 := ⟨rfl, by decide, by decide, by decide +kernel⟩
theorem nm_Heap_setting : cNm y_Heap_setting "TriColourMachine$Heap" 3 := ⟨rfl, by decide, by decide, by decide +kernel⟩
theorem nm_Heap_isA : cNm y_Heap_isA "TriColourMachine$Heap" 2 := ⟨rfl, by decide, by decide, by decide +kernel⟩
theorem nm_Heap_lastTable : cNm y_Heap_lastTable "TriColourMachine$Heap" 3 := ⟨rfl, by decide, by decide, by decide +kernel⟩
theorem nm_Tab_find : cNm y_Tab_find "TriColourMachine$Table" 1 := ⟨rfl, by decide, by decide, by decide +kernel⟩
theorem nm_Heap_linked : cNm y_Heap_linked "TriColourMachine$Heap" 2 := ⟨rfl, by decide, by decide, by decide +kernel⟩
theorem nm_Tab_append : cNm y_Tab_append "TriColourMachine$Table" 2 := ⟨rfl, by decide, by decide, by decide +kernel⟩
theorem nm_Tab_takeAway : cNm y_Tab_takeAway "TriColourMachine$Table" 1 := ⟨rfl, by decide, by decide, by decide +kernel⟩
theorem nm_Heap_touch : cNm y_Heap_touch "TriColourMachine$Heap" 1 := ⟨rfl, by decide, by decide, by decide +kernel⟩
theorem nm_TCM_get : cNm y_TCM_get "TriColourMachine" 3 := ⟨rfl, by decide, by decide, by decide +kernel⟩
theorem nm_Heap_getting : cNm y_Heap_getting "TriColourMachine$Heap" 2 := ⟨rfl, by decide, by decide, by decide +kernel⟩
theorem nm_TCM_meta : cNm y_TCM_meta "TriColourMachine" 2 := ⟨rfl, by decide, by decide, by decide +kernel⟩
theorem nm_Heap_settingMeta : cNm y_Heap_settingMeta "TriColourMachine$Heap" 2 := ⟨rfl, by decide, by decide, by decide +kernel⟩
theorem nm_TCM_resume : cNm y_TCM_resume "TriColourMachine" 3 := ⟨rfl, by decide, by decide, by decide +kernel⟩
theorem nm_Pro_run : cNm y_Pro_run "TriColourMachine$Processor" 2 := ⟨rfl, by decide, by decide, by decide +kernel⟩
theorem nm_Pro_enter : cNm y_Pro_enter "TriColourMachine$Processor" 2 := ⟨rfl, by decide, by decide, by decide +kernel⟩
theorem nm_Pro_perform : cNm y_Pro_perform "TriColourMachine$Processor" 2 := ⟨rfl, by decide, by decide, by decide +kernel⟩
theorem nm_Math_floorMod : cNm y_Math_floorMod "java/lang/Math" 2 := ⟨rfl, by decide, by decide, by decide +kernel⟩
theorem nm_Pro_keepFound : cNm y_Pro_keepFound "TriColourMachine$Processor" 3 := ⟨rfl, by decide, by decide, by decide +kernel⟩
theorem nm_Pro_calculate : cNm y_Pro_calculate "TriColourMachine$Processor" 5 := ⟨rfl, by decide, by decide, by decide +kernel⟩
theorem nm_TCM_isNumber : cNm y_TCM_isNumber "TriColourMachine" 1 := ⟨rfl, by decide, by decide, by decide +kernel⟩
theorem nm_Pro_jumpIfBelow : cNm y_Pro_jumpIfBelow "TriColourMachine$Processor" 3 := ⟨rfl, by decide, by decide, by decide +kernel⟩
theorem nm_Pro_jumpIf : cNm y_Pro_jumpIf "TriColourMachine$Processor" 2 := ⟨rfl, by decide, by decide, by decide +kernel⟩
theorem nm_Pro_leave : cNm y_Pro_leave "TriColourMachine$Processor" 1 := ⟨rfl, by decide, by decide, by decide +kernel⟩
theorem nm_Heap_keyAfter : cNm y_Heap_keyAfter "TriColourMachine$Heap" 2 := ⟨rfl, by decide, by decide, by decide +kernel⟩
theorem nm_Heap_howMany : cNm y_Heap_howMany "TriColourMachine$Heap" 1 := ⟨rfl, by decide, by decide, by decide +kernel⟩
theorem nm_Pro_endActive : cNm y_Pro_endActive "TriColourMachine$Processor" 0 := ⟨rfl, by decide, by decide, by decide +kernel⟩
theorem nm_TCM_collect : cNm y_TCM_collect "TriColourMachine" 1 := ⟨rfl, by decide, by decide, by decide +kernel⟩
theorem nm_TCM_global : cNm y_TCM_global "TriColourMachine" 1 := ⟨rfl, by decide, by decide, by decide +kernel⟩
theorem nm_TCM_object : cNm y_TCM_object "TriColourMachine" 2 := ⟨rfl, by decide, by decide, by decide +kernel⟩
theorem nm_TCM_inside : cNm y_TCM_inside "TriColourMachine" 3 := ⟨rfl, by decide, by decide, by decide +kernel⟩
theorem nm_Cell_rows : cNm y_Cell_rows "TriColourMachine$Cell" 1 := ⟨rfl, by decide, by decide, by decide +kernel⟩
theorem nm_Mod_init : cNm y_Mod_init "TriColourMachineModel" 0 := ⟨rfl, by decide, by decide, by decide +kernel⟩
theorem nm_Mod_thrown : cNm y_Mod_thrown "TriColourMachineModel" 0 := ⟨rfl, by decide, by decide, by decide +kernel⟩
theorem nm_Mod_code : cNm y_Mod_code "TriColourMachineModel" 6 := ⟨rfl, by decide, by decide, by decide +kernel⟩
theorem nm_Mod_number : cNm y_Mod_number "TriColourMachineModel" 2 := ⟨rfl, by decide, by decide, by decide +kernel⟩
theorem nm_Mod_badGlobal : cNm y_Mod_badGlobal "TriColourMachineModel" 1 := ⟨rfl, by decide, by decide, by decide +kernel⟩
theorem nm_Mod_move : cNm y_Mod_move "TriColourMachineModel" 2 := ⟨rfl, by decide, by decide, by decide +kernel⟩
theorem nm_Mod_make : cNm y_Mod_make "TriColourMachineModel" 2 := ⟨rfl, by decide, by decide, by decide +kernel⟩
theorem nm_Mod_create : cNm y_Mod_create "TriColourMachineModel" 2 := ⟨rfl, by decide, by decide, by decide +kernel⟩
theorem nm_Mod_free : cNm y_Mod_free "TriColourMachineModel" 0 := ⟨rfl, by decide, by decide, by decide +kernel⟩
theorem nm_Mod_whole : cNm y_Mod_whole "TriColourMachineModel" 0 := ⟨rfl, by decide, by decide, by decide +kernel⟩
theorem nm_Mod_unit : cNm y_Mod_unit "TriColourMachineModel" 0 := ⟨rfl, by decide, by decide, by decide +kernel⟩
theorem nm_Mod_shadeRoots : cNm y_Mod_shadeRoots "TriColourMachineModel" 0 := ⟨rfl, by decide, by decide, by decide +kernel⟩
theorem nm_Mod_shade : cNm y_Mod_shade "TriColourMachineModel" 1 := ⟨rfl, by decide, by decide, by decide +kernel⟩
theorem nm_Mod_objectOf : cNm y_Mod_objectOf "TriColourMachineModel" 1 := ⟨rfl, by decide, by decide, by decide +kernel⟩
theorem nm_Mod_leastGray : cNm y_Mod_leastGray "TriColourMachineModel" 0 := ⟨rfl, by decide, by decide, by decide +kernel⟩
theorem nm_Mod_blacken : cNm y_Mod_blacken "TriColourMachineModel" 1 := ⟨rfl, by decide, by decide, by decide +kernel⟩
theorem nm_Mod_set : cNm y_Mod_set "TriColourMachineModel" 3 := ⟨rfl, by decide, by decide, by decide +kernel⟩
theorem nm_Mod_tableOf : cNm y_Mod_tableOf "TriColourMachineModel" 1 := ⟨rfl, by decide, by decide, by decide +kernel⟩
theorem nm_Mod_setting : cNm y_Mod_setting "TriColourMachineModel" 3 := ⟨rfl, by decide, by decide, by decide +kernel⟩
theorem nm_Mod_pairOf : cNm y_Mod_pairOf "TriColourMachineModel" 2 := ⟨rfl, by decide, by decide, by decide +kernel⟩
theorem nm_Mod_next : cNm y_Mod_next "TriColourMachineModel" 2 := ⟨rfl, by decide, by decide, by decide +kernel⟩
theorem nm_Mod_touch : cNm y_Mod_touch "TriColourMachineModel" 1 := ⟨rfl, by decide, by decide, by decide +kernel⟩
theorem nm_Mod_get : cNm y_Mod_get "TriColourMachineModel" 3 := ⟨rfl, by decide, by decide, by decide +kernel⟩
theorem nm_Mod_getting : cNm y_Mod_getting "TriColourMachineModel" 2 := ⟨rfl, by decide, by decide, by decide +kernel⟩
theorem nm_Mod_meta : cNm y_Mod_meta "TriColourMachineModel" 2 := ⟨rfl, by decide, by decide, by decide +kernel⟩
theorem nm_Mod_join : cNm y_Mod_join "TriColourMachineModel" 2 := ⟨rfl, by decide, by decide, by decide +kernel⟩
theorem nm_Mod_resume : cNm y_Mod_resume "TriColourMachineModel" 3 := ⟨rfl, by decide, by decide, by decide +kernel⟩
theorem nm_Mod_enter : cNm y_Mod_enter "TriColourMachineModel" 2 := ⟨rfl, by decide, by decide, by decide +kernel⟩
theorem nm_Mod_coroutineOf : cNm y_Mod_coroutineOf "TriColourMachineModel" 1 := ⟨rfl, by decide, by decide, by decide +kernel⟩
theorem nm_Mod_step : cNm y_Mod_step "TriColourMachineModel" 0 := ⟨rfl, by decide, by decide, by decide +kernel⟩
theorem nm_Mod_leave : cNm y_Mod_leave "TriColourMachineModel" 2 := ⟨rfl, by decide, by decide, by decide +kernel⟩
theorem nm_Mod_jumps : cNm y_Mod_jumps "TriColourMachineModel" 3 := ⟨rfl, by decide, by decide, by decide +kernel⟩
theorem nm_Mod_isNumber : cNm y_Mod_isNumber "TriColourMachineModel" 1 := ⟨rfl, by decide, by decide, by decide +kernel⟩
theorem nm_Mod_calculate : cNm y_Mod_calculate "TriColourMachineModel" 5 := ⟨rfl, by decide, by decide, by decide +kernel⟩
theorem nm_Mod_following : cNm y_Mod_following "TriColourMachineModel" 2 := ⟨rfl, by decide, by decide, by decide +kernel⟩
theorem nm_Mod_collect : cNm y_Mod_collect "TriColourMachineModel" 1 := ⟨rfl, by decide, by decide, by decide +kernel⟩
theorem nm_Mod_full : cNm y_Mod_full "TriColourMachineModel" 0 := ⟨rfl, by decide, by decide, by decide +kernel⟩
theorem nm_Mod_global : cNm y_Mod_global "TriColourMachineModel" 1 := ⟨rfl, by decide, by decide, by decide +kernel⟩
theorem nm_Mod_object : cNm y_Mod_object "TriColourMachineModel" 2 := ⟨rfl, by decide, by decide, by decide +kernel⟩
theorem nm_Mod_inside : cNm y_Mod_inside "TriColourMachineModel" 3 := ⟨rfl, by decide, by decide, by decide +kernel⟩
theorem nm_Mod_count : cNm y_Mod_count "TriColourMachineModel" 1 := ⟨rfl, by decide, by decide, by decide +kernel⟩
theorem nl_Heap_52 : ("TriColourMachine$Heap", 52, y_Cell_init, "TriColourMachine") ∈ NL := List.mem_of_getElem? (i := 0) rfl
theorem nl_Cell_11 : ("TriColourMachine$Cell", 11, y_Tab_init, "TriColourMachine") ∈ NL := List.mem_of_getElem? (i := 1) rfl
theorem nl_Cell_20 : ("TriColourMachine$Cell", 20, y_Cor_init, "TriColourMachine") ∈ NL := List.mem_of_getElem? (i := 2) rfl
theorem nl_Pro_43 : ("TriColourMachine$Processor", 43, y_Ins_init, "TriColourMachine") ∈ NL := List.mem_of_getElem? (i := 3) rfl
theorem nl_Heap_55 : ("TriColourMachine$Heap", 55, y_TCM_numberOf, "TriColourMachine") ∈ NL := List.mem_of_getElem? (i := 4) rfl
theorem nl_Pro_71 : ("TriColourMachine$Processor", 71, y_TCM_numberOf, "TriColourMachine") ∈ NL := List.mem_of_getElem? (i := 5) rfl
theorem nl_Pro_165 : ("TriColourMachine$Processor", 165, y_TCM_isNumber, "TriColourMachine") ∈ NL := List.mem_of_getElem? (i := 6) rfl
theorem cd_TCM_numberOf : Cond.code y_TCM_numberOf b_TCM_numberOf 2 (some .int) ∈ TB := tb_mem 492 (by decide +kernel) rfl
theorem st_TCM_numberOf : Cond.static y_TCM_numberOf ∈ TB := tb_mem 491 (by decide +kernel) rfl
theorem cd_TCM_isNumber : Cond.code y_TCM_isNumber b_TCM_isNumber 2 (some .boolean) ∈ TB := tb_mem 598 (by decide +kernel) rfl
theorem st_TCM_isNumber : Cond.static y_TCM_isNumber ∈ TB := tb_mem 597 (by decide +kernel) rfl
theorem in_TCM : Cond.initialized "TriColourMachine" ∈ TB := tb_mem 43 (by decide +kernel) rfl
end

-- part 09.leaves
section
set_option maxHeartbeats 4000000 in
set_option maxRecDepth 100000 in
theorem c_TCM_numberOf {l : Launch} {D : va_G} {t : Nat → ClassId} {ad : Nat → Nat} {C : CS} {v : Int64} : Cd l D t ad y_TCM_numberOf b_TCM_numberOf 2 (some .int) { frames := 0, cells := 0, slots := 0, locals := 0 } [.long v] (C) (some (.int (v - 10000000000).toInt32)) (C) := by
  refine ct_of (by decide) (Nat.le_of_ble_eq_true rfl) ?_
  intro Γ _ _ hN h r
  refine g_at (L' := [some (.long v), none]) rfl rfl rfl ?_
  refine g_lload_n h d_TCM_numberOf_0 rfl rfl ?_
  refine g_ldc2 (v := 10000000000) h d_TCM_numberOf_1 k_TCM_186 ?_
  refine g_lsub h d_TCM_numberOf_4 ?_
  refine g_l2i h d_TCM_numberOf_5 ?_
  exact g_iret h r d_TCM_numberOf_6 (⟨rfl, rfl⟩)
set_option maxHeartbeats 4000000 in
set_option maxRecDepth 100000 in
theorem c_TCM_isNumber {l : Launch} {D : va_G} {t : Nat → ClassId} {ad : Nat → Nat} {C : CS} {v : Int64} : Cd l D t ad y_TCM_isNumber b_TCM_isNumber 2 (some .boolean) { frames := 0, cells := 0, slots := 0, locals := 0 } [.long v] (C) (some (.int (if -2147483648 ≤ v ∧ v ≤ 2147483647 then 1 else 0))) (C) := by
  refine ct_of (by decide) (Nat.le_of_ble_eq_true rfl) ?_
  intro Γ _ _ hN h r
  refine g_at (L' := [some (.long v), none]) rfl rfl rfl ?_
  refine g_lload_n h d_TCM_isNumber_0 rfl rfl ?_
  refine g_ldc2 (v := -2147483648) h d_TCM_isNumber_1 k_TCM_182 ?_
  refine g_lc_lt (tgt := 20) h d_TCM_isNumber_4 d_TCM_isNumber_5 (by decide) (fun c_5 => ?_) (fun c_5 => ?_)
  · refine g_iconst (v := 0) h d_TCM_isNumber_20 (by decide) ?_
    exact g_zret h r rfl d_TCM_isNumber_21 (⟨by first | (simp [c_5]; done) | (rw [if_neg (fun z => Int64.not_le.mpr c_5 z.1)]; done) | (rw [if_neg (fun z => Int64.not_le.mpr c_13 z.2)]; done) | (rw [if_pos ⟨Int64.not_lt.mp c_5, Int64.not_lt.mp c_13⟩]; done), rfl⟩)
  · refine g_lload_n h d_TCM_isNumber_8 rfl rfl ?_
    refine g_ldc2 (v := 2147483647) h d_TCM_isNumber_9 k_TCM_184 ?_
    refine g_lc_gt (tgt := 20) h d_TCM_isNumber_12 d_TCM_isNumber_13 (by decide) (fun c_13 => ?_) (fun c_13 => ?_)
    · refine g_iconst (v := 0) h d_TCM_isNumber_20 (by decide) ?_
      exact g_zret h r rfl d_TCM_isNumber_21 (⟨by first | (simp [c_5]; done) | (rw [if_neg (fun z => Int64.not_le.mpr c_5 z.1)]; done) | (rw [if_neg (fun z => Int64.not_le.mpr c_13 z.2)]; done) | (rw [if_pos ⟨Int64.not_lt.mp c_5, Int64.not_lt.mp c_13⟩]; done), rfl⟩)
    · refine g_iconst (v := 1) h d_TCM_isNumber_16 (by decide) ?_
      refine g_goto (tgt := 21) h d_TCM_isNumber_17 (by decide) ?_
      exact g_zret h r rfl d_TCM_isNumber_21 (⟨by first | (simp [c_5]; done) | (rw [if_neg (fun z => Int64.not_le.mpr c_5 z.1)]; done) | (rw [if_neg (fun z => Int64.not_le.mpr c_13 z.2)]; done) | (rw [if_pos ⟨Int64.not_lt.mp c_5, Int64.not_lt.mp c_13⟩]; done), rfl⟩)
set_option maxHeartbeats 4000000 in
set_option maxRecDepth 100000 in
theorem c_Cell_isActive {l : Launch} {D : va_G} {t : Nat → ClassId} {ad : Nat → Nat} {C : CS} {n : Nat} (hn : n < 16) : Cd l D t ad y_Cell_isActive b_Cell_isActive 1 (some .boolean) { frames := 0, cells := 0, slots := 0, locals := 0 } [.ref (ad (ix 4 n))] (C) (some (.int (if cactive C n = true then 1 else 0))) (C) := by
  refine ct_of (by decide) (Nat.le_of_ble_eq_true rfl) ?_
  intro Γ _ _ hN h r
  refine g_at (L' := [some (.ref (ad (ix 4 n)))]) rfl rfl rfl ?_
  refine g_aload_n h d_Cell_isActive_0 rfl rfl ?_
  refine gf_Cell_kind h f_Cell_25 (by first | assumption | omega | (show _ < 16; omega)) d_Cell_isActive_1 ?_
  refine g_iconst (v := 2) h d_Cell_isActive_4 (by decide) ?_
  refine g_icmp_ne (tgt := 23) h d_Cell_isActive_5 (by decide) (fun c_5 => ?_) (fun c_5 => ?_)
  · refine g_iconst (v := 0) h d_Cell_isActive_23 (by decide) ?_
    exact g_zret h r rfl d_Cell_isActive_24 (⟨by first | (simp [cactive, c_5]; done) | (simp [cactive, c_5, c_16]; done), rfl⟩)
  · refine g_aload_n h d_Cell_isActive_8 rfl rfl ?_
    refine gf_Cell_coroutine h f_Cell_21 (by first | assumption | omega | (show _ < 16; omega)) d_Cell_isActive_9 ?_
    refine gf_Cor_state h f_Cell_32 (by first | assumption | omega | (show _ < 16; omega)) d_Cell_isActive_12 ?_
    refine g_iconst (v := 2) h d_Cell_isActive_15 (by decide) ?_
    refine g_icmp_ne (tgt := 23) h d_Cell_isActive_16 (by decide) (fun c_16 => ?_) (fun c_16 => ?_)
    · refine g_iconst (v := 0) h d_Cell_isActive_23 (by decide) ?_
      exact g_zret h r rfl d_Cell_isActive_24 (⟨by first | (simp [cactive, c_5]; done) | (simp [cactive, c_5, c_16]; done), rfl⟩)
    · refine g_iconst (v := 1) h d_Cell_isActive_19 (by decide) ?_
      refine g_goto (tgt := 24) h d_Cell_isActive_20 (by decide) ?_
      exact g_zret h r rfl d_Cell_isActive_24 (⟨by first | (simp [cactive, c_5]; done) | (simp [cactive, c_5, c_16]; done), rfl⟩)
set_option maxHeartbeats 4000000 in
set_option maxRecDepth 100000 in
theorem c_Cell_rows {l : Launch} {D : va_G} {t : Nat → ClassId} {ad : Nat → Nat} {C : CS} {n : Nat} {b : Int32} (hn : n < 16) : Cd l D t ad y_Cell_rows b_Cell_rows 2 (some .int) { frames := 0, cells := 0, slots := 0, locals := 0 } [.ref (ad (ix 4 n)), .int b] (C) (some (.int (if C.1 0 n = 1 then C.1 2 n else if C.1 0 n = 2 ∧ b = 0 then 4 else 0))) (C) := by
  refine ct_of (by decide) (Nat.le_of_ble_eq_true rfl) ?_
  intro Γ _ _ hN h r
  refine g_at (L' := [some (.ref (ad (ix 4 n))), some (.int b)]) rfl rfl rfl ?_
  refine g_aload_n h d_Cell_rows_0 rfl rfl ?_
  refine gf_Cell_kind h f_Cell_25 (by first | assumption | omega | (show _ < 16; omega)) d_Cell_rows_1 ?_
  refine g_iconst (v := 1) h d_Cell_rows_4 (by decide) ?_
  refine g_icmp_ne (tgt := 16) h d_Cell_rows_5 (by decide) (fun c_5 => ?_) (fun c_5 => ?_)
  · refine g_aload_n h d_Cell_rows_16 rfl rfl ?_
    refine gf_Cell_kind h f_Cell_25 (by first | assumption | omega | (show _ < 16; omega)) d_Cell_rows_17 ?_
    refine g_iconst (v := 2) h d_Cell_rows_20 (by decide) ?_
    refine g_icmp_ne (tgt := 32) h d_Cell_rows_21 (by decide) (fun c_21 => ?_) (fun c_21 => ?_)
    · refine g_iconst (v := 0) h d_Cell_rows_32 (by decide) ?_
      exact g_iret h r d_Cell_rows_33 (⟨by first | (simp [c_5]; done) | (simp [c_5, c_21]; done) | (simp [c_5, c_21, c_25]; done), rfl⟩)
    · refine g_iload_n h d_Cell_rows_24 rfl rfl ?_
      refine g_if_ne (tgt := 32) h d_Cell_rows_25 (by decide) (fun c_25 => ?_) (fun c_25 => ?_)
      · refine g_iconst (v := 0) h d_Cell_rows_32 (by decide) ?_
        exact g_iret h r d_Cell_rows_33 (⟨by first | (simp [c_5]; done) | (simp [c_5, c_21]; done) | (simp [c_5, c_21, c_25]; done), rfl⟩)
      · refine g_iconst (v := 4) h d_Cell_rows_28 (by decide) ?_
        refine g_goto (tgt := 33) h d_Cell_rows_29 (by decide) ?_
        exact g_iret h r d_Cell_rows_33 (⟨by first | (simp [c_5]; done) | (simp [c_5, c_21]; done) | (simp [c_5, c_21, c_25]; done), rfl⟩)
  · refine g_aload_n h d_Cell_rows_8 rfl rfl ?_
    refine gf_Cell_table h f_Cell_12 (by first | assumption | omega | (show _ < 16; omega)) d_Cell_rows_9 ?_
    refine gf_Tab_pairs h f_Cell_35 (by first | assumption | omega | (show _ < 16; omega)) d_Cell_rows_12 ?_
    exact g_iret h r d_Cell_rows_15 (⟨by first | (simp [c_5]; done) | (simp [c_5, c_21]; done) | (simp [c_5, c_21, c_25]; done), rfl⟩)
set_option maxHeartbeats 4000000 in
set_option maxRecDepth 100000 in
theorem c_Tab_clear {l : Launch} {D : va_G} {t : Nat → ClassId} {ad : Nat → Nat} {C : CS} {n : Nat} (hn : n < 16) : Cd l D t ad y_Tab_clear b_Tab_clear 1 none { frames := 0, cells := 0, slots := 0, locals := 0 } [.ref (ad (ix 5 n))] (C) (none) (tclear C n) := by
  refine ct_of (by decide) (Nat.le_of_ble_eq_true rfl) ?_
  intro Γ _ _ hN h r
  refine g_at (L' := [some (.ref (ad (ix 5 n)))]) rfl rfl rfl ?_
  refine g_aload_n h d_Tab_clear_0 rfl rfl ?_
  refine g_iconst (v := 0) h d_Tab_clear_1 (by decide) ?_
  refine pf_Tab_pairs h f_Tab_18 (by first | assumption | omega | (show _ < 16; omega)) d_Tab_clear_2 ?_
  refine g_aload_n h d_Tab_clear_5 rfl rfl ?_
  refine g_iconst (v := -1) h d_Tab_clear_6 (by decide) ?_
  refine pf_Tab_meta h f_Tab_22 (by first | assumption | omega | (show _ < 16; omega)) d_Tab_clear_7 ?_
  exact g_vret h r d_Tab_clear_10 (⟨rfl, rfl⟩)
set_option maxHeartbeats 4000000 in
set_option maxRecDepth 100000 in
theorem c_Tab_find {l : Launch} {D : va_G} {t : Nat → ClassId} {ad : Nat → Nat} {C : CS} {n P : Nat} {key : Int64} (hn : n < 16) (hp : C.1 2 n = nI P) (hP : P ≤ 6) : Cd l D t ad y_Tab_find b_Tab_find 4 (some .int) { frames := 0, cells := 0, slots := 0, locals := 0 } [.ref (ad (ix 5 n)), .long key] (C) (some (.int (enc (tfind C n key)))) (C) := by
  refine ct_of (by decide) (Nat.le_of_ble_eq_true rfl) ?_
  intro Γ _ _ hN h r
  have hc : cPairs C n = P := by unfold cPairs; rw [hp]; exact nI_clamp (by omega)
  have loop : ∀ (c i : Nat), i + c = P → lst (fun j => C.2.1 1 n j == key) c i = tfind C n key → G Γ 0 0 171 ad (wc ad t C) 2 [some (.ref (ad (ix 5 n))), some (.long key), none, some (.int (nI i))] [] := by
    intro c
    induction c with
    | zero =>
      intro i hi he
      refine g_iload_n h d_Tab_find_2 rfl rfl ?_
      refine g_aload_n h d_Tab_find_3 rfl rfl ?_
      refine gf_Tab_pairs h f_Tab_18 (by first | assumption | omega | (show _ < 16; omega)) d_Tab_find_4 ?_
      rw [hp]
      refine g_icmp_ge (tgt := 29) h d_Tab_find_7 (by decide) (fun c_7 => ?_) (fun c_7 => ?_)
      · refine g_iconst (v := -1) h d_Tab_find_29 (by decide) ?_
        exact g_iret h r d_Tab_find_30 (⟨by rw [← he]; rfl, rfl⟩)
      · exact absurd (nI_le (by omega) (by omega)) c_7
    | succ c ih =>
      intro i hi he
      refine g_iload_n h d_Tab_find_2 rfl rfl ?_
      refine g_aload_n h d_Tab_find_3 rfl rfl ?_
      refine gf_Tab_pairs h f_Tab_18 (by first | assumption | omega | (show _ < 16; omega)) d_Tab_find_4 ?_
      rw [hp]
      refine g_icmp_ge (tgt := 29) h d_Tab_find_7 (by decide) (fun c_7 => ?_) (fun c_7 => ?_)
      · exact absurd c_7 (nI_ge (by omega) (by omega))
      · refine g_aload_n h d_Tab_find_10 rfl rfl ?_
        refine gf_Tab_keys h f_Tab_9 (by first | assumption | omega | (show _ < 16; omega)) d_Tab_find_11 ?_
        refine g_iload_n h d_Tab_find_14 rfl rfl ?_
        refine ga_keys h hn rfl (by omega) d_Tab_find_15 ?_
        refine g_lload_n h d_Tab_find_16 rfl rfl ?_
        refine g_lc_ne (tgt := 23) h d_Tab_find_17 d_Tab_find_18 (by decide) (fun c_18 => ?_) (fun c_18 => ?_)
        · refine g_iinc (v := nI (i + 1)) h d_Tab_find_23 rfl (by rw [nI_succ]; rfl) rfl (by rw [hN]; decide) ?_
          refine g_goto (tgt := 2) h d_Tab_find_26 (by decide) ?_
          exact ih (i + 1) (by omega) (by rw [← he]; simp [lst, c_18])
        · refine g_iload_n h d_Tab_find_21 rfl rfl ?_
          exact g_iret h r d_Tab_find_22 (⟨by rw [← he]; simp [lst, c_18, enc], rfl⟩)
  refine g_at (L' := [some (.ref (ad (ix 5 n))), some (.long key), none, none]) rfl rfl rfl ?_
  refine g_iconst (v := 0) h d_Tab_find_0 (by decide) ?_
  refine g_istore_n h d_Tab_find_1 rfl rfl (by rw [hN]; decide) ?_
  exact loop P 0 (by omega) (by unfold tfind; rw [hc])
set_option maxHeartbeats 4000000 in
set_option maxRecDepth 100000 in
theorem c_Heap_isA {l : Launch} {D : va_G} {t : Nat → ClassId} {ad : Nat → Nat} {C : CS} {k : Int32} {v : Int64} (hv : okV v) : Cd l D t ad y_Heap_isA b_Heap_isA 4 (some .boolean) { frames := 1, cells := 0, slots := 0, locals := 21 } [.ref (ad (ix 1 0)), .int k, .long v] (C) (some (.int (if isA C k v = true then 1 else 0))) (C) := by
  refine ct_of (by decide) (Nat.le_of_ble_eq_true rfl) ?_
  intro Γ _ _ hN h r
  refine g_at (L' := [some (.ref (ad (ix 1 0))), some (.int k), some (.long v), none]) rfl rfl rfl ?_
  refine g_lload_n h d_Heap_isA_0 rfl rfl ?_
  refine g_ldc2 (v := 10000000000) h d_Heap_isA_1 k_Heap_53 ?_
  refine g_lc_lt (tgt := 28) h d_Heap_isA_4 d_Heap_isA_5 (by decide) (fun c_5 => ?_) (fun c_5 => ?_)
  · refine g_iconst (v := 0) h d_Heap_isA_28 (by decide) ?_
    exact g_zret h r rfl d_Heap_isA_29 (⟨by first | (simp [isA, c_5]; done) | (simp [isA, c_5, c_21]; done), rfl⟩)
  · obtain ⟨ho, -, hq⟩ := okV_on hv c_5
    refine g_aload_n h d_Heap_isA_8 rfl rfl ?_
    refine gf_Heap_cells h f_Heap_17 d_Heap_isA_9 ?_
    refine g_lload_n h d_Heap_isA_12 rfl rfl ?_
    refine g_dNi h tb_good (c_TCM_numberOf) (host := "TriColourMachine") nl_Heap_55 cd_TCM_numberOf in_TCM st_TCM_numberOf nm_TCM_numberOf rfl ⟨rfl, rfl, Nat.le_of_ble_eq_true rfl, Nat.le_of_ble_eq_true rfl, Nat.zero_le _, Nat.zero_le _⟩ rfl (Nat.le_of_ble_eq_true rfl) d_Heap_isA_13 ?_
    refine ga_cells h hq ho d_Heap_isA_16 ?_
    refine gf_Cell_kind h f_Heap_59 (by first | assumption | omega | (show _ < 16; omega)) d_Heap_isA_17 ?_
    refine g_iload_n h d_Heap_isA_20 rfl rfl ?_
    refine g_icmp_ne (tgt := 28) h d_Heap_isA_21 (by decide) (fun c_21 => ?_) (fun c_21 => ?_)
    · refine g_iconst (v := 0) h d_Heap_isA_28 (by decide) ?_
      exact g_zret h r rfl d_Heap_isA_29 (⟨by first | (simp [isA, c_5]; done) | (simp [isA, c_5, c_21]; done), rfl⟩)
    · refine g_iconst (v := 1) h d_Heap_isA_24 (by decide) ?_
      refine g_goto (tgt := 29) h d_Heap_isA_25 (by decide) ?_
      exact g_zret h r rfl d_Heap_isA_29 (⟨by first | (simp [isA, c_5]; done) | (simp [isA, c_5, c_21]; done), rfl⟩)
set_option maxHeartbeats 4000000 in
set_option maxRecDepth 100000 in
theorem c_Heap_touch {l : Launch} {D : va_G} {t : Nat → ClassId} {ad : Nat → Nat} {C : CS} {n : Nat} (hn : n < 16) : Cd l D t ad y_Heap_touch b_Heap_touch 2 none { frames := 0, cells := 0, slots := 0, locals := 0 } [.ref (ad (ix 1 0)), .int (nI n)] (C) (none) (ctouch C n) := by
  refine ct_of (by decide) (Nat.le_of_ble_eq_true rfl) ?_
  intro Γ _ _ hN h r
  refine g_at (L' := [some (.ref (ad (ix 1 0))), some (.int (nI n))]) rfl rfl rfl ?_
  refine g_aload_n h d_Heap_touch_0 rfl rfl ?_
  refine gf_Heap_phase h f_Heap_21 d_Heap_touch_1 ?_
  refine g_iconst (v := 1) h d_Heap_touch_4 (by decide) ?_
  refine g_icmp_ne (tgt := 31) h d_Heap_touch_5 (by decide) (fun c_5 => ?_) (fun c_5 => ?_)
  · exact g_vret h r d_Heap_touch_31 (⟨rfl, by first | (simp [ctouch, c_5]; done) | (simp [ctouch, c_5, c_18]; done)⟩)
  · refine g_aload_n h d_Heap_touch_8 rfl rfl ?_
    refine gf_Heap_cells h f_Heap_17 d_Heap_touch_9 ?_
    refine g_iload_n h d_Heap_touch_12 rfl rfl ?_
    refine ga_cells h rfl hn d_Heap_touch_13 ?_
    refine gf_Cell_colour h f_Heap_73 (by first | assumption | omega | (show _ < 16; omega)) d_Heap_touch_14 ?_
    refine g_iconst (v := 2) h d_Heap_touch_17 (by decide) ?_
    refine g_icmp_ne (tgt := 31) h d_Heap_touch_18 (by decide) (fun c_18 => ?_) (fun c_18 => ?_)
    · exact g_vret h r d_Heap_touch_31 (⟨rfl, by first | (simp [ctouch, c_5]; done) | (simp [ctouch, c_5, c_18]; done)⟩)
    · refine g_aload_n h d_Heap_touch_21 rfl rfl ?_
      refine gf_Heap_cells h f_Heap_17 d_Heap_touch_22 ?_
      refine g_iload_n h d_Heap_touch_25 rfl rfl ?_
      refine ga_cells h rfl hn d_Heap_touch_26 ?_
      refine g_iconst (v := 1) h d_Heap_touch_27 (by decide) ?_
      refine pf_Cell_colour h f_Heap_73 (by first | assumption | omega | (show _ < 16; omega)) d_Heap_touch_28 ?_
      exact g_vret h r d_Heap_touch_31 (⟨rfl, by first | (simp [ctouch, c_5]; done) | (simp [ctouch, c_5, c_18]; done)⟩)
set_option maxHeartbeats 4000000 in
set_option maxRecDepth 100000 in
theorem c_Heap_birthColour {l : Launch} {D : va_G} {t : Nat → ClassId} {ad : Nat → Nat} {C : CS} {n : Nat} : Cd l D t ad y_Heap_birthColour b_Heap_birthColour 2 (some .int) { frames := 0, cells := 0, slots := 0, locals := 0 } [.ref (ad (ix 1 0)), .int (nI n)] (C) (some (.int (cbirth C n))) (C) := by
  refine ct_of (by decide) (Nat.le_of_ble_eq_true rfl) ?_
  intro Γ _ _ hN h r
  refine g_at (L' := [some (.ref (ad (ix 1 0))), some (.int (nI n))]) rfl rfl rfl ?_
  refine g_aload_n h d_Heap_birthColour_0 rfl rfl ?_
  refine gf_Heap_phase h f_Heap_21 d_Heap_birthColour_1 ?_
  refine g_iconst (v := 1) h d_Heap_birthColour_4 (by decide) ?_
  refine g_icmp_eq (tgt := 24) h d_Heap_birthColour_5 (by decide) (fun c_5 => ?_) (fun c_5 => ?_)
  · refine g_iconst (v := 2) h d_Heap_birthColour_24 (by decide) ?_
    exact g_iret h r d_Heap_birthColour_25 (⟨by first | (simp [cbirth, c_5]; done) | (simp [cbirth, c_5, c_13]; done) | (simp [cbirth, c_5, c_13, Int32.not_lt.mp c_21]; done) | (simp [cbirth, c_5, c_13, Int32.not_le.mpr c_21]; done), rfl⟩)
  · refine g_aload_n h d_Heap_birthColour_8 rfl rfl ?_
    refine gf_Heap_phase h f_Heap_21 d_Heap_birthColour_9 ?_
    refine g_iconst (v := 2) h d_Heap_birthColour_12 (by decide) ?_
    refine g_icmp_ne (tgt := 26) h d_Heap_birthColour_13 (by decide) (fun c_13 => ?_) (fun c_13 => ?_)
    · refine g_iconst (v := 0) h d_Heap_birthColour_26 (by decide) ?_
      exact g_iret h r d_Heap_birthColour_27 (⟨by first | (simp [cbirth, c_5]; done) | (simp [cbirth, c_5, c_13]; done) | (simp [cbirth, c_5, c_13, Int32.not_lt.mp c_21]; done) | (simp [cbirth, c_5, c_13, Int32.not_le.mpr c_21]; done), rfl⟩)
    · refine g_iload_n h d_Heap_birthColour_16 rfl rfl ?_
      refine g_aload_n h d_Heap_birthColour_17 rfl rfl ?_
      refine gf_Heap_sweepFrom h f_Heap_25 d_Heap_birthColour_18 ?_
      refine g_icmp_lt (tgt := 26) h d_Heap_birthColour_21 (by decide) (fun c_21 => ?_) (fun c_21 => ?_)
      · refine g_iconst (v := 0) h d_Heap_birthColour_26 (by decide) ?_
        exact g_iret h r d_Heap_birthColour_27 (⟨by first | (simp [cbirth, c_5]; done) | (simp [cbirth, c_5, c_13]; done) | (simp [cbirth, c_5, c_13, Int32.not_lt.mp c_21]; done) | (simp [cbirth, c_5, c_13, Int32.not_le.mpr c_21]; done), rfl⟩)
      · refine g_iconst (v := 2) h d_Heap_birthColour_24 (by decide) ?_
        exact g_iret h r d_Heap_birthColour_25 (⟨by first | (simp [cbirth, c_5]; done) | (simp [cbirth, c_5, c_13]; done) | (simp [cbirth, c_5, c_13, Int32.not_lt.mp c_21]; done) | (simp [cbirth, c_5, c_13, Int32.not_le.mpr c_21]; done), rfl⟩)
set_option maxHeartbeats 4000000 in
set_option maxRecDepth 100000 in
theorem c_Heap_leastFree {l : Launch} {D : va_G} {t : Nat → ClassId} {ad : Nat → Nat} {C : CS}  : Cd l D t ad y_Heap_leastFree b_Heap_leastFree 2 (some .int) { frames := 0, cells := 0, slots := 0, locals := 0 } [.ref (ad (ix 1 0))] (C) (some (.int (enc (cfree C)))) (C) := by
  refine ct_of (by decide) (Nat.le_of_ble_eq_true rfl) ?_
  intro Γ _ _ hN h r
  have loop : ∀ (c i : Nat), i + c = 16 → lst (fun n => C.1 0 n == 0) c i = cfree C → G Γ 0 0 171 ad (wc ad t C) 2 [some (.ref (ad (ix 1 0))), some (.int (nI i))] [] := by
    intro c
    induction c with
    | zero =>
      intro i hi he
      refine g_iload_n h d_Heap_leastFree_2 rfl rfl ?_
      refine g_bipush (v := 16) h d_Heap_leastFree_3 (by decide) ?_
      refine g_icmp_ge (tgt := 28) h d_Heap_leastFree_5 (by decide) (fun c_5 => ?_) (fun c_5 => ?_)
      · refine g_iconst (v := -1) h d_Heap_leastFree_28 (by decide) ?_
        exact g_iret h r d_Heap_leastFree_29 (⟨by rw [← he]; rfl, rfl⟩)
      · exact absurd (nI_le (a := 16) (b := i) (by omega) (by omega)) c_5
    | succ c ih =>
      intro i hi he
      refine g_iload_n h d_Heap_leastFree_2 rfl rfl ?_
      refine g_bipush (v := 16) h d_Heap_leastFree_3 (by decide) ?_
      refine g_icmp_ge (tgt := 28) h d_Heap_leastFree_5 (by decide) (fun c_5 => ?_) (fun c_5 => ?_)
      · exact absurd c_5 (nI_ge (b := 16) (by omega) (by decide))
      · refine g_aload_n h d_Heap_leastFree_8 rfl rfl ?_
        refine gf_Heap_cells h f_Heap_17 d_Heap_leastFree_9 ?_
        refine g_iload_n h d_Heap_leastFree_12 rfl rfl ?_
        refine ga_cells h rfl (by omega) d_Heap_leastFree_13 ?_
        refine gf_Cell_kind h f_Heap_59 (by first | assumption | omega | (show _ < 16; omega)) d_Heap_leastFree_14 ?_
        refine g_if_ne (tgt := 22) h d_Heap_leastFree_17 (by decide) (fun c_17 => ?_) (fun c_17 => ?_)
        · refine g_iinc (v := nI (i + 1)) h d_Heap_leastFree_22 rfl (by rw [nI_succ]; rfl) rfl (by rw [hN]; decide) ?_
          refine g_goto (tgt := 2) h d_Heap_leastFree_25 (by decide) ?_
          exact ih (i + 1) (by omega) (by rw [← he]; simp [lst, c_17])
        · refine g_iload_n h d_Heap_leastFree_20 rfl rfl ?_
          exact g_iret h r d_Heap_leastFree_21 (⟨by rw [← he]; simp [lst, c_17, enc], rfl⟩)
  refine g_at (L' := [some (.ref (ad (ix 1 0))), none]) rfl rfl rfl ?_
  refine g_iconst (v := 0) h d_Heap_leastFree_0 (by decide) ?_
  refine g_istore_n h d_Heap_leastFree_1 rfl rfl (by rw [hN]; decide) ?_
  exact loop 16 0 (by omega) rfl
set_option maxHeartbeats 4000000 in
set_option maxRecDepth 100000 in
theorem c_Heap_leastGray {l : Launch} {D : va_G} {t : Nat → ClassId} {ad : Nat → Nat} {C : CS}  : Cd l D t ad y_Heap_leastGray b_Heap_leastGray 2 (some .int) { frames := 0, cells := 0, slots := 0, locals := 0 } [.ref (ad (ix 1 0))] (C) (some (.int (enc (cgray C)))) (C) := by
  refine ct_of (by decide) (Nat.le_of_ble_eq_true rfl) ?_
  intro Γ _ _ hN h r
  have loop : ∀ (c i : Nat), i + c = 16 → lst (fun n => C.1 1 n == 1) c i = cgray C → G Γ 0 0 171 ad (wc ad t C) 2 [some (.ref (ad (ix 1 0))), some (.int (nI i))] [] := by
    intro c
    induction c with
    | zero =>
      intro i hi he
      refine g_iload_n h d_Heap_leastGray_2 rfl rfl ?_
      refine g_bipush (v := 16) h d_Heap_leastGray_3 (by decide) ?_
      refine g_icmp_ge (tgt := 29) h d_Heap_leastGray_5 (by decide) (fun c_5 => ?_) (fun c_5 => ?_)
      · refine g_iconst (v := -1) h d_Heap_leastGray_29 (by decide) ?_
        exact g_iret h r d_Heap_leastGray_30 (⟨by rw [← he]; rfl, rfl⟩)
      · exact absurd (nI_le (a := 16) (b := i) (by omega) (by omega)) c_5
    | succ c ih =>
      intro i hi he
      refine g_iload_n h d_Heap_leastGray_2 rfl rfl ?_
      refine g_bipush (v := 16) h d_Heap_leastGray_3 (by decide) ?_
      refine g_icmp_ge (tgt := 29) h d_Heap_leastGray_5 (by decide) (fun c_5 => ?_) (fun c_5 => ?_)
      · exact absurd c_5 (nI_ge (b := 16) (by omega) (by decide))
      · refine g_aload_n h d_Heap_leastGray_8 rfl rfl ?_
        refine gf_Heap_cells h f_Heap_17 d_Heap_leastGray_9 ?_
        refine g_iload_n h d_Heap_leastGray_12 rfl rfl ?_
        refine ga_cells h rfl (by omega) d_Heap_leastGray_13 ?_
        refine gf_Cell_colour h f_Heap_73 (by first | assumption | omega | (show _ < 16; omega)) d_Heap_leastGray_14 ?_
        refine g_iconst (v := 1) h d_Heap_leastGray_17 (by decide) ?_
        refine g_icmp_ne (tgt := 23) h d_Heap_leastGray_18 (by decide) (fun c_18 => ?_) (fun c_18 => ?_)
        · refine g_iinc (v := nI (i + 1)) h d_Heap_leastGray_23 rfl (by rw [nI_succ]; rfl) rfl (by rw [hN]; decide) ?_
          refine g_goto (tgt := 2) h d_Heap_leastGray_26 (by decide) ?_
          exact ih (i + 1) (by omega) (by rw [← he]; simp [lst, c_18])
        · refine g_iload_n h d_Heap_leastGray_21 rfl rfl ?_
          exact g_iret h r d_Heap_leastGray_22 (⟨by rw [← he]; simp [lst, c_18, enc], rfl⟩)
  refine g_at (L' := [some (.ref (ad (ix 1 0))), none]) rfl rfl rfl ?_
  refine g_iconst (v := 0) h d_Heap_leastGray_0 (by decide) ?_
  refine g_istore_n h d_Heap_leastGray_1 rfl rfl (by rw [hN]; decide) ?_
  exact loop 16 0 (by omega) rfl
end

-- part 10.lem
section
/-! what the class keeps true of its own numbers -/
def okC (C : CS) : Prop :=
  (∀ n, n < 16 → (∃ p, p ≤ 6 ∧ C.1 2 n = nI p) ∧ (C.1 3 n = -1 ∨ ∃ m, m < 16 ∧ C.1 3 n = nI m) ∧ (∃ f, f < 4 ∧ C.1 4 n = nI f) ∧ (∃ p, p ≤ 16 ∧ C.1 5 n = nI p) ∧ (∃ a, a < 4 ∧ C.1 7 n = nI a) ∧ (∃ a, a < 4 ∧ C.1 8 n = nI a)) ∧
  (∀ f n i, okV (C.2.1 f n i)) ∧ (∃ k, k < 16 ∧ C.1 14 0 = nI k) ∧ (∃ d, d ≤ 5 ∧ C.1 19 0 = nI d ∧ ∀ i, i < d → ∃ n, n < 16 ∧ C.2.2 i = some n)
theorem cPairs_eq {C : CS} {n P : Nat} (hp : C.1 2 n = nI P) (hP : P ≤ 6) : cPairs C n = P := by unfold cPairs; rw [hp]; exact nI_clamp (by omega)
theorem tfind_lt {C : CS} {n P q : Nat} {key : Int64} (hp : C.1 2 n = nI P) (hP : P ≤ 6) (hf : tfind C n key = some q) : q < P := by
  unfold tfind at hf
  rw [cPairs_eq hp hP] at hf
  have := (lst_lt _ _ _ hf).2.1
  omega
theorem isA_on {C : CS} {k : Int32} {v : Int64} (hv : okV v) (ha : isA C k v = true) : on v < 16 ∧ (v - 10000000000).toInt32 = nI (on v) ∧ C.1 0 (on v) = k ∧ ¬ v < 10000000000 := by
  simp only [isA, Bool.and_eq_true, Bool.not_eq_true', decide_eq_false_iff_not, decide_eq_true_eq] at ha
  obtain ⟨h1, -, h2⟩ := okV_on hv ha.1
  exact ⟨h1, h2, ha.2, ha.1⟩
theorem tlinked_nI {C : CS} {j : Nat} {link : Int64} (hj : j < 16) : tlinked C (nI j) link = match tfind C j link with
    | none => none
    | some q => if isA C 1 (C.2.1 2 j q) = true then some (on (C.2.1 2 j q)) else none := by
  unfold tlinked
  rw [if_neg (nI_pos (by omega)), nI_clamp (by omega)]
  cases tfind C j link <;> rfl
theorem tlinked_m1 {C : CS} {link : Int64} : tlinked C (-1) link = none := by
  unfold tlinked
  rw [if_pos (by decide)]
theorem tlinked_lt {C : CS} {m : Int32} {link : Int64} {k : Nat} (hok : okC C) (h : tlinked C m link = some k) : k < 16 := by
  unfold tlinked at h
  by_cases hm : m < 0
  · rw [if_pos hm] at h; cases h
  · rw [if_neg hm] at h
    split at h
    · cases h
    · split at h
      · rename_i q _ ha
        cases h
        exact (isA_on (hok.2.1 _ _ _) ha).1
      · cases h
/-- fewer locals are known, by lists -/
def leL : List (Option Value) → List (Option Value) → Prop
  | [], _ => True
  | none :: a, _ :: b => leL a b
  | some x :: a, some y :: b => x = y ∧ leL a b
  | _, _ => False
theorem leL_get : ∀ (L' L : List (Option Value)), leL L' L → ∀ (i : Nat) (v : Value), L'[i]? = some (some v) → L[i]? = some (some v)
  | [], _, _, i, v, hi => by simp at hi
  | none :: a, _ :: b, h, i, v, hi => by
    cases i with
    | zero => simp at hi
    | succ i => exact leL_get a b h i v (by simpa using hi)
  | some x :: a, some y :: b, h, i, v, hi => by
    obtain ⟨h1, h2⟩ := h
    cases i with
    | zero => subst h1; simpa using hi
    | succ i => exact leL_get a b h2 i v (by simpa using hi)
  | none :: _, [], h, _, _, _ => by cases h
  | some _ :: _, [], h, _, _, _ => by cases h
  | some _ :: _, none :: _, h, _, _, _ => by cases h
theorem g_lessL {Γ : GT} {kc ks N pc : Nat} {ad : Nat → Nat} {σ : Nat → va_E} {L L' : List (Option Value)} {st : List Value} (h : leL L' L) (k : G Γ kc ks N ad σ pc L' st) : G Γ kc ks N ad σ pc L st := g_less (leL_get L' L h) k
theorem nI_neg {n : Nat} (h : n < 2 ^ 31) : ¬ nI n < 0 := nI_pos h
theorem cshadeRow_2 (row : Nat → Int64) : ∀ (c i : Nat) (a : Int32) (C : CS), (cshadeRow row c i a C).2.2 = C.2
  | 0, _, _, _ => rfl
  | c + 1, i, a, C => by
    unfold cshadeRow
    split
    · rw [cshadeRow_2 row c]; rfl
    · exact cshadeRow_2 row c _ _ _
theorem cshadeRow_1 (row : Nat → Int64) : ∀ (c i : Nat) (a : Int32) (C : CS) (f n : Nat), f ≠ 1 → (cshadeRow row c i a C).2.1 f n = C.1 f n
  | 0, _, _, _, _, _, _ => rfl
  | c + 1, i, a, C, f, n, hf => by
    unfold cshadeRow
    split
    · rw [cshadeRow_1 row c _ _ _ _ _ hf, sI_1, if_neg (fun z => hf z.1)]
    · exact cshadeRow_1 row c _ _ _ _ _ hf
theorem fil_step (C : CS) (f n i : Nat) (v : Int64) : sJ (sR C f n (fil v i (C.2.1 f n))) f n i v = sR C f n (fil v (i + 1) (C.2.1 f n)) := by
  unfold sJ sR
  refine Prod.ext rfl (Prod.ext ?_ rfl)
  funext a b c
  show (if a = f ∧ b = n ∧ c = i then v else if a = f ∧ b = n then fil v i (C.2.1 f n) c else C.2.1 a b c) = if a = f ∧ b = n then fil v (i + 1) (C.2.1 f n) c else C.2.1 a b c
  unfold fil
  by_cases h1 : a = f ∧ b = n
  · by_cases h2 : c = i
    · subst h2; simp [h1]
    · simp only [h1, h2, and_false, and_self, if_true, if_false]
      by_cases h3 : c < i
      · rw [if_pos h3, if_pos (show c < i + 1 by omega)]
      · rw [if_neg h3, if_neg (show ¬ c < i + 1 by omega)]
  · rw [if_neg (fun z => h1 ⟨z.1, z.2.1⟩), if_neg h1, if_neg h1]
theorem fil_0 (C : CS) (f n : Nat) (v : Int64) : sR C f n (fil v 0 (C.2.1 f n)) = C := by
  unfold sR
  refine Prod.ext rfl (Prod.ext ?_ rfl)
  funext a b c
  show (if a = f ∧ b = n then fil v 0 (C.2.1 f n) c else C.2.1 a b c) = C.2.1 a b c
  by_cases h1 : a = f ∧ b = n
  · obtain ⟨rfl, rfl⟩ := h1; simp [fil]
  · rw [if_neg h1]
theorem cshade_2 (C : CS) (n : Nat) : (cshade C n).2.2 = C.2 := by unfold cshade; split <;> rfl
theorem cshade_1 (C : CS) (n f m : Nat) (hf : f ≠ 1) : (cshade C n).2.1 f m = C.1 f m := by
  unfold cshade
  split
  · show (sI C 1 n 1).1 f m = _
    rw [sI_1, if_neg (fun z => hf z.1)]
  · rfl
theorem croots_2 : ∀ (c n : Nat) (a : Int32) (C : CS), (croots c n a C).2.2 = C.2
  | 0, _, _, _ => rfl
  | c + 1, n, a, C => by
    unfold croots
    split
    · rw [croots_2 c, cshadeRow_2, cshade_2]
    · exact croots_2 c _ _ _
theorem croots_1 : ∀ (c n : Nat) (a : Int32) (C : CS) (f m : Nat), f ≠ 1 → (croots c n a C).2.1 f m = C.1 f m
  | 0, _, _, _, _, _, _ => rfl
  | c + 1, n, a, C, f, m, hf => by
    unfold croots
    split
    · rw [croots_1 c _ _ _ _ _ hf, cshadeRow_1 _ _ _ _ _ _ _ hf, cshade_1 _ _ _ _ hf]
    · exact croots_1 c _ _ _ _ _ hf
theorem okC_of {C C' : CS} (h : okC C) (h1 : ∀ f, f = 2 ∨ f = 3 ∨ f = 4 ∨ f = 5 ∨ f = 7 ∨ f = 8 ∨ f = 19 → ∀ n, C'.1 f n = C.1 f n) (h2 : C'.2 = C.2) (h3 : ∃ k, k < 16 ∧ C'.1 14 0 = nI k) : okC C' := by
  obtain ⟨a, b, -, d⟩ := h
  refine ⟨fun n hn => ?_, ?_, h3, ?_⟩
  · rw [h1 2 (by omega), h1 3 (by omega), h1 4 (by omega), h1 5 (by omega), h1 7 (by omega), h1 8 (by omega)]
    exact a n hn
  · rw [h2]; exact b
  · rw [h1 19 (by omega), h2]; exact d
theorem cblacken_2 (C : CS) (n : Nat) : (cblacken C n).2 = C.2 := by
  unfold cblacken
  simp only
  split
  · rw [cshadeRow_2]; rfl
  · split
    · rw [cshadeRow_2, cshadeRow_2]; rfl
    · rw [cshade_2, cshadeRow_2, cshadeRow_2]; rfl
theorem cblacken_1 (C : CS) (n f m : Nat) (hf : f ≠ 1) : (cblacken C n).1 f m = C.1 f m := by
  have e : (sI C 1 n 2).1 f m = C.1 f m := by rw [sI_1, if_neg (fun z => hf z.1)]
  unfold cblacken
  simp only
  split
  · rw [cshadeRow_1 _ _ _ _ _ _ _ hf]; exact e
  · split
    · rw [cshadeRow_1 _ _ _ _ _ _ _ hf, cshadeRow_1 _ _ _ _ _ _ _ hf]; exact e
    · rw [cshade_1 _ _ _ _ hf, cshadeRow_1 _ _ _ _ _ _ _ hf, cshadeRow_1 _ _ _ _ _ _ _ hf]; exact e
theorem cshadeRoots_2 (C : CS) : (cshadeRoots C).2.2 = C.2 := by unfold cshadeRoots; rw [croots_2, cshadeRow_2]
theorem cshadeRoots_1 (C : CS) (f m : Nat) (hf : f ≠ 1) : (cshadeRoots C).2.1 f m = C.1 f m := by unfold cshadeRoots; rw [croots_1 _ _ _ _ _ _ hf, cshadeRow_1 _ _ _ _ _ _ _ hf]
section RowsOf
variable {ad : Nat → Nat} {t : Nat → ClassId} {C : CS} {n : Nat}
theorem row_g : ∀ C2 : CS, C2.2 = C.2 → wc ad t C2 (ix 2 0) = .inl (t 0, 6, .inr (.inl (C.2.1 0 0))) := fun C2 e => by
  rw [wc_at (by decide) (by decide)]
  show Sum.inl (t 0, 6, Sum.inr (Sum.inl (C2.2.1 0 0))) = _
  rw [e]
theorem row_k (hn : n < 16) : ∀ C2 : CS, C2.2 = C.2 → wc ad t C2 (ix 6 n) = .inl (t 0, 6, .inr (.inl (C.2.1 1 n))) := fun C2 e => by
  rw [wc_at (by decide) hn]
  show Sum.inl (t 0, 6, Sum.inr (Sum.inl (C2.2.1 1 n))) = _
  rw [e]
theorem row_v (hn : n < 16) : ∀ C2 : CS, C2.2 = C.2 → wc ad t C2 (ix 7 n) = .inl (t 0, 6, .inr (.inl (C.2.1 2 n))) := fun C2 e => by
  rw [wc_at (by decide) hn]
  show Sum.inl (t 0, 6, Sum.inr (Sum.inl (C2.2.1 2 n))) = _
  rw [e]
theorem row_r (hn : n < 16) : ∀ C2 : CS, C2.2 = C.2 → wc ad t C2 (ix 9 n) = .inl (t 0, 4, .inr (.inl (C.2.1 3 n))) := fun C2 e => by
  rw [wc_at (by decide) hn]
  show Sum.inl (t 0, 4, Sum.inr (Sum.inl (C2.2.1 3 n))) = _
  rw [e]
end RowsOf
theorem sI_o {C : CS} {f n g m : Nat} {v : Int32} (h : g ≠ f) : (sI C f n v).1 g m = C.1 g m := by rw [sI_1, if_neg (fun z => h z.1)]
theorem csweep_2 (C : CS) : (csweep C).2 = C.2 := by unfold csweep; simp only; split <;> split <;> rfl
theorem csweep_1 (C : CS) (f m : Nat) (h0 : f ≠ 0) (h1 : f ≠ 1) (h2 : f ≠ 13) (h3 : f ≠ 14) (h4 : f ≠ 16) : (csweep C).1 f m = C.1 f m := by
  unfold csweep
  simp only
  split <;> split <;> simp only [sI_o h0, sI_o h1, sI_o h2, sI_o h3, sI_o h4]
theorem csweep_14 (C : CS) {i : Nat} (hi : i < 16) (hk : C.1 14 0 = nI i) : ∃ k, k < 16 ∧ (csweep C).1 14 0 = nI k := by
  unfold csweep
  simp only
  by_cases h : C.1 14 0 + 1 = 16
  · rw [if_pos h]
    exact ⟨0, by omega, by rw [sI_o (by decide), sI_1, if_pos ⟨rfl, rfl⟩]; rfl⟩
  · rw [if_neg h]
    have hne : i + 1 < 16 := by
      rcases Nat.lt_or_ge (i + 1) 16 with z | z
      · exact z
      · exfalso
        apply h
        have : i = 15 := by omega
        subst this
        rw [hk]
        decide
    exact ⟨i + 1, hne, by rw [sI_1, if_pos ⟨rfl, rfl⟩, hk, nI_succ]⟩
theorem okC_17 {C : CS} {v : Int32} (h : okC C) : okC (sI C 17 0 v) := okC_of h (fun f hf n => sI_o (by omega)) rfl (by obtain ⟨k, h1, h2⟩ := h.2.2.1; exact ⟨k, h1, by rw [sI_o (by decide)]; exact h2⟩)
theorem okC_18 {C : CS} {v : Int32} (h : okC C) : okC (sI C 18 0 v) := okC_of h (fun f hf n => sI_o (by omega)) rfl (by obtain ⟨k, h1, h2⟩ := h.2.2.1; exact ⟨k, h1, by rw [sI_o (by decide)]; exact h2⟩)
theorem okC_unit {C : CS} (h : okC C) : okC (cunit C) := by
  have h1 := okC_17 (v := C.1 17 0 + 1) h
  unfold cunit
  simp only
  split
  · obtain ⟨k, hk, hk2⟩ := h1.2.2.1
    exact okC_of h1 (fun f hf n => csweep_1 _ f n (by omega) (by omega) (by omega) (by omega) (by omega)) (csweep_2 _) (csweep_14 _ hk hk2)
  · split
    · exact okC_of h1 (fun f hf n => cblacken_1 _ _ f n (by omega)) (cblacken_2 _ _) (by rw [cblacken_1 _ _ _ _ (by decide)]; exact h1.2.2.1)
    · refine okC_of h1 (fun f hf n => ?_) (cshadeRoots_2 _) ?_
      · rw [sI_o (by omega)]; exact cshadeRoots_1 _ f n (by omega)
      · rw [sI_o (by decide), cshadeRoots_1 _ _ _ (by decide)]; exact h1.2.2.1
theorem okC_while : ∀ (c : Nat) (C : CS), okC C → okC (cwhile c C)
  | 0, _, h => h
  | c + 1, C, h => by
    unfold cwhile
    split
    · exact h
    · exact okC_while c _ (okC_unit h)
theorem okC_full {C : CS} (h : okC C) : okC (cfull C) := okC_while _ _ (okC_unit (okC_while _ _ (okC_18 h)))
theorem cgray_lt {C : CS} {q : Nat} (h : cgray C = some q) : q < 16 := by have := (lst_lt _ _ _ h).2.1; omega
theorem cfree_lt {C : CS} {q : Nat} (h : cfree C = some q) : q < 16 := by have := (lst_lt _ _ _ h).2.1; omega
theorem tlast_lt {C : CS} {key link : Int64} (hok : okC C) : ∀ (c n q : Nat), n < 16 → tlast C key link c n = some q → q < 16
  | 0, _, _, _, h => by cases h
  | c + 1, n, q, hn, h => by
    unfold tlast at h
    split at h
    · cases h; exact hn
    · rename_i m hm
      refine tlast_lt hok c m q ?_ h
      split at hm
      · cases hm
      · exact tlinked_lt hok hm
theorem okC_J {C : CS} {f n i : Nat} {v : Int64} (h : okC C) (hv : okV v) : okC (sJ C f n i v) := by
  obtain ⟨a, b, c, d⟩ := h
  refine ⟨a, fun f' n' i' => ?_, c, d⟩
  rw [sJ_2]
  split
  · exact hv
  · exact b _ _ _
theorem okV_nil : okV (-1000000000000) := Or.inl (by decide)
section CopyRows
variable {Γ : GT} {cc : ByteArray} {own : String} {rm : Room} {nl : List (String × Nat × MethodName × String)} {kc ks pc index : Nat} {ad : Nat → Nat} {t : Nat → ClassId} {C : CS} {L : List (Option Value)} {st : List Value}
theorem pc_row (h : Cx Γ cc own rm TB CL (tyc t) nl) {cd f : Nat} (hf : rdJ f = cd) (h14 : cd < 14) (hl : Cond.methodLink own index arraycopyName ∈ TB) (hnat : Cond.native arraycopyName ∈ TB) (hsta : Cond.static arraycopyName ∈ TB) (hini : Cond.initialized "java/lang/System" ∈ TB) {n sp dp m : Nat} (hn : n < nk cd) (he : ∀ C2 : CS, ob ad t C2 cd n = .inl (t 0, 6, .inr (.inl (C2.2.1 f n)))) (h4 : sp + m ≤ 6) (h5 : dp + m ≤ 6) {x y z : Int32} (ex : x = nI sp) (ey : y = nI dp) (ez : z = nI m) (hfr : 1 ≤ rm.frames) (hlo : (st.map fun v => v.category).sum + (nativeFrameWords "java/lang/System" "arraycopy" 5 + 11) ≤ rm.locals) (hd : decode cc pc = .ok (.invokestatic index, 3))
    (k : G Γ kc ks 171 ad (wc ad t (sR C f n (va_cpy (C.2.1 f n) (C.2.1 f n) sp dp m))) (pc + 3) L st) : G Γ kc ks 171 ad (wc ad t C) pc L (.int z :: .int y :: .ref (ad (ix cd n)) :: .int x :: .ref (ad (ix cd n)) :: st) := by
  subst ex; subst ey; subst ez
  intro H locs ls hP hD hS hl0
  have c1 : (nI sp).toNatClampNeg = sp := nI_clamp (by omega)
  have c2 : (nI dp).toNatClampNeg = dp := nI_clamp (by omega)
  have c3 : (nI m).toNatClampNeg = m := nI_clamp (by omega)
  have hq := ix_lt cd h14 n hn
  have ha : (gl 171 ad (wc ad t C))[ix cd n]? = some (ad (ix cd n), .inl (t 0, 6, .inr (.inl (C.2.1 f n)))) := gl_he hq ((wc_at h14 hn).trans (he C))
  refine va_copyl h.x h.b (h.ml.trans hl0.1.symm) h.ow (h.ts _ hl) (h.ts _ hnat) (h.ts _ hsta) (h.ts _ hini) h.K hP hD hS (ix cd n) (ix cd n) 0 0 ha ha rfl rfl rfl (nI_pos (by omega)) (nI_pos (by omega)) (nI_pos (by omega)) (by rw [c1, c3]; exact h4) (by rw [c2, c3]; exact h5) (fun _ _ => rfl) (by rw [h.R]; exact hfr) (by rw [h.R]; exact hlo) hd (fun H1 locs1 hP hD hS => ?_)
  rw [c1, c2, c3, gl_set hq] at hP hD
  exact g_world (wc_sR hf h14 hn (by rw [he]; show Sum.inl (t 0, 6, Sum.inr (Sum.inl ((sR C f n _).2.1 f n))) = _; congr 5; funext c; simp [sR_2])) k H1 locs1 ls hP hD hS hl0
end CopyRows
theorem lt6 {P : Nat} (hP : P ≤ 6) (h : ¬ nI P = 6) : P < 6 := by
  rcases Nat.lt_or_ge P 6 with z | z
  · exact z
  · exact absurd (by rw [show P = 6 by omega]; rfl) h
theorem ctouch_o {C : CS} {n f m : Nat} (hf : f ≠ 1) : (ctouch C n).1 f m = C.1 f m := by
  unfold ctouch
  split
  · exact sI_o hf
  · rfl
theorem ctouch_2 {C : CS} {n : Nat} : (ctouch C n).2 = C.2 := by unfold ctouch; split <;> rfl
end

-- part 11.heap
section
set_option maxHeartbeats 4000000 in
set_option maxRecDepth 100000 in
theorem c_Heap_linked {l : Launch} {D : va_G} {t : Nat → ClassId} {ad : Nat → Nat} {C : CS} {m : Int32} {link : Int64} (hok : okC C) (hm : m = -1 ∨ ∃ j, j < 16 ∧ m = nI j) : Cd l D t ad y_Heap_linked b_Heap_linked 6 (some .int) { frames := 2, cells := 0, slots := 0, locals := 44 } [.ref (ad (ix 1 0)), .int m, .long link] (C) (some (.int (enc (tlinked C m link)))) (C) := by
  refine ct_of (by decide) (Nat.le_of_ble_eq_true rfl) ?_
  intro Γ _ _ hN h r
  rcases hm with rfl | ⟨j, hj, rfl⟩
  · refine g_at (L' := [some (.ref (ad (ix 1 0))), some (.int (-1)), some (.long link), none, none, none]) rfl rfl rfl ?_
    refine g_iload_n h d_Heap_linked_0 rfl rfl ?_
    refine g_if_ge (tgt := 6) h d_Heap_linked_1 (by decide) (fun c_1 => ?_) (fun c_1 => ?_)
    · exact absurd c_1 (by decide)
    · refine g_iconst (v := -1) h d_Heap_linked_4 (by decide) ?_
      exact g_iret h r d_Heap_linked_5 (⟨by rw [tlinked_m1]; rfl, rfl⟩)
  · obtain ⟨⟨P, hP, hp⟩, -⟩ := hok.1 j hj
    refine g_at (L' := [some (.ref (ad (ix 1 0))), some (.int (nI j)), some (.long link), none, none, none]) rfl rfl rfl ?_
    refine g_iload_n h d_Heap_linked_0 rfl rfl ?_
    refine g_if_ge (tgt := 6) h d_Heap_linked_1 (by decide) (fun c_1 => ?_) (fun c_1 => ?_)
    · refine g_aload_n h d_Heap_linked_6 rfl rfl ?_
      refine gf_Heap_cells h f_Heap_17 d_Heap_linked_7 ?_
      refine g_iload_n h d_Heap_linked_10 rfl rfl ?_
      refine ga_cells h rfl hj d_Heap_linked_11 ?_
      refine gf_Cell_table h f_Heap_76 (by first | assumption | omega | (show _ < 16; omega)) d_Heap_linked_12 ?_
      refine g_astore h d_Heap_linked_15 rfl (by rw [hN]; decide) ?_
      refine g_aload h d_Heap_linked_17 rfl ?_
      refine g_lload_n h d_Heap_linked_19 rfl rfl ?_
      refine g_dVi h tb_good (c_Tab_find hj hp hP) (ix_lt 5 (by decide) _ (by first | assumption | omega | (show _ < 16; omega))) (wc_at (by decide) (by first | assumption | omega | (show _ < 16; omega))) rfl v_Heap_102 nm_Tab_find rfl ⟨rfl, rfl, Nat.le_of_ble_eq_true rfl, Nat.le_of_ble_eq_true rfl, Nat.zero_le _, Nat.zero_le _⟩ rfl (Nat.le_of_ble_eq_true rfl) d_Heap_linked_20 ?_
      refine g_istore h d_Heap_linked_23 rfl (by rw [hN]; decide) ?_
      rcases hf : tfind C j link with _ | q <;> simp only [enc]
      · refine g_iload h d_Heap_linked_25 rfl ?_
        refine g_if_lt (tgt := 46) h d_Heap_linked_27 (by decide) (fun c_27 => ?_) (fun c_27 => ?_)
        · refine g_iconst (v := -1) h d_Heap_linked_46 (by decide) ?_
          exact g_iret h r d_Heap_linked_47 (⟨by rw [tlinked_nI hj]; first | (simp [hf, enc]; done) | (simp [hf, ha, enc]; done), rfl⟩)
        · exact absurd (by decide) c_27
      · have hq := tfind_lt hp hP hf
        refine g_iload h d_Heap_linked_25 rfl ?_
        refine g_if_lt (tgt := 46) h d_Heap_linked_27 (by decide) (fun c_27 => ?_) (fun c_27 => ?_)
        · exact absurd c_27 (nI_pos (by omega))
        · refine g_aload_n h d_Heap_linked_30 rfl rfl ?_
          refine g_iconst (v := 1) h d_Heap_linked_31 (by decide) ?_
          refine g_aload h d_Heap_linked_32 rfl ?_
          refine gf_Tab_values h f_Heap_105 (by first | assumption | omega | (show _ < 16; omega)) d_Heap_linked_34 ?_
          refine g_iload h d_Heap_linked_37 rfl ?_
          refine ga_vals h hj rfl (by omega) d_Heap_linked_39 ?_
          refine g_dVi h tb_good (c_Heap_isA (hok.2.1 2 j q)) (ix_lt 1 (by decide) _ (by decide)) (wc_at (by decide) (by decide)) rfl v_Heap_94 nm_Heap_isA rfl ⟨rfl, rfl, Nat.le_of_ble_eq_true rfl, Nat.le_of_ble_eq_true rfl, Nat.zero_le _, Nat.zero_le _⟩ rfl (Nat.le_of_ble_eq_true rfl) d_Heap_linked_40 ?_
          by_cases ha : isA C 1 (C.2.1 2 j q) = true
          · rw [if_pos ha]
            refine g_if_ne (tgt := 48) h d_Heap_linked_43 (by decide) (fun c_43 => ?_) (fun c_43 => ?_)
            · refine g_aload h d_Heap_linked_48 rfl ?_
              refine gf_Tab_values h f_Heap_105 (by first | assumption | omega | (show _ < 16; omega)) d_Heap_linked_50 ?_
              refine g_iload h d_Heap_linked_53 rfl ?_
              refine ga_vals h hj rfl (by omega) d_Heap_linked_55 ?_
              refine g_dNi h tb_good (c_TCM_numberOf) (host := "TriColourMachine") nl_Heap_55 cd_TCM_numberOf in_TCM st_TCM_numberOf nm_TCM_numberOf rfl ⟨rfl, rfl, Nat.le_of_ble_eq_true rfl, Nat.le_of_ble_eq_true rfl, Nat.zero_le _, Nat.zero_le _⟩ rfl (Nat.le_of_ble_eq_true rfl) d_Heap_linked_56 ?_
              exact g_iret h r d_Heap_linked_59 (⟨by rw [tlinked_nI hj, (isA_on (hok.2.1 2 j q) ha).2.1]; simp [hf, ha, enc], rfl⟩)
            · exact absurd c_43 (by decide)
          · rw [if_neg ha]
            refine g_if_ne (tgt := 48) h d_Heap_linked_43 (by decide) (fun c_43 => ?_) (fun c_43 => ?_)
            · exact absurd rfl c_43
            · refine g_iconst (v := -1) h d_Heap_linked_46 (by decide) ?_
              exact g_iret h r d_Heap_linked_47 (⟨by rw [tlinked_nI hj]; first | (simp [hf, enc]; done) | (simp [hf, ha, enc]; done), rfl⟩)
    · exact absurd (nI_pos' (by omega)) c_1
set_option maxHeartbeats 4000000 in
set_option maxRecDepth 100000 in
theorem c_Heap_lastTable {l : Launch} {D : va_G} {t : Nat → ClassId} {ad : Nat → Nat} {C : CS} {n0 : Nat} {first : Int32} {key link : Int64} (hok : okC C) (hn0 : n0 < 16) (hf0 : first = nI n0) : Cd l D t ad y_Heap_lastTable b_Heap_lastTable 10 (some .int) { frames := 3, cells := 0, slots := 0, locals := 69 } [.ref (ad (ix 1 0)), .int first, .long key, .long link] (C) (some (.int (enc (tlast C key link 5 n0)))) (C) := by
  refine ct_of (by decide) (Nat.le_of_ble_eq_true rfl) ?_
  intro Γ _ _ hN h r
  have loop : ∀ (c s n : Nat), s + c = 5 → n < 16 → tlast C key link c n = tlast C key link 5 n0 → G Γ 0 0 171 ad (wc ad t C) 6 [some (.ref (ad (ix 1 0))), some (.int first), some (.long key), none, some (.long link), none, some (.int (nI n)), some (.int (nI s)), none, none] [] := by
    intro c
    induction c with
    | zero =>
      intro s n hs hn he
      refine g_iload h d_Heap_lastTable_6 rfl ?_
      refine g_iconst (v := 5) h d_Heap_lastTable_8 (by decide) ?_
      refine g_icmp_ge (tgt := 68) h d_Heap_lastTable_9 (by decide) (fun c_9 => ?_) (fun c_9 => ?_)
      · refine g_iconst (v := -1) h d_Heap_lastTable_68 (by decide) ?_
        exact g_iret h r d_Heap_lastTable_69 (⟨by rw [← he]; rfl, rfl⟩)
      · exact absurd (nI_le (a := 5) (b := s) (by omega) (by omega)) c_9
    | succ c ih =>
      intro s n hs hn he
      obtain ⟨⟨P, hP, hp⟩, -⟩ := hok.1 n hn
      refine g_iload h d_Heap_lastTable_6 rfl ?_
      refine g_iconst (v := 5) h d_Heap_lastTable_8 (by decide) ?_
      refine g_icmp_ge (tgt := 68) h d_Heap_lastTable_9 (by decide) (fun c_9 => ?_) (fun c_9 => ?_)
      · exact absurd c_9 (nI_ge (b := 5) (by omega) (by decide))
      · refine g_aload_n h d_Heap_lastTable_12 rfl rfl ?_
        refine gf_Heap_cells h f_Heap_17 d_Heap_lastTable_13 ?_
        refine g_iload h d_Heap_lastTable_16 rfl ?_
        refine ga_cells h rfl hn d_Heap_lastTable_18 ?_
        refine gf_Cell_table h f_Heap_76 (by first | assumption | omega | (show _ < 16; omega)) d_Heap_lastTable_19 ?_
        refine g_astore h d_Heap_lastTable_22 rfl (by rw [hN]; decide) ?_
        refine g_aload h d_Heap_lastTable_24 rfl ?_
        refine g_lload_n h d_Heap_lastTable_26 rfl rfl ?_
        refine g_dVi h tb_good (c_Tab_find hn hp hP) (ix_lt 5 (by decide) _ (by first | assumption | omega | (show _ < 16; omega))) (wc_at (by decide) (by first | assumption | omega | (show _ < 16; omega))) rfl v_Heap_102 nm_Tab_find rfl ⟨rfl, rfl, Nat.le_of_ble_eq_true rfl, Nat.le_of_ble_eq_true rfl, Nat.zero_le _, Nat.zero_le _⟩ rfl (Nat.le_of_ble_eq_true rfl) d_Heap_lastTable_27 ?_
        rcases hf : tfind C n key with _ | q <;> simp only [enc]
        · refine g_if_lt (tgt := 37) h d_Heap_lastTable_30 (by decide) (fun c_30 => ?_) (fun c_30 => ?_)
          · refine g_aload_n h d_Heap_lastTable_37 rfl rfl ?_
            refine g_aload h d_Heap_lastTable_38 rfl ?_
            refine gf_Tab_meta h f_Heap_121 (by first | assumption | omega | (show _ < 16; omega)) d_Heap_lastTable_40 ?_
            refine g_lload h d_Heap_lastTable_43 rfl ?_
            refine g_dVi h tb_good (c_Heap_linked hok (hok.1 n hn).2.1) (ix_lt 1 (by decide) _ (by decide)) (wc_at (by decide) (by decide)) rfl v_Heap_124 nm_Heap_linked rfl ⟨rfl, rfl, Nat.le_of_ble_eq_true rfl, Nat.le_of_ble_eq_true rfl, Nat.zero_le _, Nat.zero_le _⟩ rfl (Nat.le_of_ble_eq_true rfl) d_Heap_lastTable_45 ?_
            refine g_istore h d_Heap_lastTable_48 rfl (by rw [hN]; decide) ?_
            rcases hk : tlinked C (C.1 3 n) link with _ | q <;> simp only [enc]
            · refine g_iload h d_Heap_lastTable_50 rfl ?_
              refine g_if_ge (tgt := 58) h d_Heap_lastTable_52 (by decide) (fun c_52 => ?_) (fun c_52 => ?_)
              · exact absurd c_52 (by decide)
              · refine g_iload h d_Heap_lastTable_55 rfl ?_
                exact g_iret h r d_Heap_lastTable_57 (⟨by rw [← he]; simp [tlast, hf, hk, enc], rfl⟩)
            · have hq := tlinked_lt hok hk
              refine g_iload h d_Heap_lastTable_50 rfl ?_
              refine g_if_ge (tgt := 58) h d_Heap_lastTable_52 (by decide) (fun c_52 => ?_) (fun c_52 => ?_)
              · refine g_iload h d_Heap_lastTable_58 rfl ?_
                refine g_istore h d_Heap_lastTable_60 rfl (by rw [hN]; decide) ?_
                refine g_iinc (v := nI (s + 1)) h d_Heap_lastTable_62 rfl (by rw [nI_succ]; rfl) rfl (by rw [hN]; decide) ?_
                refine g_goto (tgt := 6) h d_Heap_lastTable_65 (by decide) ?_
                refine g_lessL (L' := [some (.ref (ad (ix 1 0))), some (.int first), some (.long key), none, some (.long link), none, some (.int (nI q)), some (.int (nI (s + 1))), none, none]) (by simp [leL]) ?_
                exact ih (s + 1) q (by omega) (tlinked_lt hok hk) (by rw [← he]; simp [tlast, hf, hk])
              · exact absurd (nI_pos' (by omega)) c_52
          · exact absurd (by decide) c_30
        · have hq0 := tfind_lt hp hP hf
          refine g_if_lt (tgt := 37) h d_Heap_lastTable_30 (by decide) (fun c_30 => ?_) (fun c_30 => ?_)
          · exact absurd c_30 (nI_pos (by omega))
          · refine g_iconst (v := -1) h d_Heap_lastTable_33 (by decide) ?_
            refine g_goto (tgt := 48) h d_Heap_lastTable_34 (by decide) ?_
            refine g_istore h d_Heap_lastTable_48 rfl (by rw [hN]; decide) ?_
            refine g_iload h d_Heap_lastTable_50 rfl ?_
            refine g_if_ge (tgt := 58) h d_Heap_lastTable_52 (by decide) (fun c_52 => ?_) (fun c_52 => ?_)
            · exact absurd c_52 (by decide)
            · refine g_iload h d_Heap_lastTable_55 rfl ?_
              exact g_iret h r d_Heap_lastTable_57 (⟨by rw [← he]; simp [tlast, hf, enc], rfl⟩)
  refine g_at (L' := [some (.ref (ad (ix 1 0))), some (.int first), some (.long key), none, some (.long link), none, none, none, none, none]) rfl rfl rfl ?_
  refine g_iload_n h d_Heap_lastTable_0 rfl rfl ?_
  refine g_istore h d_Heap_lastTable_1 rfl (by rw [hN]; decide) ?_
  refine g_iconst (v := 0) h d_Heap_lastTable_3 (by decide) ?_
  refine g_istore h d_Heap_lastTable_4 rfl (by rw [hN]; decide) ?_
  subst hf0
  exact loop 5 0 n0 (by omega) hn0 rfl
set_option maxHeartbeats 4000000 in
set_option maxRecDepth 100000 in
theorem c_Heap_shade {l : Launch} {D : va_G} {t : Nat → ClassId} {ad : Nat → Nat} {C : CS} {n : Nat} (hn : n < 16) : Cd l D t ad y_Heap_shade b_Heap_shade 1 (some .int) { frames := 0, cells := 0, slots := 0, locals := 0 } [.ref (ad (ix 4 n))] (C) (some (.int (cshade C n).1)) ((cshade C n).2) := by
  refine ct_of (by decide) (Nat.le_of_ble_eq_true rfl) ?_
  intro Γ _ _ hN h r
  refine g_at (L' := [some (.ref (ad (ix 4 n)))]) rfl rfl rfl ?_
  refine g_aload_n h d_Heap_shade_0 rfl rfl ?_
  refine gf_Cell_colour h f_Heap_73 (by first | assumption | omega | (show _ < 16; omega)) d_Heap_shade_1 ?_
  refine g_if_eq (tgt := 9) h d_Heap_shade_4 (by decide) (fun c_4 => ?_) (fun c_4 => ?_)
  · refine g_aload_n h d_Heap_shade_9 rfl rfl ?_
    refine g_iconst (v := 1) h d_Heap_shade_10 (by decide) ?_
    refine pf_Cell_colour h f_Heap_73 (by first | assumption | omega | (show _ < 16; omega)) d_Heap_shade_11 ?_
    refine g_iconst (v := 1) h d_Heap_shade_14 (by decide) ?_
    exact g_iret h r d_Heap_shade_15 (⟨by simp [cshade, c_4], by simp [cshade, c_4]⟩)
  · refine g_iconst (v := 0) h d_Heap_shade_7 (by decide) ?_
    exact g_iret h r d_Heap_shade_8 (⟨by simp [cshade, c_4], by simp [cshade, c_4]⟩)
set_option maxHeartbeats 4000000 in
set_option maxRecDepth 100000 in
theorem c_Heap_shadeRow {l : Launch} {D : va_G} {t : Nat → ClassId} {ad : Nat → Nat} {C : CS} {q len sz : Nat} {row : Nat → Int64} (hq : q < 171) (hr : ∀ C2 : CS, C2.2 = C.2 → wc ad t C2 q = .inl (t 0, sz, .inr (.inl row))) (hs : len ≤ sz) (hz : sz ≤ 6) (hv : ∀ i, okV (row i)) : Cd l D t ad y_Heap_shadeRow b_Heap_shadeRow 6 (some .int) { frames := 0, cells := 0, slots := 0, locals := 0 } [.ref (ad (ix 1 0)), .ref (ad q), .int (nI len)] (C) (some (.int (cshadeRow row len 0 0 C).1)) ((cshadeRow row len 0 0 C).2) := by
  refine ct_of (by decide) (Nat.le_of_ble_eq_true rfl) ?_
  intro Γ _ _ hN h r
  have loop : ∀ (c i : Nat) (a : Int32) (C2 : CS), i + c = len → C2.2 = C.2 → cshadeRow row c i a C2 = cshadeRow row len 0 0 C → G Γ 0 0 171 ad (wc ad t C2) 5 [some (.ref (ad (ix 1 0))), some (.ref (ad q)), some (.int (nI len)), some (.int a), some (.int (nI i)), none] [] := by
    intro c
    induction c with
    | zero =>
      intro i a C2 hi hC he
      refine g_iload h d_Heap_shadeRow_5 rfl ?_
      refine g_iload_n h d_Heap_shadeRow_7 rfl rfl ?_
      refine g_icmp_ge (tgt := 75) h d_Heap_shadeRow_8 (by decide) (fun c_8 => ?_) (fun c_8 => ?_)
      · refine g_iload_n h d_Heap_shadeRow_75 rfl rfl ?_
        exact g_iret h r d_Heap_shadeRow_76 (⟨by rw [← he]; rfl, by rw [← he]; rfl⟩)
      · exact absurd (nI_le (a := len) (b := i) (by omega) (by omega)) c_8
    | succ c ih =>
      intro i a C2 hi hC he
      refine g_iload h d_Heap_shadeRow_5 rfl ?_
      refine g_iload_n h d_Heap_shadeRow_7 rfl rfl ?_
      refine g_icmp_ge (tgt := 75) h d_Heap_shadeRow_8 (by decide) (fun c_8 => ?_) (fun c_8 => ?_)
      · exact absurd c_8 (nI_ge (by omega) (by omega))
      · refine g_aload_n h d_Heap_shadeRow_11 rfl rfl ?_
        refine g_iload h d_Heap_shadeRow_12 rfl ?_
        refine g_laload h q 0 hq (hr _ hC) rfl (vp_in_nI (by omega) (by omega)) d_Heap_shadeRow_14 ?_
        rw [nI_clamp (show i < 2 ^ 31 by omega)]
        refine g_ldc2 (v := 10000000000) h d_Heap_shadeRow_15 k_Heap_53 ?_
        refine g_lc_lt (tgt := 34) h d_Heap_shadeRow_18 d_Heap_shadeRow_19 (by decide) (fun c_19 => ?_) (fun c_19 => ?_)
        · skip
          · refine g_iconst (v := -1) h d_Heap_shadeRow_34 (by decide) ?_
            refine g_istore h d_Heap_shadeRow_35 rfl (by rw [hN]; decide) ?_
            refine g_iload h d_Heap_shadeRow_37 rfl ?_
            refine g_if_lt (tgt := 69) h d_Heap_shadeRow_39 (by decide) (fun c_39 => ?_) (fun c_39 => ?_)
            · refine g_iinc (v := nI (i + 1)) h d_Heap_shadeRow_69 rfl (by rw [nI_succ]; rfl) rfl (by rw [hN]; decide) ?_
              refine g_goto (tgt := 5) h d_Heap_shadeRow_72 (by decide) ?_
              refine g_lessL (L' := [some (.ref (ad (ix 1 0))), some (.ref (ad q)), some (.int (nI len)), some (.int a), some (.int (nI (i + 1))), none]) (by simp [leL]) ?_
              exact ih (i + 1) _ _ (by omega) hC (by rw [← he]; simp [cshadeRow, c_19])
            · exact absurd (by decide) c_39
        · skip
          · refine g_aload_n h d_Heap_shadeRow_22 rfl rfl ?_
            refine g_iload h d_Heap_shadeRow_23 rfl ?_
            refine g_laload h q 0 hq (hr _ hC) rfl (vp_in_nI (by omega) (by omega)) d_Heap_shadeRow_25 ?_
            rw [nI_clamp (show i < 2 ^ 31 by omega)]
            refine g_ldc2 (v := 10000000000) h d_Heap_shadeRow_26 k_Heap_53 ?_
            refine g_lsub h d_Heap_shadeRow_29 ?_
            refine g_l2i h d_Heap_shadeRow_30 ?_
            obtain ⟨ho, -, hq2⟩ := okV_on (hv i) c_19
            rw [hq2]
            refine g_goto (tgt := 35) h d_Heap_shadeRow_31 (by decide) ?_
            refine g_istore h d_Heap_shadeRow_35 rfl (by rw [hN]; decide) ?_
            refine g_iload h d_Heap_shadeRow_37 rfl ?_
            refine g_if_lt (tgt := 69) h d_Heap_shadeRow_39 (by decide) (fun c_39 => ?_) (fun c_39 => ?_)
            · exact absurd c_39 (nI_pos (by omega))
            · refine g_aload_n h d_Heap_shadeRow_42 rfl rfl ?_
              refine gf_Heap_cells h f_Heap_17 d_Heap_shadeRow_43 ?_
              refine g_iload h d_Heap_shadeRow_46 rfl ?_
              refine ga_cells h rfl ho d_Heap_shadeRow_48 ?_
              refine gf_Cell_colour h f_Heap_73 ho d_Heap_shadeRow_49 ?_
              refine g_if_ne (tgt := 69) h d_Heap_shadeRow_52 (by decide) (fun c_52 => ?_) (fun c_52 => ?_)
              · refine g_iinc (v := nI (i + 1)) h d_Heap_shadeRow_69 rfl (by rw [nI_succ]; rfl) rfl (by rw [hN]; decide) ?_
                refine g_goto (tgt := 5) h d_Heap_shadeRow_72 (by decide) ?_
                refine g_lessL (L' := [some (.ref (ad (ix 1 0))), some (.ref (ad q)), some (.int (nI len)), some (.int a), some (.int (nI (i + 1))), none]) (by simp [leL]) ?_
                exact ih (i + 1) _ _ (by omega) hC (by rw [← he]; simp [cshadeRow, c_19, c_52])
              · skip
                · refine g_aload_n h d_Heap_shadeRow_55 rfl rfl ?_
                  refine gf_Heap_cells h f_Heap_17 d_Heap_shadeRow_56 ?_
                  refine g_iload h d_Heap_shadeRow_59 rfl ?_
                  refine ga_cells h rfl ho d_Heap_shadeRow_61 ?_
                  refine g_iconst (v := 1) h d_Heap_shadeRow_62 (by decide) ?_
                  refine pf_Cell_colour h f_Heap_73 ho d_Heap_shadeRow_63 ?_
                  refine g_iinc (v := a + 1) h d_Heap_shadeRow_66 rfl rfl rfl (by rw [hN]; decide) ?_
                  refine g_iinc (v := nI (i + 1)) h d_Heap_shadeRow_69 rfl (by rw [nI_succ]; rfl) rfl (by rw [hN]; decide) ?_
                  refine g_goto (tgt := 5) h d_Heap_shadeRow_72 (by decide) ?_
                  refine g_lessL (L' := [some (.ref (ad (ix 1 0))), some (.ref (ad q)), some (.int (nI len)), some (.int (a + 1)), some (.int (nI (i + 1))), none]) (by simp [leL]) ?_
                  exact ih (i + 1) _ _ (by omega) hC (by rw [← he]; simp [cshadeRow, c_19, c_52])
  refine g_at (L' := [some (.ref (ad (ix 1 0))), some (.ref (ad q)), some (.int (nI len)), none, none, none]) rfl rfl rfl ?_
  refine g_iconst (v := 0) h d_Heap_shadeRow_0 (by decide) ?_
  refine g_istore_n h d_Heap_shadeRow_1 rfl rfl (by rw [hN]; decide) ?_
  refine g_iconst (v := 0) h d_Heap_shadeRow_2 (by decide) ?_
  refine g_istore h d_Heap_shadeRow_3 rfl (by rw [hN]; decide) ?_
  exact loop len 0 0 C (by omega) rfl rfl
end

-- part 12.heap2
section
set_option maxHeartbeats 4000000 in
set_option maxRecDepth 100000 in
theorem c_Heap_shadeRoots {l : Launch} {D : va_G} {t : Nat → ClassId} {ad : Nat → Nat} {C : CS} (hok : okC C) : Cd l D t ad y_Heap_shadeRoots b_Heap_shadeRoots 3 (some .int) { frames := 1, cells := 0, slots := 0, locals := 25 } [.ref (ad (ix 1 0))] (C) (some (.int (cshadeRoots C).1)) ((cshadeRoots C).2) := by
  refine ct_of (by decide) (Nat.le_of_ble_eq_true rfl) ?_
  intro Γ _ _ hN h r
  have loop : ∀ (c n : Nat) (a : Int32) (C2 : CS), n + c = 16 → C2.2 = C.2 → croots c n a C2 = cshadeRoots C → G Γ 0 0 171 ad (wc ad t C2) 13 [some (.ref (ad (ix 1 0))), some (.int a), some (.int (nI n))] [] := by
    intro c
    induction c with
    | zero =>
      intro n a C2 hi hC he
      refine g_iload_n h d_Heap_shadeRoots_13 rfl rfl ?_
      refine g_bipush (v := 16) h d_Heap_shadeRoots_14 (by decide) ?_
      refine g_icmp_ge (tgt := 69) h d_Heap_shadeRoots_16 (by decide) (fun c_16 => ?_) (fun c_16 => ?_)
      · refine g_iload_n h d_Heap_shadeRoots_69 rfl rfl ?_
        exact g_iret h r d_Heap_shadeRoots_70 (⟨by rw [← he]; rfl, by rw [← he]; rfl⟩)
      · exact absurd (nI_le (a := 16) (b := n) (by omega) (by omega)) c_16
    | succ c ih =>
      intro n a C2 hi hC he
      refine g_iload_n h d_Heap_shadeRoots_13 rfl rfl ?_
      refine g_bipush (v := 16) h d_Heap_shadeRoots_14 (by decide) ?_
      refine g_icmp_ge (tgt := 69) h d_Heap_shadeRoots_16 (by decide) (fun c_16 => ?_) (fun c_16 => ?_)
      · exact absurd c_16 (nI_ge (b := 16) (by omega) (by decide))
      · refine g_aload_n h d_Heap_shadeRoots_19 rfl rfl ?_
        refine gf_Heap_cells h f_Heap_17 d_Heap_shadeRoots_20 ?_
        refine g_iload_n h d_Heap_shadeRoots_23 rfl rfl ?_
        refine ga_cells h rfl (by omega) d_Heap_shadeRoots_24 ?_
        refine g_dVi h tb_good (c_Cell_isActive (show n < 16 by omega)) (ix_lt 4 (by decide) _ (by first | assumption | omega | (show _ < 16; omega))) (wc_at (by decide) (by first | assumption | omega | (show _ < 16; omega))) rfl v_Heap_158 nm_Cell_isActive rfl ⟨rfl, rfl, Nat.le_of_ble_eq_true rfl, Nat.le_of_ble_eq_true rfl, Nat.zero_le _, Nat.zero_le _⟩ rfl (Nat.le_of_ble_eq_true rfl) d_Heap_shadeRoots_25 ?_
        by_cases ha : cactive C2 n = true
        · rw [if_pos ha]
          refine g_if_eq (tgt := 63) h d_Heap_shadeRoots_28 (by decide) (fun c_28 => ?_) (fun c_28 => ?_)
          · exact absurd c_28 (by decide)
          · refine g_iload_n h d_Heap_shadeRoots_31 rfl rfl ?_
            refine g_aload_n h d_Heap_shadeRoots_32 rfl rfl ?_
            refine gf_Heap_cells h f_Heap_17 d_Heap_shadeRoots_33 ?_
            refine g_iload_n h d_Heap_shadeRoots_36 rfl rfl ?_
            refine ga_cells h rfl (by omega) d_Heap_shadeRoots_37 ?_
            refine g_dSi h tb_good (c_Heap_shade (show n < 16 by omega)) v_Heap_154 nm_Heap_shade rfl ⟨rfl, rfl, Nat.le_of_ble_eq_true rfl, Nat.le_of_ble_eq_true rfl, Nat.zero_le _, Nat.zero_le _⟩ rfl (Nat.le_of_ble_eq_true rfl) d_Heap_shadeRoots_38 ?_
            refine g_iadd h d_Heap_shadeRoots_41 ?_
            refine g_istore_n h d_Heap_shadeRoots_42 rfl rfl (by rw [hN]; decide) ?_
            refine g_iload_n h d_Heap_shadeRoots_43 rfl rfl ?_
            refine g_aload_n h d_Heap_shadeRoots_44 rfl rfl ?_
            refine g_aload_n h d_Heap_shadeRoots_45 rfl rfl ?_
            refine gf_Heap_cells h f_Heap_17 d_Heap_shadeRoots_46 ?_
            refine g_iload_n h d_Heap_shadeRoots_49 rfl rfl ?_
            refine ga_cells h rfl (by omega) d_Heap_shadeRoots_50 ?_
            refine gf_Cell_coroutine h f_Heap_85 (by first | assumption | omega | (show _ < 16; omega)) d_Heap_shadeRoots_51 ?_
            refine gf_Cor_registers h f_Heap_147 (by first | assumption | omega | (show _ < 16; omega)) d_Heap_shadeRoots_54 ?_
            refine g_iconst (v := 4) h d_Heap_shadeRoots_57 (by decide) ?_
            refine g_dVi h tb_good (c_Heap_shadeRow (len := 4) (C := (cshade C2 n).2) (ix_lt 9 (by decide) n (by show n < 16; omega)) (fun C3 e => row_r (by omega) C3 (e.trans (cshade_2 C2 n))) (Nat.le_refl _) (by decide) (fun i => by rw [hC]; exact hok.2.1 _ _ _)) (ix_lt 1 (by decide) _ (by decide)) (wc_at (by decide) (by decide)) rfl v_Heap_150 nm_Heap_shadeRow rfl ⟨rfl, rfl, Nat.le_of_ble_eq_true rfl, Nat.le_of_ble_eq_true rfl, Nat.zero_le _, Nat.zero_le _⟩ rfl (Nat.le_of_ble_eq_true rfl) d_Heap_shadeRoots_58 ?_
            refine g_iadd h d_Heap_shadeRoots_61 ?_
            refine g_istore_n h d_Heap_shadeRoots_62 rfl rfl (by rw [hN]; decide) ?_
            refine g_iinc (v := nI (n + 1)) h d_Heap_shadeRoots_63 rfl (by rw [nI_succ]; rfl) rfl (by rw [hN]; decide) ?_
            refine g_goto (tgt := 13) h d_Heap_shadeRoots_66 (by decide) ?_
            exact ih (n + 1) _ _ (by omega) (by rw [cshadeRow_2, cshade_2]; exact hC) (by rw [← he]; simp [croots, ha])
        · rw [if_neg ha]
          refine g_if_eq (tgt := 63) h d_Heap_shadeRoots_28 (by decide) (fun c_28 => ?_) (fun c_28 => ?_)
          · refine g_iinc (v := nI (n + 1)) h d_Heap_shadeRoots_63 rfl (by rw [nI_succ]; rfl) rfl (by rw [hN]; decide) ?_
            refine g_goto (tgt := 13) h d_Heap_shadeRoots_66 (by decide) ?_
            exact ih (n + 1) _ _ (by omega) hC (by rw [← he]; simp [croots, ha])
          · exact absurd rfl c_28
  refine g_at (L' := [some (.ref (ad (ix 1 0))), none, none]) rfl rfl rfl ?_
  refine g_aload_n h d_Heap_shadeRoots_0 rfl rfl ?_
  refine g_aload_n h d_Heap_shadeRoots_1 rfl rfl ?_
  refine gf_Heap_globals h f_Heap_9 d_Heap_shadeRoots_2 ?_
  refine g_bipush (v := 6) h d_Heap_shadeRoots_5 (by decide) ?_
  refine g_dVi h tb_good (c_Heap_shadeRow (len := 6) (ix_lt 2 (by decide) 0 (by decide)) row_g (Nat.le_refl _) (by decide) (fun i => hok.2.1 _ _ _)) (ix_lt 1 (by decide) _ (by decide)) (wc_at (by decide) (by decide)) rfl v_Heap_150 nm_Heap_shadeRow rfl ⟨rfl, rfl, Nat.le_of_ble_eq_true rfl, Nat.le_of_ble_eq_true rfl, Nat.zero_le _, Nat.zero_le _⟩ rfl (Nat.le_of_ble_eq_true rfl) d_Heap_shadeRoots_7 ?_
  refine g_istore_n h d_Heap_shadeRoots_10 rfl rfl (by rw [hN]; decide) ?_
  refine g_iconst (v := 0) h d_Heap_shadeRoots_11 (by decide) ?_
  refine g_istore_n h d_Heap_shadeRoots_12 rfl rfl (by rw [hN]; decide) ?_
  exact loop 16 0 _ _ (by omega) (cshadeRow_2 _ _ _ _ _) rfl
set_option maxHeartbeats 4000000 in
set_option maxRecDepth 100000 in
theorem c_Heap_blacken {l : Launch} {D : va_G} {t : Nat → ClassId} {ad : Nat → Nat} {C : CS} {n : Nat} (hok : okC C) (hn : n < 16) : Cd l D t ad y_Heap_blacken b_Heap_blacken 2 none { frames := 1, cells := 0, slots := 0, locals := 25 } [.ref (ad (ix 1 0)), .ref (ad (ix 4 n))] (C) (none) (cblacken C n) := by
  refine ct_of (by decide) (Nat.le_of_ble_eq_true rfl) ?_
  intro Γ _ _ hN h r
  obtain ⟨⟨P, hP, hp⟩, hmm, -⟩ := hok.1 n hn
  refine g_at (L' := [some (.ref (ad (ix 1 0))), some (.ref (ad (ix 4 n)))]) rfl rfl rfl ?_
  refine g_aload_n h d_Heap_blacken_0 rfl rfl ?_
  refine g_iconst (v := 2) h d_Heap_blacken_1 (by decide) ?_
  refine pf_Cell_colour h f_Heap_73 (by first | assumption | omega | (show _ < 16; omega)) d_Heap_blacken_2 ?_
  refine g_aload_n h d_Heap_blacken_5 rfl rfl ?_
  refine gf_Cell_kind h f_Heap_59 (by first | assumption | omega | (show _ < 16; omega)) d_Heap_blacken_6 ?_
  rw [show (sI C 1 n 2).1 0 n = C.1 0 n from rfl]
  refine g_iconst (v := 2) h d_Heap_blacken_9 (by decide) ?_
  refine g_icmp_ne (tgt := 27) h d_Heap_blacken_10 (by decide) (fun c_10 => ?_) (fun c_10 => ?_)
  · refine g_aload_n h d_Heap_blacken_27 rfl rfl ?_
    refine g_aload_n h d_Heap_blacken_28 rfl rfl ?_
    refine gf_Cell_table h f_Heap_76 (by first | assumption | omega | (show _ < 16; omega)) d_Heap_blacken_29 ?_
    refine gf_Tab_keys h f_Heap_128 (by first | assumption | omega | (show _ < 16; omega)) d_Heap_blacken_32 ?_
    refine g_aload_n h d_Heap_blacken_35 rfl rfl ?_
    refine gf_Cell_table h f_Heap_76 (by first | assumption | omega | (show _ < 16; omega)) d_Heap_blacken_36 ?_
    refine gf_Tab_pairs h f_Heap_108 (by first | assumption | omega | (show _ < 16; omega)) d_Heap_blacken_39 ?_
    rw [show (sI C 1 n 2).1 2 n = C.1 2 n from rfl, hp]
    refine g_dVi h tb_good (c_Heap_shadeRow (len := P) (C := (sI C 1 n 2)) (ix_lt 6 (by decide) n hn) (row_k (C := C) hn) hP (by decide) (fun i => hok.2.1 _ _ _)) (ix_lt 1 (by decide) _ (by decide)) (wc_at (by decide) (by decide)) rfl v_Heap_150 nm_Heap_shadeRow rfl ⟨rfl, rfl, Nat.le_of_ble_eq_true rfl, Nat.le_of_ble_eq_true rfl, Nat.zero_le _, Nat.zero_le _⟩ rfl (Nat.le_of_ble_eq_true rfl) d_Heap_blacken_42 ?_
    refine g_pop h d_Heap_blacken_45 rfl ?_
    refine g_aload_n h d_Heap_blacken_46 rfl rfl ?_
    refine g_aload_n h d_Heap_blacken_47 rfl rfl ?_
    refine gf_Cell_table h f_Heap_76 (by first | assumption | omega | (show _ < 16; omega)) d_Heap_blacken_48 ?_
    refine gf_Tab_values h f_Heap_105 (by first | assumption | omega | (show _ < 16; omega)) d_Heap_blacken_51 ?_
    refine g_aload_n h d_Heap_blacken_54 rfl rfl ?_
    refine gf_Cell_table h f_Heap_76 (by first | assumption | omega | (show _ < 16; omega)) d_Heap_blacken_55 ?_
    refine gf_Tab_pairs h f_Heap_108 (by first | assumption | omega | (show _ < 16; omega)) d_Heap_blacken_58 ?_
    rw [cshadeRow_1 _ _ _ _ _ _ _ (by decide), show (sI C 1 n 2).1 2 n = C.1 2 n from rfl, hp]
    refine g_dVi h tb_good (c_Heap_shadeRow (len := P) (C := (cshadeRow (C.2.1 1 n) P 0 0 (sI C 1 n 2)).2) (ix_lt 7 (by decide) n hn) (fun C3 e => row_v (C := C) hn C3 (e.trans (cshadeRow_2 _ _ _ _ _))) hP (by decide) (fun i => hok.2.1 _ _ _)) (ix_lt 1 (by decide) _ (by decide)) (wc_at (by decide) (by decide)) rfl v_Heap_150 nm_Heap_shadeRow rfl ⟨rfl, rfl, Nat.le_of_ble_eq_true rfl, Nat.le_of_ble_eq_true rfl, Nat.zero_le _, Nat.zero_le _⟩ rfl (Nat.le_of_ble_eq_true rfl) d_Heap_blacken_61 ?_
    refine g_pop h d_Heap_blacken_64 rfl ?_
    refine g_aload_n h d_Heap_blacken_65 rfl rfl ?_
    refine gf_Cell_table h f_Heap_76 (by first | assumption | omega | (show _ < 16; omega)) d_Heap_blacken_66 ?_
    refine gf_Tab_meta h f_Heap_121 (by first | assumption | omega | (show _ < 16; omega)) d_Heap_blacken_69 ?_
    rw [cshadeRow_1 _ _ _ _ _ _ _ (by decide), cshadeRow_1 _ _ _ _ _ _ _ (by decide), show (sI C 1 n 2).1 3 n = C.1 3 n from rfl]
    refine g_if_lt (tgt := 91) h d_Heap_blacken_72 (by decide) (fun c_72 => ?_) (fun c_72 => ?_)
    · exact g_vret h r d_Heap_blacken_91 (⟨rfl, by first | (simp [cblacken, c_10, c_72, cPairs_eq hp hP]; done) | (simp [cblacken, c_10, c_72, cPairs_eq hp hP, hm2, nI_clamp (show m < 2 ^ 31 by omega), nI_pos (show m < 2 ^ 31 by omega)]; done)⟩)
    · rcases hmm with hm | ⟨m, hm, hm2⟩
      · exact absurd (by rw [hm]; decide) c_72
      · refine g_aload_n h d_Heap_blacken_75 rfl rfl ?_
        refine gf_Heap_cells h f_Heap_17 d_Heap_blacken_76 ?_
        refine g_aload_n h d_Heap_blacken_79 rfl rfl ?_
        refine gf_Cell_table h f_Heap_76 (by first | assumption | omega | (show _ < 16; omega)) d_Heap_blacken_80 ?_
        refine gf_Tab_meta h f_Heap_121 (by first | assumption | omega | (show _ < 16; omega)) d_Heap_blacken_83 ?_
        rw [cshadeRow_1 _ _ _ _ _ _ _ (by decide), cshadeRow_1 _ _ _ _ _ _ _ (by decide), show (sI C 1 n 2).1 3 n = C.1 3 n from rfl]
        refine ga_cells h hm2 hm d_Heap_blacken_86 ?_
        refine g_dSi h tb_good (c_Heap_shade hm) v_Heap_154 nm_Heap_shade rfl ⟨rfl, rfl, Nat.le_of_ble_eq_true rfl, Nat.le_of_ble_eq_true rfl, Nat.zero_le _, Nat.zero_le _⟩ rfl (Nat.le_of_ble_eq_true rfl) d_Heap_blacken_87 ?_
        refine g_pop h d_Heap_blacken_90 rfl ?_
        exact g_vret h r d_Heap_blacken_91 (⟨rfl, by first | (simp [cblacken, c_10, c_72, cPairs_eq hp hP]; done) | (simp [cblacken, c_10, c_72, cPairs_eq hp hP, hm2, nI_clamp (show m < 2 ^ 31 by omega), nI_pos (show m < 2 ^ 31 by omega)]; done)⟩)
  · refine g_aload_n h d_Heap_blacken_13 rfl rfl ?_
    refine g_aload_n h d_Heap_blacken_14 rfl rfl ?_
    refine gf_Cell_coroutine h f_Heap_85 (by first | assumption | omega | (show _ < 16; omega)) d_Heap_blacken_15 ?_
    refine gf_Cor_registers h f_Heap_147 (by first | assumption | omega | (show _ < 16; omega)) d_Heap_blacken_18 ?_
    refine g_iconst (v := 4) h d_Heap_blacken_21 (by decide) ?_
    refine g_dVi h tb_good (c_Heap_shadeRow (len := 4) (C := (sI C 1 n 2)) (ix_lt 9 (by decide) n hn) (row_r (C := C) hn) (Nat.le_refl _) (by decide) (fun i => hok.2.1 _ _ _)) (ix_lt 1 (by decide) _ (by decide)) (wc_at (by decide) (by decide)) rfl v_Heap_150 nm_Heap_shadeRow rfl ⟨rfl, rfl, Nat.le_of_ble_eq_true rfl, Nat.le_of_ble_eq_true rfl, Nat.zero_le _, Nat.zero_le _⟩ rfl (Nat.le_of_ble_eq_true rfl) d_Heap_blacken_22 ?_
    refine g_pop h d_Heap_blacken_25 rfl ?_
    exact g_vret h r d_Heap_blacken_26 (⟨rfl, by simp [cblacken, c_10]⟩)
set_option maxHeartbeats 4000000 in
set_option maxRecDepth 100000 in
theorem c_Heap_sweepOne {l : Launch} {D : va_G} {t : Nat → ClassId} {ad : Nat → Nat} {C : CS} (hok : okC C) : Cd l D t ad y_Heap_sweepOne b_Heap_sweepOne 2 none { frames := 0, cells := 0, slots := 0, locals := 0 } [.ref (ad (ix 1 0))] (C) (none) (csweep C) := by
  refine ct_of (by decide) (Nat.le_of_ble_eq_true rfl) ?_
  intro Γ _ _ hN h r
  obtain ⟨i, hi, hk⟩ := hok.2.2.1
  have hcl : (nI i).toNatClampNeg = i := nI_clamp (by omega)
  refine g_at (L' := [some (.ref (ad (ix 1 0))), none]) rfl rfl rfl ?_
  refine g_aload_n h d_Heap_sweepOne_0 rfl rfl ?_
  refine gf_Heap_cells h f_Heap_17 d_Heap_sweepOne_1 ?_
  refine g_aload_n h d_Heap_sweepOne_4 rfl rfl ?_
  refine gf_Heap_sweepFrom h f_Heap_25 d_Heap_sweepOne_5 ?_
  refine ga_cells h hk hi d_Heap_sweepOne_8 ?_
  refine g_astore_n h d_Heap_sweepOne_9 rfl rfl (by rw [hN]; decide) ?_
  refine g_aload_n h d_Heap_sweepOne_10 rfl rfl ?_
  refine gf_Cell_kind h f_Heap_59 hi d_Heap_sweepOne_11 ?_
  refine g_if_eq (tgt := 39) h d_Heap_sweepOne_14 (by decide) (fun c_14 => ?_) (fun c_14 => ?_)
  · refine g_aload_n h d_Heap_sweepOne_39 rfl rfl ?_
    refine g_iconst (v := 0) h d_Heap_sweepOne_40 (by decide) ?_
    refine pf_Cell_colour h f_Heap_73 hi d_Heap_sweepOne_41 ?_
    refine g_aload_n h d_Heap_sweepOne_44 rfl rfl ?_
    refine g_dup h d_Heap_sweepOne_45 rfl ?_
    refine gf_Heap_sweepFrom h f_Heap_25 d_Heap_sweepOne_46 ?_
    simp only [sI_1, sI_2, sJ_1, sJ_2, sJ_3, sR_1, sR_2, sR_3, Nat.reduceEqDiff, Nat.zero_ne_one, Nat.one_ne_zero, Nat.succ_ne_zero, reduceCtorEq, false_and, if_false, true_and, and_self, if_true, and_true, and_false, reduceIte, hk]
    refine g_iconst (v := 1) h d_Heap_sweepOne_49 (by decide) ?_
    refine g_iadd h d_Heap_sweepOne_50 ?_
    refine pf_Heap_sweepFrom h f_Heap_25 d_Heap_sweepOne_51 ?_
    refine g_aload_n h d_Heap_sweepOne_54 rfl rfl ?_
    refine gf_Heap_sweepFrom h f_Heap_25 d_Heap_sweepOne_55 ?_
    simp only [sI_1, sI_2, sJ_1, sJ_2, sJ_3, sR_1, sR_2, sR_3, Nat.reduceEqDiff, Nat.zero_ne_one, Nat.one_ne_zero, Nat.succ_ne_zero, reduceCtorEq, false_and, if_false, true_and, and_self, if_true, and_true, and_false, reduceIte]
    refine g_bipush (v := 16) h d_Heap_sweepOne_58 (by decide) ?_
    refine g_icmp_ne (tgt := 73) h d_Heap_sweepOne_60 (by decide) (fun c_60 => ?_) (fun c_60 => ?_)
    · exact g_vret h r d_Heap_sweepOne_73 (⟨rfl, by simp only [csweep, hk, hcl]; first | (simp [c_14, c_60]; done) | (simp [c_14, c_21, c_60]; done)⟩)
    · refine g_aload_n h d_Heap_sweepOne_63 rfl rfl ?_
      refine g_iconst (v := 0) h d_Heap_sweepOne_64 (by decide) ?_
      refine pf_Heap_sweepFrom h f_Heap_25 d_Heap_sweepOne_65 ?_
      refine g_aload_n h d_Heap_sweepOne_68 rfl rfl ?_
      refine g_iconst (v := 0) h d_Heap_sweepOne_69 (by decide) ?_
      refine pf_Heap_phase h f_Heap_21 d_Heap_sweepOne_70 ?_
      exact g_vret h r d_Heap_sweepOne_73 (⟨rfl, by simp only [csweep, hk, hcl]; first | (simp [c_14, c_60]; done) | (simp [c_14, c_21, c_60]; done)⟩)
  · refine g_aload_n h d_Heap_sweepOne_17 rfl rfl ?_
    refine gf_Cell_colour h f_Heap_73 hi d_Heap_sweepOne_18 ?_
    skip
    refine g_if_ne (tgt := 39) h d_Heap_sweepOne_21 (by decide) (fun c_21 => ?_) (fun c_21 => ?_)
    · refine g_aload_n h d_Heap_sweepOne_39 rfl rfl ?_
      refine g_iconst (v := 0) h d_Heap_sweepOne_40 (by decide) ?_
      refine pf_Cell_colour h f_Heap_73 hi d_Heap_sweepOne_41 ?_
      refine g_aload_n h d_Heap_sweepOne_44 rfl rfl ?_
      refine g_dup h d_Heap_sweepOne_45 rfl ?_
      refine gf_Heap_sweepFrom h f_Heap_25 d_Heap_sweepOne_46 ?_
      simp only [sI_1, sI_2, sJ_1, sJ_2, sJ_3, sR_1, sR_2, sR_3, Nat.reduceEqDiff, Nat.zero_ne_one, Nat.one_ne_zero, Nat.succ_ne_zero, reduceCtorEq, false_and, if_false, true_and, and_self, if_true, and_true, and_false, reduceIte, hk]
      refine g_iconst (v := 1) h d_Heap_sweepOne_49 (by decide) ?_
      refine g_iadd h d_Heap_sweepOne_50 ?_
      refine pf_Heap_sweepFrom h f_Heap_25 d_Heap_sweepOne_51 ?_
      refine g_aload_n h d_Heap_sweepOne_54 rfl rfl ?_
      refine gf_Heap_sweepFrom h f_Heap_25 d_Heap_sweepOne_55 ?_
      simp only [sI_1, sI_2, sJ_1, sJ_2, sJ_3, sR_1, sR_2, sR_3, Nat.reduceEqDiff, Nat.zero_ne_one, Nat.one_ne_zero, Nat.succ_ne_zero, reduceCtorEq, false_and, if_false, true_and, and_self, if_true, and_true, and_false, reduceIte]
      refine g_bipush (v := 16) h d_Heap_sweepOne_58 (by decide) ?_
      refine g_icmp_ne (tgt := 73) h d_Heap_sweepOne_60 (by decide) (fun c_60 => ?_) (fun c_60 => ?_)
      · exact g_vret h r d_Heap_sweepOne_73 (⟨rfl, by simp only [csweep, hk, hcl]; first | (simp [c_14, c_60]; done) | (simp [c_14, c_21, c_60]; done)⟩)
      · refine g_aload_n h d_Heap_sweepOne_63 rfl rfl ?_
        refine g_iconst (v := 0) h d_Heap_sweepOne_64 (by decide) ?_
        refine pf_Heap_sweepFrom h f_Heap_25 d_Heap_sweepOne_65 ?_
        refine g_aload_n h d_Heap_sweepOne_68 rfl rfl ?_
        refine g_iconst (v := 0) h d_Heap_sweepOne_69 (by decide) ?_
        refine pf_Heap_phase h f_Heap_21 d_Heap_sweepOne_70 ?_
        exact g_vret h r d_Heap_sweepOne_73 (⟨rfl, by simp only [csweep, hk, hcl]; first | (simp [c_14, c_60]; done) | (simp [c_14, c_21, c_60]; done)⟩)
    · refine g_aload_n h d_Heap_sweepOne_24 rfl rfl ?_
      refine g_iconst (v := 0) h d_Heap_sweepOne_25 (by decide) ?_
      refine pf_Cell_kind h f_Heap_59 hi d_Heap_sweepOne_26 ?_
      refine g_aload_n h d_Heap_sweepOne_29 rfl rfl ?_
      refine g_dup h d_Heap_sweepOne_30 rfl ?_
      refine gf_Heap_gone h f_Heap_31 d_Heap_sweepOne_31 ?_
      simp only [sI_1, sI_2, sJ_1, sJ_2, sJ_3, sR_1, sR_2, sR_3, Nat.reduceEqDiff, Nat.zero_ne_one, Nat.one_ne_zero, Nat.succ_ne_zero, reduceCtorEq, false_and, if_false, true_and, and_self, if_true, and_true, and_false, reduceIte]
      refine g_iconst (v := 1) h d_Heap_sweepOne_34 (by decide) ?_
      refine g_iadd h d_Heap_sweepOne_35 ?_
      refine pf_Heap_gone h f_Heap_31 d_Heap_sweepOne_36 ?_
      refine g_aload_n h d_Heap_sweepOne_39 rfl rfl ?_
      refine g_iconst (v := 0) h d_Heap_sweepOne_40 (by decide) ?_
      refine pf_Cell_colour h f_Heap_73 hi d_Heap_sweepOne_41 ?_
      refine g_aload_n h d_Heap_sweepOne_44 rfl rfl ?_
      refine g_dup h d_Heap_sweepOne_45 rfl ?_
      refine gf_Heap_sweepFrom h f_Heap_25 d_Heap_sweepOne_46 ?_
      simp only [sI_1, sI_2, sJ_1, sJ_2, sJ_3, sR_1, sR_2, sR_3, Nat.reduceEqDiff, Nat.zero_ne_one, Nat.one_ne_zero, Nat.succ_ne_zero, reduceCtorEq, false_and, if_false, true_and, and_self, if_true, and_true, and_false, reduceIte, hk]
      refine g_iconst (v := 1) h d_Heap_sweepOne_49 (by decide) ?_
      refine g_iadd h d_Heap_sweepOne_50 ?_
      refine pf_Heap_sweepFrom h f_Heap_25 d_Heap_sweepOne_51 ?_
      refine g_aload_n h d_Heap_sweepOne_54 rfl rfl ?_
      refine gf_Heap_sweepFrom h f_Heap_25 d_Heap_sweepOne_55 ?_
      simp only [sI_1, sI_2, sJ_1, sJ_2, sJ_3, sR_1, sR_2, sR_3, Nat.reduceEqDiff, Nat.zero_ne_one, Nat.one_ne_zero, Nat.succ_ne_zero, reduceCtorEq, false_and, if_false, true_and, and_self, if_true, and_true, and_false, reduceIte]
      refine g_bipush (v := 16) h d_Heap_sweepOne_58 (by decide) ?_
      refine g_icmp_ne (tgt := 73) h d_Heap_sweepOne_60 (by decide) (fun c_60 => ?_) (fun c_60 => ?_)
      · exact g_vret h r d_Heap_sweepOne_73 (⟨rfl, by simp only [csweep, hk, hcl]; first | (simp [c_14, c_60]; done) | (simp [c_14, c_21, c_60]; done)⟩)
      · refine g_aload_n h d_Heap_sweepOne_63 rfl rfl ?_
        refine g_iconst (v := 0) h d_Heap_sweepOne_64 (by decide) ?_
        refine pf_Heap_sweepFrom h f_Heap_25 d_Heap_sweepOne_65 ?_
        refine g_aload_n h d_Heap_sweepOne_68 rfl rfl ?_
        refine g_iconst (v := 0) h d_Heap_sweepOne_69 (by decide) ?_
        refine pf_Heap_phase h f_Heap_21 d_Heap_sweepOne_70 ?_
        exact g_vret h r d_Heap_sweepOne_73 (⟨rfl, by simp only [csweep, hk, hcl]; first | (simp [c_14, c_60]; done) | (simp [c_14, c_21, c_60]; done)⟩)
end
