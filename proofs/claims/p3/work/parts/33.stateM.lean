/-! THE REFERENCE'S WORLD: 18 cells; ints of arrays by (array, place), of fields by (field, 0); longs by (array, 0, place) -/
def mob (ad : Nat → Nat) (u : Nat → ClassId) (M : CS) (k : Nat) : va_E := match k with
  | 0 => .inr (7, [.ref (ad 1), .ref (ad 2), .ref (ad 3), .ref (ad 4), .ref (ad 5), .ref (ad 6), .ref (ad 7), .ref (ad 8), .ref (ad 9), .ref (ad 10), .ref (ad 11), .ref (ad 12), .ref (ad 13), .ref (ad 14), .ref (ad 15), .ref (ad 16), .ref (ad 17), .int (M.1 13 0), .int (M.1 14 0), .int (M.1 15 0), .int (M.1 16 0), .int (M.1 17 0), .int (M.1 18 0), .int (M.1 19 0), .int (M.1 20 0), .int (M.1 21 0), .int (M.1 22 0), .long (M.2.1 4 0 0)])
  | 1 => .inl (u 0, 64, .inl (M.1 0))
  | 2 => .inl (u 0, 64, .inl (M.1 1))
  | 3 => .inl (u 0, 64, .inl (M.1 2))
  | 4 => .inl (u 0, 64, .inl (M.1 3))
  | 5 => .inl (u 1, 6, .inr (.inl (M.2.1 0 0)))
  | 6 => .inl (u 0, 16, .inl (M.1 4))
  | 7 => .inl (u 0, 16, .inl (M.1 5))
  | 8 => .inl (u 0, 16, .inl (M.1 6))
  | 9 => .inl (u 0, 16, .inl (M.1 7))
  | 10 => .inl (u 1, 96, .inr (.inl (M.2.1 1 0)))
  | 11 => .inl (u 1, 96, .inr (.inl (M.2.1 2 0)))
  | 12 => .inl (u 1, 64, .inr (.inl (M.2.1 3 0)))
  | 13 => .inl (u 0, 16, .inl (M.1 8))
  | 14 => .inl (u 0, 16, .inl (M.1 9))
  | 15 => .inl (u 0, 16, .inl (M.1 10))
  | 16 => .inl (u 0, 16, .inl (M.1 11))
  | 17 => .inl (u 0, 6, .inl (M.1 12))
  | _ => .inr (7, [])
abbrev tym (u : Nat → ClassId) : List (ClassId × FieldType) := [(u 0, .int), (u 1, .long)]
/-- which cell holds an int field or array, a row of longs -/
def mI (f : Nat) : Nat := if f < 4 then f + 1 else if f < 8 then f + 2 else if f < 13 then f + 5 else 0
def mJ (f : Nat) : Nat := if f = 0 then 5 else if f < 4 then f + 9 else 0
section StateM
variable {ad : Nat → Nat} {u : Nat → ClassId} {M : CS} {f i k : Nat}
theorem mob_same {M' : CS} (k : Nat) (h1 : ∀ g, mI g = k → M'.1 g = M.1 g) (h2 : ∀ g, mJ g = k → M'.2.1 g 0 = M.2.1 g 0) : mob ad u M' k = mob ad u M k := by
  unfold mob
  split
  · rw [h1 13 rfl, h1 14 rfl, h1 15 rfl, h1 16 rfl, h1 17 rfl, h1 18 rfl, h1 19 rfl, h1 20 rfl, h1 21 rfl, h1 22 rfl, h2 4 rfl]
  · rw [h1 0 rfl]
  · rw [h1 1 rfl]
  · rw [h1 2 rfl]
  · rw [h1 3 rfl]
  · rw [h2 0 rfl]
  · rw [h1 4 rfl]
  · rw [h1 5 rfl]
  · rw [h1 6 rfl]
  · rw [h1 7 rfl]
  · rw [h2 1 rfl]
  · rw [h2 2 rfl]
  · rw [h2 3 rfl]
  · rw [h1 8 rfl]
  · rw [h1 9 rfl]
  · rw [h1 10 rfl]
  · rw [h1 11 rfl]
  · rw [h1 12 rfl]
  · rfl
theorem wm_up {M' : CS} {e : va_E} {q : Nat} (he : mob ad u M' q = e) (hne : ∀ k, k ≠ q → mob ad u M' k = mob ad u M k) : ∀ k, k < 18 → va_up (mob ad u M) q e k = mob ad u M' k := by
  intro k _
  by_cases hq : k = q
  · subst hq; rw [he]; simp [va_up]
  · simp only [va_up, if_neg hq]; exact (hne k hq).symm
theorem wm_sI {v : Int32} {e : va_E} {q : Nat} (hf : mI f = q) (he : mob ad u (sI M f i v) q = e) : ∀ k, k < 18 → va_up (mob ad u M) q e k = mob ad u (sI M f i v) k := by
  refine wm_up he (fun k hk => mob_same k (fun g hg => ?_) (fun g hg => rfl))
  funext b
  rw [sI_1, if_neg]
  rintro ⟨rfl, -⟩
  exact hk (hg.symm.trans hf)
theorem wm_sJ {v : Int64} {e : va_E} {q : Nat} (hf : mJ f = q) (he : mob ad u (sJ M f 0 i v) q = e) : ∀ k, k < 18 → va_up (mob ad u M) q e k = mob ad u (sJ M f 0 i v) k := by
  refine wm_up he (fun k hk => mob_same k (fun g hg => rfl) (fun g hg => ?_))
  funext c
  rw [sJ_2, if_neg]
  rintro ⟨rfl, -⟩
  exact hk (hg.symm.trans hf)
end StateM
section RowsM
variable {Γ : GT} {cc : ByteArray} {own : String} {rm : Room} {nl : List (String × Nat × MethodName × String)} {kc ks pc index : Nat} {ad : Nat → Nat} {u : Nat → ClassId} {M : CS} {L : List (Option Value)} {st : List Value}
theorem gf_Mod_ops (h : Cx Γ cc own rm TB CL (tym u) nl) (hlink : Cond.fieldLink own index "TriColourMachineModel" "ops" "[I" ∈ TB) (hd : decode cc pc = .ok (.getfield index, 3)) (k : G Γ kc ks 18 ad (mob ad u M) (pc + 3) L (.ref (ad 1) :: st)) : G Γ kc ks 18 ad (mob ad u M) pc L (.ref (ad 0) :: st) := g_get h i_Mod 0 (by decide) rfl rfl 0 (by decide) hlink rfl hd k
theorem gf_Mod_as (h : Cx Γ cc own rm TB CL (tym u) nl) (hlink : Cond.fieldLink own index "TriColourMachineModel" "as" "[I" ∈ TB) (hd : decode cc pc = .ok (.getfield index, 3)) (k : G Γ kc ks 18 ad (mob ad u M) (pc + 3) L (.ref (ad 2) :: st)) : G Γ kc ks 18 ad (mob ad u M) pc L (.ref (ad 0) :: st) := g_get h i_Mod 0 (by decide) rfl rfl 1 (by decide) hlink rfl hd k
theorem gf_Mod_bs (h : Cx Γ cc own rm TB CL (tym u) nl) (hlink : Cond.fieldLink own index "TriColourMachineModel" "bs" "[I" ∈ TB) (hd : decode cc pc = .ok (.getfield index, 3)) (k : G Γ kc ks 18 ad (mob ad u M) (pc + 3) L (.ref (ad 3) :: st)) : G Γ kc ks 18 ad (mob ad u M) pc L (.ref (ad 0) :: st) := g_get h i_Mod 0 (by decide) rfl rfl 2 (by decide) hlink rfl hd k
theorem gf_Mod_cs (h : Cx Γ cc own rm TB CL (tym u) nl) (hlink : Cond.fieldLink own index "TriColourMachineModel" "cs" "[I" ∈ TB) (hd : decode cc pc = .ok (.getfield index, 3)) (k : G Γ kc ks 18 ad (mob ad u M) (pc + 3) L (.ref (ad 4) :: st)) : G Γ kc ks 18 ad (mob ad u M) pc L (.ref (ad 0) :: st) := g_get h i_Mod 0 (by decide) rfl rfl 3 (by decide) hlink rfl hd k
theorem gf_Mod_globals (h : Cx Γ cc own rm TB CL (tym u) nl) (hlink : Cond.fieldLink own index "TriColourMachineModel" "globals" "[J" ∈ TB) (hd : decode cc pc = .ok (.getfield index, 3)) (k : G Γ kc ks 18 ad (mob ad u M) (pc + 3) L (.ref (ad 5) :: st)) : G Γ kc ks 18 ad (mob ad u M) pc L (.ref (ad 0) :: st) := g_get h i_Mod 0 (by decide) rfl rfl 4 (by decide) hlink rfl hd k
theorem gf_Mod_kind (h : Cx Γ cc own rm TB CL (tym u) nl) (hlink : Cond.fieldLink own index "TriColourMachineModel" "kind" "[I" ∈ TB) (hd : decode cc pc = .ok (.getfield index, 3)) (k : G Γ kc ks 18 ad (mob ad u M) (pc + 3) L (.ref (ad 6) :: st)) : G Γ kc ks 18 ad (mob ad u M) pc L (.ref (ad 0) :: st) := g_get h i_Mod 0 (by decide) rfl rfl 5 (by decide) hlink rfl hd k
theorem gf_Mod_colour (h : Cx Γ cc own rm TB CL (tym u) nl) (hlink : Cond.fieldLink own index "TriColourMachineModel" "colour" "[I" ∈ TB) (hd : decode cc pc = .ok (.getfield index, 3)) (k : G Γ kc ks 18 ad (mob ad u M) (pc + 3) L (.ref (ad 7) :: st)) : G Γ kc ks 18 ad (mob ad u M) pc L (.ref (ad 0) :: st) := g_get h i_Mod 0 (by decide) rfl rfl 6 (by decide) hlink rfl hd k
theorem gf_Mod_size (h : Cx Γ cc own rm TB CL (tym u) nl) (hlink : Cond.fieldLink own index "TriColourMachineModel" "size" "[I" ∈ TB) (hd : decode cc pc = .ok (.getfield index, 3)) (k : G Γ kc ks 18 ad (mob ad u M) (pc + 3) L (.ref (ad 8) :: st)) : G Γ kc ks 18 ad (mob ad u M) pc L (.ref (ad 0) :: st) := g_get h i_Mod 0 (by decide) rfl rfl 7 (by decide) hlink rfl hd k
theorem gf_Mod_metaOf (h : Cx Γ cc own rm TB CL (tym u) nl) (hlink : Cond.fieldLink own index "TriColourMachineModel" "metaOf" "[I" ∈ TB) (hd : decode cc pc = .ok (.getfield index, 3)) (k : G Γ kc ks 18 ad (mob ad u M) (pc + 3) L (.ref (ad 9) :: st)) : G Γ kc ks 18 ad (mob ad u M) pc L (.ref (ad 0) :: st) := g_get h i_Mod 0 (by decide) rfl rfl 8 (by decide) hlink rfl hd k
theorem gf_Mod_keys (h : Cx Γ cc own rm TB CL (tym u) nl) (hlink : Cond.fieldLink own index "TriColourMachineModel" "keys" "[J" ∈ TB) (hd : decode cc pc = .ok (.getfield index, 3)) (k : G Γ kc ks 18 ad (mob ad u M) (pc + 3) L (.ref (ad 10) :: st)) : G Γ kc ks 18 ad (mob ad u M) pc L (.ref (ad 0) :: st) := g_get h i_Mod 0 (by decide) rfl rfl 9 (by decide) hlink rfl hd k
theorem gf_Mod_values (h : Cx Γ cc own rm TB CL (tym u) nl) (hlink : Cond.fieldLink own index "TriColourMachineModel" "values" "[J" ∈ TB) (hd : decode cc pc = .ok (.getfield index, 3)) (k : G Γ kc ks 18 ad (mob ad u M) (pc + 3) L (.ref (ad 11) :: st)) : G Γ kc ks 18 ad (mob ad u M) pc L (.ref (ad 0) :: st) := g_get h i_Mod 0 (by decide) rfl rfl 10 (by decide) hlink rfl hd k
theorem gf_Mod_registers (h : Cx Γ cc own rm TB CL (tym u) nl) (hlink : Cond.fieldLink own index "TriColourMachineModel" "registers" "[J" ∈ TB) (hd : decode cc pc = .ok (.getfield index, 3)) (k : G Γ kc ks 18 ad (mob ad u M) (pc + 3) L (.ref (ad 12) :: st)) : G Γ kc ks 18 ad (mob ad u M) pc L (.ref (ad 0) :: st) := g_get h i_Mod 0 (by decide) rfl rfl 11 (by decide) hlink rfl hd k
theorem gf_Mod_function (h : Cx Γ cc own rm TB CL (tym u) nl) (hlink : Cond.fieldLink own index "TriColourMachineModel" "function" "[I" ∈ TB) (hd : decode cc pc = .ok (.getfield index, 3)) (k : G Γ kc ks 18 ad (mob ad u M) (pc + 3) L (.ref (ad 13) :: st)) : G Γ kc ks 18 ad (mob ad u M) pc L (.ref (ad 0) :: st) := g_get h i_Mod 0 (by decide) rfl rfl 12 (by decide) hlink rfl hd k
theorem gf_Mod_place (h : Cx Γ cc own rm TB CL (tym u) nl) (hlink : Cond.fieldLink own index "TriColourMachineModel" "place" "[I" ∈ TB) (hd : decode cc pc = .ok (.getfield index, 3)) (k : G Γ kc ks 18 ad (mob ad u M) (pc + 3) L (.ref (ad 14) :: st)) : G Γ kc ks 18 ad (mob ad u M) pc L (.ref (ad 0) :: st) := g_get h i_Mod 0 (by decide) rfl rfl 13 (by decide) hlink rfl hd k
theorem gf_Mod_state (h : Cx Γ cc own rm TB CL (tym u) nl) (hlink : Cond.fieldLink own index "TriColourMachineModel" "state" "[I" ∈ TB) (hd : decode cc pc = .ok (.getfield index, 3)) (k : G Γ kc ks 18 ad (mob ad u M) (pc + 3) L (.ref (ad 15) :: st)) : G Γ kc ks 18 ad (mob ad u M) pc L (.ref (ad 0) :: st) := g_get h i_Mod 0 (by decide) rfl rfl 14 (by decide) hlink rfl hd k
theorem gf_Mod_waits (h : Cx Γ cc own rm TB CL (tym u) nl) (hlink : Cond.fieldLink own index "TriColourMachineModel" "waits" "[I" ∈ TB) (hd : decode cc pc = .ok (.getfield index, 3)) (k : G Γ kc ks 18 ad (mob ad u M) (pc + 3) L (.ref (ad 16) :: st)) : G Γ kc ks 18 ad (mob ad u M) pc L (.ref (ad 0) :: st) := g_get h i_Mod 0 (by decide) rfl rfl 15 (by decide) hlink rfl hd k
theorem gf_Mod_active (h : Cx Γ cc own rm TB CL (tym u) nl) (hlink : Cond.fieldLink own index "TriColourMachineModel" "active" "[I" ∈ TB) (hd : decode cc pc = .ok (.getfield index, 3)) (k : G Γ kc ks 18 ad (mob ad u M) (pc + 3) L (.ref (ad 17) :: st)) : G Γ kc ks 18 ad (mob ad u M) pc L (.ref (ad 0) :: st) := g_get h i_Mod 0 (by decide) rfl rfl 16 (by decide) hlink rfl hd k
theorem gf_Mod_depth (h : Cx Γ cc own rm TB CL (tym u) nl) (hlink : Cond.fieldLink own index "TriColourMachineModel" "depth" "I" ∈ TB) (hd : decode cc pc = .ok (.getfield index, 3)) (k : G Γ kc ks 18 ad (mob ad u M) (pc + 3) L (.int (M.1 13 0) :: st)) : G Γ kc ks 18 ad (mob ad u M) pc L (.ref (ad 0) :: st) := g_get h i_Mod 0 (by decide) rfl rfl 17 (by decide) hlink rfl hd k
theorem pf_Mod_depth (h : Cx Γ cc own rm TB CL (tym u) nl) {v : Int32} (hlink : Cond.fieldLink own index "TriColourMachineModel" "depth" "I" ∈ TB) (hd : decode cc pc = .ok (.putfield index, 3)) (k : G Γ kc ks 18 ad (mob ad u (sI M 13 0 v)) (pc + 3) L st) : G Γ kc ks 18 ad (mob ad u M) pc L (.int v :: .ref (ad 0) :: st) := g_put h i_Mod 0 (by decide) rfl rfl 17 (by decide) t_Mod t_Mod_ok n_Mod hlink rfl rfl rfl (Nat.le_of_ble_eq_true rfl) hd (g_world (wm_sI rfl (by simp [mob, sI_1, sI_2])) k)
theorem gf_Mod_phase (h : Cx Γ cc own rm TB CL (tym u) nl) (hlink : Cond.fieldLink own index "TriColourMachineModel" "phase" "I" ∈ TB) (hd : decode cc pc = .ok (.getfield index, 3)) (k : G Γ kc ks 18 ad (mob ad u M) (pc + 3) L (.int (M.1 14 0) :: st)) : G Γ kc ks 18 ad (mob ad u M) pc L (.ref (ad 0) :: st) := g_get h i_Mod 0 (by decide) rfl rfl 18 (by decide) hlink rfl hd k
theorem pf_Mod_phase (h : Cx Γ cc own rm TB CL (tym u) nl) {v : Int32} (hlink : Cond.fieldLink own index "TriColourMachineModel" "phase" "I" ∈ TB) (hd : decode cc pc = .ok (.putfield index, 3)) (k : G Γ kc ks 18 ad (mob ad u (sI M 14 0 v)) (pc + 3) L st) : G Γ kc ks 18 ad (mob ad u M) pc L (.int v :: .ref (ad 0) :: st) := g_put h i_Mod 0 (by decide) rfl rfl 18 (by decide) t_Mod t_Mod_ok n_Mod hlink rfl rfl rfl (Nat.le_of_ble_eq_true rfl) hd (g_world (wm_sI rfl (by simp [mob, sI_1, sI_2])) k)
theorem gf_Mod_sweep (h : Cx Γ cc own rm TB CL (tym u) nl) (hlink : Cond.fieldLink own index "TriColourMachineModel" "sweep" "I" ∈ TB) (hd : decode cc pc = .ok (.getfield index, 3)) (k : G Γ kc ks 18 ad (mob ad u M) (pc + 3) L (.int (M.1 15 0) :: st)) : G Γ kc ks 18 ad (mob ad u M) pc L (.ref (ad 0) :: st) := g_get h i_Mod 0 (by decide) rfl rfl 19 (by decide) hlink rfl hd k
theorem pf_Mod_sweep (h : Cx Γ cc own rm TB CL (tym u) nl) {v : Int32} (hlink : Cond.fieldLink own index "TriColourMachineModel" "sweep" "I" ∈ TB) (hd : decode cc pc = .ok (.putfield index, 3)) (k : G Γ kc ks 18 ad (mob ad u (sI M 15 0 v)) (pc + 3) L st) : G Γ kc ks 18 ad (mob ad u M) pc L (.int v :: .ref (ad 0) :: st) := g_put h i_Mod 0 (by decide) rfl rfl 19 (by decide) t_Mod t_Mod_ok n_Mod hlink rfl rfl rfl (Nat.le_of_ble_eq_true rfl) hd (g_world (wm_sI rfl (by simp [mob, sI_1, sI_2])) k)
theorem gf_Mod_made (h : Cx Γ cc own rm TB CL (tym u) nl) (hlink : Cond.fieldLink own index "TriColourMachineModel" "made" "I" ∈ TB) (hd : decode cc pc = .ok (.getfield index, 3)) (k : G Γ kc ks 18 ad (mob ad u M) (pc + 3) L (.int (M.1 16 0) :: st)) : G Γ kc ks 18 ad (mob ad u M) pc L (.ref (ad 0) :: st) := g_get h i_Mod 0 (by decide) rfl rfl 20 (by decide) hlink rfl hd k
theorem pf_Mod_made (h : Cx Γ cc own rm TB CL (tym u) nl) {v : Int32} (hlink : Cond.fieldLink own index "TriColourMachineModel" "made" "I" ∈ TB) (hd : decode cc pc = .ok (.putfield index, 3)) (k : G Γ kc ks 18 ad (mob ad u (sI M 16 0 v)) (pc + 3) L st) : G Γ kc ks 18 ad (mob ad u M) pc L (.int v :: .ref (ad 0) :: st) := g_put h i_Mod 0 (by decide) rfl rfl 20 (by decide) t_Mod t_Mod_ok n_Mod hlink rfl rfl rfl (Nat.le_of_ble_eq_true rfl) hd (g_world (wm_sI rfl (by simp [mob, sI_1, sI_2])) k)
theorem gf_Mod_gone (h : Cx Γ cc own rm TB CL (tym u) nl) (hlink : Cond.fieldLink own index "TriColourMachineModel" "gone" "I" ∈ TB) (hd : decode cc pc = .ok (.getfield index, 3)) (k : G Γ kc ks 18 ad (mob ad u M) (pc + 3) L (.int (M.1 17 0) :: st)) : G Γ kc ks 18 ad (mob ad u M) pc L (.ref (ad 0) :: st) := g_get h i_Mod 0 (by decide) rfl rfl 21 (by decide) hlink rfl hd k
theorem pf_Mod_gone (h : Cx Γ cc own rm TB CL (tym u) nl) {v : Int32} (hlink : Cond.fieldLink own index "TriColourMachineModel" "gone" "I" ∈ TB) (hd : decode cc pc = .ok (.putfield index, 3)) (k : G Γ kc ks 18 ad (mob ad u (sI M 17 0 v)) (pc + 3) L st) : G Γ kc ks 18 ad (mob ad u M) pc L (.int v :: .ref (ad 0) :: st) := g_put h i_Mod 0 (by decide) rfl rfl 21 (by decide) t_Mod t_Mod_ok n_Mod hlink rfl rfl rfl (Nat.le_of_ble_eq_true rfl) hd (g_world (wm_sI rfl (by simp [mob, sI_1, sI_2])) k)
theorem gf_Mod_done (h : Cx Γ cc own rm TB CL (tym u) nl) (hlink : Cond.fieldLink own index "TriColourMachineModel" "done" "I" ∈ TB) (hd : decode cc pc = .ok (.getfield index, 3)) (k : G Γ kc ks 18 ad (mob ad u M) (pc + 3) L (.int (M.1 18 0) :: st)) : G Γ kc ks 18 ad (mob ad u M) pc L (.ref (ad 0) :: st) := g_get h i_Mod 0 (by decide) rfl rfl 22 (by decide) hlink rfl hd k
theorem pf_Mod_done (h : Cx Γ cc own rm TB CL (tym u) nl) {v : Int32} (hlink : Cond.fieldLink own index "TriColourMachineModel" "done" "I" ∈ TB) (hd : decode cc pc = .ok (.putfield index, 3)) (k : G Γ kc ks 18 ad (mob ad u (sI M 18 0 v)) (pc + 3) L st) : G Γ kc ks 18 ad (mob ad u M) pc L (.int v :: .ref (ad 0) :: st) := g_put h i_Mod 0 (by decide) rfl rfl 22 (by decide) t_Mod t_Mod_ok n_Mod hlink rfl rfl rfl (Nat.le_of_ble_eq_true rfl) hd (g_world (wm_sI rfl (by simp [mob, sI_1, sI_2])) k)
theorem gf_Mod_units (h : Cx Γ cc own rm TB CL (tym u) nl) (hlink : Cond.fieldLink own index "TriColourMachineModel" "units" "I" ∈ TB) (hd : decode cc pc = .ok (.getfield index, 3)) (k : G Γ kc ks 18 ad (mob ad u M) (pc + 3) L (.int (M.1 19 0) :: st)) : G Γ kc ks 18 ad (mob ad u M) pc L (.ref (ad 0) :: st) := g_get h i_Mod 0 (by decide) rfl rfl 23 (by decide) hlink rfl hd k
theorem pf_Mod_units (h : Cx Γ cc own rm TB CL (tym u) nl) {v : Int32} (hlink : Cond.fieldLink own index "TriColourMachineModel" "units" "I" ∈ TB) (hd : decode cc pc = .ok (.putfield index, 3)) (k : G Γ kc ks 18 ad (mob ad u (sI M 19 0 v)) (pc + 3) L st) : G Γ kc ks 18 ad (mob ad u M) pc L (.int v :: .ref (ad 0) :: st) := g_put h i_Mod 0 (by decide) rfl rfl 23 (by decide) t_Mod t_Mod_ok n_Mod hlink rfl rfl rfl (Nat.le_of_ble_eq_true rfl) hd (g_world (wm_sI rfl (by simp [mob, sI_1, sI_2])) k)
theorem gf_Mod_fulls (h : Cx Γ cc own rm TB CL (tym u) nl) (hlink : Cond.fieldLink own index "TriColourMachineModel" "fulls" "I" ∈ TB) (hd : decode cc pc = .ok (.getfield index, 3)) (k : G Γ kc ks 18 ad (mob ad u M) (pc + 3) L (.int (M.1 20 0) :: st)) : G Γ kc ks 18 ad (mob ad u M) pc L (.ref (ad 0) :: st) := g_get h i_Mod 0 (by decide) rfl rfl 24 (by decide) hlink rfl hd k
theorem pf_Mod_fulls (h : Cx Γ cc own rm TB CL (tym u) nl) {v : Int32} (hlink : Cond.fieldLink own index "TriColourMachineModel" "fulls" "I" ∈ TB) (hd : decode cc pc = .ok (.putfield index, 3)) (k : G Γ kc ks 18 ad (mob ad u (sI M 20 0 v)) (pc + 3) L st) : G Γ kc ks 18 ad (mob ad u M) pc L (.int v :: .ref (ad 0) :: st) := g_put h i_Mod 0 (by decide) rfl rfl 24 (by decide) t_Mod t_Mod_ok n_Mod hlink rfl rfl rfl (Nat.le_of_ble_eq_true rfl) hd (g_world (wm_sI rfl (by simp [mob, sI_1, sI_2])) k)
theorem gf_Mod_thrown (h : Cx Γ cc own rm TB CL (tym u) nl) (hlink : Cond.fieldLink own index "TriColourMachineModel" "thrown" "I" ∈ TB) (hd : decode cc pc = .ok (.getfield index, 3)) (k : G Γ kc ks 18 ad (mob ad u M) (pc + 3) L (.int (M.1 21 0) :: st)) : G Γ kc ks 18 ad (mob ad u M) pc L (.ref (ad 0) :: st) := g_get h i_Mod 0 (by decide) rfl rfl 25 (by decide) hlink rfl hd k
theorem pf_Mod_thrown (h : Cx Γ cc own rm TB CL (tym u) nl) {v : Int32} (hlink : Cond.fieldLink own index "TriColourMachineModel" "thrown" "I" ∈ TB) (hd : decode cc pc = .ok (.putfield index, 3)) (k : G Γ kc ks 18 ad (mob ad u (sI M 21 0 v)) (pc + 3) L st) : G Γ kc ks 18 ad (mob ad u M) pc L (.int v :: .ref (ad 0) :: st) := g_put h i_Mod 0 (by decide) rfl rfl 25 (by decide) t_Mod t_Mod_ok n_Mod hlink rfl rfl rfl (Nat.le_of_ble_eq_true rfl) hd (g_world (wm_sI rfl (by simp [mob, sI_1, sI_2])) k)
theorem gf_Mod_trouble (h : Cx Γ cc own rm TB CL (tym u) nl) (hlink : Cond.fieldLink own index "TriColourMachineModel" "trouble" "I" ∈ TB) (hd : decode cc pc = .ok (.getfield index, 3)) (k : G Γ kc ks 18 ad (mob ad u M) (pc + 3) L (.int (M.1 22 0) :: st)) : G Γ kc ks 18 ad (mob ad u M) pc L (.ref (ad 0) :: st) := g_get h i_Mod 0 (by decide) rfl rfl 26 (by decide) hlink rfl hd k
theorem pf_Mod_trouble (h : Cx Γ cc own rm TB CL (tym u) nl) {v : Int32} (hlink : Cond.fieldLink own index "TriColourMachineModel" "trouble" "I" ∈ TB) (hd : decode cc pc = .ok (.putfield index, 3)) (k : G Γ kc ks 18 ad (mob ad u (sI M 22 0 v)) (pc + 3) L st) : G Γ kc ks 18 ad (mob ad u M) pc L (.int v :: .ref (ad 0) :: st) := g_put h i_Mod 0 (by decide) rfl rfl 26 (by decide) t_Mod t_Mod_ok n_Mod hlink rfl rfl rfl (Nat.le_of_ble_eq_true rfl) hd (g_world (wm_sI rfl (by simp [mob, sI_1, sI_2])) k)
theorem gf_Mod_outcome (h : Cx Γ cc own rm TB CL (tym u) nl) (hlink : Cond.fieldLink own index "TriColourMachineModel" "outcome" "J" ∈ TB) (hd : decode cc pc = .ok (.getfield index, 3)) (k : G Γ kc ks 18 ad (mob ad u M) (pc + 3) L (.long (M.2.1 4 0 0) :: st)) : G Γ kc ks 18 ad (mob ad u M) pc L (.ref (ad 0) :: st) := g_get h i_Mod 0 (by decide) rfl rfl 27 (by decide) hlink rfl hd k
theorem pf_Mod_outcome (h : Cx Γ cc own rm TB CL (tym u) nl) {v : Int64} (hlink : Cond.fieldLink own index "TriColourMachineModel" "outcome" "J" ∈ TB) (hd : decode cc pc = .ok (.putfield index, 3)) (k : G Γ kc ks 18 ad (mob ad u (sJ M 4 0 0 v)) (pc + 3) L st) : G Γ kc ks 18 ad (mob ad u M) pc L (.long v :: .ref (ad 0) :: st) := g_put h i_Mod 0 (by decide) rfl rfl 27 (by decide) t_Mod t_Mod_ok n_Mod hlink rfl rfl rfl (Nat.le_of_ble_eq_true rfl) hd (g_world (wm_sJ rfl (by simp [mob, sJ_1, sJ_2])) k)
theorem gi_ops (h : Cx Γ cc own rm TB CL (tym u) nl) {j : Nat} {i : Int32} (hi : i = nI j) (hj : j < 64) (hd : decode cc pc = .ok (.iaload, 1)) (k : G Γ kc ks 18 ad (mob ad u M) (pc + 1) L (.int (M.1 0 j) :: st)) : G Γ kc ks 18 ad (mob ad u M) pc L (.int i :: .ref (ad 1) :: st) := by
  subst hi
  have hc : (nI j).toNatClampNeg = j := nI_clamp (by omega)
  refine g_iaload h 1 0 (by decide) rfl rfl (vp_in_nI hj (by decide)) hd ?_
  rw [hc]; exact k
theorem pi_ops (h : Cx Γ cc own rm TB CL (tym u) nl) {j : Nat} {i v : Int32} (hi : i = nI j) (hj : j < 64) (hd : decode cc pc = .ok (.iastore, 1)) (k : G Γ kc ks 18 ad (mob ad u (sI M 0 j v)) (pc + 1) L st) : G Γ kc ks 18 ad (mob ad u M) pc L (.int v :: .int i :: .ref (ad 1) :: st) := by
  subst hi
  have hc : (nI j).toNatClampNeg = j := nI_clamp (by omega)
  refine g_iastore h 1 0 (by decide) rfl rfl (vp_in_nI hj (by decide)) hd ?_
  rw [hc]
  have e : (sI M 0 j v).1 0 = upd (M.1 0) j v := by
    funext b
    simp [sI_1, upd]
  refine g_world (wm_sI (f := 0) rfl ?_) k
  show Sum.inl (u 0, 64, Sum.inl ((sI M 0 j v).1 0)) = _
  rw [e]
theorem gi_as (h : Cx Γ cc own rm TB CL (tym u) nl) {j : Nat} {i : Int32} (hi : i = nI j) (hj : j < 64) (hd : decode cc pc = .ok (.iaload, 1)) (k : G Γ kc ks 18 ad (mob ad u M) (pc + 1) L (.int (M.1 1 j) :: st)) : G Γ kc ks 18 ad (mob ad u M) pc L (.int i :: .ref (ad 2) :: st) := by
  subst hi
  have hc : (nI j).toNatClampNeg = j := nI_clamp (by omega)
  refine g_iaload h 2 0 (by decide) rfl rfl (vp_in_nI hj (by decide)) hd ?_
  rw [hc]; exact k
theorem pi_as (h : Cx Γ cc own rm TB CL (tym u) nl) {j : Nat} {i v : Int32} (hi : i = nI j) (hj : j < 64) (hd : decode cc pc = .ok (.iastore, 1)) (k : G Γ kc ks 18 ad (mob ad u (sI M 1 j v)) (pc + 1) L st) : G Γ kc ks 18 ad (mob ad u M) pc L (.int v :: .int i :: .ref (ad 2) :: st) := by
  subst hi
  have hc : (nI j).toNatClampNeg = j := nI_clamp (by omega)
  refine g_iastore h 2 0 (by decide) rfl rfl (vp_in_nI hj (by decide)) hd ?_
  rw [hc]
  have e : (sI M 1 j v).1 1 = upd (M.1 1) j v := by
    funext b
    simp [sI_1, upd]
  refine g_world (wm_sI (f := 1) rfl ?_) k
  show Sum.inl (u 0, 64, Sum.inl ((sI M 1 j v).1 1)) = _
  rw [e]
theorem gi_bs (h : Cx Γ cc own rm TB CL (tym u) nl) {j : Nat} {i : Int32} (hi : i = nI j) (hj : j < 64) (hd : decode cc pc = .ok (.iaload, 1)) (k : G Γ kc ks 18 ad (mob ad u M) (pc + 1) L (.int (M.1 2 j) :: st)) : G Γ kc ks 18 ad (mob ad u M) pc L (.int i :: .ref (ad 3) :: st) := by
  subst hi
  have hc : (nI j).toNatClampNeg = j := nI_clamp (by omega)
  refine g_iaload h 3 0 (by decide) rfl rfl (vp_in_nI hj (by decide)) hd ?_
  rw [hc]; exact k
theorem pi_bs (h : Cx Γ cc own rm TB CL (tym u) nl) {j : Nat} {i v : Int32} (hi : i = nI j) (hj : j < 64) (hd : decode cc pc = .ok (.iastore, 1)) (k : G Γ kc ks 18 ad (mob ad u (sI M 2 j v)) (pc + 1) L st) : G Γ kc ks 18 ad (mob ad u M) pc L (.int v :: .int i :: .ref (ad 3) :: st) := by
  subst hi
  have hc : (nI j).toNatClampNeg = j := nI_clamp (by omega)
  refine g_iastore h 3 0 (by decide) rfl rfl (vp_in_nI hj (by decide)) hd ?_
  rw [hc]
  have e : (sI M 2 j v).1 2 = upd (M.1 2) j v := by
    funext b
    simp [sI_1, upd]
  refine g_world (wm_sI (f := 2) rfl ?_) k
  show Sum.inl (u 0, 64, Sum.inl ((sI M 2 j v).1 2)) = _
  rw [e]
theorem gi_cs (h : Cx Γ cc own rm TB CL (tym u) nl) {j : Nat} {i : Int32} (hi : i = nI j) (hj : j < 64) (hd : decode cc pc = .ok (.iaload, 1)) (k : G Γ kc ks 18 ad (mob ad u M) (pc + 1) L (.int (M.1 3 j) :: st)) : G Γ kc ks 18 ad (mob ad u M) pc L (.int i :: .ref (ad 4) :: st) := by
  subst hi
  have hc : (nI j).toNatClampNeg = j := nI_clamp (by omega)
  refine g_iaload h 4 0 (by decide) rfl rfl (vp_in_nI hj (by decide)) hd ?_
  rw [hc]; exact k
theorem pi_cs (h : Cx Γ cc own rm TB CL (tym u) nl) {j : Nat} {i v : Int32} (hi : i = nI j) (hj : j < 64) (hd : decode cc pc = .ok (.iastore, 1)) (k : G Γ kc ks 18 ad (mob ad u (sI M 3 j v)) (pc + 1) L st) : G Γ kc ks 18 ad (mob ad u M) pc L (.int v :: .int i :: .ref (ad 4) :: st) := by
  subst hi
  have hc : (nI j).toNatClampNeg = j := nI_clamp (by omega)
  refine g_iastore h 4 0 (by decide) rfl rfl (vp_in_nI hj (by decide)) hd ?_
  rw [hc]
  have e : (sI M 3 j v).1 3 = upd (M.1 3) j v := by
    funext b
    simp [sI_1, upd]
  refine g_world (wm_sI (f := 3) rfl ?_) k
  show Sum.inl (u 0, 64, Sum.inl ((sI M 3 j v).1 3)) = _
  rw [e]
theorem gi_kind (h : Cx Γ cc own rm TB CL (tym u) nl) {j : Nat} {i : Int32} (hi : i = nI j) (hj : j < 16) (hd : decode cc pc = .ok (.iaload, 1)) (k : G Γ kc ks 18 ad (mob ad u M) (pc + 1) L (.int (M.1 4 j) :: st)) : G Γ kc ks 18 ad (mob ad u M) pc L (.int i :: .ref (ad 6) :: st) := by
  subst hi
  have hc : (nI j).toNatClampNeg = j := nI_clamp (by omega)
  refine g_iaload h 6 0 (by decide) rfl rfl (vp_in_nI hj (by decide)) hd ?_
  rw [hc]; exact k
theorem pi_kind (h : Cx Γ cc own rm TB CL (tym u) nl) {j : Nat} {i v : Int32} (hi : i = nI j) (hj : j < 16) (hd : decode cc pc = .ok (.iastore, 1)) (k : G Γ kc ks 18 ad (mob ad u (sI M 4 j v)) (pc + 1) L st) : G Γ kc ks 18 ad (mob ad u M) pc L (.int v :: .int i :: .ref (ad 6) :: st) := by
  subst hi
  have hc : (nI j).toNatClampNeg = j := nI_clamp (by omega)
  refine g_iastore h 6 0 (by decide) rfl rfl (vp_in_nI hj (by decide)) hd ?_
  rw [hc]
  have e : (sI M 4 j v).1 4 = upd (M.1 4) j v := by
    funext b
    simp [sI_1, upd]
  refine g_world (wm_sI (f := 4) rfl ?_) k
  show Sum.inl (u 0, 16, Sum.inl ((sI M 4 j v).1 4)) = _
  rw [e]
theorem gi_colour (h : Cx Γ cc own rm TB CL (tym u) nl) {j : Nat} {i : Int32} (hi : i = nI j) (hj : j < 16) (hd : decode cc pc = .ok (.iaload, 1)) (k : G Γ kc ks 18 ad (mob ad u M) (pc + 1) L (.int (M.1 5 j) :: st)) : G Γ kc ks 18 ad (mob ad u M) pc L (.int i :: .ref (ad 7) :: st) := by
  subst hi
  have hc : (nI j).toNatClampNeg = j := nI_clamp (by omega)
  refine g_iaload h 7 0 (by decide) rfl rfl (vp_in_nI hj (by decide)) hd ?_
  rw [hc]; exact k
theorem pi_colour (h : Cx Γ cc own rm TB CL (tym u) nl) {j : Nat} {i v : Int32} (hi : i = nI j) (hj : j < 16) (hd : decode cc pc = .ok (.iastore, 1)) (k : G Γ kc ks 18 ad (mob ad u (sI M 5 j v)) (pc + 1) L st) : G Γ kc ks 18 ad (mob ad u M) pc L (.int v :: .int i :: .ref (ad 7) :: st) := by
  subst hi
  have hc : (nI j).toNatClampNeg = j := nI_clamp (by omega)
  refine g_iastore h 7 0 (by decide) rfl rfl (vp_in_nI hj (by decide)) hd ?_
  rw [hc]
  have e : (sI M 5 j v).1 5 = upd (M.1 5) j v := by
    funext b
    simp [sI_1, upd]
  refine g_world (wm_sI (f := 5) rfl ?_) k
  show Sum.inl (u 0, 16, Sum.inl ((sI M 5 j v).1 5)) = _
  rw [e]
theorem gi_size (h : Cx Γ cc own rm TB CL (tym u) nl) {j : Nat} {i : Int32} (hi : i = nI j) (hj : j < 16) (hd : decode cc pc = .ok (.iaload, 1)) (k : G Γ kc ks 18 ad (mob ad u M) (pc + 1) L (.int (M.1 6 j) :: st)) : G Γ kc ks 18 ad (mob ad u M) pc L (.int i :: .ref (ad 8) :: st) := by
  subst hi
  have hc : (nI j).toNatClampNeg = j := nI_clamp (by omega)
  refine g_iaload h 8 0 (by decide) rfl rfl (vp_in_nI hj (by decide)) hd ?_
  rw [hc]; exact k
theorem pi_size (h : Cx Γ cc own rm TB CL (tym u) nl) {j : Nat} {i v : Int32} (hi : i = nI j) (hj : j < 16) (hd : decode cc pc = .ok (.iastore, 1)) (k : G Γ kc ks 18 ad (mob ad u (sI M 6 j v)) (pc + 1) L st) : G Γ kc ks 18 ad (mob ad u M) pc L (.int v :: .int i :: .ref (ad 8) :: st) := by
  subst hi
  have hc : (nI j).toNatClampNeg = j := nI_clamp (by omega)
  refine g_iastore h 8 0 (by decide) rfl rfl (vp_in_nI hj (by decide)) hd ?_
  rw [hc]
  have e : (sI M 6 j v).1 6 = upd (M.1 6) j v := by
    funext b
    simp [sI_1, upd]
  refine g_world (wm_sI (f := 6) rfl ?_) k
  show Sum.inl (u 0, 16, Sum.inl ((sI M 6 j v).1 6)) = _
  rw [e]
theorem gi_metaOf (h : Cx Γ cc own rm TB CL (tym u) nl) {j : Nat} {i : Int32} (hi : i = nI j) (hj : j < 16) (hd : decode cc pc = .ok (.iaload, 1)) (k : G Γ kc ks 18 ad (mob ad u M) (pc + 1) L (.int (M.1 7 j) :: st)) : G Γ kc ks 18 ad (mob ad u M) pc L (.int i :: .ref (ad 9) :: st) := by
  subst hi
  have hc : (nI j).toNatClampNeg = j := nI_clamp (by omega)
  refine g_iaload h 9 0 (by decide) rfl rfl (vp_in_nI hj (by decide)) hd ?_
  rw [hc]; exact k
theorem pi_metaOf (h : Cx Γ cc own rm TB CL (tym u) nl) {j : Nat} {i v : Int32} (hi : i = nI j) (hj : j < 16) (hd : decode cc pc = .ok (.iastore, 1)) (k : G Γ kc ks 18 ad (mob ad u (sI M 7 j v)) (pc + 1) L st) : G Γ kc ks 18 ad (mob ad u M) pc L (.int v :: .int i :: .ref (ad 9) :: st) := by
  subst hi
  have hc : (nI j).toNatClampNeg = j := nI_clamp (by omega)
  refine g_iastore h 9 0 (by decide) rfl rfl (vp_in_nI hj (by decide)) hd ?_
  rw [hc]
  have e : (sI M 7 j v).1 7 = upd (M.1 7) j v := by
    funext b
    simp [sI_1, upd]
  refine g_world (wm_sI (f := 7) rfl ?_) k
  show Sum.inl (u 0, 16, Sum.inl ((sI M 7 j v).1 7)) = _
  rw [e]
theorem gi_function (h : Cx Γ cc own rm TB CL (tym u) nl) {j : Nat} {i : Int32} (hi : i = nI j) (hj : j < 16) (hd : decode cc pc = .ok (.iaload, 1)) (k : G Γ kc ks 18 ad (mob ad u M) (pc + 1) L (.int (M.1 8 j) :: st)) : G Γ kc ks 18 ad (mob ad u M) pc L (.int i :: .ref (ad 13) :: st) := by
  subst hi
  have hc : (nI j).toNatClampNeg = j := nI_clamp (by omega)
  refine g_iaload h 13 0 (by decide) rfl rfl (vp_in_nI hj (by decide)) hd ?_
  rw [hc]; exact k
theorem pi_function (h : Cx Γ cc own rm TB CL (tym u) nl) {j : Nat} {i v : Int32} (hi : i = nI j) (hj : j < 16) (hd : decode cc pc = .ok (.iastore, 1)) (k : G Γ kc ks 18 ad (mob ad u (sI M 8 j v)) (pc + 1) L st) : G Γ kc ks 18 ad (mob ad u M) pc L (.int v :: .int i :: .ref (ad 13) :: st) := by
  subst hi
  have hc : (nI j).toNatClampNeg = j := nI_clamp (by omega)
  refine g_iastore h 13 0 (by decide) rfl rfl (vp_in_nI hj (by decide)) hd ?_
  rw [hc]
  have e : (sI M 8 j v).1 8 = upd (M.1 8) j v := by
    funext b
    simp [sI_1, upd]
  refine g_world (wm_sI (f := 8) rfl ?_) k
  show Sum.inl (u 0, 16, Sum.inl ((sI M 8 j v).1 8)) = _
  rw [e]
theorem gi_place (h : Cx Γ cc own rm TB CL (tym u) nl) {j : Nat} {i : Int32} (hi : i = nI j) (hj : j < 16) (hd : decode cc pc = .ok (.iaload, 1)) (k : G Γ kc ks 18 ad (mob ad u M) (pc + 1) L (.int (M.1 9 j) :: st)) : G Γ kc ks 18 ad (mob ad u M) pc L (.int i :: .ref (ad 14) :: st) := by
  subst hi
  have hc : (nI j).toNatClampNeg = j := nI_clamp (by omega)
  refine g_iaload h 14 0 (by decide) rfl rfl (vp_in_nI hj (by decide)) hd ?_
  rw [hc]; exact k
theorem pi_place (h : Cx Γ cc own rm TB CL (tym u) nl) {j : Nat} {i v : Int32} (hi : i = nI j) (hj : j < 16) (hd : decode cc pc = .ok (.iastore, 1)) (k : G Γ kc ks 18 ad (mob ad u (sI M 9 j v)) (pc + 1) L st) : G Γ kc ks 18 ad (mob ad u M) pc L (.int v :: .int i :: .ref (ad 14) :: st) := by
  subst hi
  have hc : (nI j).toNatClampNeg = j := nI_clamp (by omega)
  refine g_iastore h 14 0 (by decide) rfl rfl (vp_in_nI hj (by decide)) hd ?_
  rw [hc]
  have e : (sI M 9 j v).1 9 = upd (M.1 9) j v := by
    funext b
    simp [sI_1, upd]
  refine g_world (wm_sI (f := 9) rfl ?_) k
  show Sum.inl (u 0, 16, Sum.inl ((sI M 9 j v).1 9)) = _
  rw [e]
theorem gi_state (h : Cx Γ cc own rm TB CL (tym u) nl) {j : Nat} {i : Int32} (hi : i = nI j) (hj : j < 16) (hd : decode cc pc = .ok (.iaload, 1)) (k : G Γ kc ks 18 ad (mob ad u M) (pc + 1) L (.int (M.1 10 j) :: st)) : G Γ kc ks 18 ad (mob ad u M) pc L (.int i :: .ref (ad 15) :: st) := by
  subst hi
  have hc : (nI j).toNatClampNeg = j := nI_clamp (by omega)
  refine g_iaload h 15 0 (by decide) rfl rfl (vp_in_nI hj (by decide)) hd ?_
  rw [hc]; exact k
theorem pi_state (h : Cx Γ cc own rm TB CL (tym u) nl) {j : Nat} {i v : Int32} (hi : i = nI j) (hj : j < 16) (hd : decode cc pc = .ok (.iastore, 1)) (k : G Γ kc ks 18 ad (mob ad u (sI M 10 j v)) (pc + 1) L st) : G Γ kc ks 18 ad (mob ad u M) pc L (.int v :: .int i :: .ref (ad 15) :: st) := by
  subst hi
  have hc : (nI j).toNatClampNeg = j := nI_clamp (by omega)
  refine g_iastore h 15 0 (by decide) rfl rfl (vp_in_nI hj (by decide)) hd ?_
  rw [hc]
  have e : (sI M 10 j v).1 10 = upd (M.1 10) j v := by
    funext b
    simp [sI_1, upd]
  refine g_world (wm_sI (f := 10) rfl ?_) k
  show Sum.inl (u 0, 16, Sum.inl ((sI M 10 j v).1 10)) = _
  rw [e]
theorem gi_waits (h : Cx Γ cc own rm TB CL (tym u) nl) {j : Nat} {i : Int32} (hi : i = nI j) (hj : j < 16) (hd : decode cc pc = .ok (.iaload, 1)) (k : G Γ kc ks 18 ad (mob ad u M) (pc + 1) L (.int (M.1 11 j) :: st)) : G Γ kc ks 18 ad (mob ad u M) pc L (.int i :: .ref (ad 16) :: st) := by
  subst hi
  have hc : (nI j).toNatClampNeg = j := nI_clamp (by omega)
  refine g_iaload h 16 0 (by decide) rfl rfl (vp_in_nI hj (by decide)) hd ?_
  rw [hc]; exact k
theorem pi_waits (h : Cx Γ cc own rm TB CL (tym u) nl) {j : Nat} {i v : Int32} (hi : i = nI j) (hj : j < 16) (hd : decode cc pc = .ok (.iastore, 1)) (k : G Γ kc ks 18 ad (mob ad u (sI M 11 j v)) (pc + 1) L st) : G Γ kc ks 18 ad (mob ad u M) pc L (.int v :: .int i :: .ref (ad 16) :: st) := by
  subst hi
  have hc : (nI j).toNatClampNeg = j := nI_clamp (by omega)
  refine g_iastore h 16 0 (by decide) rfl rfl (vp_in_nI hj (by decide)) hd ?_
  rw [hc]
  have e : (sI M 11 j v).1 11 = upd (M.1 11) j v := by
    funext b
    simp [sI_1, upd]
  refine g_world (wm_sI (f := 11) rfl ?_) k
  show Sum.inl (u 0, 16, Sum.inl ((sI M 11 j v).1 11)) = _
  rw [e]
theorem gi_active (h : Cx Γ cc own rm TB CL (tym u) nl) {j : Nat} {i : Int32} (hi : i = nI j) (hj : j < 6) (hd : decode cc pc = .ok (.iaload, 1)) (k : G Γ kc ks 18 ad (mob ad u M) (pc + 1) L (.int (M.1 12 j) :: st)) : G Γ kc ks 18 ad (mob ad u M) pc L (.int i :: .ref (ad 17) :: st) := by
  subst hi
  have hc : (nI j).toNatClampNeg = j := nI_clamp (by omega)
  refine g_iaload h 17 0 (by decide) rfl rfl (vp_in_nI hj (by decide)) hd ?_
  rw [hc]; exact k
theorem pi_active (h : Cx Γ cc own rm TB CL (tym u) nl) {j : Nat} {i v : Int32} (hi : i = nI j) (hj : j < 6) (hd : decode cc pc = .ok (.iastore, 1)) (k : G Γ kc ks 18 ad (mob ad u (sI M 12 j v)) (pc + 1) L st) : G Γ kc ks 18 ad (mob ad u M) pc L (.int v :: .int i :: .ref (ad 17) :: st) := by
  subst hi
  have hc : (nI j).toNatClampNeg = j := nI_clamp (by omega)
  refine g_iastore h 17 0 (by decide) rfl rfl (vp_in_nI hj (by decide)) hd ?_
  rw [hc]
  have e : (sI M 12 j v).1 12 = upd (M.1 12) j v := by
    funext b
    simp [sI_1, upd]
  refine g_world (wm_sI (f := 12) rfl ?_) k
  show Sum.inl (u 0, 6, Sum.inl ((sI M 12 j v).1 12)) = _
  rw [e]
theorem gj_globals (h : Cx Γ cc own rm TB CL (tym u) nl) {j : Nat} {i : Int32} (hi : i = nI j) (hj : j < 6) (hd : decode cc pc = .ok (.laload, 1)) (k : G Γ kc ks 18 ad (mob ad u M) (pc + 1) L (.long (M.2.1 0 0 j) :: st)) : G Γ kc ks 18 ad (mob ad u M) pc L (.int i :: .ref (ad 5) :: st) := by
  subst hi
  have hc : (nI j).toNatClampNeg = j := nI_clamp (by omega)
  refine g_laload h 5 1 (by decide) rfl rfl (vp_in_nI hj (by decide)) hd ?_
  rw [hc]; exact k
theorem pj_globals (h : Cx Γ cc own rm TB CL (tym u) nl) {j : Nat} {i : Int32} {v : Int64} (hi : i = nI j) (hj : j < 6) (hd : decode cc pc = .ok (.lastore, 1)) (k : G Γ kc ks 18 ad (mob ad u (sJ M 0 0 j v)) (pc + 1) L st) : G Γ kc ks 18 ad (mob ad u M) pc L (.long v :: .int i :: .ref (ad 5) :: st) := by
  subst hi
  have hc : (nI j).toNatClampNeg = j := nI_clamp (by omega)
  refine g_lastore h 5 1 (by decide) rfl rfl (vp_in_nI hj (by decide)) hd ?_
  rw [hc]
  have e : (sJ M 0 0 j v).2.1 0 0 = vp_updL (M.2.1 0 0) j v := by
    funext b
    simp [sJ_2, vp_updL]
  refine g_world (wm_sJ (f := 0) rfl ?_) k
  show Sum.inl (u 1, 6, Sum.inr (Sum.inl ((sJ M 0 0 j v).2.1 0 0))) = _
  rw [e]
theorem gj_keys (h : Cx Γ cc own rm TB CL (tym u) nl) {j : Nat} {i : Int32} (hi : i = nI j) (hj : j < 96) (hd : decode cc pc = .ok (.laload, 1)) (k : G Γ kc ks 18 ad (mob ad u M) (pc + 1) L (.long (M.2.1 1 0 j) :: st)) : G Γ kc ks 18 ad (mob ad u M) pc L (.int i :: .ref (ad 10) :: st) := by
  subst hi
  have hc : (nI j).toNatClampNeg = j := nI_clamp (by omega)
  refine g_laload h 10 1 (by decide) rfl rfl (vp_in_nI hj (by decide)) hd ?_
  rw [hc]; exact k
theorem pj_keys (h : Cx Γ cc own rm TB CL (tym u) nl) {j : Nat} {i : Int32} {v : Int64} (hi : i = nI j) (hj : j < 96) (hd : decode cc pc = .ok (.lastore, 1)) (k : G Γ kc ks 18 ad (mob ad u (sJ M 1 0 j v)) (pc + 1) L st) : G Γ kc ks 18 ad (mob ad u M) pc L (.long v :: .int i :: .ref (ad 10) :: st) := by
  subst hi
  have hc : (nI j).toNatClampNeg = j := nI_clamp (by omega)
  refine g_lastore h 10 1 (by decide) rfl rfl (vp_in_nI hj (by decide)) hd ?_
  rw [hc]
  have e : (sJ M 1 0 j v).2.1 1 0 = vp_updL (M.2.1 1 0) j v := by
    funext b
    simp [sJ_2, vp_updL]
  refine g_world (wm_sJ (f := 1) rfl ?_) k
  show Sum.inl (u 1, 96, Sum.inr (Sum.inl ((sJ M 1 0 j v).2.1 1 0))) = _
  rw [e]
theorem gj_values (h : Cx Γ cc own rm TB CL (tym u) nl) {j : Nat} {i : Int32} (hi : i = nI j) (hj : j < 96) (hd : decode cc pc = .ok (.laload, 1)) (k : G Γ kc ks 18 ad (mob ad u M) (pc + 1) L (.long (M.2.1 2 0 j) :: st)) : G Γ kc ks 18 ad (mob ad u M) pc L (.int i :: .ref (ad 11) :: st) := by
  subst hi
  have hc : (nI j).toNatClampNeg = j := nI_clamp (by omega)
  refine g_laload h 11 1 (by decide) rfl rfl (vp_in_nI hj (by decide)) hd ?_
  rw [hc]; exact k
theorem pj_values (h : Cx Γ cc own rm TB CL (tym u) nl) {j : Nat} {i : Int32} {v : Int64} (hi : i = nI j) (hj : j < 96) (hd : decode cc pc = .ok (.lastore, 1)) (k : G Γ kc ks 18 ad (mob ad u (sJ M 2 0 j v)) (pc + 1) L st) : G Γ kc ks 18 ad (mob ad u M) pc L (.long v :: .int i :: .ref (ad 11) :: st) := by
  subst hi
  have hc : (nI j).toNatClampNeg = j := nI_clamp (by omega)
  refine g_lastore h 11 1 (by decide) rfl rfl (vp_in_nI hj (by decide)) hd ?_
  rw [hc]
  have e : (sJ M 2 0 j v).2.1 2 0 = vp_updL (M.2.1 2 0) j v := by
    funext b
    simp [sJ_2, vp_updL]
  refine g_world (wm_sJ (f := 2) rfl ?_) k
  show Sum.inl (u 1, 96, Sum.inr (Sum.inl ((sJ M 2 0 j v).2.1 2 0))) = _
  rw [e]
theorem gj_registers (h : Cx Γ cc own rm TB CL (tym u) nl) {j : Nat} {i : Int32} (hi : i = nI j) (hj : j < 64) (hd : decode cc pc = .ok (.laload, 1)) (k : G Γ kc ks 18 ad (mob ad u M) (pc + 1) L (.long (M.2.1 3 0 j) :: st)) : G Γ kc ks 18 ad (mob ad u M) pc L (.int i :: .ref (ad 12) :: st) := by
  subst hi
  have hc : (nI j).toNatClampNeg = j := nI_clamp (by omega)
  refine g_laload h 12 1 (by decide) rfl rfl (vp_in_nI hj (by decide)) hd ?_
  rw [hc]; exact k
theorem pj_registers (h : Cx Γ cc own rm TB CL (tym u) nl) {j : Nat} {i : Int32} {v : Int64} (hi : i = nI j) (hj : j < 64) (hd : decode cc pc = .ok (.lastore, 1)) (k : G Γ kc ks 18 ad (mob ad u (sJ M 3 0 j v)) (pc + 1) L st) : G Γ kc ks 18 ad (mob ad u M) pc L (.long v :: .int i :: .ref (ad 12) :: st) := by
  subst hi
  have hc : (nI j).toNatClampNeg = j := nI_clamp (by omega)
  refine g_lastore h 12 1 (by decide) rfl rfl (vp_in_nI hj (by decide)) hd ?_
  rw [hc]
  have e : (sJ M 3 0 j v).2.1 3 0 = vp_updL (M.2.1 3 0) j v := by
    funext b
    simp [sJ_2, vp_updL]
  refine g_world (wm_sJ (f := 3) rfl ?_) k
  show Sum.inl (u 1, 64, Sum.inr (Sum.inl ((sJ M 3 0 j v).2.1 3 0))) = _
  rw [e]
end RowsM
/-- the contract of a method of the reference -/
abbrev Cm (l : Launch) (D : va_G) (u : Nat → ClassId) (ad : Nat → Nat) (y : MethodName) (b : ByteArray) (n : Nat) (ret : Option FieldType) (rm : Room) (As : List Value) (M : CS) (v0 : Option Value) (M2 : CS) : Prop := Ct l D CL (tym u) NL 18 ad y (.code y b n ret :: TB) rm As (mob ad u M) (fun v σ2 => v = v0 ∧ σ2 = mob ad u M2)
