/-! the exceptions' words -/
def isIR : Cond → Bool
  | .isRef _ => true
  | .laysStatic _ _ _ => true
  | .castable _ _ => true
  | .declares _ => true
  | _ => false
abbrev xY : List MethodName := [⟨"java/lang/RuntimeException", "<init>", "()V"⟩, ⟨"java/lang/Exception", "<init>", "()V"⟩, ⟨"java/lang/Throwable", "<init>", "()V"⟩]
def isDc (ys : List MethodName) : Cond → Bool
  | .declares y => decide (y ∈ ys)
  | _ => false
theorem xY_ok : ∀ y ∈ xY, ∃ b n ret, Cond.instanceMethod y ∈ TB ∧ Cond.code y b n ret ∈ TB := by
  intro y hy
  simp only [xY, List.mem_cons, List.not_mem_nil, or_false] at hy
  rcases hy with rfl | rfl | rfl
  · exact ⟨prog_14_method_1_code, 1, none, tb_mem 386 (by decide +kernel) (by decide +kernel), tb_mem 387 (by decide +kernel) (by decide +kernel)⟩
  · exact ⟨prog_10_method_1_code, 1, none, tb_mem 389 (by decide +kernel) (by decide +kernel), tb_mem 390 (by decide +kernel) (by decide +kernel)⟩
  · exact ⟨prog_16_method_1_code, 1, none, tb_mem 363 (by decide +kernel) (by decide +kernel), tb_mem 364 (by decide +kernel) (by decide +kernel)⟩
theorem own_words {ws : List Cond} {X : String} (ps : List Nat) (h : ws.filter (fun w => !isIR w) = ps.filterMap (fun i => lw_tbl[i]?)) (hg : (ws.filter (fun w => !isIR w)).all goodWord = true) (hi : (ws.filter isIR).all (fun w => decide (w ∈ xS) || (decide (w = .castable X X) || isDc xY w)) = true) : ∀ w ∈ ws, xOk TB X w := fun w hw => by
  by_cases z : isIR w = true
  · have q := List.all_eq_true.mp hi w (List.mem_filter.mpr ⟨hw, z⟩)
    simp only [Bool.or_eq_true, decide_eq_true_eq] at q
    rcases q with q | q | q
    · exact .inr (.inl q)
    · exact .inr (.inr (.inl q))
    · unfold isDc at q
      split at q
      · rename_i y
        obtain ⟨b, n, ret, q1, q2⟩ := xY_ok y (of_decide_eq_true q)
        exact .inr (.inr (.inr ⟨y, b, n, ret, rfl, q1, q2⟩))
      · cases q
  · exact .inl (tb_all ps h hg w (List.mem_filter.mpr ⟨hw, by simp [z]⟩))
abbrev xN : List String := ["java/lang/RuntimeException", "java/lang/Exception"]
theorem xN_fit : ∀ n ∈ xN, Bundle.fit n = true := by decide +kernel
abbrev X_IAE : String := "java/lang/IllegalArgumentException"
theorem xw_IAE : ∀ w ∈ Bundle.ownAtoms0 "TriColourMachine" 140 X_IAE xN, xOk TB X_IAE w := own_words [52, 362, 371, 376, 379, 381, 363, 364, 67, 68, 365, 370, 377, 393, 352, 394, 354, 395, 356, 366, 368, 358, 383, 384, 385, 386, 386, 387, 388, 389, 389, 390, 391, 363, 382, 341, 349, 350, 351, 353, 355, 357, 361, 360, 359] (by decide +kernel) (by decide +kernel) (by decide +kernel)
theorem xcl_IAE : Cond.classLink "TriColourMachine" 138 X_IAE ∈ TB := tb_mem 340 (by decide +kernel) (by decide +kernel)
theorem xin_IAE : Cond.instantiable X_IAE 6 ∈ TB := tb_mem 341 (by decide +kernel) (by decide +kernel)
theorem xii_IAE : Cond.initialized X_IAE ∈ TB := tb_mem 55 (by decide +kernel) (by decide +kernel)
abbrev X_UOE : String := "java/lang/UnsupportedOperationException"
theorem xw_UOE : ∀ w ∈ Bundle.ownAtoms0 "TriColourMachine" 178 X_UOE xN, xOk TB X_UOE w := own_words [52, 362, 371, 376, 379, 381, 363, 364, 67, 68, 365, 370, 377, 393, 352, 394, 354, 395, 356, 366, 368, 358, 470, 471, 472, 386, 386, 387, 388, 389, 389, 390, 391, 363, 469, 461, 463, 374, 464, 465, 466, 467, 361, 360, 468] (by decide +kernel) (by decide +kernel) (by decide +kernel)
theorem xcl_UOE : Cond.classLink "TriColourMachine" 176 X_UOE ∈ TB := tb_mem 460 (by decide +kernel) (by decide +kernel)
theorem xin_UOE : Cond.instantiable X_UOE 6 ∈ TB := tb_mem 461 (by decide +kernel) (by decide +kernel)
theorem xii_UOE : Cond.initialized X_UOE ∈ TB := tb_mem 56 (by decide +kernel) (by decide +kernel)
abbrev X_ISE : String := "java/lang/IllegalStateException"
theorem xw_ISE : ∀ w ∈ Bundle.ownAtoms0 "TriColourMachine" 181 X_ISE xN, xOk TB X_ISE w := own_words [52, 362, 371, 376, 379, 381, 363, 364, 67, 68, 365, 370, 377, 393, 352, 394, 354, 395, 356, 366, 368, 358, 485, 486, 487, 386, 386, 387, 388, 389, 389, 390, 391, 363, 484, 476, 478, 373, 479, 480, 481, 482, 361, 360, 483] (by decide +kernel) (by decide +kernel) (by decide +kernel)
theorem xcl_ISE : Cond.classLink "TriColourMachine" 179 X_ISE ∈ TB := tb_mem 475 (by decide +kernel) (by decide +kernel)
theorem xin_ISE : Cond.instantiable X_ISE 6 ∈ TB := tb_mem 476 (by decide +kernel) (by decide +kernel)
theorem xii_ISE : Cond.initialized X_ISE ∈ TB := tb_mem 57 (by decide +kernel) (by decide +kernel)
abbrev X_NSE : String := "java/util/NoSuchElementException"
theorem xw_NSE : ∀ w ∈ Bundle.ownAtoms0 "TriColourMachine" 110 X_NSE xN, xOk TB X_NSE w := own_words [52, 362, 371, 376, 379, 381, 363, 364, 67, 68, 365, 370, 377, 393, 352, 394, 354, 395, 356, 366, 368, 358, 659, 660, 661, 386, 386, 387, 388, 389, 389, 390, 391, 363, 658, 650, 652, 375, 653, 654, 655, 656, 361, 360, 657] (by decide +kernel) (by decide +kernel) (by decide +kernel)
theorem xcl_NSE : Cond.classLink "TriColourMachine" 108 X_NSE ∈ TB := tb_mem 649 (by decide +kernel) (by decide +kernel)
theorem xin_NSE : Cond.instantiable X_NSE 6 ∈ TB := tb_mem 650 (by decide +kernel) (by decide +kernel)
theorem xii_NSE : Cond.initialized X_NSE ∈ TB := tb_mem 60 (by decide +kernel) (by decide +kernel)
