/-! Heap's constructor -/
theorem arrV_eq {cA : ClassId} {n : Nat} {f g : Nat → Value} (e : ∀ j, j < n → f j = g j) : arrV cA n f = arrV cA n g := by
  unfold arrV
  congr 1
  congr 1
  funext j
  exact e j.val j.isLt
section ArrQ
variable {Γ : GT} {kc ks N pc : Nat} {ad : Nat → Nat} {σ : Nat → va_E} {L : List (Option Value)} {st : List Value}
theorem g_arrq {q n : Nat} {cA : ClassId} {f f' : Nat → Option Nat} (hq : q < N) (he : σ q = .inl (cA, n, .inr (.inr (.inr (.inr f))))) (e : ∀ j, j < n → f j = f' j) (k : G Γ kc ks N ad (va_up σ q (.inl (cA, n, .inr (.inr (.inr (.inr f')))))) pc L st) : G Γ kc ks N ad σ pc L st := by
  intro H locs ls hP hD hS hl
  refine k H locs ls (fun j x hx => ?_) (mrg_D hD) hS hl
  obtain ⟨g1, g2⟩ := gl_out hx
  subst g2
  have h0 := hP j _ (gl_at g1)
  unfold va_up
  by_cases z : j = q
  · subst z
    rw [if_pos rfl]
    rw [he] at h0
    have h1 : H[ad j]? = some (vp_cell cA (n, .inr (.inr (.inr (.inr f))))) := h0
    show H[ad j]? = some (vp_cell cA (n, .inr (.inr (.inr (.inr f')))))
    rw [h1, vp_cell_q, vp_cell_q, arrV_eq (fun i hi => by rw [e i hi])]
  · rw [if_neg z]
    exact h0
/-- the same addresses and cells, written in another way -/
theorem g_same {ad' : Nat → Nat} {σ' : Nat → va_E} (h3 : ∀ k, k < N → ad' k = ad k ∧ σ' k = σ k) (k : G Γ kc ks N ad' σ' pc L st) : G Γ kc ks N ad σ pc L st := g_re (fun k => k) (fun _ h => h) (fun _ _ _ _ h => h) h3 k
end ArrQ
set_option maxHeartbeats 4000000 in
set_option maxRecDepth 100000 in
theorem c_fillG {l : Launch} {D : va_G} {tys : List (ClassId × FieldType)} {N q : Nat} {ad : Nat → Nat} {σ : Nat → va_E} {cA : ClassId} {f : Nat → Int64} {v : Int64} (ht : tys[0]? = some (cA, .long)) (hq : q < N) (he : σ q = .inl (cA, 6, .inr (.inl f))) : Ct l D CL tys NL N ad y_Arr_fill (.code y_Arr_fill b_Arr_fill 5 none :: TB) { frames := 0, cells := 0, slots := 0, locals := 0 } [.ref (ad q), .long v] σ (fun v0 σ2 => v0 = none ∧ σ2 = va_up σ q (.inl (cA, 6, .inr (.inl (fun j => if j < 6 then v else f j))))) := by
  refine ct_of (by decide) (Nat.le_of_ble_eq_true rfl) ?_
  intro Γ hL hDD hN h r
  have loop : ∀ (c i : Nat) (g : Nat → Int64), i + c = 6 → (∀ j, g j = if j < i then v else f j) → G Γ 0 0 N ad (va_up σ q (.inl (cA, 6, .inr (.inl g)))) 6 [some (.ref (ad q)), some (.long v), none, some (.int (nI i)), some (.int 6)] [] := by
    intro c
    induction c with
    | zero =>
      intro i g hi hg
      refine g_iload_n h d_Arr_fill_6 rfl rfl ?_
      refine g_iload h d_Arr_fill_7 rfl ?_
      refine g_icmp_ge (tgt := 22) h d_Arr_fill_9 (by decide) (fun c_9 => ?_) (fun c_9 => ?_)
      · refine g_vret h r d_Arr_fill_22 ⟨rfl, ?_⟩
        rw [show g = fun j => if j < 6 then v else f j from funext (fun j => by rw [hg, show i = 6 by omega])]
      · exact absurd (show nI 6 ≤ nI i from nI_le (by omega) (by omega)) c_9
    | succ c ih =>
      intro i g hi hg
      refine g_iload_n h d_Arr_fill_6 rfl rfl ?_
      refine g_iload h d_Arr_fill_7 rfl ?_
      refine g_icmp_ge (tgt := 22) h d_Arr_fill_9 (by decide) (fun c_9 => ?_) (fun c_9 => ?_)
      · exact absurd c_9 (nI_ge (b := 6) (by omega) (by omega))
      · refine g_aload_n h d_Arr_fill_12 rfl rfl ?_
        refine g_iload_n h d_Arr_fill_13 rfl rfl ?_
        refine g_lload_n h d_Arr_fill_14 rfl rfl ?_
        refine g_lastore h q 0 hq (if_pos rfl) ht (vp_in_nI (by omega) (by decide)) d_Arr_fill_15 ?_
        rw [bx_uu, nI_clamp (by omega)]
        refine g_iinc (v := nI (i + 1)) h d_Arr_fill_16 rfl (by rw [nI_succ]; rfl) rfl (by rw [hN]; decide) ?_
        refine g_goto (tgt := 6) h d_Arr_fill_19 (by decide) ?_
        refine ih (i + 1) _ (by omega) (fun j => ?_)
        unfold vp_updL
        by_cases z : j = i
        · rw [if_pos z, if_pos (by omega)]
        · rw [if_neg z, hg]
          by_cases y : j < i
          · rw [if_pos y, if_pos (by omega)]
          · rw [if_neg y, if_neg (by omega)]
  refine g_at (L' := [some (.ref (ad q)), some (.long v), none, none, none]) rfl rfl rfl ?_
  refine g_iconst (v := 0) h d_Arr_fill_0 (by decide) ?_
  refine g_istore_n h d_Arr_fill_1 rfl rfl (by rw [hN]; decide) ?_
  refine g_aload_n h d_Arr_fill_2 rfl rfl ?_
  refine g_alen h q 0 hq he ht (v := 6) rfl d_Arr_fill_3 ?_
  refine g_istore h d_Arr_fill_4 rfl (by rw [hN]; decide) ?_
  refine g_world (σ' := va_up σ q (.inl (cA, 6, .inr (.inl f)))) (fun k hk => ?_) ?_
  · unfold va_up
    by_cases z : k = q
    · rw [if_pos z, z, he]
    · rw [if_neg z]
  · exact loop 6 0 f (by omega) (fun j => by rw [if_neg (by omega)])
def wH (ad : Nat → Nat) (t : Nat → ClassId) (i k : Nat) : va_E := if k = 0 then .inr (2, [.ref (ad 1), .ref (ad 2), .int 0, .int 0, .int 0, .int 0, .int 0, .int 0, .long (-1000000000000)]) else if k = 1 then .inl (t 0, 6, .inr (.inl (fun j => if j < 6 then (-1000000000000) else 0))) else if k = 2 then .inl (t 1, 16, .inr (.inr (.inr (.inr (fun j => if j < i then some (ad (3 + 6 * j)) else none))))) else wCell (fun j => ad (3 + 6 * ((k - 3) / 6) + j)) t ((k - 3) % 6)
/-- the heap's 99 cells as they are at the end -/
def wHeap (ad : Nat → Nat) (t : Nat → ClassId) (k : Nat) : va_E := if k = 2 then .inl (t 1, 16, .inr (.inr (.inr (.inr (fun j => some (ad (3 + 6 * j))))))) else wH ad t 16 k
theorem wCell_ad {a b : Nat → Nat} {t : Nat → ClassId} {r : Nat} (h : ∀ j, j < 6 → a j = b j) (hr : r < 6) : wCell a t r = wCell b t r := by
  rcases (show r = 0 ∨ r = 1 ∨ r = 2 ∨ r = 3 ∨ r = 4 ∨ r = 5 by omega) with rfl | rfl | rfl | rfl | rfl | rfl
  · simp only [wCell]; rw [h 1 (by decide), h 4 (by decide)]
  · simp only [wCell]; rw [h 2 (by decide), h 3 (by decide)]
  · rfl
  · rfl
  · simp only [wCell]; rw [h 5 (by decide)]
  · rfl
theorem wH_ad {a b : Nat → Nat} {t : Nat → ClassId} {i k : Nat} (h : ∀ j, j < 3 + 6 * i → a j = b j) (hk : k < 3 + 6 * i) : wH a t i k = wH b t i k := by
  unfold wH
  by_cases z0 : k = 0
  · rw [if_pos z0, if_pos z0, h 1 (by omega), h 2 (by omega)]
  by_cases z1 : k = 1
  · rw [if_neg z0, if_neg z0, if_pos z1, if_pos z1]
  by_cases z2 : k = 2
  · rw [if_neg z0, if_neg z0, if_neg z1, if_neg z1, if_pos z2, if_pos z2]
    rw [show (fun j => if j < i then some (a (3 + 6 * j)) else none) = (fun j => if j < i then some (b (3 + 6 * j)) else none) from funext (fun j => by
      by_cases y : j < i
      · rw [if_pos y, if_pos y, h _ (by omega)]
      · rw [if_neg y, if_neg y])]
  rw [if_neg z0, if_neg z0, if_neg z1, if_neg z1, if_neg z2, if_neg z2]
  exact wCell_ad (fun j hj => h _ (by omega)) (Nat.mod_lt _ (by decide))
/-- one more Cell -/
theorem wH_next {ad : Nat → Nat} {t : Nat → ClassId} {i k : Nat} (hk : k < 3 + 6 * (i + 1)) : wH ad t (i + 1) k = if k = 2 then .inl (t 1, 16, .inr (.inr (.inr (.inr (va_up (fun j => if j < i then some (ad (3 + 6 * j)) else none) i (some (ad (3 + 6 * i)))))))) else if k < 3 + 6 * i then wH ad t i k else wCell (fun j => ad (3 + 6 * i + j)) t (k - (3 + 6 * i)) := by
  by_cases z2 : k = 2
  · rw [if_pos z2]
    subst z2
    unfold wH
    rw [if_neg (by decide), if_neg (by decide), if_pos rfl]
    rw [show (fun j => if j < i + 1 then some (ad (3 + 6 * j)) else none) = va_up (fun j => if j < i then some (ad (3 + 6 * j)) else none) i (some (ad (3 + 6 * i))) from funext (fun j => by
      unfold va_up
      by_cases y : j = i
      · rw [if_pos y, if_pos (by omega), y]
      · rw [if_neg y]
        show _ = if j < i then some (ad (3 + 6 * j)) else none
        by_cases x : j < i
        · rw [if_pos x, if_pos (by omega)]
        · rw [if_neg x, if_neg (by omega)])]
  rw [if_neg z2]
  by_cases z : k < 3 + 6 * i
  · rw [if_pos z]
    unfold wH
    rw [if_neg z2, if_neg z2]
  · rw [if_neg z]
    unfold wH
    rw [if_neg (by omega), if_neg (by omega), if_neg z2, show (k - 3) / 6 = i by omega, show (k - 3) % 6 = k - (3 + 6 * i) by omega]
