/-! the law's world: the class's 171 cells, the array of one long, the reference's 18 cells -/
theorem EX.sub {D : va_G} {cl : List vw_C} {tys tys' : List (ClassId × FieldType)} {nl : List (String × Nat × MethodName × String)} {A : Nat → Prop} {U : State} {H : Heap} (h : EX D cl tys nl A U H) (is : List Nat) (hs : is.filterMap (fun i => tys[i]?) = tys') : EX D cl tys' nl A U H := ⟨h.1.sub is hs, h.2⟩
section Sub
variable {l : Launch} {D : va_G} {cl : List vw_C} {tys tys' : List (ClassId × FieldType)} {nl : List (String × Nat × MethodName × String)} {N : Nat} {ad : Nat → Nat} {y : MethodName} {ws : List Cond} {rm : Room} {As : List Value} {σ τ : Nat → va_E} {Rr : Option Value → (Nat → va_E) → Prop}
theorem ct_sub (is : List Nat) (hs : is.filterMap (fun i => tys[i]?) = tys') (e : ∀ k, k < N → σ k = τ k) (h : Ct l D cl tys' nl N ad y ws rm As τ Rr) : Ct l D cl tys nl N ad y ws rm As σ Rr := by
  intro sz p e' h1 h2 h3 s m args below h4 h5 hP hK
  rw [show gl N ad σ = gl N ad τ from gl_congr (fun j hj => ⟨rfl, e j hj⟩)]
  unfold cPc at hP
  rw [show gl N ad σ = gl N ad τ from gl_congr (fun j hj => ⟨rfl, e j hj⟩)] at hP
  obtain ⟨q0, q1, q2, q3, q4⟩ := hP
  exact h sz p e' h1 h2 h3 s m args below h4 h5 ⟨q0, q1, q2, q3.sub is hs, q4⟩ hK
theorem ctk_sub (is : List Nat) (hs : is.filterMap (fun i => tys[i]?) = tys') (e : ∀ k, k < N → σ k = τ k) (h : Ctk l D cl tys' nl N ad y ws rm As τ Rr) : Ctk l D cl tys nl N ad y ws rm As σ Rr := by
  intro sz p e' h1 h2 h3 s m args below h4 h5 hP hK
  rw [show gl N ad σ = gl N ad τ from gl_congr (fun j hj => ⟨rfl, e j hj⟩)]
  unfold cPk at hP
  rw [show gl N ad σ = gl N ad τ from gl_congr (fun j hj => ⟨rfl, e j hj⟩)] at hP
  obtain ⟨q0, ⟨q1, q2, q3, q4⟩, q5⟩ := hP
  exact h sz p e' h1 h2 h3 s m args below h4 h5 ⟨q0, ⟨q1, q2, q3.sub is hs, q4⟩, q5⟩ hK
end Sub
abbrev tyl (t : Nat → ClassId) : List (ClassId × FieldType) := tyc t ++ [(t 4, .int)]
def uM (t : Nat → ClassId) : Nat → ClassId := fun k => if k = 0 then t 4 else t 0
def arM (ad : Nat → Nat) : Nat → Nat := fun j => ad (172 + j)
/-- the reference's cells first -/
def roR (j : Nat) : Nat := if j < 18 then 172 + j else j - 18
def roB (k : Nat) : Nat := if k < 172 then k + 18 else k - 172
def arR (ad : Nat → Nat) : Nat → Nat := fun j => ad (roR j)
def wl (ad : Nat → Nat) (t : Nat → ClassId) (C : CS) (f : Nat → Int64) (M : CS) : Nat → va_E := fun k => if k < 172 then wo ad t C f k else mob (arM ad) (uM t) M (k - 172)
theorem mob_ad {ad ad' : Nat → Nat} {u : Nat → ClassId} {M : CS} (h : ∀ j, j < 18 → ad j = ad' j) (k : Nat) : mob ad u M k = mob ad' u M k := by
  rcases k with _ | _ | _ | _ | _ | _ | _ | _ | _ | _ | _ | _ | _ | _ | _ | _ | _ | _ | k <;> first | rfl | (simp only [mob]; rw [h 1 (by decide), h 2 (by decide), h 3 (by decide), h 4 (by decide), h 5 (by decide), h 6 (by decide), h 7 (by decide), h 8 (by decide), h 9 (by decide), h 10 (by decide), h 11 (by decide), h 12 (by decide), h 13 (by decide), h 14 (by decide), h 15 (by decide), h 16 (by decide), h 17 (by decide)])
theorem arR_lt {ad : Nat → Nat} {j : Nat} (h : j < 18) : arR ad j = arM ad j := by unfold arR roR arM; rw [if_pos h]
theorem roR_lt {j : Nat} (h : j < 190) : roR j < 190 := by unfold roR; split <;> omega
theorem roB_lt {j : Nat} (h : j < 190) : roB j < 190 := by unfold roB; split <;> omega
theorem roR_inj (i j : Nat) (hi : i < 190) (hj : j < 190) (h : roR i = roR j) : i = j := by unfold roR at h; split at h <;> split at h <;> omega
theorem roB_inj (i j : Nat) (hi : i < 190) (hj : j < 190) (h : roB i = roB j) : i = j := by unfold roB at h; split at h <;> split at h <;> omega
theorem roRB {k : Nat} (h : k < 190) : roR (roB k) = k := by unfold roR roB; split <;> split <;> omega
section LawCalls
variable {Γ : GT} {cc : ByteArray} {own : String} {rm : Room} {kc ks pc : Nat} {ad : Nat → Nat} {t : Nat → ClassId} {C C2 M M2 : CS} {f f2 : Nat → Int64} {L : List (Option Value)} {st rest : List Value}
variable {y : MethodName} {bytes : ByteArray} {maxL n index : Nat} {ret : Option FieldType} {hh : List (Nat × Nat × Nat × Nat)} {rmY : Room} {As : List Value} {v0 : Option Value} {r : Int32}
theorem wl_171 {σ2 : Nat → va_E} (e : ∀ k, k < 171 → σ2 k = wc ad t C2 k) : ∀ k, k < 190 → mrg 171 σ2 (wl ad t C f M) k = wl ad t C2 f M k := fun k hk => by
  unfold mrg wl wo mrg
  by_cases z : k < 171
  · rw [if_pos z, if_pos (by omega), if_pos z, e k z]
  · by_cases z2 : k < 172
    · rw [if_neg z, if_pos z2, if_pos z2, if_neg z, if_neg z]
    · rw [if_neg z, if_neg z2, if_neg z2]
theorem wl_172 : ∀ k, k < 190 → mrg 172 (wo ad t C2 f2) (wl ad t C f M) k = wl ad t C2 f2 M k := fun k hk => by
  unfold mrg wl
  by_cases z : k < 172
  · rw [if_pos z, if_pos z]
  · rw [if_neg z, if_neg z, if_neg z]
/-- a wrapper of the law's, of the class's world -/
theorem g_wrapK (h : Cx Γ cc own rm TB CL (tyl t) NL) (hnc : ncs (gs Γ)) (hM : Cw (gL Γ) (gD Γ) t ad y bytes maxL hh As C r C2)
    (hw : Cond.methodLink own index y ∈ TB ∧ Cond.static y ∈ TB ∧ Cond.initialized y.cls ∈ TB ∧ Cond.codeWith y bytes maxL (some .int) hh ∈ TB) (hd0 : cNm y y.cls n) (hn : As.length = n) (hroom : cRk rmW rm maxL kc ks) (hst : st = As.reverse ++ rest) (hrest : (rest.map fun v => v.category).sum ≤ 8) (hd : decode cc pc = .ok (.invokestatic index, 3))
    (k : G Γ (kc + 1) (ks + 6) 190 ad (wl ad t C2 f M) (pc + 3) L (.int r :: rest)) : G Γ kc ks 190 ad (wl ad t C f M) pc L st := by
  refine g_callK h tb_good (N1 := 171) (by decide) hnc (ctk_sub [0, 1, 2, 3] rfl (fun k hk => ?_) hM) hw hd0 hn hroom hst hrest hd ?_
  · unfold wl wo mrg
    rw [if_pos (by omega), if_pos hk]
  · rintro v σ2 ⟨rfl, rfl⟩
    exact g_world (wl_171 (fun _ _ => rfl)) k
/-- a wrapper of the law's that writes its answer into the array -/
theorem g_wrapO (h : Cx Γ cc own rm TB CL (tyl t) NL) (hnc : ncs (gs Γ)) (hM : Cwo (gL Γ) (gD Γ) t ad y bytes maxL hh As C f r C2 f2)
    (hw : Cond.methodLink own index y ∈ TB ∧ Cond.static y ∈ TB ∧ Cond.initialized y.cls ∈ TB ∧ Cond.codeWith y bytes maxL (some .int) hh ∈ TB) (hd0 : cNm y y.cls n) (hn : As.length = n) (hroom : cRk rmW rm maxL kc ks) (hst : st = As.reverse ++ rest) (hrest : (rest.map fun v => v.category).sum ≤ 8) (hd : decode cc pc = .ok (.invokestatic index, 3))
    (k : G Γ (kc + 1) (ks + 6) 190 ad (wl ad t C2 f2 M) (pc + 3) L (.int r :: rest)) : G Γ kc ks 190 ad (wl ad t C f M) pc L st := by
  refine g_callK h tb_good (N1 := 172) (by decide) hnc (ctk_sub [0, 1, 2, 3] rfl (fun k hk => ?_) hM) hw hd0 hn hroom hst hrest hd ?_
  · unfold wl
    rw [if_pos hk]
  · rintro v σ2 ⟨rfl, rfl⟩
    exact g_world wl_172 k
/-- a method of the class's, called by the law itself -/
theorem g_clsV (h : Cx Γ cc own rm TB CL (tyl t) NL) (hM : Cd (gL Γ) (gD Γ) t ad y bytes maxL ret rmY (.ref (ad (ix 0 0)) :: As) C v0 C2)
    (hw : ∀ w ∈ cwsV own index "TriColourMachine" y bytes maxL ret, w ∈ TB) (hd0 : cNm y "TriColourMachine" n) (hn : As.length = n) (hroom : cRm rmY rm maxL kc ks) (hst : st = As.reverse ++ .ref (ad (ix 0 0)) :: rest) (hrest : (rest.map fun v => v.category).sum ≤ 8) (hd : decode cc pc = .ok (.invokevirtual index, 3))
    (k : G Γ kc ks 190 ad (wl ad t C2 f M) (pc + 3) L (v0.toList ++ rest)) : G Γ kc ks 190 ad (wl ad t C f M) pc L st := by
  have e : ∀ k, k < 171 → wl ad t C f M k = wc ad t C k := fun k hk => by
    unfold wl wo mrg
    rw [if_pos (by omega), if_pos hk]
  refine g_callVP h tb_good (N1 := 171) (by decide) (ct_sub [0, 1, 2, 3] rfl e hM) (ix_lt 0 (by decide) _ (by decide)) ((e _ (ix_lt 0 (by decide) _ (by decide))).trans (wc_at (by decide) (by decide))) rfl hw hd0 hn hroom hst hrest hd ?_
  rintro v σ2 ⟨rfl, rfl⟩
  exact g_world (wl_171 (fun _ _ => rfl)) k
/-- a method of the reference's -/
theorem g_refV (h : Cx Γ cc own rm TB CL (tyl t) NL) (hM : Cm (gL Γ) (gD Γ) (uM t) (arR ad) y bytes maxL ret rmY (.ref (arR ad 0) :: As) M v0 M2)
    (hw : ∀ w ∈ cwsV own index "TriColourMachineModel" y bytes maxL ret, w ∈ TB) (hd0 : cNm y "TriColourMachineModel" n) (hn : As.length = n) (hroom : cRm rmY rm maxL kc ks) (hst : st = As.reverse ++ .ref (ad 172) :: rest) (hrest : (rest.map fun v => v.category).sum ≤ 8) (hd : decode cc pc = .ok (.invokevirtual index, 3))
    (k : G Γ kc ks 190 ad (wl ad t C f M2) (pc + 3) L (v0.toList ++ rest)) : G Γ kc ks 190 ad (wl ad t C f M) pc L st := by
  refine g_re (N' := 190) (ad' := arR ad) (σ' := fun j => wl ad t C f M (roR j)) roR (fun _ => roR_lt) roR_inj (fun _ _ => ⟨rfl, rfl⟩) ?_
  have e : ∀ k, k < 18 → wl ad t C f M (roR k) = mob (arR ad) (uM t) M k := fun k hk => by
    unfold wl roR
    rw [if_pos hk, if_neg (by omega), Nat.add_sub_cancel_left]
    exact (mob_ad (fun j hj => arR_lt hj) k).symm
  refine g_callVP h tb_good (N1 := 18) (q := 0) (by decide) (ct_sub [4, 0] rfl e hM) (by decide) ((e 0 (by decide)).trans rfl) rfl hw hd0 hn hroom hst hrest hd ?_
  rintro v σ2 ⟨rfl, rfl⟩
  refine g_re (N' := 190) (ad' := ad) (σ' := wl ad t C f M2) roB (fun _ => roB_lt) roB_inj (fun j hj => ⟨?_, ?_⟩) k
  · unfold arR
    rw [roRB hj]
  · unfold mrg
    by_cases z : roB j < 18
    · rw [if_pos z]
      have e1 : ¬ j < 172 := by intro q; unfold roB at z; rw [if_pos q] at z; omega
      have e2 : roB j = j - 172 := by unfold roB; rw [if_neg e1]
      unfold wl
      rw [if_neg e1, e2]
      exact (mob_ad (fun j hj => arR_lt hj) _).symm
    · rw [if_neg z]
      show _ = wl ad t C f M (roR (roB j))
      rw [roRB hj]
      have e1 : j < 172 := by
        apply Decidable.byContradiction
        intro q
        apply z
        unfold roB
        rw [if_neg q]
        omega
      unfold wl
      rw [if_pos e1, if_pos e1]
end LawCalls
