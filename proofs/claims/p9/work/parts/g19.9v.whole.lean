/-! THE CLAIM OUT OF ONE WALK OF THE LAW'S BODY. Your part is whole_start (and what it stands on); all else here is the same for every law, but numbers. -/
def R_law : String := "TriColourMachineLaw"
def lw_P (b : Addr) (xs : List Int32) (args : Array Value) (s : State) : Prop := args = #[.ref b] ∧ s.IntsAt b xs ∧ xs.length ≤ 3584 ∧ (Jvm.Cond.and given_1 narrow_1).before args s = true
def lw_Q (_ : Array Value) (s : State) (o : Outcome) (t : State) : Prop := o = .returned (some (.int 1)) ∧ Framed s o t [] 620839 7233588
def lw_Z (below : List Frame) (a : Array Value) (s : State) : State → Prop := fun t => ∃ o, t.status = .running ∧ Ended t below o ∧ lw_Q a s o t
/-- the law's own end, with 1 on the stack, nothing written that was there before, its room as the claim has it -/
theorem lw_ret {p : Program} {l : Launch} {e : Env} {s : State} {m : MethodId} {below : List Frame} {meth : Method} {c : Code} {b : Nat} (hx : p.tables.exec = Jvm.exec) (hb : c.code = code) (hr : meth.sig.returnType = ret) (hlocks : meth.locks = false) {pc : Nat} {H : Heap} {ls : Array Slot} (hdg : decode code pc = .ok (.ireturn, 1)) : W p l e room_1 s m #[Value.ref b] below meth c H [] 620839 7233588 (lw_Z below #[Value.ref b] s) (F0 m pc ls [.int 1]) := by
  intro T hT X
  obtain ⟨fs, hret, hrun, hended, hW, hframe⟩ := X.leave (v := some (.int 1)) (hlocks := hlocks) (fun h => by rw [hr] at h; cases h)
  have hmeth' : T.vm.method? m = some meth := X.method'
  refine ⟨T.setFrames fs, ?_, .returned (some (.int 1)), hrun, hended, rfl, ⟨_, rfl⟩, hW, hframe⟩
  jvm_step X.here [X.here.top, hx, hb, hdg, hmeth', hr, ret, narrow_b1]
  (try refine ⟨rfl, ?_⟩); (try refine ⟨rfl, ?_⟩)
  first | (intro acts; rw [hret _ acts rfl rfl rfl]) | rw [hret _ _ rfl rfl rfl]
  exact Steps.refl _
/-- what holds at the law's entry: the machine, the code, the tables' words (any of lw_tbl by 'hts w (by decide +kernel)'), the script of L ints xs at the cell b, what the Statement gives of the start (any of its parts by flat_of_before) -/
def lw_At (p : Program) (s : State) (m : MethodId) (meth : Method) (c : Code) (b L : Nat) (xs : Nat → Int32) : Prop :=
  p.tables.exec = Jvm.exec ∧ c.code = code ∧ meth.sig.returnType = ret ∧ c.maxLocals = 8 ∧ s.vm.findClass R_law = some m.cls ∧ (∀ w ∈ lw_tbl, w.before #[Value.ref b] s = true) ∧ va_X b L xs s s.heap ∧ b < s.heap.size ∧ meth.locks = false ∧ (Jvm.Cond.and given_1 narrow_1).before #[Value.ref b] s = true
/-- where the cells lie, in the law's order -/
def aL (a4 a12 : Nat → Nat) (q : Nat) : Nat → Nat := fun k => if k < 171 then a4 k else if k = 171 then q else a12 (k - 172)
def roL (k : Nat) : Nat := if k < 171 then k else if k = 171 then 189 else k - 1
set_option maxHeartbeats 4000000 in
set_option maxRecDepth 100000 in
theorem whole_start {p : Program} {e : Env} {s : State} {m : MethodId} {below : List Frame} {meth : Method} {c : Code} (l : Launch) (htr : l.stackTraces = false) {b L : Nat} {xs : Nat → Int32} (hL : L ≤ 3584) (C0 : lw_At p s m meth c b L xs) : W p l e room_1 s m #[Value.ref b] below meth c s.heap [] 0 0 (lw_Z below #[Value.ref b] s) (entryFrame m ([Value.ref b] : List Value).toArray 8) := by
  obtain ⟨hx, hb, hr, hml, hown, hts, hX, hbl, hlocks, hgv⟩ := id C0
  have hfl := flat_of_before _ hgv
  obtain ⟨D, t, hK, hao, hnl⟩ := law_known hts
  have hbA : ¬ (fun q : Nat => s.heap.size ≤ q) b := Nat.not_le.mpr hbl
  have hA0 : ∀ a : Nat, a < s.heap.size → ¬ (fun q : Nat => s.heap.size ≤ q) a := fun a h => Nat.not_le.mpr h
  have hz1 : zq Bundle.tN "UNASSIGNED_STACK" Bundle.steD (fun q : Nat => s.heap.size ≤ q) s s.heap := zq_of (hts _ (by decide +kernel)) (hts _ (by decide +kernel)) (hfl _ (by decide +kernel)) hA0
  have hz2 : zq Bundle.tN "SUPPRESSED_SENTINEL" Bundle.listD (fun q : Nat => s.heap.size ≤ q) s s.heap := zq_of (hts _ (by decide +kernel)) (hts _ (by decide +kernel)) (hfl _ (by decide +kernel)) hA0
  have hnc : ncs s := fun q hq => by
    simp only [ncL, List.mem_cons, List.not_mem_nil, or_false] at hq
    rcases hq with rfl | rfl | rfl | rfl
    · exact nc_of (n := 6) (hfl _ (by decide +kernel)) (hts _ (tb_tbl xin_IAE))
    · exact nc_of (n := 6) (hfl _ (by decide +kernel)) (hts _ (tb_tbl xin_IAE))
    · exact nc_of (n := 6) (hfl _ (by decide +kernel)) (hts _ (tb_tbl xin_IAE))
    · exact nc_of (n := 6) (hfl _ (by decide +kernel)) (hts _ (tb_tbl xin_ISE))
  obtain ⟨Γ, hΓ⟩ : ∃ Γ : GT, Γ = (p, l, e, room_1, s, m, #[Value.ref b], below, meth, c, lw_Z below #[Value.ref b] s, D, CL, fun q : Nat => s.heap.size ≤ q, 8) := ⟨_, rfl⟩
  have h : Cx Γ code "TriColourMachineLaw" room_1 TB CL (tyl t) NL := by
    subst hΓ
    exact ⟨hx, hb, hml, hown, rfl, fun w hw => hts w (tb_tbl hw), rfl, ⟨hK, hnl, hz1, hz2⟩, fun q h => h⟩
  have hN : gN Γ = 8 := by subst hΓ; rfl
  have hncΓ : ncs (gs Γ) := by subst hΓ; exact hnc
  have haoΓ : aos (gs Γ) := by subst hΓ; exact hao
  have htrΓ : Tr (gL Γ) := by subst hΓ; exact htr
  have hXΓ : va_X b L xs (gs Γ) (gs Γ).heap := by subst hΓ; exact hX
  have hblΓ : b < (gs Γ).heap.size := by subst hΓ; exact hbl
  have hbAΓ : ¬ gA Γ b := by subst hΓ; exact hbA
  have fin : ∀ (ad : Nat → Nat) (kc ks : Nat) (L : List (Option Value)) (σ : Nat → va_E), kc ≤ 620839 → ks ≤ 7233588 → G Γ kc ks 190 ad σ 739 L [.int 1] := by
    subst hΓ
    intro ad kc ks L σ hk hs H locs ls hP hD hS hl
    exact va_forget (fun q hq => hS.2.2 q hq) (W.widen hk hs (lw_ret hx hb hr hlocks d_law_739))
  have main : G Γ 0 0 0 (fun _ => 0) (fun _ => .inr (0, [])) 0 [some (.ref b), none, none, none, none, none, none, none] [] := by
    refine g_new (ci := 6) (fs := [.null, .null]) h i_TCM t_TCM t_TCM_ok cl_Law_8 ic_TCM ii_TCM rfl (by decide) ⟨by decide, by decide⟩ d_law_0 (fun q0 => ?_)
    refine g_dup h d_law_3 rfl ?_
    refine g_init (q := 0) (mc := 170) (ms := 863) h tb_good haoΓ (ctn_sub [0, 1, 2, 3] rfl (n_TCM_init (l := gL Γ) (D := gD Γ) rfl)) ⟨ml_Law_61, wi_TCM.1, wi_TCM.2.1, wi_TCM.2.2⟩ rfl nm_TCM_init rfl ⟨rfl, rfl, by decide, by decide, by decide, by decide⟩ rfl (Nat.le_of_ble_eq_true rfl) d_law_4 ?_
    intro a4 σ4 ea4 es4
    have e4 : a4 0 = q0 := ea4
    refine g_same (ad' := a4) (σ' := wc a4 t C00) (fun k hk => ⟨rfl, (es4 k (by omega)).symm⟩) ?_
    refine g_astore_n h d_law_7 rfl rfl (by rw [hN]; decide) ?_
    refine g_new (ci := 7) (fs := [.null, .null, .null, .null, .null, .null, .null, .null, .null, .null, .null, .null, .null, .null, .null, .null, .null, .int 0, .int 0, .int 0, .int 0, .int 0, .int 0, .int 0, .int 0, .int 0, .int 0, .long 0]) h i_Mod t_Mod t_Mod_ok cl_Law_62 ic_Mod ii_Mod rfl (by decide) ⟨by decide, by decide⟩ d_law_8 (fun q8 => ?_)
    refine g_dup h d_law_11 rfl ?_
    refine g_init (q := 171) (mc := 17) (ms := 652) h tb_good haoΓ (ctn_sub [4, 0] rfl (n_Mod_init (l := gL Γ) (D := gD Γ) (t := t) (u := uM t) rfl)) ⟨ml_Law_64, wi_Mod.1, wi_Mod.2.1, wi_Mod.2.2⟩ rfl nm_Mod_init rfl ⟨rfl, rfl, by decide, by decide, by decide, by decide⟩ rfl (Nat.le_of_ble_eq_true rfl) d_law_12 ?_
    intro a12 σ12 ea12 es12
    have e12 : a12 0 = q8 := ea12
    refine g_same (ad' := fun k => if k < 171 then a4 k else a12 (k - 171)) (σ' := fun k => if k < 171 then wc a4 t C00 k else mob a12 (uM t) (M0i 64 6) (k - 171)) (fun k hk => ⟨?_, ?_⟩) ?_
    · unfold adj va_up
      by_cases z : k < 171
      · rw [if_pos z]
        show _ = if k < 171 then _ else _
        rw [if_pos z]
        exact (if_neg (by omega)).symm
      · rw [if_neg z]
        show _ = if k < 171 then _ else _
        rw [if_neg z]
    · unfold sgj va_up
      by_cases z : k < 171
      · rw [if_pos z]
        show _ = if k < 171 then _ else _
        rw [if_pos z]
        exact (if_neg (by omega)).symm
      · rw [if_neg z]
        show _ = if k < 171 then _ else _
        rw [if_neg z]
        exact (es12 _ (by omega)).symm
    refine g_astore_n h d_law_15 rfl rfl (by rw [hN]; decide) ?_
    refine g_iconst (v := 1) h d_law_16 (by decide) ?_
    refine g_newl h 0 rfl ac_long (m := 1) (by decide) (by decide) (by decide) ⟨by decide, by decide⟩ d_law_17 (fun q17 => ?_)
    refine g_astore_n h d_law_19 rfl rfl (by rw [hN]; decide) ?_
    refine g_iconst (v := 0) h d_law_20 (by decide) ?_
    refine g_istore h d_law_21 rfl (by rw [hN]; decide) ?_
    refine g_arrq (q := 3) (n := 16) (f' := fun j => some (aL a4 a12 q17 (ix 4 j))) (by decide) rfl (fun j hj => ?_) ?_
    · show some (a4 (4 + 6 * j)) = some (aL a4 a12 q17 (4 + 6 * j))
      unfold aL
      rw [if_pos (by omega)]
    refine g_arrq (q := 101) (n := 68) (f' := fun j => some (aL a4 a12 q17 (ix 13 j))) (by decide) rfl (fun j hj => ?_) ?_
    · show some (a4 (103 + j)) = some (aL a4 a12 q17 (103 + j))
      unfold aL
      rw [if_pos (by omega)]
    have al : ∀ j, j < 171 → aL a4 a12 q17 j = a4 j := fun j hj => if_pos hj
    refine g_re (N' := 190) (ad' := aL a4 a12 q17) (σ' := wl (aL a4 a12 q17) t C00 (fun _ => 0) (M0i 64 6)) roL (fun k hk => ?_) (fun i j hi hj e => ?_) (fun k hk => ⟨?_, ?_⟩) ?_
    · show roL k < 190
      unfold roL
      split
      · omega
      · split <;> omega
    · unfold roL at e
      split at e <;> split at e <;> (try split at e) <;> (try split at e) <;> omega
    · unfold roL
      by_cases z : k < 171
      · rw [if_pos z, al k z]
        exact ((if_neg (show ¬ k = 171 + 18 by omega)).trans (if_pos z)).symm
      · by_cases y : k = 171
        · subst y
          rfl
        · rw [if_neg z, if_neg y]
          unfold aL
          rw [if_neg z, if_neg y]
          refine ((if_neg (show ¬ k - 1 = 171 + 18 by omega)).trans ((if_neg (show ¬ k - 1 < 171 by omega)).trans ?_)).symm
          rw [show k - 1 - 171 = k - 172 by omega]
    · unfold roL wl
      by_cases z : k < 171
      · rw [if_pos z, if_pos (show k < 172 by omega)]
        refine (if_pos z).trans ?_
        by_cases z3 : k = 3
        · subst z3
          rfl
        by_cases z101 : k = 101
        · subst z101
          rfl
        refine Eq.trans ?_ (if_neg z101).symm
        refine Eq.trans ?_ (if_neg z3).symm
        refine Eq.trans ?_ (if_neg (show ¬ k = 171 + 18 by omega)).symm
        refine Eq.trans ?_ (if_pos z).symm
        exact wc_ad al z z3 z101
      · by_cases y : k = 171
        · subst y
          rfl
        · rw [if_neg z, if_neg y, if_neg (show ¬ k < 172 by omega)]
          refine Eq.trans ?_ (if_neg (show ¬ k - 1 = 101 by omega)).symm
          refine Eq.trans ?_ (if_neg (show ¬ k - 1 = 3 by omega)).symm
          refine Eq.trans ?_ (if_neg (show ¬ k - 1 = 171 + 18 by omega)).symm
          refine Eq.trans ?_ (if_neg (show ¬ k - 1 < 171 by omega)).symm
          rw [show k - 1 - 171 = k - 172 by omega]
          exact mob_ad (fun j hj => by
            unfold arM aL
            rw [if_neg (by omega), if_neg (by omega), Nat.add_sub_cancel_left]) _
    refine g_at (L' := [some (.ref b), some (.ref (aL a4 a12 q17 (ix 0 0))), some (.ref (aL a4 a12 q17 172)), some (.ref (aL a4 a12 q17 171)), some (.int (nI 0)), none, none, none]) rfl ?_ rfl ?_
    · show [some (Value.ref b), some (Value.ref q0), some (Value.ref q8), some (Value.ref q17), some (Value.int 0), none, none, none] = [some (Value.ref b), some (Value.ref (a4 0)), some (Value.ref (a12 0)), some (Value.ref q17), some (Value.int 0), none, none, none]
      rw [e4, e12]
    exact law_loop h hN hncΓ htrΓ hXΓ hblΓ hbAΓ hL (fin _) 512 0 _ _ C00 (M0i 64 6) (fun _ => 0) RR_new (Nat.zero_le _) (by omega) (by decide) (by decide)
  rw [lg_entry_eq]
  have := main s.heap [] ((lg_sl [Value.ref b] ++ List.replicate (8 - (lg_sl [Value.ref b]).length) Slot.unset).toArray) (fun k q h => by simp [gl] at h) ⟨fun i j p q h => by simp [gl] at h, fun k q h => by simp [gl] at h⟩ (by subst hΓ; exact va_S.rf) (by rw [hN]; exact inL_has (As := [Value.ref b]) (n := 8) (Nat.le_of_ble_eq_true rfl))
  subst hΓ
  exact this
set_option maxHeartbeats 4000000 in
theorem lw_walk (l : Launch) (htr : l.stackTraces = false) (b : Addr) (xs : List Int32) : MetFree l x (headSpec (Jvm.Cond.code x code maxLocals ret :: tables_1) room_1) (lw_P b xs) (fun _ _ _ _ _ => True) lw_Q := by
  refine MetFree.of_bodyS (code := code) (maxLocals := maxLocals) (ret := ret) (by decide) ?_ ?_
  · intro args s m h hn
    obtain ⟨meth, c, h1, h2, h3, h4, h5, h6, -, -⟩ := Cond.code_spec hn (atoms_spec (ws := Jvm.Cond.code x code maxLocals ret :: tables_1) h _ List.mem_cons_self)
    exact ⟨meth, c, h1, h2, h3, h4, h5, h6⟩
  · intro p e s m args below meth c s₁ B hml0 hP _
    obtain ⟨rfl, hx, hbd, hgv⟩ := hP
    obtain ⟨scr, harrAt, hlist, hof, hsmall⟩ := hx
    obtain ⟨hcb, hkn, -, -⟩ := State.arrayAt?_spec harrAt
    have hown : s.vm.findClass R_law = some m.cls := findClass_of_methodNamed B.named
    have hts0 : ∀ c ∈ (Jvm.Cond.code x code maxLocals ret :: tables_1), c.before #[Value.ref b] s = true := atoms_spec (ws := Jvm.Cond.code x code maxLocals ret :: tables_1) B.pre
    have hts : ∀ w ∈ lw_tbl, w.before #[Value.ref b] s = true := k2_hts_sels lw_privs (fun w hw => hts0 w (List.mem_cons_of_mem _ hw)) lw_privs_ok
    have hml : c.maxLocals = 8 := B.maxLocals_eq (hts0 _ List.mem_cons_self)
    have X₀ : Stand p l e room_1 s m #[Value.ref b] below meth c s₁ [] 0 0 := Stand.of_body B
    have hh0 : s₁.heap = s.heap := by rw [B.state]; rfl
    have hsz : scr.slots.size = xs.length := by rw [← Array.length_toList, hlist, List.length_map]
    have hval : ∀ j : Nat, j < xs.length → scr.slots[j]? = some (.int (xs.getD j 0)) := fun j hj => by
      rw [← Array.getElem?_toList, hlist]
      simp [hj]
    have hbl : b < s.heap.size := (Array.getElem?_eq_some_iff.mp hcb).1
    have hX : va_X b xs.length (fun j => xs.getD j 0) s s.heap := ⟨scr, hcb, hof, hkn, hsz, hval⟩
    have K : W p l e room_1 s m #[Value.ref b] below meth c s₁.heap [] 0 0 (lw_Z below #[Value.ref b] s) (entryFrame m ([Value.ref b] : List Value).toArray 8) := by
      rw [hh0]
      exact whole_start l htr hbd ⟨B.exec, B.bytes, B.returns, hml, hown, hts, hX, hbl, B.notSynchronized, hgv⟩
    obtain ⟨t, a1, o, b1, b2, b3⟩ := K s₁ rfl X₀
    exact ⟨t, o, a1, b1, b2, b3⟩
theorem lw_pre_spec {args : Array Value} {s : State} (h : (Jvm.Cond.and given_1 narrow_1).before args s = true) (hr : rest_1_c.before args s = true) : ∃ (b : Addr) (xs : List Int32), lw_P b xs args s := by
  have hs := flat_of_before _ h
  have hq := flat_of_before _ hr
  have hc : (Cond.count 1).before args s = true := hs _ (by decide +kernel)
  have harr : (Cond.arrayOf (.arg 0) .int).before args s = true := hs _ (by decide +kernel)
  have hle : (Cond.le (.length (.arg 0)) (.int 3584)).before args s = true := hs _ (by decide +kernel)
  have hlen : (Cond.isInt (.length (.arg 0))).before args s = true := hq _ (by decide +kernel)
  have hall : (Cond.all (.arg 0) (.isInt (.elem (.arg 0) (.index 0)))).before args s = true := hq _ (by decide +kernel)
  obtain ⟨b, xs, hb, hx⟩ := State.ints_of_pre rfl harr hlen hall
  have hsm : xs.length < 2 ^ 31 := hx.choose_spec.2.2.2
  have hev : (Term.length (.arg 0)).eval args s none [] s = some (.int xs.length.toInt32) := hx.length_eval hb
  have hv := Cond.le_ints hev (show (Term.int 3584).eval args s none [] s = some (.int 3584) from rfl)
  have hd : xs.length.toInt32 ≤ 3584 := by
    simpa [Cond.before, Cond.holds, hv] using hle
  have hN : xs.length ≤ 3584 := (Int32.ofNat_le_ofNat hsm (by decide)).mp (show Int32.ofNat xs.length ≤ Int32.ofNat 3584 from hd)
  exact ⟨b, xs, Cond.one_arg hc (show args[0]? = some (.ref b) from hb), hx, hN, h⟩
theorem lw_comes (l : Launch) (htr : l.stackTraces = false) : Comes l x (Jvm.Cond.code x code maxLocals ret :: tables_1) room_1 (fun tb e args s => Calls_1 tb e args s ∧ rest_1 tb e args s ∧ Pre_1 tb e args s)
    (fun _ _ args s o t => lw_Q args s o t) := by
  intro p e ha hc hk s m args below hf hfit hheap happ hpre
  obtain ⟨b, xs, hP⟩ := lw_pre_spec hpre.2.2 hpre.2.1
  obtain ⟨k, o, h1, h2, h3, hQ⟩ := lw_walk l htr b xs p e ha hc hk s m args below hf ((Spec.applies_iff_loose hf).mp happ).1 hP trivial
  exact ⟨k, o, h1, h2, h3, hQ⟩
theorem lw_frame {s t : State} {o : Outcome} {args : Array Value} (h : Framed s o t [] 620839 7233588) :
    Framed s o t (fieldLocs frame_1_writes args s ++ arrayLocs frame_1_arrays args s ++ staticLocs frame_1_statics s) 620839 7233588 := h
theorem lw_limb (L : Cond) (hL : ∀ (args : Array Value) (s t : State), L.after args s (.returned (some (.int 1))) t = true) :
    ArmFor flags0 classFile x code maxLocals ret World_1 tables_1 room_1 Calls_1 rest_1 Pre_1
      (fun tb e a s o t => postC L tb e a s o t ∧ Framed s o t (fieldLocs frame_1_writes a s ++ arrayLocs frame_1_arrays a s ++ staticLocs frame_1_statics s) 620839 7233588) := by
  intro l hfl _ _ p e ha hc hk s m args below hf hfit hheap happ hpre
  obtain ⟨k, o, h1, h2, h3, rfl, hF⟩ := lw_comes l (by unfold Launch.stackTraces; rw [hfl]; decide) p e ha hc hk s m args below hf hfit hheap happ hpre
  exact ⟨k, _, h1, h2, h3, hL args s _, lw_frame hF⟩
theorem i_vc : Claimed_1_1 ∧ Claimed_1_2 := ⟨lw_limb limb_1_1 (fun args s t => by simp [limb_1_1, Cond.after, Cond.holds, Cond.value]), lw_limb limb_1_2 (fun args s t => Cond.after_iff.mpr (by
  first | (rw [show limb_1_2 = Cond.eq .result (.int 1) from rfl, Cond.eq_ints (x := 1) (y := 1) rfl rfl]; simp; done) | (simp [limb_1_2, Cond.value, Term.eval]; done)))⟩
