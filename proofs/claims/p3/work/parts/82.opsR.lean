/-! the INSTRUCTIONS on both sides -/
def Ctx (C M : CS) (e n f p : Nat) (a : Nat → Nat) : Prop := HH C M ∧ Stk C M (e + 1) a ∧ NB C ∧ Low C (e + 1) a ∧ a e = n ∧ f < 4 ∧ p ≤ 15 ∧ C.1 4 n = nI f ∧ C.1 5 n = nI p ∧ M.1 22 0 = 0
theorem ctx_top {C M : CS} {e n f p : Nat} {a : Nat → Nat} (c : Ctx C M e n f p a) : n < 16 ∧ C.1 0 n = 2 ∧ C.1 6 n = 2 ∧ live C n ∧ (∀ j, j < 4 → lv C (C.2.1 3 n j)) ∧ (∀ j, j < 4 → M.2.1 3 0 (n * 4 + j) = C.2.1 3 n j) ∧ (C.1 13 0 = 1 → ¬ C.1 1 n = 2) ∧ (∀ i, i < e → a i ≠ n) := by
  obtain ⟨h, s, nb, low, hn, hf, hp, h4, h5, h22⟩ := c
  obtain ⟨t1, -, -, t4⟩ := s.2.2.2.1 e (by omega)
  rw [hn] at t1 t4
  obtain ⟨k, st⟩ := cactive_iff.1 t4
  refine ⟨t1, k, st, h.2.2.2.1.1 n t1 (.inr ⟨n, t1, t4, .inl rfl⟩), fun j hj m hm w => h.2.2.2.1.1 m hm (.inr ⟨n, t1, t4, .inr ⟨j, hj, w⟩⟩), fun j hj => ((h.2.2.2.2.1 n t1).2.2.2.1 k j hj).symm, fun w => nb w n t1 t4, fun i hi w => ?_⟩
  have := s.2.2.2.2.1 i e (by omega) (by omega) (w.trans hn.symm)
  omega
theorem beg_ctx {C M : CS} {e n f p : Nat} {a : Nat → Nat} (c : Ctx C M e n f p a) : Ctx (cbeg C n) (sI M 18 0 (M.1 18 0 + 1)) e n f p a ∧ (cbeg C n).1 21 0 = nI (p + 1) ∧ ∀ f, f ≠ 20 → f ≠ 21 → (cbeg C n).1 f = C.1 f := by
  obtain ⟨h, s, nb, low, hn, hf, hp, h4, h5, h22⟩ := c
  have e20 : C.1 20 0 + 1 = M.1 18 0 + 1 := by rw [h.2.2.2.2.2.1.2.2.2.2.2.2.2]
  have fr : ∀ f, f ≠ 20 → f ≠ 21 → (cbeg C n).1 f = C.1 f := fun f f20 f21 => by unfold cbeg; rw [sI_f f21, sI_f f20]
  have hB : HH (cbeg C n) (sI M 18 0 (M.1 18 0 + 1)) := by
    have h1 := HH_cnt (f := 20) (g := 18) (v := M.1 18 0 + 1) (.inr (.inr ⟨rfl, rfl⟩)) h
    rw [← e20] at h1
    have := HH_C (f := 21) (n := 0) (v := C.1 5 n + 1) (by omega) (okC_I h1.1 (by decide) (by decide) (by decide) (by decide) (by decide) (by decide) (by decide) (by decide)) h1
    rw [e20] at this
    unfold cbeg
    rw [e20]
    exact this
  refine ⟨⟨hB, Stk_of (fr 0 (by decide) (by decide)) (fr 6 (by decide) (by decide)) (fr 19 (by decide) (by decide)) rfl (sI_f (by decide)) (sI_f (by decide)) s, NB_fn (fr 0 (by decide) (by decide)) (fr 1 (by decide) (by decide)) (fr 6 (by decide) (by decide)) (fr 13 (by decide) (by decide)) nb, Low_fn (fun i _ => by rw [fr 4 (by decide) (by decide)]) (fun i _ => by rw [fr 5 (by decide) (by decide)]) (fun i _ => by rw [fr 8 (by decide) (by decide)]) (fr 10 (by decide) (by decide)) low, hn, hf, hp, by rw [fr 4 (by decide) (by decide)]; exact h4, by rw [fr 5 (by decide) (by decide)]; exact h5, by rw [sI_e (by decide)]; exact h22⟩, ?_, fr⟩
  unfold cbeg
  rw [sI_self, h5, nI_1]
theorem op_reg {B M : CS} {e n f p i : Nat} {a : Nat → Nat} {v : Int64} (c : Ctx B M e n f p a) (h21 : B.1 21 0 = nI (p + 1)) (hi : i < 4) (hv : okV v) (l : lv B v) : KK 0 (sI (sJ B 3 n i v) 5 n ((sJ B 3 n i v).1 21 0)) (mT (sJ M 3 0 (n * 4 + i) v) n) := by
  obtain ⟨t1, t2, t3, t4, t5, t6, t7, t8⟩ := ctx_top c
  obtain ⟨h, s, nb, low, hn, hf, hp, h4, h5, h22⟩ := c
  have := plainT (tr := 0) (p := p) (HH_reg h t1 hi hv l t7) (Stk_of (C := B) (M := M) rfl rfl rfl rfl rfl rfl s) (NB_fn (C := B) rfl rfl rfl rfl nb) (Low_fn (C := B) (fun _ _ => rfl) (fun _ _ => rfl) (fun _ _ => rfl) rfl low) hn (.inl ⟨rfl, h22⟩) h5 h21 hp
  rw [if_pos rfl] at this
  exact this
theorem op_glob {B M : CS} {e n f p i : Nat} {a : Nat → Nat} {v : Int64} (c : Ctx B M e n f p a) (h21 : B.1 21 0 = nI (p + 1)) (hi : i < 6) (hv : okV v) (l : lv B v) : KK 0 (sI (sJ B 0 0 i v) 5 n ((sJ B 0 0 i v).1 21 0)) (mT (sJ M 0 0 i v) n) := by
  obtain ⟨h, s, nb, low, hn, hf, hp, h4, h5, h22⟩ := c
  have := plainT (tr := 0) (p := p) (HH_glob h hi hv l) (Stk_of (C := B) (M := M) rfl rfl rfl rfl rfl rfl s) (NB_fn (C := B) rfl rfl rfl rfl nb) (Low_fn (C := B) (fun _ _ => rfl) (fun _ _ => rfl) (fun _ _ => rfl) rfl low) hn (.inl ⟨rfl, h22⟩) h5 h21 hp
  rw [if_pos rfl] at this
  exact this
/-- trouble, and nothing else -/
theorem op_bad {B B2 M : CS} {e n f p : Nat} {a : Nat → Nat} {tr t : Int32} (c : Ctx B M e n f p a) (hB : HH B2 M) (i0 : B2.1 = B.1) (i2 : B2.2.2 = B.2.2) (ht : trR tr t) (h0 : ¬ tr = 0) : KK tr B2 (sI M 22 0 t) := by
  obtain ⟨h, s, nb, low, hn, hf, hp, h4, h5, h22⟩ := c
  exact ⟨e + 1, a, HH_M (by omega) (okM_keep (by decide) h.2.1) hB, Stk_of (by rw [i0]) (by rw [i0]) (by rw [i0]) i2 (sI_f (by decide)) (sI_f (by decide)) s, NB_fn (by rw [i0]) (by rw [i0]) (by rw [i0]) (by rw [i0]) nb, Low_fn (fun _ _ => by rw [i0]) (fun _ _ => by rw [i0]) (fun _ _ => by rw [i0]) (by rw [i0]) low, by rw [sI_self]; exact ht, fun w => (h0 w).elim⟩
theorem mT_bad {M : CS} {n : Nat} {t : Int32} (h : ¬ t = 0) : mT (sI M 22 0 t) n = sI M 22 0 t := by unfold mT; rw [sI_self, if_neg h]
theorem op_new {B M : CS} {e n f p i q : Nat} {a : Nat → Nat} {k g g' : Int32} (c : Ctx B M e n f p a) (h21 : B.1 21 0 = nI (p + 1)) (hi : i < 4) (hk : k = 1 ∨ (k = 2 ∧ q < 4 ∧ g = nI q ∧ g' = nI q)) : KK (ckept (ccreate B k g) n i).1 (if (ckept (ccreate B k g) n i).1 = 0 then sI (ckept (ccreate B k g) n i).2 5 n ((ckept (ccreate B k g) n i).2.1 21 0) else (ckept (ccreate B k g) n i).2) (mT (mnew (mcreate M k g') (n * 4 + i)) n) := by
  obtain ⟨t1, t2, t3, t4, t5, t6, t7, t8⟩ := ctx_top c
  obtain ⟨h, s, nb, low, hn, hf, hp, h4, h5, h22⟩ := c
  obtain ⟨w1, w2, w3, w4, w5⟩ := create_all h s nb hk
  unfold ckept mnew
  simp only
  generalize ccreate B k g = r at *
  generalize mcreate M k g' = r' at *
  obtain ⟨x1, x2, x3, x4⟩ := w5
  have e5 : r.2.1 5 n = nI p := by rw [← hn, (x1 e (by omega)).2.1, hn]; exact h5
  have e21 : r.2.1 21 0 = nI (p + 1) := by rw [x3]; exact h21
  have low' : Low r.2 (e + 1) a := Low_keep ⟨x1, x2, x3, x4⟩ low
  rcases w1 with ⟨y1, y2⟩ | ⟨m, hm, y1, y2, y3, y4⟩
  · rw [y1, y2]
    simp only
    have : ckeep r.2 n i 3 = r.2 := by unfold ckeep; rw [if_neg (by decide)]
    rw [this]
    exact plainT (tr := 3) (p := p) (HH_M (by omega) (okM_keep (by decide) w2.2.1) w2) (Stk_of (C := r.2) rfl rfl rfl rfl (sI_f (by decide)) (sI_f (by decide)) w3) w4 low' hn (.inr (.inr (.inr ⟨rfl, sI_self⟩))) e5 e21 hp
  · rw [y1, y2]
    simp only
    have : ckeep r.2 n i 0 = sJ r.2 3 n i (oV m) := by unfold ckeep; rw [if_pos rfl, y3]
    rw [this, oV_nI hm]
    have an : cactive r.2 n = true := by have := (w3.2.2.2.1 e (by omega)).2.2.2; rw [hn] at this; exact this
    exact plainT (tr := 0) (p := p) (HH_reg w2 t1 hi (.inr ⟨m, hm, rfl⟩) (fun m' hm' z => by rw [← (oV_inj hm hm').1 z]; exact y4) (fun z => w4 z n t1 an)) (Stk_of (C := r.2) (M := r'.2) rfl rfl rfl rfl rfl rfl w3) (NB_fn (C := r.2) rfl rfl rfl rfl w4) (Low_fn (C := r.2) (fun _ _ => rfl) (fun _ _ => rfl) (fun _ _ => rfl) rfl low') hn (.inl ⟨rfl, by show r'.2.1 22 0 = 0; rw [x4]; exact h22⟩) e5 e21 hp
/-- a value found, or trouble -/
theorem op_found {B M : CS} {e n f p i : Nat} {a : Nat → Nat} {r : Int32 × CS} {r' : Int64 × CS} (c : Ctx B M e n f p a) (h21 : B.1 21 0 = nI (p + 1)) (hi : i < 4) (hr : (∃ v, okV v ∧ lv B v ∧ r = (0, sJ B 4 0 0 v) ∧ r' = (v, M)) ∨ (∃ tr t v w, ¬ tr = 0 ∧ ¬ t = 0 ∧ trR tr t ∧ okV v ∧ (r = (tr, sJ B 4 0 0 v) ∨ r = (tr, B)) ∧ r' = (w, sI M 22 0 t))) : KK (ckept r n i).1 (if (ckept r n i).1 = 0 then sI (ckept r n i).2 5 n ((ckept r n i).2.1 21 0) else (ckept r n i).2) (mT (mkeep r' (n * 4 + i)) n) := by
  have c' := c
  obtain ⟨t1, t2, t3, t4, t5, t6, t7, t8⟩ := ctx_top c
  obtain ⟨h, s, nb, low, hn, hf, hp, h4, h5, h22⟩ := c
  rcases hr with ⟨v, v1, v2, rfl, rfl⟩ | ⟨tr, t, v, w, q0, q1, q2, q3, q4, rfl⟩
  · have e1 : ckept (0, sJ B 4 0 0 v) n i = (0, sJ (sJ B 4 0 0 v) 3 n i v) := by unfold ckept ckeep; simp only [if_true]; rw [sJ_2, if_pos ⟨rfl, rfl, rfl⟩]
    have e2 : mkeep (v, M) (n * 4 + i) = sJ M 3 0 (n * 4 + i) v := by unfold mkeep; simp only; rw [if_pos h22]
    rw [e1, e2]
    simp only [if_true]
    have h' : HH (sJ B 4 0 0 v) M := HH_CJ (.inl rfl) v1 h
    have c2 : Ctx (sJ B 4 0 0 v) M e n f p a := ⟨h', Stk_of (C := B) (M := M) rfl rfl rfl rfl rfl rfl s, NB_fn (C := B) rfl rfl rfl rfl nb, Low_fn (C := B) (fun _ _ => rfl) (fun _ _ => rfl) (fun _ _ => rfl) rfl low, hn, hf, hp, h4, h5, h22⟩
    exact op_reg c2 h21 hi v1 (fun m hm z => by rw [live_fn (C' := sJ B 4 0 0 v) (C := B) rfl rfl rfl rfl]; exact v2 m hm z)
  · have e2 : mkeep (w, sI M 22 0 t) (n * 4 + i) = sI M 22 0 t := by unfold mkeep; simp only; rw [sI_self, if_neg q1]
    rw [e2, mT_bad q1]
    rcases q4 with rfl | rfl
    · have e1 : ckept (tr, sJ B 4 0 0 v) n i = (tr, sJ B 4 0 0 v) := by unfold ckept ckeep; simp only; rw [if_neg q0]
      rw [e1]
      simp only
      rw [if_neg q0]
      exact op_bad c' (HH_CJ (.inl rfl) q3 h) rfl rfl q2 q0
    · have e1 : ckept (tr, B) n i = (tr, B) := by unfold ckept ckeep; simp only; rw [if_neg q0]
      rw [e1]
      simp only
      rw [if_neg q0]
      exact op_bad c' h rfl rfl q2 q0
theorem op_tab {B C2 M M2 : CS} {e n f p : Nat} {a : Nat → Nat} {tr : Int32} (c : Ctx B M e n f p a) (h21 : B.1 21 0 = nI (p + 1)) (h2 : HH C2 M2) (k : tkeep C2 B M2 M) (ht : trR tr (M2.1 22 0)) : KK tr (if tr = 0 then sI C2 5 n (C2.1 21 0) else C2) (mT M2 n) := by
  obtain ⟨h, s, nb, low, hn, hf, hp, h4, h5, h22⟩ := c
  exact plainT (p := p) h2 (Stk_keep k s) (NB_keep k nb) (Low_tkeep k low) hn ht (by rw [k.1 5 (by decide) (by decide) (by decide)]; exact h5) (by rw [k.1 21 (by decide) (by decide) (by decide)]; exact h21) hp
/-- a jump: the next place is set -/
theorem op_jump {B M : CS} {e n f p q : Nat} {a : Nat → Nat} (c : Ctx B M e n f p a) (hq : B.1 21 0 = nI q) (hq2 : q ≤ 16) : KK 0 (sI B 5 n (B.1 21 0)) (sI M 9 n (nI q)) := by
  obtain ⟨h, s, nb, low, hn, hf, hp, h4, h5, h22⟩ := c
  have := plain (tr := 0) h s nb low hn (.inl ⟨rfl, h22⟩) hq hq2
  rw [if_pos rfl, if_pos h22] at this
  exact this
theorem ctx_21 {B M : CS} {e n f p : Nat} {a : Nat → Nat} {v : Int32} (c : Ctx B M e n f p a) : Ctx (sI B 21 0 v) M e n f p a := by
  obtain ⟨h, s, nb, low, hn, hf, hp, h4, h5, h22⟩ := c
  exact ⟨HH_C (by omega) (okC_I h.1 (by decide) (by decide) (by decide) (by decide) (by decide) (by decide) (by decide) (by decide)) h, Stk_of (sI_f (by decide)) (sI_f (by decide)) (sI_f (by decide)) rfl (Eq.refl (M.1 12)) (Eq.refl (M.1 13)) s, NB_fn (sI_f (by decide)) (sI_f (by decide)) (sI_f (by decide)) (sI_f (by decide)) nb, Low_fn (fun _ _ => by rw [sI_e (by decide)]) (fun _ _ => by rw [sI_e (by decide)]) (fun _ _ => by rw [sI_e (by decide)]) (sI_f (by decide)) low, hn, hf, hp, by rw [sI_e (by decide)]; exact h4, by rw [sI_e (by decide)]; exact h5, h22⟩
theorem op_enter {B M : CS} {e n f p i : Nat} {a : Nat → Nat} {y z : Int64} (c : Ctx B M e n f p a) (hi : nI i = nI (fmod (B.1 10 (f * 17 + p)) 4)) (i4 : i < 4) (hy : okV y) (ly : lv B y) (hz : okV z) (lz : lv B z) : KK (center (sI (sI B 21 0 (B.1 5 n)) 8 n (nI i)) y z).1 (if (center (sI (sI B 21 0 (B.1 5 n)) 8 n (nI i)) y z).1 = 0 then sI (center (sI (sI B 21 0 (B.1 5 n)) 8 n (nI i)) y z).2 5 n ((center (sI (sI B 21 0 (B.1 5 n)) 8 n (nI i)) y z).2.1 21 0) else (center (sI (sI B 21 0 (B.1 5 n)) 8 n (nI i)) y z).2) (menter M y z) := by
  obtain ⟨t1, t2, t3, t4, t5, t6, t7, t8⟩ := ctx_top c
  obtain ⟨h, s, nb, low, hn, hf, hp, h4, h5, h22⟩ := ctx_21 (v := B.1 5 n) c
  have b5 : B.1 5 n = nI p := c.2.2.2.2.2.2.2.2.1
  have fr : ∀ f, f ≠ 8 → f ≠ 21 → (sI (sI B 21 0 (B.1 5 n)) 8 n (nI i)).1 f = B.1 f := fun f f8 f21 => by rw [sI_f f8, sI_f f21]
  have hB : HH (sI (sI B 21 0 (B.1 5 n)) 8 n (nI i)) M := HH_C (by omega) (okC_8 h.1 i4) h
  have sB : Stk (sI (sI B 21 0 (B.1 5 n)) 8 n (nI i)) M (e + 1) a := Stk_of (sI_f (by decide)) (sI_f (by decide)) (sI_f (by decide)) rfl (Eq.refl (M.1 12)) (Eq.refl (M.1 13)) s
  have nB : NB (sI (sI B 21 0 (B.1 5 n)) 8 n (nI i)) := NB_fn (sI_f (by decide)) (sI_f (by decide)) (sI_f (by decide)) (sI_f (by decide)) nb
  have lB : Low (sI (sI B 21 0 (B.1 5 n)) 8 n (nI i)) (e + 1) a := Low_fn (fun _ _ => by rw [sI_e (by decide)]) (fun _ _ => by rw [sI_e (by decide)]) (fun j hj => by rw [sI_n (t8 j (by omega))]) (sI_f (by decide)) low
  have hl : live (sI (sI B 21 0 (B.1 5 n)) 8 n (nI i)) = live B := live_fn (fr 0 (by decide) (by decide)) (fr 1 (by decide) (by decide)) (fr 13 (by decide) (by decide)) (fr 14 (by decide) (by decide))
  have e21 : (sI (sI B 21 0 (B.1 5 n)) 8 n (nI i)).1 21 0 = nI p := by rw [sI_e (by decide), sI_self]; exact b5
  have e8 : (sI (sI B 21 0 (B.1 5 n)) 8 n (nI i)).1 8 n = nI i := sI_self
  rcases enter_all hB sB nB hy (fun m hm w => by rw [hl]; exact ly m hm w) hz (fun m hm w => by rw [hl]; exact lz m hm w) with ⟨q1, q2, t, q3, q4⟩ | ⟨q1, q2, m, q3, q4, q5, q6, q7, q8, q9⟩
  · rw [if_neg q1, q2, q3]
    exact ⟨e + 1, a, HH_M (by omega) (okM_keep (by decide) hB.2.1) hB, Stk_of (C := (sI (sI B 21 0 (B.1 5 n)) 8 n (nI i))) rfl rfl rfl rfl (sI_f (by decide)) (sI_f (by decide)) sB, nB, lB, by rw [sI_self]; exact q4, fun w => (q1 w).elim⟩
  · rw [q1, if_pos rfl]
    have c21 : (center (sI (sI B 21 0 (B.1 5 n)) 8 n (nI i)) y z).2.1 21 0 = nI p := by rw [q8 21 (by decide) (by decide) (by decide)]; exact e21
    have c5 : (center (sI (sI B 21 0 (B.1 5 n)) 8 n (nI i)) y z).2.1 5 n = nI p := by rw [q8 5 (by decide) (by decide) (by decide), fr 5 (by decide) (by decide)]; exact b5
    rw [c21, sI_id c5]
    refine ⟨e + 1 + 1, push a (e + 1) m, q5, q6, q7, fun j hj => ?_, by rw [q9]; exact .inl ⟨rfl, h22⟩, fun _ w => by omega⟩
    have pj : push a (e + 1) m j = a j := by unfold push; rw [if_neg (by omega)]
    rw [pj, q8 4 (by decide) (by decide) (by decide), q8 5 (by decide) (by decide) (by decide), q8 8 (by decide) (by decide) (by decide), q8 10 (by decide) (by decide) (by decide)]
    by_cases w : j = e
    · subst w
      rw [hn]
      refine ⟨f, p, hf, hp, ?_, ?_, ?_⟩
      · rw [fr 4 (by decide) (by decide)]; exact c.2.2.2.2.2.2.2.1
      · rw [fr 5 (by decide) (by decide)]; exact b5
      · rw [e8, fr 10 (by decide) (by decide)]; exact hi
    · exact lB j (by omega)
theorem op_yield {B M : CS} {e n f p i : Nat} {a : Nat → Nat} {v : Int32} {X : CS} (c : Ctx B M e n f p a) (h21 : B.1 21 0 = nI (p + 1)) (i4 : i < 4) (hv : (v = 1 ∧ X = sI (sI B 6 n 1) 7 n (nI i)) ∨ (v = 3 ∧ X = sI B 6 n 3)) : KK 0 (sI (cleave X (B.2.1 3 n i)) 5 n ((cleave X (B.2.1 3 n i)).1 21 0)) (mleave (sI (sI M 11 n (nI i)) 9 n (M.1 9 n + 1)) v (B.2.1 3 n i)) := by
  obtain ⟨t1, t2, t3, t4, t5, t6, t7, t8⟩ := ctx_top c
  obtain ⟨h, s, nb, low, hn, hf, hp, h4, h5, h22⟩ := c
  have h9 : M.1 9 n = nI p := by rw [← ((h.2.2.2.2.1 n t1).2.2.1 t2).2.1]; exact h5
  rcases hv with ⟨rfl, rfl⟩ | ⟨rfl, rfl⟩
  · have hX : HH (sI (sI B 6 n 1) 7 n (nI i)) (sI (sI M 11 n (nI i)) 10 n 1) := by
      have g := HH_state (n := n) (v := 1) (HH_cin (n := n) h i4 t3) t1 (by decide) (by rw [sI_e (by decide)]; exact t2) (fun w => absurd w (by decide)) (by decide) (fun _ => by rw [sI_self, sI_self])
      rw [sI_comm (.inl (by decide))] at g
      exact g
    exact leave_all s nb low hn (.inl rfl) hX (by rw [sI_f (by decide), sI_fn]) (fun f f6 f7 => by rw [sI_f f7, sI_f f6]) rfl (fun f hf => sI_f hf) (h.1.2.1 _ _ _) (t5 i i4) h22 h21 hp h9
  · have hX : HH (sI B 6 n 3) (sI (sI M 11 n (nI i)) 10 n 3) := HH_state (n := n) (v := 3) (HH_win (n := n) h i4 t3) t1 (by decide) t2 (fun w => absurd w (by decide)) (by decide) (fun w => absurd w (by decide))
    exact leave_all s nb low hn (.inr rfl) hX sI_fn (fun f f6 f7 => sI_f f6) rfl (fun f hf => sI_f hf) (h.1.2.1 _ _ _) (t5 i i4) h22 h21 hp h9
