/-! a new object on both sides -/
theorem C0_0 {f n : Nat} (h3 : f ≠ 3) (h9 : f ≠ 9) : C00.1 f n = 0 := if_neg (fun z => z.elim h3 h9)
theorem M0_0 {f n : Nat} (h : f ≠ 0) : (M0i 64 6).1 f n = 0 := if_neg (fun z => h z.1)
theorem M0_lz {f n i : Nat} (h : f ≠ 0) : (M0i 64 6).2.1 f n i = 0 := if_neg (fun z => h z.1)
theorem nil_ne {m : Nat} (hm : m < 16) : ¬ (-1000000000000 : Int64) = oV m := fun e => (lv_nil (C := C00) m hm e).1 (C0_0 (by decide) (by decide))
theorem C0_long (f n i : Nat) : C00.2.1 f n i = -1000000000000 ∨ C00.2.1 f n i = 0 := by
  show (if _ then _ else _) = _ ∨ (if _ then _ else _) = _
  split
  · exact .inl rfl
  · exact .inr rfl
theorem M0_long (f n i : Nat) : (M0i 64 6).2.1 f n i = -1000000000000 ∨ (M0i 64 6).2.1 f n i = 0 := by
  show (if _ then _ else _) = _ ∨ (if _ then _ else _) = _
  split
  · exact .inl rfl
  · exact .inr rfl
theorem ok_nz {v : Int64} (h : v = -1000000000000 ∨ v = 0) : okV v := by
  rcases h with rfl | rfl
  · exact okV_nil
  · exact .inl (by decide)
theorem RR_new : RR C00 (M0i 64 6) := by
  have k0 : ∀ n, C00.1 0 n = 0 := fun n => C0_0 (by decide) (by decide)
  have nact : ∀ n, cactive C00 n = false := fun n => by
    unfold cactive
    rw [k0]
    rfl
  have nl : ∀ n, ¬ live C00 n := fun n z => z.1 (k0 n)
  refine ⟨⟨?_, ?_, ⟨?_, ?_, ?_, ?_⟩, ⟨?_, ?_, ?_, ?_⟩, ?_, ?_, ?_⟩, ?_⟩
  · exact ⟨fun n hn => ⟨⟨0, by omega, C0_0 (by decide) (by decide)⟩, .inl rfl, ⟨0, by omega, C0_0 (by decide) (by decide)⟩, ⟨0, by omega, C0_0 (by decide) (by decide)⟩, ⟨0, by omega, C0_0 (by decide) (by decide)⟩, ⟨0, by omega, C0_0 (by decide) (by decide)⟩⟩, fun f n i => ok_nz (C0_long f n i), ⟨0, by omega, C0_0 (by decide) (by decide)⟩, ⟨0, by omega, C0_0 (by decide) (by decide), fun i hi => by omega⟩⟩
  · exact ⟨fun n hn => ⟨⟨0, by omega, M0_0 (by decide)⟩, .inr ⟨0, by omega, M0_0 (by decide)⟩, ⟨0, by omega, M0_0 (by decide)⟩, ⟨0, by omega, M0_0 (by decide)⟩⟩, fun f j => ok_nz (M0_long f 0 j), ⟨0, by omega, M0_0 (by decide)⟩, ⟨0, by omega, M0_0 (by decide)⟩, fun k hk => ⟨0, by omega, M0_0 (by decide)⟩⟩
  · exact fun n hn => ⟨.inl (k0 n), .inl (C0_0 (by decide) (by decide)), fun _ => C0_0 (by decide) (by decide), .inl (C0_0 (by decide) (by decide))⟩
  · exact ⟨.inl (C0_0 (by decide) (by decide)), fun _ => C0_0 (by decide) (by decide), fun _ n hn => C0_0 (by decide) (by decide), fun _ n hn => C0_0 (by decide) (by decide)⟩
  · unfold Sm3
    decide +kernel
  · exact ⟨fun k hk => .inl rfl, fun f hf => rfl⟩
  · intro m hm z
    rcases z with ⟨j, hj, z⟩ | ⟨n, hn, z, -⟩
    · rw [show C00.2.1 0 0 j = -1000000000000 from if_pos (.inl ⟨rfl, rfl, hj⟩)] at z
      exact (nil_ne hm z).elim
    · rw [nact] at z
      cases z
  · exact fun n m hn hm z => (nl n z).elim
  · intro z
    rw [C0_0 (by decide) (by decide)] at z
    exact absurd z (by decide)
  · exact fun n m hn hm z => (nl n z).elim
  · intro n hn
    refine ⟨⟨(k0 n).trans (M0_0 (by decide)).symm, (C0_0 (by decide) (by decide)).trans (M0_0 (by decide)).symm⟩, fun z => ?_, fun z => ?_, fun z => ?_, fun i hi => ⟨?_, ?_⟩⟩
    · rw [k0] at z
      exact absurd z (by decide)
    · rw [k0] at z
      exact absurd z (by decide)
    · rw [k0] at z
      exact absurd z (by decide)
    · rw [C00_z (by decide) (by decide) (by decide)]
      exact (M0_lz (by decide)).symm
    · rw [C00_z (by decide) (by decide) (by decide)]
      exact (M0_lz (by decide)).symm
  · refine ⟨fun i hi => ?_, ?_, ?_, ?_, ?_, ?_, ?_, ?_⟩
    · rw [C00_g]
      show (if i < 6 then _ else _) = _
      rw [if_pos hi]
      exact (if_pos ⟨rfl, rfl, hi⟩).symm
    all_goals exact (C0_0 (by decide) (by decide)).trans (M0_0 (by decide)).symm
  · intro f i hf hi
    exact ⟨(if_pos ⟨rfl, by omega⟩).symm, (C0_0 (by decide) (by decide)).trans (M0_0 (by decide)).symm, (C0_0 (by decide) (by decide)).trans (M0_0 (by decide)).symm, (C0_0 (by decide) (by decide)).trans (M0_0 (by decide)).symm⟩
  · exact ⟨by omega, C0_0 (by decide) (by decide), M0_0 (by decide), fun i hi => by omega, fun i j hi => by omega, fun n hn z => by rw [nact] at z; cases z⟩
