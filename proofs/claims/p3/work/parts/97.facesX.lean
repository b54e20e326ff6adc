set_option maxHeartbeats 4000000 in
set_option maxRecDepth 100000 in
theorem x_TCM_number {l : Launch} {D : va_G} {t : Nat → ClassId} {ad : Nat → Nat} {C : CS} (htr : l.stackTraces = false) {g v : Int32} (hg : g < 0 ∨ 5 < g) : Ce l D t ad y_TCM_number b_TCM_number 3 none { frames := 8, cells := 1, slots := 6, locals := 130 } [.ref (ad (ix 0 0)), .int g, .int v] (C) (X_IAE) (C) := by
  refine ctX_of (by decide) (Nat.le_of_ble_eq_true rfl) ?_
  intro Γ hL hDD hN h r pw
  refine gp_g pw ?_
  refine g_at (L' := [some (.ref (ad (ix 0 0))), some (.int g), some (.int v)]) rfl rfl rfl ?_
  refine g_iload_n h d_TCM_number_0 rfl rfl ?_
  exact g_thruS h r tb_good (by rw [hL, hDD]; exact x_TCM_checkGlobal htr hg) v_TCM_48 nm_TCM_checkGlobal rfl ⟨rfl, rfl, Nat.le_of_ble_eq_true rfl, Nat.le_of_ble_eq_true rfl, Nat.le_of_ble_eq_true rfl, Nat.le_of_ble_eq_true rfl⟩ rfl (Nat.le_of_ble_eq_true rfl) d_TCM_number_1
set_option maxHeartbeats 4000000 in
set_option maxRecDepth 100000 in
theorem x_TCM_global {l : Launch} {D : va_G} {t : Nat → ClassId} {ad : Nat → Nat} {C : CS} (htr : l.stackTraces = false) {g : Int32} (hg : g < 0 ∨ 5 < g) : Ce l D t ad y_TCM_global b_TCM_global 2 (some .long) { frames := 8, cells := 1, slots := 6, locals := 130 } [.ref (ad (ix 0 0)), .int g] (C) (X_IAE) (C) := by
  refine ctX_of (by decide) (Nat.le_of_ble_eq_true rfl) ?_
  intro Γ hL hDD hN h r pw
  refine gp_g pw ?_
  refine g_at (L' := [some (.ref (ad (ix 0 0))), some (.int g)]) rfl rfl rfl ?_
  refine g_iload_n h d_TCM_global_0 rfl rfl ?_
  exact g_thruS h r tb_good (by rw [hL, hDD]; exact x_TCM_checkGlobal htr hg) v_TCM_48 nm_TCM_checkGlobal rfl ⟨rfl, rfl, Nat.le_of_ble_eq_true rfl, Nat.le_of_ble_eq_true rfl, Nat.le_of_ble_eq_true rfl, Nat.le_of_ble_eq_true rfl⟩ rfl (Nat.le_of_ble_eq_true rfl) d_TCM_global_1
set_option maxHeartbeats 4000000 in
set_option maxRecDepth 100000 in
theorem x_TCM_move1 {l : Launch} {D : va_G} {t : Nat → ClassId} {ad : Nat → Nat} {C : CS} (htr : l.stackTraces = false) {g k : Int32} (hg : g < 0 ∨ 5 < g) : Ce l D t ad y_TCM_move b_TCM_move 3 none { frames := 8, cells := 1, slots := 6, locals := 130 } [.ref (ad (ix 0 0)), .int g, .int k] (C) (X_IAE) (C) := by
  refine ctX_of (by decide) (Nat.le_of_ble_eq_true rfl) ?_
  intro Γ hL hDD hN h r pw
  refine gp_g pw ?_
  refine g_at (L' := [some (.ref (ad (ix 0 0))), some (.int g), some (.int k)]) rfl rfl rfl ?_
  refine g_iload_n h d_TCM_move_0 rfl rfl ?_
  exact g_thruS h r tb_good (by rw [hL, hDD]; exact x_TCM_checkGlobal htr hg) v_TCM_48 nm_TCM_checkGlobal rfl ⟨rfl, rfl, Nat.le_of_ble_eq_true rfl, Nat.le_of_ble_eq_true rfl, Nat.le_of_ble_eq_true rfl, Nat.le_of_ble_eq_true rfl⟩ rfl (Nat.le_of_ble_eq_true rfl) d_TCM_move_1
set_option maxHeartbeats 4000000 in
set_option maxRecDepth 100000 in
theorem x_TCM_move2 {l : Launch} {D : va_G} {t : Nat → ClassId} {ad : Nat → Nat} {C : CS} (htr : l.stackTraces = false) {g k : Int32} (hg : ¬ (g < 0 ∨ 5 < g)) (hk : k < -1 ∨ 5 < k) : Ce l D t ad y_TCM_move b_TCM_move 3 none { frames := 8, cells := 1, slots := 6, locals := 130 } [.ref (ad (ix 0 0)), .int g, .int k] (C) (X_IAE) (C) := by
  refine ctX_of (by decide) (Nat.le_of_ble_eq_true rfl) ?_
  intro Γ hL hDD hN h r pw
  refine gp_g pw ?_
  refine g_at (L' := [some (.ref (ad (ix 0 0))), some (.int g), some (.int k)]) rfl rfl rfl ?_
  refine g_iload_n h d_TCM_move_0 rfl rfl ?_
  refine g_dSv h tb_good (c_TCM_checkGlobal hg) v_TCM_48 nm_TCM_checkGlobal rfl ⟨rfl, rfl, Nat.le_of_ble_eq_true rfl, Nat.le_of_ble_eq_true rfl, Nat.zero_le _, Nat.zero_le _⟩ rfl (Nat.le_of_ble_eq_true rfl) d_TCM_move_1 ?_
  refine g_iload_n h d_TCM_move_4 rfl rfl ?_
  refine g_iconst (v := -1) h d_TCM_move_5 (by decide) ?_
  refine g_iconst (v := 5) h d_TCM_move_6 (by decide) ?_
  exact g_thruS h r tb_good (by rw [hL, hDD]; exact x_TCM_checkRange htr hk) v_TCM_25 nm_TCM_checkRange rfl ⟨rfl, rfl, Nat.le_of_ble_eq_true rfl, Nat.le_of_ble_eq_true rfl, Nat.le_of_ble_eq_true rfl, Nat.le_of_ble_eq_true rfl⟩ rfl (Nat.le_of_ble_eq_true rfl) d_TCM_move_7
set_option maxHeartbeats 4000000 in
set_option maxRecDepth 100000 in
theorem x_TCM_make1 {l : Launch} {D : va_G} {t : Nat → ClassId} {ad : Nat → Nat} {C : CS} (htr : l.stackTraces = false) {g f : Int32} (hg : g < 0 ∨ 5 < g) : Ce l D t ad y_TCM_make b_TCM_make 3 (some .int) { frames := 8, cells := 1, slots := 6, locals := 130 } [.ref (ad (ix 0 0)), .int g, .int f] (C) (X_IAE) (C) := by
  refine ctX_of (by decide) (Nat.le_of_ble_eq_true rfl) ?_
  intro Γ hL hDD hN h r pw
  refine gp_g pw ?_
  refine g_at (L' := [some (.ref (ad (ix 0 0))), some (.int g), some (.int f)]) rfl rfl rfl ?_
  refine g_iload_n h d_TCM_make_0 rfl rfl ?_
  exact g_thruS h r tb_good (by rw [hL, hDD]; exact x_TCM_checkGlobal htr hg) v_TCM_48 nm_TCM_checkGlobal rfl ⟨rfl, rfl, Nat.le_of_ble_eq_true rfl, Nat.le_of_ble_eq_true rfl, Nat.le_of_ble_eq_true rfl, Nat.le_of_ble_eq_true rfl⟩ rfl (Nat.le_of_ble_eq_true rfl) d_TCM_make_1
set_option maxHeartbeats 4000000 in
set_option maxRecDepth 100000 in
theorem x_TCM_make2 {l : Launch} {D : va_G} {t : Nat → ClassId} {ad : Nat → Nat} {C : CS} (htr : l.stackTraces = false) {g f : Int32} (hg : ¬ (g < 0 ∨ 5 < g)) (hf : f < -1 ∨ 3 < f) : Ce l D t ad y_TCM_make b_TCM_make 3 (some .int) { frames := 8, cells := 1, slots := 6, locals := 130 } [.ref (ad (ix 0 0)), .int g, .int f] (C) (X_IAE) (C) := by
  refine ctX_of (by decide) (Nat.le_of_ble_eq_true rfl) ?_
  intro Γ hL hDD hN h r pw
  refine gp_g pw ?_
  refine g_at (L' := [some (.ref (ad (ix 0 0))), some (.int g), some (.int f)]) rfl rfl rfl ?_
  refine g_iload_n h d_TCM_make_0 rfl rfl ?_
  refine g_dSv h tb_good (c_TCM_checkGlobal hg) v_TCM_48 nm_TCM_checkGlobal rfl ⟨rfl, rfl, Nat.le_of_ble_eq_true rfl, Nat.le_of_ble_eq_true rfl, Nat.zero_le _, Nat.zero_le _⟩ rfl (Nat.le_of_ble_eq_true rfl) d_TCM_make_1 ?_
  refine g_iload_n h d_TCM_make_4 rfl rfl ?_
  refine g_iconst (v := -1) h d_TCM_make_5 (by decide) ?_
  refine g_iconst (v := 3) h d_TCM_make_6 (by decide) ?_
  exact g_thruS h r tb_good (by rw [hL, hDD]; exact x_TCM_checkRange htr hf) v_TCM_25 nm_TCM_checkRange rfl ⟨rfl, rfl, Nat.le_of_ble_eq_true rfl, Nat.le_of_ble_eq_true rfl, Nat.le_of_ble_eq_true rfl, Nat.le_of_ble_eq_true rfl⟩ rfl (Nat.le_of_ble_eq_true rfl) d_TCM_make_7
set_option maxHeartbeats 4000000 in
set_option maxRecDepth 100000 in
theorem x_TCM_set1 {l : Launch} {D : va_G} {t : Nat → ClassId} {ad : Nat → Nat} {C : CS} (htr : l.stackTraces = false) {a b c : Int32} (ha : a < 0 ∨ 5 < a) : Ce l D t ad y_TCM_set b_TCM_set 4 none { frames := 8, cells := 1, slots := 6, locals := 130 } [.ref (ad (ix 0 0)), .int a, .int b, .int c] (C) (X_IAE) (C) := by
  refine ctX_of (by decide) (Nat.le_of_ble_eq_true rfl) ?_
  intro Γ hL hDD hN h r pw
  refine gp_g pw ?_
  refine g_at (L' := [some (.ref (ad (ix 0 0))), some (.int a), some (.int b), some (.int c)]) rfl rfl rfl ?_
  refine g_iload_n h d_TCM_set_0 rfl rfl ?_
  exact g_thruS h r tb_good (by rw [hL, hDD]; exact x_TCM_checkGlobal htr ha) v_TCM_48 nm_TCM_checkGlobal rfl ⟨rfl, rfl, Nat.le_of_ble_eq_true rfl, Nat.le_of_ble_eq_true rfl, Nat.le_of_ble_eq_true rfl, Nat.le_of_ble_eq_true rfl⟩ rfl (Nat.le_of_ble_eq_true rfl) d_TCM_set_1
set_option maxHeartbeats 4000000 in
set_option maxRecDepth 100000 in
theorem x_TCM_set2 {l : Launch} {D : va_G} {t : Nat → ClassId} {ad : Nat → Nat} {C : CS} (htr : l.stackTraces = false) {a b c : Int32} (ha : ¬ (a < 0 ∨ 5 < a)) (hb : b < 0 ∨ 5 < b) : Ce l D t ad y_TCM_set b_TCM_set 4 none { frames := 8, cells := 1, slots := 6, locals := 130 } [.ref (ad (ix 0 0)), .int a, .int b, .int c] (C) (X_IAE) (C) := by
  refine ctX_of (by decide) (Nat.le_of_ble_eq_true rfl) ?_
  intro Γ hL hDD hN h r pw
  refine gp_g pw ?_
  refine g_at (L' := [some (.ref (ad (ix 0 0))), some (.int a), some (.int b), some (.int c)]) rfl rfl rfl ?_
  refine g_iload_n h d_TCM_set_0 rfl rfl ?_
  refine g_dSv h tb_good (c_TCM_checkGlobal ha) v_TCM_48 nm_TCM_checkGlobal rfl ⟨rfl, rfl, Nat.le_of_ble_eq_true rfl, Nat.le_of_ble_eq_true rfl, Nat.zero_le _, Nat.zero_le _⟩ rfl (Nat.le_of_ble_eq_true rfl) d_TCM_set_1 ?_
  refine g_iload_n h d_TCM_set_4 rfl rfl ?_
  exact g_thruS h r tb_good (by rw [hL, hDD]; exact x_TCM_checkGlobal htr hb) v_TCM_48 nm_TCM_checkGlobal rfl ⟨rfl, rfl, Nat.le_of_ble_eq_true rfl, Nat.le_of_ble_eq_true rfl, Nat.le_of_ble_eq_true rfl, Nat.le_of_ble_eq_true rfl⟩ rfl (Nat.le_of_ble_eq_true rfl) d_TCM_set_5
set_option maxHeartbeats 4000000 in
set_option maxRecDepth 100000 in
theorem x_TCM_set3 {l : Launch} {D : va_G} {t : Nat → ClassId} {ad : Nat → Nat} {C : CS} (htr : l.stackTraces = false) {a b c : Int32} (ha : ¬ (a < 0 ∨ 5 < a)) (hb : ¬ (b < 0 ∨ 5 < b)) (hc : c < 0 ∨ 5 < c) : Ce l D t ad y_TCM_set b_TCM_set 4 none { frames := 8, cells := 1, slots := 6, locals := 130 } [.ref (ad (ix 0 0)), .int a, .int b, .int c] (C) (X_IAE) (C) := by
  refine ctX_of (by decide) (Nat.le_of_ble_eq_true rfl) ?_
  intro Γ hL hDD hN h r pw
  refine gp_g pw ?_
  refine g_at (L' := [some (.ref (ad (ix 0 0))), some (.int a), some (.int b), some (.int c)]) rfl rfl rfl ?_
  refine g_iload_n h d_TCM_set_0 rfl rfl ?_
  refine g_dSv h tb_good (c_TCM_checkGlobal ha) v_TCM_48 nm_TCM_checkGlobal rfl ⟨rfl, rfl, Nat.le_of_ble_eq_true rfl, Nat.le_of_ble_eq_true rfl, Nat.zero_le _, Nat.zero_le _⟩ rfl (Nat.le_of_ble_eq_true rfl) d_TCM_set_1 ?_
  refine g_iload_n h d_TCM_set_4 rfl rfl ?_
  refine g_dSv h tb_good (c_TCM_checkGlobal hb) v_TCM_48 nm_TCM_checkGlobal rfl ⟨rfl, rfl, Nat.le_of_ble_eq_true rfl, Nat.le_of_ble_eq_true rfl, Nat.zero_le _, Nat.zero_le _⟩ rfl (Nat.le_of_ble_eq_true rfl) d_TCM_set_5 ?_
  refine g_iload_n h d_TCM_set_8 rfl rfl ?_
  exact g_thruS h r tb_good (by rw [hL, hDD]; exact x_TCM_checkGlobal htr hc) v_TCM_48 nm_TCM_checkGlobal rfl ⟨rfl, rfl, Nat.le_of_ble_eq_true rfl, Nat.le_of_ble_eq_true rfl, Nat.le_of_ble_eq_true rfl, Nat.le_of_ble_eq_true rfl⟩ rfl (Nat.le_of_ble_eq_true rfl) d_TCM_set_9
set_option maxHeartbeats 4000000 in
set_option maxRecDepth 100000 in
theorem x_TCM_get1 {l : Launch} {D : va_G} {t : Nat → ClassId} {ad : Nat → Nat} {C : CS} (htr : l.stackTraces = false) {a b c : Int32} (ha : a < 0 ∨ 5 < a) : Ce l D t ad y_TCM_get b_TCM_get 4 (some .long) { frames := 8, cells := 1, slots := 6, locals := 130 } [.ref (ad (ix 0 0)), .int a, .int b, .int c] (C) (X_IAE) (C) := by
  refine ctX_of (by decide) (Nat.le_of_ble_eq_true rfl) ?_
  intro Γ hL hDD hN h r pw
  refine gp_g pw ?_
  refine g_at (L' := [some (.ref (ad (ix 0 0))), some (.int a), some (.int b), some (.int c)]) rfl rfl rfl ?_
  refine g_iload_n h d_TCM_get_0 rfl rfl ?_
  exact g_thruS h r tb_good (by rw [hL, hDD]; exact x_TCM_checkGlobal htr ha) v_TCM_48 nm_TCM_checkGlobal rfl ⟨rfl, rfl, Nat.le_of_ble_eq_true rfl, Nat.le_of_ble_eq_true rfl, Nat.le_of_ble_eq_true rfl, Nat.le_of_ble_eq_true rfl⟩ rfl (Nat.le_of_ble_eq_true rfl) d_TCM_get_1
set_option maxHeartbeats 4000000 in
set_option maxRecDepth 100000 in
theorem x_TCM_get2 {l : Launch} {D : va_G} {t : Nat → ClassId} {ad : Nat → Nat} {C : CS} (htr : l.stackTraces = false) {a b c : Int32} (ha : ¬ (a < 0 ∨ 5 < a)) (hb : b < 0 ∨ 5 < b) : Ce l D t ad y_TCM_get b_TCM_get 4 (some .long) { frames := 8, cells := 1, slots := 6, locals := 130 } [.ref (ad (ix 0 0)), .int a, .int b, .int c] (C) (X_IAE) (C) := by
  refine ctX_of (by decide) (Nat.le_of_ble_eq_true rfl) ?_
  intro Γ hL hDD hN h r pw
  refine gp_g pw ?_
  refine g_at (L' := [some (.ref (ad (ix 0 0))), some (.int a), some (.int b), some (.int c)]) rfl rfl rfl ?_
  refine g_iload_n h d_TCM_get_0 rfl rfl ?_
  refine g_dSv h tb_good (c_TCM_checkGlobal ha) v_TCM_48 nm_TCM_checkGlobal rfl ⟨rfl, rfl, Nat.le_of_ble_eq_true rfl, Nat.le_of_ble_eq_true rfl, Nat.zero_le _, Nat.zero_le _⟩ rfl (Nat.le_of_ble_eq_true rfl) d_TCM_get_1 ?_
  refine g_iload_n h d_TCM_get_4 rfl rfl ?_
  exact g_thruS h r tb_good (by rw [hL, hDD]; exact x_TCM_checkGlobal htr hb) v_TCM_48 nm_TCM_checkGlobal rfl ⟨rfl, rfl, Nat.le_of_ble_eq_true rfl, Nat.le_of_ble_eq_true rfl, Nat.le_of_ble_eq_true rfl, Nat.le_of_ble_eq_true rfl⟩ rfl (Nat.le_of_ble_eq_true rfl) d_TCM_get_5
set_option maxHeartbeats 4000000 in
set_option maxRecDepth 100000 in
theorem x_TCM_get3 {l : Launch} {D : va_G} {t : Nat → ClassId} {ad : Nat → Nat} {C : CS} (htr : l.stackTraces = false) {a b c : Int32} (ha : ¬ (a < 0 ∨ 5 < a)) (hb : ¬ (b < 0 ∨ 5 < b)) (hc : c < 0 ∨ 5 < c) : Ce l D t ad y_TCM_get b_TCM_get 4 (some .long) { frames := 8, cells := 1, slots := 6, locals := 130 } [.ref (ad (ix 0 0)), .int a, .int b, .int c] (C) (X_IAE) (C) := by
  refine ctX_of (by decide) (Nat.le_of_ble_eq_true rfl) ?_
  intro Γ hL hDD hN h r pw
  refine gp_g pw ?_
  refine g_at (L' := [some (.ref (ad (ix 0 0))), some (.int a), some (.int b), some (.int c)]) rfl rfl rfl ?_
  refine g_iload_n h d_TCM_get_0 rfl rfl ?_
  refine g_dSv h tb_good (c_TCM_checkGlobal ha) v_TCM_48 nm_TCM_checkGlobal rfl ⟨rfl, rfl, Nat.le_of_ble_eq_true rfl, Nat.le_of_ble_eq_true rfl, Nat.zero_le _, Nat.zero_le _⟩ rfl (Nat.le_of_ble_eq_true rfl) d_TCM_get_1 ?_
  refine g_iload_n h d_TCM_get_4 rfl rfl ?_
  refine g_dSv h tb_good (c_TCM_checkGlobal hb) v_TCM_48 nm_TCM_checkGlobal rfl ⟨rfl, rfl, Nat.le_of_ble_eq_true rfl, Nat.le_of_ble_eq_true rfl, Nat.zero_le _, Nat.zero_le _⟩ rfl (Nat.le_of_ble_eq_true rfl) d_TCM_get_5 ?_
  refine g_iload_n h d_TCM_get_8 rfl rfl ?_
  exact g_thruS h r tb_good (by rw [hL, hDD]; exact x_TCM_checkGlobal htr hc) v_TCM_48 nm_TCM_checkGlobal rfl ⟨rfl, rfl, Nat.le_of_ble_eq_true rfl, Nat.le_of_ble_eq_true rfl, Nat.le_of_ble_eq_true rfl, Nat.le_of_ble_eq_true rfl⟩ rfl (Nat.le_of_ble_eq_true rfl) d_TCM_get_9
set_option maxHeartbeats 4000000 in
set_option maxRecDepth 100000 in
theorem x_TCM_resume1 {l : Launch} {D : va_G} {t : Nat → ClassId} {ad : Nat → Nat} {C : CS} (htr : l.stackTraces = false) {a b c : Int32} (ha : a < 0 ∨ 5 < a) : Ce l D t ad y_TCM_resume b_TCM_resume 4 (some .long) { frames := 8, cells := 1, slots := 6, locals := 180 } [.ref (ad (ix 0 0)), .int a, .int b, .int c] (C) (X_IAE) (C) := by
  refine ctX_of (by decide) (Nat.le_of_ble_eq_true rfl) ?_
  intro Γ hL hDD hN h r pw
  refine gp_g pw ?_
  refine g_at (L' := [some (.ref (ad (ix 0 0))), some (.int a), some (.int b), some (.int c)]) rfl rfl rfl ?_
  refine g_iload_n h d_TCM_resume_0 rfl rfl ?_
  exact g_thruS h r tb_good (by rw [hL, hDD]; exact x_TCM_checkGlobal htr ha) v_TCM_48 nm_TCM_checkGlobal rfl ⟨rfl, rfl, Nat.le_of_ble_eq_true rfl, Nat.le_of_ble_eq_true rfl, Nat.le_of_ble_eq_true rfl, Nat.le_of_ble_eq_true rfl⟩ rfl (Nat.le_of_ble_eq_true rfl) d_TCM_resume_1
set_option maxHeartbeats 4000000 in
set_option maxRecDepth 100000 in
theorem x_TCM_resume2 {l : Launch} {D : va_G} {t : Nat → ClassId} {ad : Nat → Nat} {C : CS} (htr : l.stackTraces = false) {a b c : Int32} (ha : ¬ (a < 0 ∨ 5 < a)) (hb : b < 0 ∨ 5 < b) : Ce l D t ad y_TCM_resume b_TCM_resume 4 (some .long) { frames := 8, cells := 1, slots := 6, locals := 180 } [.ref (ad (ix 0 0)), .int a, .int b, .int c] (C) (X_IAE) (C) := by
  refine ctX_of (by decide) (Nat.le_of_ble_eq_true rfl) ?_
  intro Γ hL hDD hN h r pw
  refine gp_g pw ?_
  refine g_at (L' := [some (.ref (ad (ix 0 0))), some (.int a), some (.int b), some (.int c)]) rfl rfl rfl ?_
  refine g_iload_n h d_TCM_resume_0 rfl rfl ?_
  refine g_dSv h tb_good (c_TCM_checkGlobal ha) v_TCM_48 nm_TCM_checkGlobal rfl ⟨rfl, rfl, Nat.le_of_ble_eq_true rfl, Nat.le_of_ble_eq_true rfl, Nat.zero_le _, Nat.zero_le _⟩ rfl (Nat.le_of_ble_eq_true rfl) d_TCM_resume_1 ?_
  refine g_iload_n h d_TCM_resume_4 rfl rfl ?_
  exact g_thruS h r tb_good (by rw [hL, hDD]; exact x_TCM_checkGlobal htr hb) v_TCM_48 nm_TCM_checkGlobal rfl ⟨rfl, rfl, Nat.le_of_ble_eq_true rfl, Nat.le_of_ble_eq_true rfl, Nat.le_of_ble_eq_true rfl, Nat.le_of_ble_eq_true rfl⟩ rfl (Nat.le_of_ble_eq_true rfl) d_TCM_resume_5
set_option maxHeartbeats 4000000 in
set_option maxRecDepth 100000 in
theorem x_TCM_resume3 {l : Launch} {D : va_G} {t : Nat → ClassId} {ad : Nat → Nat} {C : CS} (htr : l.stackTraces = false) {a b c : Int32} (ha : ¬ (a < 0 ∨ 5 < a)) (hb : ¬ (b < 0 ∨ 5 < b)) (hc : c < 0 ∨ 5 < c) : Ce l D t ad y_TCM_resume b_TCM_resume 4 (some .long) { frames := 8, cells := 1, slots := 6, locals := 180 } [.ref (ad (ix 0 0)), .int a, .int b, .int c] (C) (X_IAE) (C) := by
  refine ctX_of (by decide) (Nat.le_of_ble_eq_true rfl) ?_
  intro Γ hL hDD hN h r pw
  refine gp_g pw ?_
  refine g_at (L' := [some (.ref (ad (ix 0 0))), some (.int a), some (.int b), some (.int c)]) rfl rfl rfl ?_
  refine g_iload_n h d_TCM_resume_0 rfl rfl ?_
  refine g_dSv h tb_good (c_TCM_checkGlobal ha) v_TCM_48 nm_TCM_checkGlobal rfl ⟨rfl, rfl, Nat.le_of_ble_eq_true rfl, Nat.le_of_ble_eq_true rfl, Nat.zero_le _, Nat.zero_le _⟩ rfl (Nat.le_of_ble_eq_true rfl) d_TCM_resume_1 ?_
  refine g_iload_n h d_TCM_resume_4 rfl rfl ?_
  refine g_dSv h tb_good (c_TCM_checkGlobal hb) v_TCM_48 nm_TCM_checkGlobal rfl ⟨rfl, rfl, Nat.le_of_ble_eq_true rfl, Nat.le_of_ble_eq_true rfl, Nat.zero_le _, Nat.zero_le _⟩ rfl (Nat.le_of_ble_eq_true rfl) d_TCM_resume_5 ?_
  refine g_iload_n h d_TCM_resume_8 rfl rfl ?_
  exact g_thruS h r tb_good (by rw [hL, hDD]; exact x_TCM_checkGlobal htr hc) v_TCM_48 nm_TCM_checkGlobal rfl ⟨rfl, rfl, Nat.le_of_ble_eq_true rfl, Nat.le_of_ble_eq_true rfl, Nat.le_of_ble_eq_true rfl, Nat.le_of_ble_eq_true rfl⟩ rfl (Nat.le_of_ble_eq_true rfl) d_TCM_resume_9
set_option maxHeartbeats 4000000 in
set_option maxRecDepth 100000 in
theorem x_TCM_meta1 {l : Launch} {D : va_G} {t : Nat → ClassId} {ad : Nat → Nat} {C : CS} (htr : l.stackTraces = false) {a b : Int32} (ha : a < 0 ∨ 5 < a) : Ce l D t ad y_TCM_meta b_TCM_meta 3 none { frames := 8, cells := 1, slots := 6, locals := 130 } [.ref (ad (ix 0 0)), .int a, .int b] (C) (X_IAE) (C) := by
  refine ctX_of (by decide) (Nat.le_of_ble_eq_true rfl) ?_
  intro Γ hL hDD hN h r pw
  refine gp_g pw ?_
  refine g_at (L' := [some (.ref (ad (ix 0 0))), some (.int a), some (.int b)]) rfl rfl rfl ?_
  refine g_iload_n h d_TCM_meta_0 rfl rfl ?_
  exact g_thruS h r tb_good (by rw [hL, hDD]; exact x_TCM_checkGlobal htr ha) v_TCM_48 nm_TCM_checkGlobal rfl ⟨rfl, rfl, Nat.le_of_ble_eq_true rfl, Nat.le_of_ble_eq_true rfl, Nat.le_of_ble_eq_true rfl, Nat.le_of_ble_eq_true rfl⟩ rfl (Nat.le_of_ble_eq_true rfl) d_TCM_meta_1
set_option maxHeartbeats 4000000 in
set_option maxRecDepth 100000 in
theorem x_TCM_meta2 {l : Launch} {D : va_G} {t : Nat → ClassId} {ad : Nat → Nat} {C : CS} (htr : l.stackTraces = false) {a b : Int32} (ha : ¬ (a < 0 ∨ 5 < a)) (hb : b < 0 ∨ 5 < b) : Ce l D t ad y_TCM_meta b_TCM_meta 3 none { frames := 8, cells := 1, slots := 6, locals := 130 } [.ref (ad (ix 0 0)), .int a, .int b] (C) (X_IAE) (C) := by
  refine ctX_of (by decide) (Nat.le_of_ble_eq_true rfl) ?_
  intro Γ hL hDD hN h r pw
  refine gp_g pw ?_
  refine g_at (L' := [some (.ref (ad (ix 0 0))), some (.int a), some (.int b)]) rfl rfl rfl ?_
  refine g_iload_n h d_TCM_meta_0 rfl rfl ?_
  refine g_dSv h tb_good (c_TCM_checkGlobal ha) v_TCM_48 nm_TCM_checkGlobal rfl ⟨rfl, rfl, Nat.le_of_ble_eq_true rfl, Nat.le_of_ble_eq_true rfl, Nat.zero_le _, Nat.zero_le _⟩ rfl (Nat.le_of_ble_eq_true rfl) d_TCM_meta_1 ?_
  refine g_iload_n h d_TCM_meta_4 rfl rfl ?_
  exact g_thruS h r tb_good (by rw [hL, hDD]; exact x_TCM_checkGlobal htr hb) v_TCM_48 nm_TCM_checkGlobal rfl ⟨rfl, rfl, Nat.le_of_ble_eq_true rfl, Nat.le_of_ble_eq_true rfl, Nat.le_of_ble_eq_true rfl, Nat.le_of_ble_eq_true rfl⟩ rfl (Nat.le_of_ble_eq_true rfl) d_TCM_meta_5
set_option maxHeartbeats 4000000 in
set_option maxRecDepth 100000 in
theorem x_TCM_collect {l : Launch} {D : va_G} {t : Nat → ClassId} {ad : Nat → Nat} {C : CS} (htr : l.stackTraces = false) {n : Int32} (hn : n < 1 ∨ 100 < n) : Ce l D t ad y_TCM_collect b_TCM_collect 4 (some .int) { frames := 7, cells := 1, slots := 6, locals := 110 } [.ref (ad (ix 0 0)), .int n] (C) (X_IAE) (C) := by
  refine ctX_of (by decide) (Nat.le_of_ble_eq_true rfl) ?_
  intro Γ hL hDD hN h r pw
  refine gp_g pw ?_
  refine g_at (L' := [some (.ref (ad (ix 0 0))), some (.int n), none, none]) rfl rfl rfl ?_
  refine g_iload_n h d_TCM_collect_0 rfl rfl ?_
  refine g_iconst (v := 1) h d_TCM_collect_1 (by decide) ?_
  refine g_bipush (v := 100) h d_TCM_collect_2 (by decide) ?_
  exact g_thruS h r tb_good (by rw [hL, hDD]; exact x_TCM_checkRange htr hn) v_TCM_25 nm_TCM_checkRange rfl ⟨rfl, rfl, Nat.le_of_ble_eq_true rfl, Nat.le_of_ble_eq_true rfl, Nat.le_of_ble_eq_true rfl, Nat.le_of_ble_eq_true rfl⟩ rfl (Nat.le_of_ble_eq_true rfl) d_TCM_collect_4
set_option maxHeartbeats 4000000 in
set_option maxRecDepth 100000 in
theorem x_TCM_object1 {l : Launch} {D : va_G} {t : Nat → ClassId} {ad : Nat → Nat} {C : CS} (htr : l.stackTraces = false) {n w : Int32} (hn : n < 0 ∨ 15 < n) : Ce l D t ad y_TCM_object b_TCM_object 4 (some .int) { frames := 7, cells := 1, slots := 6, locals := 110 } [.ref (ad (ix 0 0)), .int n, .int w] (C) (X_IAE) (C) := by
  refine ctX_of (by decide) (Nat.le_of_ble_eq_true rfl) ?_
  intro Γ hL hDD hN h r pw
  refine gp_g pw ?_
  refine g_at (L' := [some (.ref (ad (ix 0 0))), some (.int n), some (.int w), none]) rfl rfl rfl ?_
  refine g_iload_n h d_TCM_object_0 rfl rfl ?_
  refine g_iconst (v := 0) h d_TCM_object_1 (by decide) ?_
  refine g_bipush (v := 15) h d_TCM_object_2 (by decide) ?_
  exact g_thruS h r tb_good (by rw [hL, hDD]; exact x_TCM_checkRange htr hn) v_TCM_25 nm_TCM_checkRange rfl ⟨rfl, rfl, Nat.le_of_ble_eq_true rfl, Nat.le_of_ble_eq_true rfl, Nat.le_of_ble_eq_true rfl, Nat.le_of_ble_eq_true rfl⟩ rfl (Nat.le_of_ble_eq_true rfl) d_TCM_object_4
set_option maxHeartbeats 4000000 in
set_option maxRecDepth 100000 in
theorem x_TCM_object2 {l : Launch} {D : va_G} {t : Nat → ClassId} {ad : Nat → Nat} {C : CS} (htr : l.stackTraces = false) {n w : Int32} (h1 : ¬ n < 0) (h2 : ¬ 15 < n) (hw : w < 0 ∨ 3 < w) : Ce l D t ad y_TCM_object b_TCM_object 4 (some .int) { frames := 7, cells := 1, slots := 6, locals := 110 } [.ref (ad (ix 0 0)), .int n, .int w] (C) (X_IAE) (C) := by
  refine ctX_of (by decide) (Nat.le_of_ble_eq_true rfl) ?_
  intro Γ hL hDD hN h r pw
  refine gp_g pw ?_
  refine g_at (L' := [some (.ref (ad (ix 0 0))), some (.int n), some (.int w), none]) rfl rfl rfl ?_
  refine g_iload_n h d_TCM_object_0 rfl rfl ?_
  refine g_iconst (v := 0) h d_TCM_object_1 (by decide) ?_
  refine g_bipush (v := 15) h d_TCM_object_2 (by decide) ?_
  refine g_dSv h tb_good (c_TCM_checkRange h1 h2) v_TCM_25 nm_TCM_checkRange rfl ⟨rfl, rfl, Nat.le_of_ble_eq_true rfl, Nat.le_of_ble_eq_true rfl, Nat.zero_le _, Nat.zero_le _⟩ rfl (Nat.le_of_ble_eq_true rfl) d_TCM_object_4 ?_
  refine g_iload_n h d_TCM_object_7 rfl rfl ?_
  refine g_iconst (v := 0) h d_TCM_object_8 (by decide) ?_
  refine g_iconst (v := 3) h d_TCM_object_9 (by decide) ?_
  exact g_thruS h r tb_good (by rw [hL, hDD]; exact x_TCM_checkRange htr hw) v_TCM_25 nm_TCM_checkRange rfl ⟨rfl, rfl, Nat.le_of_ble_eq_true rfl, Nat.le_of_ble_eq_true rfl, Nat.le_of_ble_eq_true rfl, Nat.le_of_ble_eq_true rfl⟩ rfl (Nat.le_of_ble_eq_true rfl) d_TCM_object_10
set_option maxHeartbeats 4000000 in
set_option maxRecDepth 100000 in
theorem x_TCM_inside1 {l : Launch} {D : va_G} {t : Nat → ClassId} {ad : Nat → Nat} {C : CS} (htr : l.stackTraces = false) {n i b : Int32} (hn : n < 0 ∨ 15 < n) : Ce l D t ad y_TCM_inside b_TCM_inside 5 (some .long) { frames := 7, cells := 1, slots := 6, locals := 110 } [.ref (ad (ix 0 0)), .int n, .int i, .int b] (C) (X_IAE) (C) := by
  refine ctX_of (by decide) (Nat.le_of_ble_eq_true rfl) ?_
  intro Γ hL hDD hN h r pw
  refine gp_g pw ?_
  refine g_at (L' := [some (.ref (ad (ix 0 0))), some (.int n), some (.int i), some (.int b), none]) rfl rfl rfl ?_
  refine g_iload_n h d_TCM_inside_0 rfl rfl ?_
  refine g_iconst (v := 0) h d_TCM_inside_1 (by decide) ?_
  refine g_bipush (v := 15) h d_TCM_inside_2 (by decide) ?_
  exact g_thruS h r tb_good (by rw [hL, hDD]; exact x_TCM_checkRange htr hn) v_TCM_25 nm_TCM_checkRange rfl ⟨rfl, rfl, Nat.le_of_ble_eq_true rfl, Nat.le_of_ble_eq_true rfl, Nat.le_of_ble_eq_true rfl, Nat.le_of_ble_eq_true rfl⟩ rfl (Nat.le_of_ble_eq_true rfl) d_TCM_inside_4
set_option maxHeartbeats 4000000 in
set_option maxRecDepth 100000 in
theorem x_TCM_code1 {l : Launch} {D : va_G} {t : Nat → ClassId} {ad : Nat → Nat} {C : CS} (htr : l.stackTraces = false) {f i op a b c : Int32} (hf : f < 0 ∨ 3 < f) : Ce l D t ad y_TCM_code b_TCM_code 8 none { frames := 7, cells := 1, slots := 6, locals := 110 } [.ref (ad (ix 0 0)), .int f, .int i, .int op, .int a, .int b, .int c] (C) (X_IAE) (C) := by
  refine ctX_of (by decide) (Nat.le_of_ble_eq_true rfl) ?_
  intro Γ hL hDD hN h r pw
  refine gp_g pw ?_
  refine g_at (L' := [some (.ref (ad (ix 0 0))), some (.int f), some (.int i), some (.int op), some (.int a), some (.int b), some (.int c), none]) rfl rfl rfl ?_
  refine g_iload_n h d_TCM_code_0 rfl rfl ?_
  refine g_iconst (v := 0) h d_TCM_code_1 (by decide) ?_
  refine g_iconst (v := 3) h d_TCM_code_2 (by decide) ?_
  exact g_thruS h r tb_good (by rw [hL, hDD]; exact x_TCM_checkRange htr hf) v_TCM_25 nm_TCM_checkRange rfl ⟨rfl, rfl, Nat.le_of_ble_eq_true rfl, Nat.le_of_ble_eq_true rfl, Nat.le_of_ble_eq_true rfl, Nat.le_of_ble_eq_true rfl⟩ rfl (Nat.le_of_ble_eq_true rfl) d_TCM_code_3
set_option maxHeartbeats 4000000 in
set_option maxRecDepth 100000 in
theorem x_TCM_code2 {l : Launch} {D : va_G} {t : Nat → ClassId} {ad : Nat → Nat} {C : CS} (htr : l.stackTraces = false) {f i op a b c : Int32} (h1 : ¬ f < 0) (h2 : ¬ 3 < f) (hi : i < 0 ∨ 15 < i) : Ce l D t ad y_TCM_code b_TCM_code 8 none { frames := 7, cells := 1, slots := 6, locals := 110 } [.ref (ad (ix 0 0)), .int f, .int i, .int op, .int a, .int b, .int c] (C) (X_IAE) (C) := by
  refine ctX_of (by decide) (Nat.le_of_ble_eq_true rfl) ?_
  intro Γ hL hDD hN h r pw
  refine gp_g pw ?_
  refine g_at (L' := [some (.ref (ad (ix 0 0))), some (.int f), some (.int i), some (.int op), some (.int a), some (.int b), some (.int c), none]) rfl rfl rfl ?_
  refine g_iload_n h d_TCM_code_0 rfl rfl ?_
  refine g_iconst (v := 0) h d_TCM_code_1 (by decide) ?_
  refine g_iconst (v := 3) h d_TCM_code_2 (by decide) ?_
  refine g_dSv h tb_good (c_TCM_checkRange h1 h2) v_TCM_25 nm_TCM_checkRange rfl ⟨rfl, rfl, Nat.le_of_ble_eq_true rfl, Nat.le_of_ble_eq_true rfl, Nat.zero_le _, Nat.zero_le _⟩ rfl (Nat.le_of_ble_eq_true rfl) d_TCM_code_3 ?_
  refine g_iload_n h d_TCM_code_6 rfl rfl ?_
  refine g_iconst (v := 0) h d_TCM_code_7 (by decide) ?_
  refine g_bipush (v := 15) h d_TCM_code_8 (by decide) ?_
  exact g_thruS h r tb_good (by rw [hL, hDD]; exact x_TCM_checkRange htr hi) v_TCM_25 nm_TCM_checkRange rfl ⟨rfl, rfl, Nat.le_of_ble_eq_true rfl, Nat.le_of_ble_eq_true rfl, Nat.le_of_ble_eq_true rfl, Nat.le_of_ble_eq_true rfl⟩ rfl (Nat.le_of_ble_eq_true rfl) d_TCM_code_10
set_option maxHeartbeats 4000000 in
set_option maxRecDepth 100000 in
theorem x_TCM_code3 {l : Launch} {D : va_G} {t : Nat → ClassId} {ad : Nat → Nat} {C : CS} (htr : l.stackTraces = false) {f i op a b c : Int32} (h1 : ¬ f < 0) (h2 : ¬ 3 < f) (h3 : ¬ i < 0) (h4 : ¬ 15 < i) (ho : op < -1 ∨ 21 < op) : Ce l D t ad y_TCM_code b_TCM_code 8 none { frames := 7, cells := 1, slots := 6, locals := 110 } [.ref (ad (ix 0 0)), .int f, .int i, .int op, .int a, .int b, .int c] (C) (X_IAE) (C) := by
  refine ctX_of (by decide) (Nat.le_of_ble_eq_true rfl) ?_
  intro Γ hL hDD hN h r pw
  refine gp_g pw ?_
  refine g_at (L' := [some (.ref (ad (ix 0 0))), some (.int f), some (.int i), some (.int op), some (.int a), some (.int b), some (.int c), none]) rfl rfl rfl ?_
  refine g_iload_n h d_TCM_code_0 rfl rfl ?_
  refine g_iconst (v := 0) h d_TCM_code_1 (by decide) ?_
  refine g_iconst (v := 3) h d_TCM_code_2 (by decide) ?_
  refine g_dSv h tb_good (c_TCM_checkRange h1 h2) v_TCM_25 nm_TCM_checkRange rfl ⟨rfl, rfl, Nat.le_of_ble_eq_true rfl, Nat.le_of_ble_eq_true rfl, Nat.zero_le _, Nat.zero_le _⟩ rfl (Nat.le_of_ble_eq_true rfl) d_TCM_code_3 ?_
  refine g_iload_n h d_TCM_code_6 rfl rfl ?_
  refine g_iconst (v := 0) h d_TCM_code_7 (by decide) ?_
  refine g_bipush (v := 15) h d_TCM_code_8 (by decide) ?_
  refine g_dSv h tb_good (c_TCM_checkRange h3 h4) v_TCM_25 nm_TCM_checkRange rfl ⟨rfl, rfl, Nat.le_of_ble_eq_true rfl, Nat.le_of_ble_eq_true rfl, Nat.zero_le _, Nat.zero_le _⟩ rfl (Nat.le_of_ble_eq_true rfl) d_TCM_code_10 ?_
  refine g_iload_n h d_TCM_code_13 rfl rfl ?_
  refine g_iconst (v := -1) h d_TCM_code_14 (by decide) ?_
  refine g_bipush (v := 21) h d_TCM_code_15 (by decide) ?_
  exact g_thruS h r tb_good (by rw [hL, hDD]; exact x_TCM_checkRange htr ho) v_TCM_25 nm_TCM_checkRange rfl ⟨rfl, rfl, Nat.le_of_ble_eq_true rfl, Nat.le_of_ble_eq_true rfl, Nat.le_of_ble_eq_true rfl, Nat.le_of_ble_eq_true rfl⟩ rfl (Nat.le_of_ble_eq_true rfl) d_TCM_code_17
set_option maxHeartbeats 4000000 in
set_option maxRecDepth 100000 in
theorem x_TCM_setR {l : Launch} {D : va_G} {t : Nat → ClassId} {ad : Nat → Nat} {C : CS} (htr : l.stackTraces = false) {a b c : Nat} (hok : okC C) (ha : a < 6) (hb : b < 6) (hc : c < 6) (hz : ¬ (csetting C (C.2.1 0 0 a) (C.2.1 0 0 b) (C.2.1 0 0 c)).1 = 0) : Ce l D t ad y_TCM_set b_TCM_set 4 none { frames := 8, cells := 1, slots := 6, locals := 130 } [.ref (ad (ix 0 0)), .int (nI a), .int (nI b), .int (nI c)] (C) (xRaise (csetting C (C.2.1 0 0 a) (C.2.1 0 0 b) (C.2.1 0 0 c)).1) ((csetting C (C.2.1 0 0 a) (C.2.1 0 0 b) (C.2.1 0 0 c)).2) := by
  refine ctX_of (by decide) (Nat.le_of_ble_eq_true rfl) ?_
  intro Γ hL hDD hN h r pw
  refine gp_g pw ?_
  refine g_at (L' := [some (.ref (ad (ix 0 0))), some (.int (nI a)), some (.int (nI b)), some (.int (nI c))]) rfl rfl rfl ?_
  refine g_iload_n h d_TCM_set_0 rfl rfl ?_
  refine g_dSv h tb_good (c_TCM_checkGlobal (gi_ok ha)) v_TCM_48 nm_TCM_checkGlobal rfl ⟨rfl, rfl, Nat.le_of_ble_eq_true rfl, Nat.le_of_ble_eq_true rfl, Nat.zero_le _, Nat.zero_le _⟩ rfl (Nat.le_of_ble_eq_true rfl) d_TCM_set_1 ?_
  refine g_iload_n h d_TCM_set_4 rfl rfl ?_
  refine g_dSv h tb_good (c_TCM_checkGlobal (gi_ok hb)) v_TCM_48 nm_TCM_checkGlobal rfl ⟨rfl, rfl, Nat.le_of_ble_eq_true rfl, Nat.le_of_ble_eq_true rfl, Nat.zero_le _, Nat.zero_le _⟩ rfl (Nat.le_of_ble_eq_true rfl) d_TCM_set_5 ?_
  refine g_iload_n h d_TCM_set_8 rfl rfl ?_
  refine g_dSv h tb_good (c_TCM_checkGlobal (gi_ok hc)) v_TCM_48 nm_TCM_checkGlobal rfl ⟨rfl, rfl, Nat.le_of_ble_eq_true rfl, Nat.le_of_ble_eq_true rfl, Nat.zero_le _, Nat.zero_le _⟩ rfl (Nat.le_of_ble_eq_true rfl) d_TCM_set_9 ?_
  refine g_aload_n h d_TCM_set_12 rfl rfl ?_
  refine gf_TCM_heap h f_TCM_12 d_TCM_set_13 ?_
  refine g_aload_n h d_TCM_set_16 rfl rfl ?_
  refine gf_TCM_heap h f_TCM_12 d_TCM_set_17 ?_
  refine gf_Heap_globals h f_TCM_52 d_TCM_set_20 ?_
  refine g_iload_n h d_TCM_set_23 rfl rfl ?_
  refine ga_glo h rfl ha d_TCM_set_24 ?_
  refine g_aload_n h d_TCM_set_25 rfl rfl ?_
  refine gf_TCM_heap h f_TCM_12 d_TCM_set_26 ?_
  refine gf_Heap_globals h f_TCM_52 d_TCM_set_29 ?_
  refine g_iload_n h d_TCM_set_32 rfl rfl ?_
  refine ga_glo h rfl hb d_TCM_set_33 ?_
  refine g_aload_n h d_TCM_set_34 rfl rfl ?_
  refine gf_TCM_heap h f_TCM_12 d_TCM_set_35 ?_
  refine gf_Heap_globals h f_TCM_52 d_TCM_set_38 ?_
  refine g_iload_n h d_TCM_set_41 rfl rfl ?_
  refine ga_glo h rfl hc d_TCM_set_42 ?_
  refine g_dVi h tb_good (c_Heap_setting hok (hok.2.1 _ _ _)) (ix_lt 1 (by decide) _ (by decide)) (wc_at (by decide) (by decide)) rfl v_TCM_73 nm_Heap_setting rfl ⟨rfl, rfl, Nat.le_of_ble_eq_true rfl, Nat.le_of_ble_eq_true rfl, Nat.zero_le _, Nat.zero_le _⟩ rfl (Nat.le_of_ble_eq_true rfl) d_TCM_set_43 ?_
  exact g_thruS h r tb_good (by rw [hL, hDD]; exact x_TCM_raise htr hz) v_TCM_62 nm_TCM_raise rfl ⟨rfl, rfl, Nat.le_of_ble_eq_true rfl, Nat.le_of_ble_eq_true rfl, Nat.le_of_ble_eq_true rfl, Nat.le_of_ble_eq_true rfl⟩ rfl (Nat.le_of_ble_eq_true rfl) d_TCM_set_46
set_option maxHeartbeats 4000000 in
set_option maxRecDepth 100000 in
theorem x_TCM_getR {l : Launch} {D : va_G} {t : Nat → ClassId} {ad : Nat → Nat} {C : CS} (htr : l.stackTraces = false) {a b c : Nat} (hok : okC C) (ha : a < 6) (hb : b < 6) (hc : c < 6) (hz : ¬ (cgetting C (C.2.1 0 0 a) (C.2.1 0 0 b)).1 = 0) : Ce l D t ad y_TCM_get b_TCM_get 4 (some .long) { frames := 8, cells := 1, slots := 6, locals := 130 } [.ref (ad (ix 0 0)), .int (nI a), .int (nI b), .int (nI c)] (C) (xRaise (cgetting C (C.2.1 0 0 a) (C.2.1 0 0 b)).1) ((cgetting C (C.2.1 0 0 a) (C.2.1 0 0 b)).2) := by
  refine ctX_of (by decide) (Nat.le_of_ble_eq_true rfl) ?_
  intro Γ hL hDD hN h r pw
  refine gp_g pw ?_
  refine g_at (L' := [some (.ref (ad (ix 0 0))), some (.int (nI a)), some (.int (nI b)), some (.int (nI c))]) rfl rfl rfl ?_
  refine g_iload_n h d_TCM_get_0 rfl rfl ?_
  refine g_dSv h tb_good (c_TCM_checkGlobal (gi_ok ha)) v_TCM_48 nm_TCM_checkGlobal rfl ⟨rfl, rfl, Nat.le_of_ble_eq_true rfl, Nat.le_of_ble_eq_true rfl, Nat.zero_le _, Nat.zero_le _⟩ rfl (Nat.le_of_ble_eq_true rfl) d_TCM_get_1 ?_
  refine g_iload_n h d_TCM_get_4 rfl rfl ?_
  refine g_dSv h tb_good (c_TCM_checkGlobal (gi_ok hb)) v_TCM_48 nm_TCM_checkGlobal rfl ⟨rfl, rfl, Nat.le_of_ble_eq_true rfl, Nat.le_of_ble_eq_true rfl, Nat.zero_le _, Nat.zero_le _⟩ rfl (Nat.le_of_ble_eq_true rfl) d_TCM_get_5 ?_
  refine g_iload_n h d_TCM_get_8 rfl rfl ?_
  refine g_dSv h tb_good (c_TCM_checkGlobal (gi_ok hc)) v_TCM_48 nm_TCM_checkGlobal rfl ⟨rfl, rfl, Nat.le_of_ble_eq_true rfl, Nat.le_of_ble_eq_true rfl, Nat.zero_le _, Nat.zero_le _⟩ rfl (Nat.le_of_ble_eq_true rfl) d_TCM_get_9 ?_
  refine g_aload_n h d_TCM_get_12 rfl rfl ?_
  refine gf_TCM_heap h f_TCM_12 d_TCM_get_13 ?_
  refine g_aload_n h d_TCM_get_16 rfl rfl ?_
  refine gf_TCM_heap h f_TCM_12 d_TCM_get_17 ?_
  refine gf_Heap_globals h f_TCM_52 d_TCM_get_20 ?_
  refine g_iload_n h d_TCM_get_23 rfl rfl ?_
  refine ga_glo h rfl ha d_TCM_get_24 ?_
  refine g_aload_n h d_TCM_get_25 rfl rfl ?_
  refine gf_TCM_heap h f_TCM_12 d_TCM_get_26 ?_
  refine gf_Heap_globals h f_TCM_52 d_TCM_get_29 ?_
  refine g_iload_n h d_TCM_get_32 rfl rfl ?_
  refine ga_glo h rfl hb d_TCM_get_33 ?_
  refine g_dVi h tb_good (c_Heap_getting hok (hok.2.1 _ _ _)) (ix_lt 1 (by decide) _ (by decide)) (wc_at (by decide) (by decide)) rfl v_TCM_77 nm_Heap_getting rfl ⟨rfl, rfl, Nat.le_of_ble_eq_true rfl, Nat.le_of_ble_eq_true rfl, Nat.zero_le _, Nat.zero_le _⟩ rfl (Nat.le_of_ble_eq_true rfl) d_TCM_get_34 ?_
  exact g_thruS h r tb_good (by rw [hL, hDD]; exact x_TCM_raise htr hz) v_TCM_62 nm_TCM_raise rfl ⟨rfl, rfl, Nat.le_of_ble_eq_true rfl, Nat.le_of_ble_eq_true rfl, Nat.le_of_ble_eq_true rfl, Nat.le_of_ble_eq_true rfl⟩ rfl (Nat.le_of_ble_eq_true rfl) d_TCM_get_37
set_option maxHeartbeats 4000000 in
set_option maxRecDepth 100000 in
theorem x_TCM_metaR {l : Launch} {D : va_G} {t : Nat → ClassId} {ad : Nat → Nat} {C : CS} (htr : l.stackTraces = false) {a b : Nat} (hok : okC C) (ha : a < 6) (hb : b < 6) (hz : ¬ (csetMeta C (C.2.1 0 0 a) (C.2.1 0 0 b)).1 = 0) : Ce l D t ad y_TCM_meta b_TCM_meta 3 none { frames := 8, cells := 1, slots := 6, locals := 130 } [.ref (ad (ix 0 0)), .int (nI a), .int (nI b)] (C) (xRaise (csetMeta C (C.2.1 0 0 a) (C.2.1 0 0 b)).1) ((csetMeta C (C.2.1 0 0 a) (C.2.1 0 0 b)).2) := by
  refine ctX_of (by decide) (Nat.le_of_ble_eq_true rfl) ?_
  intro Γ hL hDD hN h r pw
  refine gp_g pw ?_
  refine g_at (L' := [some (.ref (ad (ix 0 0))), some (.int (nI a)), some (.int (nI b))]) rfl rfl rfl ?_
  refine g_iload_n h d_TCM_meta_0 rfl rfl ?_
  refine g_dSv h tb_good (c_TCM_checkGlobal (gi_ok ha)) v_TCM_48 nm_TCM_checkGlobal rfl ⟨rfl, rfl, Nat.le_of_ble_eq_true rfl, Nat.le_of_ble_eq_true rfl, Nat.zero_le _, Nat.zero_le _⟩ rfl (Nat.le_of_ble_eq_true rfl) d_TCM_meta_1 ?_
  refine g_iload_n h d_TCM_meta_4 rfl rfl ?_
  refine g_dSv h tb_good (c_TCM_checkGlobal (gi_ok hb)) v_TCM_48 nm_TCM_checkGlobal rfl ⟨rfl, rfl, Nat.le_of_ble_eq_true rfl, Nat.le_of_ble_eq_true rfl, Nat.zero_le _, Nat.zero_le _⟩ rfl (Nat.le_of_ble_eq_true rfl) d_TCM_meta_5 ?_
  refine g_aload_n h d_TCM_meta_8 rfl rfl ?_
  refine gf_TCM_heap h f_TCM_12 d_TCM_meta_9 ?_
  refine g_aload_n h d_TCM_meta_12 rfl rfl ?_
  refine gf_TCM_heap h f_TCM_12 d_TCM_meta_13 ?_
  refine gf_Heap_globals h f_TCM_52 d_TCM_meta_16 ?_
  refine g_iload_n h d_TCM_meta_19 rfl rfl ?_
  refine ga_glo h rfl ha d_TCM_meta_20 ?_
  refine g_aload_n h d_TCM_meta_21 rfl rfl ?_
  refine gf_TCM_heap h f_TCM_12 d_TCM_meta_22 ?_
  refine gf_Heap_globals h f_TCM_52 d_TCM_meta_25 ?_
  refine g_iload_n h d_TCM_meta_28 rfl rfl ?_
  refine ga_glo h rfl hb d_TCM_meta_29 ?_
  refine g_dVi h tb_good (c_Heap_settingMeta hok (hok.2.1 _ _ _) (hok.2.1 _ _ _)) (ix_lt 1 (by decide) _ (by decide)) (wc_at (by decide) (by decide)) rfl v_TCM_81 nm_Heap_settingMeta rfl ⟨rfl, rfl, Nat.le_of_ble_eq_true rfl, Nat.le_of_ble_eq_true rfl, Nat.zero_le _, Nat.zero_le _⟩ rfl (Nat.le_of_ble_eq_true rfl) d_TCM_meta_30 ?_
  exact g_thruS h r tb_good (by rw [hL, hDD]; exact x_TCM_raise htr hz) v_TCM_62 nm_TCM_raise rfl ⟨rfl, rfl, Nat.le_of_ble_eq_true rfl, Nat.le_of_ble_eq_true rfl, Nat.le_of_ble_eq_true rfl, Nat.le_of_ble_eq_true rfl⟩ rfl (Nat.le_of_ble_eq_true rfl) d_TCM_meta_33
set_option maxHeartbeats 4000000 in
set_option maxRecDepth 100000 in
theorem x_TCM_resumeR {l : Launch} {D : va_G} {t : Nat → ClassId} {ad : Nat → Nat} {C : CS} (htr : l.stackTraces = false) {a b c : Nat} {M : CS} (hR : RR C M) (ha : a < 6) (hb : b < 6) (hc : c < 6) (hz : ¬ (crunT C (C.2.1 0 0 a) (C.2.1 0 0 b)).1 = 0) : Ce l D t ad y_TCM_resume b_TCM_resume 4 (some .long) { frames := 8, cells := 1, slots := 6, locals := 180 } [.ref (ad (ix 0 0)), .int (nI a), .int (nI b), .int (nI c)] (C) (xRaise (crunT C (C.2.1 0 0 a) (C.2.1 0 0 b)).1) ((crunT C (C.2.1 0 0 a) (C.2.1 0 0 b)).2) := by
  refine ctX_of (by decide) (Nat.le_of_ble_eq_true rfl) ?_
  intro Γ hL hDD hN h r pw
  refine gp_g pw ?_
  refine g_at (L' := [some (.ref (ad (ix 0 0))), some (.int (nI a)), some (.int (nI b)), some (.int (nI c))]) rfl rfl rfl ?_
  refine g_iload_n h d_TCM_resume_0 rfl rfl ?_
  refine g_dSv h tb_good (c_TCM_checkGlobal (gi_ok ha)) v_TCM_48 nm_TCM_checkGlobal rfl ⟨rfl, rfl, Nat.le_of_ble_eq_true rfl, Nat.le_of_ble_eq_true rfl, Nat.zero_le _, Nat.zero_le _⟩ rfl (Nat.le_of_ble_eq_true rfl) d_TCM_resume_1 ?_
  refine g_iload_n h d_TCM_resume_4 rfl rfl ?_
  refine g_dSv h tb_good (c_TCM_checkGlobal (gi_ok hb)) v_TCM_48 nm_TCM_checkGlobal rfl ⟨rfl, rfl, Nat.le_of_ble_eq_true rfl, Nat.le_of_ble_eq_true rfl, Nat.zero_le _, Nat.zero_le _⟩ rfl (Nat.le_of_ble_eq_true rfl) d_TCM_resume_5 ?_
  refine g_iload_n h d_TCM_resume_8 rfl rfl ?_
  refine g_dSv h tb_good (c_TCM_checkGlobal (gi_ok hc)) v_TCM_48 nm_TCM_checkGlobal rfl ⟨rfl, rfl, Nat.le_of_ble_eq_true rfl, Nat.le_of_ble_eq_true rfl, Nat.zero_le _, Nat.zero_le _⟩ rfl (Nat.le_of_ble_eq_true rfl) d_TCM_resume_9 ?_
  refine g_aload_n h d_TCM_resume_12 rfl rfl ?_
  refine gf_TCM_processor h f_TCM_21 d_TCM_resume_13 ?_
  refine g_aload_n h d_TCM_resume_16 rfl rfl ?_
  refine gf_TCM_heap h f_TCM_12 d_TCM_resume_17 ?_
  refine gf_Heap_globals h f_TCM_52 d_TCM_resume_20 ?_
  refine g_iload_n h d_TCM_resume_23 rfl rfl ?_
  refine ga_glo h rfl ha d_TCM_resume_24 ?_
  refine g_aload_n h d_TCM_resume_25 rfl rfl ?_
  refine gf_TCM_heap h f_TCM_12 d_TCM_resume_26 ?_
  refine gf_Heap_globals h f_TCM_52 d_TCM_resume_29 ?_
  refine g_iload_n h d_TCM_resume_32 rfl rfl ?_
  refine ga_glo h rfl hb d_TCM_resume_33 ?_
  refine g_dVi h tb_good (c_Pro_run (I := fun tr X => ∃ M, KK tr X M) hR.1.1 (hR.1.1.2.1 _ _ _) (fun _ _ z => KK_okC z) (fun _ z w => KK_cpreE z w) (fun _ z w => KK_stepE z w) ⟨_, start_KN hR ha hb⟩) (ix_lt 10 (by decide) _ (by decide)) (wc_at (by decide) (by decide)) rfl v_TCM_84 nm_Pro_run rfl ⟨rfl, rfl, Nat.le_of_ble_eq_true rfl, Nat.le_of_ble_eq_true rfl, Nat.zero_le _, Nat.zero_le _⟩ rfl (Nat.le_of_ble_eq_true rfl) d_TCM_resume_34 ?_
  exact g_thruS h r tb_good (by rw [hL, hDD]; exact x_TCM_raise htr hz) v_TCM_62 nm_TCM_raise rfl ⟨rfl, rfl, Nat.le_of_ble_eq_true rfl, Nat.le_of_ble_eq_true rfl, Nat.le_of_ble_eq_true rfl, Nat.le_of_ble_eq_true rfl⟩ rfl (Nat.le_of_ble_eq_true rfl) d_TCM_resume_37
set_option maxHeartbeats 4000000 in
set_option maxRecDepth 100000 in
theorem x_TCM_makeR {l : Launch} {D : va_G} {t : Nat → ClassId} {ad : Nat → Nat} {C : CS} (htr : l.stackTraces = false) {g : Nat} {f : Option Nat} (hok : okC C) (hg : g < 6) (hf : ∀ j, f = some j → j < 4) (hz : ¬ (ccreate C (match f with | none => 1 | some _ => 2) (enc f)).1 = 0) : Ce l D t ad y_TCM_make b_TCM_make 3 (some .int) { frames := 8, cells := 1, slots := 6, locals := 130 } [.ref (ad (ix 0 0)), .int (nI g), .int (enc f)] (C) (xRaise (ccreate C (match f with | none => 1 | some _ => 2) (enc f)).1) ((ccreate C (match f with | none => 1 | some _ => 2) (enc f)).2) := by
  refine ctX_of (by decide) (Nat.le_of_ble_eq_true rfl) ?_
  intro Γ hL hDD hN h r pw
  refine gp_g pw ?_
  rcases f with _ | f
  · simp only [enc] at hz
    refine g_at (L' := [some (.ref (ad (ix 0 0))), some (.int (nI g)), some (.int (-1))]) rfl rfl rfl ?_
    refine g_iload_n h d_TCM_make_0 rfl rfl ?_
    refine g_dSv h tb_good (c_TCM_checkGlobal (gi_ok hg)) v_TCM_48 nm_TCM_checkGlobal rfl ⟨rfl, rfl, Nat.le_of_ble_eq_true rfl, Nat.le_of_ble_eq_true rfl, Nat.zero_le _, Nat.zero_le _⟩ rfl (Nat.le_of_ble_eq_true rfl) d_TCM_make_1 ?_
    refine g_iload_n h d_TCM_make_4 rfl rfl ?_
    refine g_iconst (v := -1) h d_TCM_make_5 (by decide) ?_
    refine g_iconst (v := 3) h d_TCM_make_6 (by decide) ?_
    refine g_dSv h tb_good (c_TCM_checkRange (by decide) (by decide)) v_TCM_25 nm_TCM_checkRange rfl ⟨rfl, rfl, Nat.le_of_ble_eq_true rfl, Nat.le_of_ble_eq_true rfl, Nat.zero_le _, Nat.zero_le _⟩ rfl (Nat.le_of_ble_eq_true rfl) d_TCM_make_7 ?_
    refine g_aload_n h d_TCM_make_10 rfl rfl ?_
    refine gf_TCM_heap h f_TCM_12 d_TCM_make_11 ?_
    refine g_iload_n h d_TCM_make_14 rfl rfl ?_
    refine g_if_ge (tgt := 22) h d_TCM_make_15 (by decide) (fun c_15 => ?_) (fun c_15 => ?_)
    · exact absurd c_15 (by decide)
    · refine g_iconst (v := 1) h d_TCM_make_18 (by decide) ?_
      refine g_goto (tgt := 23) h d_TCM_make_19 (by decide) ?_
      refine g_iload_n h d_TCM_make_23 rfl rfl ?_
      refine g_dVi h tb_good (c_Heap_create hok) (ix_lt 1 (by decide) _ (by decide)) (wc_at (by decide) (by decide)) rfl v_TCM_58 nm_Heap_create rfl ⟨rfl, rfl, Nat.le_of_ble_eq_true rfl, Nat.le_of_ble_eq_true rfl, Nat.zero_le _, Nat.zero_le _⟩ rfl (Nat.le_of_ble_eq_true rfl) d_TCM_make_24 ?_
      exact g_thruS h r tb_good (by rw [hL, hDD]; exact x_TCM_raise htr hz) v_TCM_62 nm_TCM_raise rfl ⟨rfl, rfl, Nat.le_of_ble_eq_true rfl, Nat.le_of_ble_eq_true rfl, Nat.le_of_ble_eq_true rfl, Nat.le_of_ble_eq_true rfl⟩ rfl (Nat.le_of_ble_eq_true rfl) d_TCM_make_27
  · have hf := hf f rfl
    simp only [enc] at hz
    refine g_at (L' := [some (.ref (ad (ix 0 0))), some (.int (nI g)), some (.int (nI f))]) rfl rfl rfl ?_
    refine g_iload_n h d_TCM_make_0 rfl rfl ?_
    refine g_dSv h tb_good (c_TCM_checkGlobal (gi_ok hg)) v_TCM_48 nm_TCM_checkGlobal rfl ⟨rfl, rfl, Nat.le_of_ble_eq_true rfl, Nat.le_of_ble_eq_true rfl, Nat.zero_le _, Nat.zero_le _⟩ rfl (Nat.le_of_ble_eq_true rfl) d_TCM_make_1 ?_
    refine g_iload_n h d_TCM_make_4 rfl rfl ?_
    refine g_iconst (v := -1) h d_TCM_make_5 (by decide) ?_
    refine g_iconst (v := 3) h d_TCM_make_6 (by decide) ?_
    refine g_dSv h tb_good (c_TCM_checkRange (rg_m1 (by omega)) (rg_hi (m := 3) (by omega) (by decide))) v_TCM_25 nm_TCM_checkRange rfl ⟨rfl, rfl, Nat.le_of_ble_eq_true rfl, Nat.le_of_ble_eq_true rfl, Nat.zero_le _, Nat.zero_le _⟩ rfl (Nat.le_of_ble_eq_true rfl) d_TCM_make_7 ?_
    refine g_aload_n h d_TCM_make_10 rfl rfl ?_
    refine gf_TCM_heap h f_TCM_12 d_TCM_make_11 ?_
    refine g_iload_n h d_TCM_make_14 rfl rfl ?_
    refine g_if_ge (tgt := 22) h d_TCM_make_15 (by decide) (fun c_15 => ?_) (fun c_15 => ?_)
    · refine g_iconst (v := 2) h d_TCM_make_22 (by decide) ?_
      refine g_iload_n h d_TCM_make_23 rfl rfl ?_
      refine g_dVi h tb_good (c_Heap_create hok) (ix_lt 1 (by decide) _ (by decide)) (wc_at (by decide) (by decide)) rfl v_TCM_58 nm_Heap_create rfl ⟨rfl, rfl, Nat.le_of_ble_eq_true rfl, Nat.le_of_ble_eq_true rfl, Nat.zero_le _, Nat.zero_le _⟩ rfl (Nat.le_of_ble_eq_true rfl) d_TCM_make_24 ?_
      exact g_thruS h r tb_good (by rw [hL, hDD]; exact x_TCM_raise htr hz) v_TCM_62 nm_TCM_raise rfl ⟨rfl, rfl, Nat.le_of_ble_eq_true rfl, Nat.le_of_ble_eq_true rfl, Nat.le_of_ble_eq_true rfl, Nat.le_of_ble_eq_true rfl⟩ rfl (Nat.le_of_ble_eq_true rfl) d_TCM_make_27
    · exact absurd (nI_pos' (by omega)) c_15
