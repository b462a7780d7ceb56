def fn_X9_floor (a1 : Int32) (a2 : Int32)  (w : ky_MV) : Int32 × ky_MV :=
  fn_X9_take (a1) ((0 : Int32)) (a2) w
def fk_X9_floor (a1 : Int32) (a2 : Int32)  (w : ky_MV) : Prop :=
  ((fk_X9_take (a1) ((0 : Int32)) (a2) w) ∧ (True)) ∧ True
set_option linter.constructorNameAsVariable false in
set_option maxHeartbeats 4000000 in
set_option maxRecDepth 100000 in
theorem mt_X9_floor (l : Launch) (G : ky_G) (mo cs : Nat) (N : Nat → Prop) (w : ky_MV) (f : Nat → Option Nat)    (a1 : Int32) (a2 : Int32) (sz : Nat) (hk : fk_X9_floor a1 a2 w) : Met l my_X9_floor (.code my_X9_floor prog_10_method_23_code 3 (some .int) :: ky_B) { frames := 7, cells := 1, slots := 2, locals := 150 } (ky_P G [.ref mo, .int (a1), .int (a2)] (ky_WM G mo cs w f) sz (fun H => ky_IT G mo cs N f w.2.2.2.2 H)) (ky_Q (S := ky_MV × (Nat → Option Nat)) G (va_A (ky_WM G mo cs w f) sz) (fun v u => v = some (.int (fn_X9_floor a1 a2 w).1) ∧ u.1 = (fn_X9_floor a1 a2 w).2) (fun u => ky_WM G mo cs u.1 u.2) (fun u H => ky_IT G mo cs N u.2 u.1.2.2.2.2 H)) 1 2 (va_A (ky_WM G mo cs w f) sz) := by
  refine ky_start (by decide) (Nat.le_of_ble_eq_true rfl) (fun p e s m below meth c F hE A hAe hsz hA hfr hP hD hS hX ls hl => ?_)
  obtain ⟨hx, hb, hml, hown, hr, hlocks, hts⟩ := id F
  have hIT0 := hX
  have hIT := hIT0
  have hl : lv_has ls 3 [(0, .ref mo), (1, .int (a1)), (2, .int (a2))] := hl
  have hP : va_P G.1 kcl [(mo, .inr (5, [.int (w.1), .ref cs, .int (w.2.1), .int (w.2.2.1), .int (w.2.2.2.1)])), (cs, .inl (G.2.1 3, 6, .inr (.inr (.inr (.inr (f))))))] s.heap := hP
  have hD : va_D A [(mo, .inr (5, [.int (w.1), .ref cs, .int (w.2.1), .int (w.2.2.1), .int (w.2.2.2.1)])), (cs, .inl (G.2.1 3, 6, .inr (.inr (.inr (.inr (f))))))] := hD
  have hw : fn_X9_floor a1 a2 w = _ := (fn_X9_floor.eq_1 a1 a2 w).trans (ky_eta _)
  have hk : (fk_X9_take (a1) ((0 : Int32)) (a2) w) ∧ (True) := hk.1
  refine lv_aload_n hx hb dc_X9_floor_0 rfl (lv_at hl 0 rfl) ?_
  refine lv_iload_n hx hb dc_X9_floor_1 rfl (lv_at hl 1 rfl) ?_
  refine lv_iconst (v := 0) hx hb dc_X9_floor_2 (by decide) ?_
  refine lv_iload_n hx hb dc_X9_floor_3 rfl (lv_at hl 2 rfl) ?_
  obtain ⟨hq_0, hk⟩ := hk
  refine ky_cVh (As := [.int (a1), .int ((0 : Int32)), .int (a2)]) (wr := []) F (hE.at hfr hS) hfr (mt_X9_take l G mo cs N w (f)    (a1) ((0 : Int32)) (a2) s.heap.size hq_0) kv_X9_112 ⟨⟨rfl, rfl⟩, by decide, by decide⟩ rfl hl.1 rfl (Nat.le_of_ble_eq_true rfl) ⟨Nat.le_of_ble_eq_true rfl, Nat.le_of_ble_eq_true rfl⟩ (va_recv hE.1 hP (ci := 5) (q0 := 0) rfl rfl) hIT hP hD hS hA [0, 1] [] rfl rfl (by decide) (by decide) (by decide) dc_X9_floor_4 ?_
  rintro v9 ⟨w_1, f_1⟩ H locs ⟨rfl, hw_1⟩ hP hD hS hIT9 hz hk9
  have hw_1 : w_1 = (fn_X9_take (a1) ((0 : Int32)) (a2) w).2 := hw_1
  try rw [← hw_1] at hw
  try rw [← hw_1] at hk
  have hP : va_P G.1 kcl [(mo, .inr (5, [.int ((w_1).1), .ref cs, .int ((w_1).2.1), .int ((w_1).2.2.1), .int ((w_1).2.2.2.1)])), (cs, .inl (G.2.1 3, 6, .inr (.inr (.inr (.inr (f_1))))))] H := hP
  have hD : va_D A [(mo, .inr (5, [.int ((w_1).1), .ref cs, .int ((w_1).2.1), .int ((w_1).2.2.1), .int ((w_1).2.2.2.1)])), (cs, .inl (G.2.1 3, 6, .inr (.inr (.inr (.inr (f_1))))))] := hD
  have hIT : ky_IT G mo cs N f_1 ((w_1).2.2.2.2) H := hIT9
  refine W.widen (k := 1) (n := 2) (Nat.le_refl _) (Nat.le_refl _) ?_
  have hP9 : va_P G.1 kcl (ky_WM G mo cs ((w_1)) (f_1)) H := hP.sub [0, 1] rfl
  have hD9 : va_D A (ky_WM G mo cs ((w_1)) (f_1)) := hD.sub [0, 1] (by decide) rfl
  refine W.widen (k := 1) (n := 2) (Nat.le_of_ble_eq_true rfl) (Nat.le_of_ble_eq_true rfl) ?_
  exact W.iret (v := (fn_X9_take (a1) ((0 : Int32)) (a2) w).1) hx hb hr (fun t ht hW => ⟨by rw [ht]; exact ky_endM (fun z => some (.int z)) ((fn_X9_take (a1) ((0 : Int32)) (a2) w).1) hw hP9 hD9 (hIT), hS.F ht⟩) hS.2.2 dc_X9_floor_7
