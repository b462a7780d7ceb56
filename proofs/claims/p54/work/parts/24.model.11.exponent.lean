def fn_X9_exponent (a1 : Int32)  (w : ky_MV) : Int32 × ky_MV :=
  if (jst (fn_X9_isNo (a1))) = (0 : Int32) then ((fn_X8_exponent ((w.2.2.2.2) (a1).toNatClampNeg), (jst (fn_X9_isNo (a1)), w.2.1, w.2.2.1, w.2.2.2.1, w.2.2.2.2))) else (((0 : Int32), (jst (fn_X9_isNo (a1)), w.2.1, w.2.2.1, w.2.2.2.1, w.2.2.2.2)))
set_option linter.constructorNameAsVariable false in
set_option maxHeartbeats 4000000 in
set_option maxRecDepth 100000 in
theorem mt_X9_exponent (l : Launch) (G : ky_G) (mo cs : Nat) (N : Nat → Prop) (w : ky_MV) (f : Nat → Option Nat)    (a1 : Int32) (sz : Nat) : Met l my_X9_exponent (.code my_X9_exponent prog_10_method_43_code 2 (some .int) :: ky_B) { frames := 2, cells := 0, slots := 0, locals := 43 } (ky_P G [.ref mo, .int (a1)] (ky_WM G mo cs w f) sz (fun H => ky_IT G mo cs N f w.2.2.2.2 H)) (ky_Q (S := ky_MV × (Nat → Option Nat)) G (va_A (ky_WM G mo cs w f) sz) (fun v u => v = some (.int (fn_X9_exponent a1 w).1) ∧ u.1 = (fn_X9_exponent a1 w).2) (fun u => ky_WM G mo cs u.1 u.2) (fun u H => ky_IT G mo cs N u.2 u.1.2.2.2.2 H)) 0 0 (va_A (ky_WM G mo cs w f) sz) := by
  refine ky_start (by decide) (Nat.le_of_ble_eq_true rfl) (fun p e s m below meth c F hE A hAe hsz hA hfr hP hD hS hX ls hl => ?_)
  obtain ⟨hx, hb, hml, hown, hr, hlocks, hts⟩ := id F
  have hIT0 := hX
  have hIT := hIT0
  have hl : lv_has ls 2 [(0, .ref mo), (1, .int (a1))] := hl
  have hP : va_P G.1 kcl [(mo, .inr (5, [.int (w.1), .ref cs, .int (w.2.1), .int (w.2.2.1), .int (w.2.2.2.1)])), (cs, .inl (G.2.1 3, 6, .inr (.inr (.inr (.inr (f))))))] s.heap := hP
  have hD : va_D A [(mo, .inr (5, [.int (w.1), .ref cs, .int (w.2.1), .int (w.2.2.1), .int (w.2.2.2.1)])), (cs, .inl (G.2.1 3, 6, .inr (.inr (.inr (.inr (f))))))] := hD
  have hw : fn_X9_exponent a1 w = _ := fn_X9_exponent.eq_1 a1 w
  refine lv_aload_n hx hb dc_X9_exponent_0 rfl (lv_at hl 0 rfl) ?_
  refine lv_iload_n hx hb dc_X9_exponent_1 rfl (lv_at hl 1 rfl) ?_
  refine ky_cS0 (As := [.int (a1)]) F (mt_X9_isNo l (a1)) ks_X9_51 ⟨⟨rfl, rfl⟩, by decide, by decide⟩ rfl hl.1 rfl (Nat.le_of_ble_eq_true rfl) ⟨Nat.le_of_ble_eq_true rfl, Nat.le_of_ble_eq_true rfl⟩ dc_X9_exponent_2 ?_
  refine ky_cVh (As := [.int (fn_X9_isNo (a1))]) (wr := []) F (hE.at hfr hS) hfr (mt_X9_startJ l G (mo) (cs) ((w.1, w.2.1, w.2.2.1, w.2.2.2.1)) (f) (fn_X9_isNo (a1)) s.heap.size ) kv_X9_55 ⟨⟨rfl, rfl⟩, by decide, by decide⟩ rfl hl.1 rfl (Nat.le_of_ble_eq_true rfl) ⟨Nat.le_of_ble_eq_true rfl, Nat.le_of_ble_eq_true rfl⟩ (va_recv hE.1 hP (ci := 5) (q0 := 0) rfl rfl) trivial hP hD hS hA [0, 1] [] rfl rfl (by decide) (by decide) (by decide) dc_X9_exponent_5 ?_
  rintro v9 u9 H locs ⟨rfl, rfl⟩ hP hD hS - hz hk9
  obtain ⟨j_1, hj_1⟩ : ∃ j9, j9 = jst (fn_X9_isNo (a1)) := ⟨_, rfl⟩
  rw [← hj_1] at hP hD ⊢
  try rw [← hj_1] at hw
  have hP : va_P G.1 kcl [(mo, .inr (5, [.int (j_1), .ref cs, .int (w.2.1), .int (w.2.2.1), .int (w.2.2.2.1)])), (cs, .inl (G.2.1 3, 6, .inr (.inr (.inr (.inr (f))))))] H := hP
  have hD : va_D A [(mo, .inr (5, [.int (j_1), .ref cs, .int (w.2.1), .int (w.2.2.1), .int (w.2.2.2.1)])), (cs, .inl (G.2.1 3, 6, .inr (.inr (.inr (.inr (f))))))] := hD
  have hIT := hIT0.ro hAe hS
  refine W.widen (k := 0) (n := 0) (Nat.le_refl _) (Nat.le_refl _) ?_
  refine lv_if_eq (tgt := 15) hx hb dc_X9_exponent_8 (by decide) (fun c_2 => ?_) (fun c_2 => ?_)
  · have hw := hw.trans (if_pos c_2)
    refine lv_aload_n hx hb dc_X9_exponent_15 rfl (lv_at hl 0 rfl) ?_
    refine va_get (D := G.1) (ci := 5) (v := .ref cs) (C := RX9) (T := TX9) (N := 5) hx hb hts ki_X9 hown hE.1 hP 0 rfl rfl 1 (by decide) (hts _ kw_6_20) (fun _ h9 => h9) rfl dc_X9_exponent_16 ?_
    refine lv_iload_n hx hb dc_X9_exponent_19 rfl (lv_at hl 1 rfl) ?_
    refine va_aldq hx hb hE.1 hP 1 3 rfl rfl (lr_start (hj_1.symm.trans c_2)) dc_X9_exponent_20 ?_
    obtain ⟨b_3, hb_3, hI_3, ho_3⟩ := hIT.2 _ (ky_i6 (lr_start (hj_1.symm.trans c_2)))
    rw [ky_rf hb_3]
    have hX_3 : ky_It G b_3 ((w.2.2.2.2) (a1).toNatClampNeg) s.heap := by obtain ⟨b9, e9, i9, -⟩ := hIT0.2 _ (ky_i6 (lr_start (hj_1.symm.trans c_2))); have z9 : b9 = b_3 := Option.some.inj (e9.symm.trans hb_3); exact z9 ▸ i9
    refine ky_cV1 (As := []) F (hE.at hfr hS) (mt_X8_exponent l G (b_3) (((w.2.2.2.2) (a1).toNatClampNeg)) ) kv_X9_137 ⟨⟨rfl, rfl⟩, by decide, by decide⟩ rfl hl.1 rfl (Nat.le_of_ble_eq_true rfl) ⟨Nat.le_of_ble_eq_true rfl, Nat.le_of_ble_eq_true rfl⟩ (va_recv hE.1 hI_3 (ci := 4) (q0 := 0) rfl rfl) hI_3 dc_X9_exponent_21 ?_
    have hP9 : va_P G.1 kcl (ky_WM G mo cs ((j_1, w.2.1, w.2.2.1, w.2.2.2.1, w.2.2.2.2)) (f)) H := hP.sub [0, 1] rfl
    have hD9 : va_D A (ky_WM G mo cs ((j_1, w.2.1, w.2.2.1, w.2.2.2.1, w.2.2.2.2)) (f)) := hD.sub [0, 1] (by decide) rfl
    refine W.widen (k := 0) (n := 0) (Nat.le_of_ble_eq_true rfl) (Nat.le_of_ble_eq_true rfl) ?_
    exact W.iret (v := fn_X8_exponent ((w.2.2.2.2) (a1).toNatClampNeg)) hx hb hr (fun t ht hW => ⟨by rw [ht]; exact ky_endM (fun z => some (.int z)) (fn_X8_exponent ((w.2.2.2.2) (a1).toNatClampNeg)) hw hP9 hD9 (hIT), hS.F ht⟩) hS.2.2 dc_X9_exponent_24
  · have hw := hw.trans (if_neg c_2)
    refine lv_iconst (v := 0) hx hb dc_X9_exponent_11 (by decide) ?_
    refine lv_goto (tgt := 24) hx hb dc_X9_exponent_12 (by decide) ?_
    have hP9 : va_P G.1 kcl (ky_WM G mo cs ((j_1, w.2.1, w.2.2.1, w.2.2.2.1, w.2.2.2.2)) (f)) H := hP.sub [0, 1] rfl
    have hD9 : va_D A (ky_WM G mo cs ((j_1, w.2.1, w.2.2.1, w.2.2.2.1, w.2.2.2.2)) (f)) := hD.sub [0, 1] (by decide) rfl
    refine W.widen (k := 0) (n := 0) (Nat.le_of_ble_eq_true rfl) (Nat.le_of_ble_eq_true rfl) ?_
    exact W.iret (v := (0 : Int32)) hx hb hr (fun t ht hW => ⟨by rw [ht]; exact ky_endM (fun z => some (.int z)) ((0 : Int32)) hw hP9 hD9 (hIT), hS.F ht⟩) hS.2.2 dc_X9_exponent_24
