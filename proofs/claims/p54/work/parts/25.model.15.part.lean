def fn_X9_part (a1 : Int32) (a2 : Int32)  (w : ky_MV) : Int32 × ky_MV :=
  if (a2) = (0 : Int32) then (((jlshr (fn_X8_rounded ((0 : Int32)) ((w.2.2.2.2) (a1).toNatClampNeg)) ((0 : Int32))).toInt32, w)) else (((jlshr (fn_X8_rounded ((0 : Int32)) ((w.2.2.2.2) (a1).toNatClampNeg)) ((32 : Int32))).toInt32, w))
set_option linter.constructorNameAsVariable false in
set_option maxHeartbeats 4000000 in
set_option maxRecDepth 100000 in
theorem mt_X9_part (l : Launch) (G : ky_G) (mo cs : Nat) (N : Nat → Prop) (w : ky_MV) (f : Nat → Option Nat)    (a1 : Int32) (a2 : Int32) (sz : Nat) (h1 : vp_in (a1) 6) : Met l my_X9_part (.code my_X9_part prog_10_method_44_code 3 (some .int) :: ky_B) { frames := 5, cells := 0, slots := 0, locals := 110 } (ky_P G [.ref mo, .int (a1), .int (a2)] (ky_WM G mo cs w f) sz (fun H => ky_IT G mo cs N f w.2.2.2.2 H)) (ky_Q (S := ky_MV × (Nat → Option Nat)) G (va_A (ky_WM G mo cs w f) sz) (fun v u => v = some (.int (fn_X9_part a1 a2 w).1) ∧ u.1 = (fn_X9_part a1 a2 w).2) (fun u => ky_WM G mo cs u.1 u.2) (fun u H => ky_IT G mo cs N u.2 u.1.2.2.2.2 H)) 0 0 (va_A (ky_WM G mo cs w f) sz) := by
  refine ky_start (by decide) (Nat.le_of_ble_eq_true rfl) (fun p e s m below meth c F hE A hAe hsz hA hfr hP hD hS hX ls hl => ?_)
  obtain ⟨hx, hb, hml, hown, hr, hlocks, hts⟩ := id F
  have hIT0 := hX
  have hIT := hIT0
  have hl : lv_has ls 3 [(0, .ref mo), (1, .int (a1)), (2, .int (a2))] := hl
  have hP : va_P G.1 kcl [(mo, .inr (5, [.int (w.1), .ref cs, .int (w.2.1), .int (w.2.2.1), .int (w.2.2.2.1)])), (cs, .inl (G.2.1 3, 6, .inr (.inr (.inr (.inr (f))))))] s.heap := hP
  have hD : va_D A [(mo, .inr (5, [.int (w.1), .ref cs, .int (w.2.1), .int (w.2.2.1), .int (w.2.2.2.1)])), (cs, .inl (G.2.1 3, 6, .inr (.inr (.inr (.inr (f))))))] := hD
  have hw : fn_X9_part a1 a2 w = _ := fn_X9_part.eq_1 a1 a2 w
  refine lv_aload_n hx hb dc_X9_part_0 rfl (lv_at hl 0 rfl) ?_
  refine va_get (D := G.1) (ci := 5) (v := .ref cs) (C := RX9) (T := TX9) (N := 5) hx hb hts ki_X9 hown hE.1 hP 0 rfl rfl 1 (by decide) (hts _ kw_6_20) (fun _ h9 => h9) rfl dc_X9_part_1 ?_
  refine lv_iload_n hx hb dc_X9_part_4 rfl (lv_at hl 1 rfl) ?_
  refine va_aldq hx hb hE.1 hP 1 3 rfl rfl h1 dc_X9_part_5 ?_
  obtain ⟨b_0, hb_0, hI_0, ho_0⟩ := hIT.2 _ (ky_i6 h1)
  rw [ky_rf hb_0]
  have hX_0 : ky_It G b_0 ((w.2.2.2.2) (a1).toNatClampNeg) s.heap := by obtain ⟨b9, e9, i9, -⟩ := hIT0.2 _ (ky_i6 h1); have z9 : b9 = b_0 := Option.some.inj (e9.symm.trans hb_0); exact z9 ▸ i9
  refine lv_iconst (v := 0) hx hb dc_X9_part_6 (by decide) ?_
  refine ky_cV1 (As := [.int ((0 : Int32))]) F (hE.at hfr hS) (mt_X8_rounded l G (b_0) (((w.2.2.2.2) (a1).toNatClampNeg)) ((0 : Int32))) kv_X9_177 ⟨⟨rfl, rfl⟩, by decide, by decide⟩ rfl hl.1 rfl (Nat.le_of_ble_eq_true rfl) ⟨Nat.le_of_ble_eq_true rfl, Nat.le_of_ble_eq_true rfl⟩ (va_recv hE.1 hI_0 (ci := 4) (q0 := 0) rfl rfl) hI_0 dc_X9_part_7 ?_
  refine lv_iload_n hx hb dc_X9_part_10 rfl (lv_at hl 2 rfl) ?_
  refine lv_if_eq (tgt := 19) hx hb dc_X9_part_11 (by decide) (fun c_1 => ?_) (fun c_1 => ?_)
  · have hw := hw.trans (if_pos c_1)
    refine lv_iconst (v := 0) hx hb dc_X9_part_19 (by decide) ?_
    refine lv_lshr (v := jlshr (fn_X8_rounded ((0 : Int32)) ((w.2.2.2.2) (a1).toNatClampNeg)) ((0 : Int32))) hx hb dc_X9_part_20 rfl ?_
    refine lv_l2i (v := (jlshr (fn_X8_rounded ((0 : Int32)) ((w.2.2.2.2) (a1).toNatClampNeg)) ((0 : Int32))).toInt32) hx hb dc_X9_part_21 rfl ?_
    have hP9 : va_P G.1 kcl (ky_WM G mo cs (w) (f)) s.heap := hP.sub [0, 1] rfl
    have hD9 : va_D A (ky_WM G mo cs (w) (f)) := hD.sub [0, 1] (by decide) rfl
    refine W.widen (k := 0) (n := 0) (Nat.le_of_ble_eq_true rfl) (Nat.le_of_ble_eq_true rfl) ?_
    exact W.iret (v := (jlshr (fn_X8_rounded ((0 : Int32)) ((w.2.2.2.2) (a1).toNatClampNeg)) ((0 : Int32))).toInt32) hx hb hr (fun t ht hW => ⟨by rw [ht]; exact ky_endM (fun z => some (.int z)) ((jlshr (fn_X8_rounded ((0 : Int32)) ((w.2.2.2.2) (a1).toNatClampNeg)) ((0 : Int32))).toInt32) hw hP9 hD9 (hIT), hS.F ht⟩) hS.2.2 dc_X9_part_22
  · have hw := hw.trans (if_neg c_1)
    refine lv_bipush (v := 32) hx hb dc_X9_part_14 (by decide) ?_
    refine lv_goto (tgt := 20) hx hb dc_X9_part_16 (by decide) ?_
    refine lv_lshr (v := jlshr (fn_X8_rounded ((0 : Int32)) ((w.2.2.2.2) (a1).toNatClampNeg)) ((32 : Int32))) hx hb dc_X9_part_20 rfl ?_
    refine lv_l2i (v := (jlshr (fn_X8_rounded ((0 : Int32)) ((w.2.2.2.2) (a1).toNatClampNeg)) ((32 : Int32))).toInt32) hx hb dc_X9_part_21 rfl ?_
    have hP9 : va_P G.1 kcl (ky_WM G mo cs (w) (f)) s.heap := hP.sub [0, 1] rfl
    have hD9 : va_D A (ky_WM G mo cs (w) (f)) := hD.sub [0, 1] (by decide) rfl
    refine W.widen (k := 0) (n := 0) (Nat.le_of_ble_eq_true rfl) (Nat.le_of_ble_eq_true rfl) ?_
    exact W.iret (v := (jlshr (fn_X8_rounded ((0 : Int32)) ((w.2.2.2.2) (a1).toNatClampNeg)) ((32 : Int32))).toInt32) hx hb hr (fun t ht hW => ⟨by rw [ht]; exact ky_endM (fun z => some (.int z)) ((jlshr (fn_X8_rounded ((0 : Int32)) ((w.2.2.2.2) (a1).toNatClampNeg)) ((32 : Int32))).toInt32) hw hP9 hD9 (hIT), hS.F ht⟩) hS.2.2 dc_X9_part_22
