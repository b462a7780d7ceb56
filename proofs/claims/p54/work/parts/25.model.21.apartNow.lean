def fn_X9_apartNow (a1 : Int32) (a2 : Int32)  (w : ky_MV) : Int32 × ky_MV :=
  if (lg_cmp (fn_X8_rung ((w.2.2.2.2) (a2).toNatClampNeg)) (fn_X8_rung ((w.2.2.2.2) (a1).toNatClampNeg))) < (0 : Int32) then (((-1 : Int32), w)) else (if (lg_cmp (fn_X8_rung ((w.2.2.2.2) (a2).toNatClampNeg)) ((fn_X8_rung ((w.2.2.2.2) (a1).toNatClampNeg)) + ((40 : Int64)))) ≤ (0 : Int32) then ((((fn_X8_rung ((w.2.2.2.2) (a2).toNatClampNeg)) - (fn_X8_rung ((w.2.2.2.2) (a1).toNatClampNeg))).toInt32, w)) else (((-1 : Int32), w)))
set_option linter.constructorNameAsVariable false in
set_option maxHeartbeats 4000000 in
set_option maxRecDepth 100000 in
theorem mt_X9_apartNow (l : Launch) (G : ky_G) (mo cs : Nat) (N : Nat → Prop) (w : ky_MV) (f : Nat → Option Nat)    (a1 : Int32) (a2 : Int32) (sz : Nat) (h1 : vp_in (a1) 6) (h2 : vp_in (a2) 6) : Met l my_X9_apartNow (.code my_X9_apartNow prog_10_method_59_code 7 (some .int) :: ky_B) { frames := 1, cells := 0, slots := 0, locals := 20 } (ky_P G [.ref mo, .int (a1), .int (a2)] (ky_WM G mo cs w f) sz (fun H => ky_IT G mo cs N f w.2.2.2.2 H)) (ky_Q (S := ky_MV × (Nat → Option Nat)) G (va_A (ky_WM G mo cs w f) sz) (fun v u => v = some (.int (fn_X9_apartNow a1 a2 w).1) ∧ u.1 = (fn_X9_apartNow a1 a2 w).2) (fun u => ky_WM G mo cs u.1 u.2) (fun u H => ky_IT G mo cs N u.2 u.1.2.2.2.2 H)) 0 0 (va_A (ky_WM G mo cs w f) sz) := by
  refine ky_start (by decide) (Nat.le_of_ble_eq_true rfl) (fun p e s m below meth c F hE A hAe hsz hA hfr hP hD hS hX ls hl => ?_)
  obtain ⟨hx, hb, hml, hown, hr, hlocks, hts⟩ := id F
  have hIT0 := hX
  have hIT := hIT0
  have hl : lv_has ls 7 [(0, .ref mo), (1, .int (a1)), (2, .int (a2))] := hl
  have hP : va_P G.1 kcl [(mo, .inr (5, [.int (w.1), .ref cs, .int (w.2.1), .int (w.2.2.1), .int (w.2.2.2.1)])), (cs, .inl (G.2.1 3, 6, .inr (.inr (.inr (.inr (f))))))] s.heap := hP
  have hD : va_D A [(mo, .inr (5, [.int (w.1), .ref cs, .int (w.2.1), .int (w.2.2.1), .int (w.2.2.2.1)])), (cs, .inl (G.2.1 3, 6, .inr (.inr (.inr (.inr (f))))))] := hD
  have hw : fn_X9_apartNow a1 a2 w = _ := fn_X9_apartNow.eq_1 a1 a2 w
  refine lv_aload_n hx hb dc_X9_apartNow_0 rfl (lv_at hl 0 rfl) ?_
  refine va_get (D := G.1) (ci := 5) (v := .ref cs) (C := RX9) (T := TX9) (N := 5) hx hb hts ki_X9 hown hE.1 hP 0 rfl rfl 1 (by decide) (hts _ kw_6_20) (fun _ h9 => h9) rfl dc_X9_apartNow_1 ?_
  refine lv_iload_n hx hb dc_X9_apartNow_4 rfl (lv_at hl 1 rfl) ?_
  refine va_aldq hx hb hE.1 hP 1 3 rfl rfl h1 dc_X9_apartNow_5 ?_
  obtain ⟨b_0, hb_0, hI_0, ho_0⟩ := hIT.2 _ (ky_i6 h1)
  rw [ky_rf hb_0]
  have hX_0 : ky_It G b_0 ((w.2.2.2.2) (a1).toNatClampNeg) s.heap := by obtain ⟨b9, e9, i9, -⟩ := hIT0.2 _ (ky_i6 h1); have z9 : b9 = b_0 := Option.some.inj (e9.symm.trans hb_0); exact z9 ▸ i9
  refine ky_cV1 (As := []) F (hE.at hfr hS) (mt_X8_rung l G (b_0) (((w.2.2.2.2) (a1).toNatClampNeg)) ) kv_X9_217 ⟨⟨rfl, rfl⟩, by decide, by decide⟩ rfl hl.1 rfl (Nat.le_of_ble_eq_true rfl) ⟨Nat.le_of_ble_eq_true rfl, Nat.le_of_ble_eq_true rfl⟩ (va_recv hE.1 hI_0 (ci := 4) (q0 := 0) rfl rfl) hI_0 dc_X9_apartNow_6 ?_
  refine lv_lstore_n (lv' := [(3, .long (fn_X8_rung ((w.2.2.2.2) (a1).toNatClampNeg))), (0, .ref mo), (1, .int (a1)), (2, .int (a2))]) hx hb dc_X9_apartNow_9 rfl hl (by decide) rfl (fun ls hl => ?_)
  refine lv_aload_n hx hb dc_X9_apartNow_10 rfl (lv_at hl 1 rfl) ?_
  refine va_get (D := G.1) (ci := 5) (v := .ref cs) (C := RX9) (T := TX9) (N := 5) hx hb hts ki_X9 hown hE.1 hP 0 rfl rfl 1 (by decide) (hts _ kw_6_20) (fun _ h9 => h9) rfl dc_X9_apartNow_11 ?_
  refine lv_iload_n hx hb dc_X9_apartNow_14 rfl (lv_at hl 3 rfl) ?_
  refine va_aldq hx hb hE.1 hP 1 3 rfl rfl h2 dc_X9_apartNow_15 ?_
  obtain ⟨b_1, hb_1, hI_1, ho_1⟩ := hIT.2 _ (ky_i6 h2)
  rw [ky_rf hb_1]
  have hX_1 : ky_It G b_1 ((w.2.2.2.2) (a2).toNatClampNeg) s.heap := by obtain ⟨b9, e9, i9, -⟩ := hIT0.2 _ (ky_i6 h2); have z9 : b9 = b_1 := Option.some.inj (e9.symm.trans hb_1); exact z9 ▸ i9
  refine ky_cV1 (As := []) F (hE.at hfr hS) (mt_X8_rung l G (b_1) (((w.2.2.2.2) (a2).toNatClampNeg)) ) kv_X9_217 ⟨⟨rfl, rfl⟩, by decide, by decide⟩ rfl hl.1 rfl (Nat.le_of_ble_eq_true rfl) ⟨Nat.le_of_ble_eq_true rfl, Nat.le_of_ble_eq_true rfl⟩ (va_recv hE.1 hI_1 (ci := 4) (q0 := 0) rfl rfl) hI_1 dc_X9_apartNow_16 ?_
  refine lv_lstore (lv' := [(5, .long (fn_X8_rung ((w.2.2.2.2) (a2).toNatClampNeg))), (3, .long (fn_X8_rung ((w.2.2.2.2) (a1).toNatClampNeg))), (0, .ref mo), (1, .int (a1)), (2, .int (a2))]) hx hb dc_X9_apartNow_19 hl (by decide) rfl (fun ls hl => ?_)
  refine lv_lload hx hb dc_X9_apartNow_21 (lv_at hl 0 rfl) ?_
  refine lv_lload_n hx hb dc_X9_apartNow_23 rfl (lv_at hl 1 rfl) ?_
  refine W.lcmp hx hb dc_X9_apartNow_24 ?_
  refine lv_if_lt (tgt := 39) hx hb dc_X9_apartNow_25 (by decide) (fun c_2 => ?_) (fun c_2 => ?_)
  · have hw := hw.trans (if_pos c_2)
    refine lv_iconst (v := (-1)) hx hb dc_X9_apartNow_39 (by decide) ?_
    refine lv_goto (tgt := 48) hx hb dc_X9_apartNow_40 (by decide) ?_
    have hP9 : va_P G.1 kcl (ky_WM G mo cs (w) (f)) s.heap := hP.sub [0, 1] rfl
    have hD9 : va_D A (ky_WM G mo cs (w) (f)) := hD.sub [0, 1] (by decide) rfl
    refine W.widen (k := 0) (n := 0) (Nat.le_of_ble_eq_true rfl) (Nat.le_of_ble_eq_true rfl) ?_
    exact W.iret (v := (-1 : Int32)) hx hb hr (fun t ht hW => ⟨by rw [ht]; exact ky_endM (fun z => some (.int z)) ((-1 : Int32)) hw hP9 hD9 (hIT), hS.F ht⟩) hS.2.2 dc_X9_apartNow_48
  · have hw := hw.trans (if_neg c_2)
    refine lv_lload hx hb dc_X9_apartNow_28 (lv_at hl 0 rfl) ?_
    refine lv_lload_n hx hb dc_X9_apartNow_30 rfl (lv_at hl 1 rfl) ?_
    refine lv_ldc2 (v := 40) hx hb hown (hts _ kw_7_192) dc_X9_apartNow_31 ?_
    refine lv_ladd hx hb dc_X9_apartNow_34 ?_
    refine W.lcmp hx hb dc_X9_apartNow_35 ?_
    refine lv_if_le (tgt := 43) hx hb dc_X9_apartNow_36 (by decide) (fun c_3 => ?_) (fun c_3 => ?_)
    · have hw := hw.trans (if_pos c_3)
      refine lv_lload hx hb dc_X9_apartNow_43 (lv_at hl 0 rfl) ?_
      refine lv_lload_n hx hb dc_X9_apartNow_45 rfl (lv_at hl 1 rfl) ?_
      refine lv_lsub hx hb dc_X9_apartNow_46 ?_
      refine lv_l2i (v := ((fn_X8_rung ((w.2.2.2.2) (a2).toNatClampNeg)) - (fn_X8_rung ((w.2.2.2.2) (a1).toNatClampNeg))).toInt32) hx hb dc_X9_apartNow_47 rfl ?_
      have hP9 : va_P G.1 kcl (ky_WM G mo cs (w) (f)) s.heap := hP.sub [0, 1] rfl
      have hD9 : va_D A (ky_WM G mo cs (w) (f)) := hD.sub [0, 1] (by decide) rfl
      refine W.widen (k := 0) (n := 0) (Nat.le_of_ble_eq_true rfl) (Nat.le_of_ble_eq_true rfl) ?_
      exact W.iret (v := ((fn_X8_rung ((w.2.2.2.2) (a2).toNatClampNeg)) - (fn_X8_rung ((w.2.2.2.2) (a1).toNatClampNeg))).toInt32) hx hb hr (fun t ht hW => ⟨by rw [ht]; exact ky_endM (fun z => some (.int z)) (((fn_X8_rung ((w.2.2.2.2) (a2).toNatClampNeg)) - (fn_X8_rung ((w.2.2.2.2) (a1).toNatClampNeg))).toInt32) hw hP9 hD9 (hIT), hS.F ht⟩) hS.2.2 dc_X9_apartNow_48
    · have hw := hw.trans (if_neg c_3)
      refine lv_iconst (v := (-1)) hx hb dc_X9_apartNow_39 (by decide) ?_
      refine lv_goto (tgt := 48) hx hb dc_X9_apartNow_40 (by decide) ?_
      have hP9 : va_P G.1 kcl (ky_WM G mo cs (w) (f)) s.heap := hP.sub [0, 1] rfl
      have hD9 : va_D A (ky_WM G mo cs (w) (f)) := hD.sub [0, 1] (by decide) rfl
      refine W.widen (k := 0) (n := 0) (Nat.le_of_ble_eq_true rfl) (Nat.le_of_ble_eq_true rfl) ?_
      exact W.iret (v := (-1 : Int32)) hx hb hr (fun t ht hW => ⟨by rw [ht]; exact ky_endM (fun z => some (.int z)) ((-1 : Int32)) hw hP9 hD9 (hIT), hS.F ht⟩) hS.2.2 dc_X9_apartNow_48
