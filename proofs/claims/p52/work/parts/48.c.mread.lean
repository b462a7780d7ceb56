set_option linter.constructorNameAsVariable false in
set_option maxHeartbeats 4000000 in
set_option maxRecDepth 100000 in
theorem mt_X9_digitW (l : Launch) (G : ky_G) (mo : Nat) (cs : Nat) (N : Nat → Prop) (w : ky_MV) (f : Nat → Option Nat) (a1 : Int32) (a2 : Int32) (sz : Nat) (h1 : vp_in (a1) 6) : Met l my_X9_digit (.code my_X9_digit prog_10_method_40_code 4 (some .int) :: ky_B) { frames := 1, cells := 0, slots := 0, locals := 20 } (ky_P G [.ref mo, .int (a1), .int (a2)] (ky_WM G mo cs w f) sz (fun H => ky_IT G mo cs N f w.2.2.2.2 H)) (ky_Q (S := Unit) G (va_A (ky_WM G mo cs w f) sz) (fun v _ => ∃ r : Int32, v = some (.int r)) (fun _ => ky_WM G mo cs w f) (fun _ H => ky_IT G mo cs N f w.2.2.2.2 H)) (0) (0) (va_A (ky_WM G mo cs w f) sz) := by
  refine ky_start (by decide) (Nat.le_of_ble_eq_true rfl) (fun p e s m below meth c F hE A hAe hsz hA hfr hP hD hS hX ls hl => ?_)
  obtain ⟨hx, hb, hml, hown, hr, hlocks, hts⟩ := id F
  have hl : lv_has ls 4 [(0, .ref mo), (1, .int (a1)), (2, .int (a2))] := hl
  have hP : va_P G.1 kcl [(mo, .inr (5, [.int (w.1), .ref cs, .int (w.2.1), .int (w.2.2.1), .int (w.2.2.2.1)])), (cs, .inl (G.2.1 3, 6, .inr (.inr (.inr (.inr (f))))))] s.heap := hP
  have hD : va_D A [(mo, .inr (5, [.int (w.1), .ref cs, .int (w.2.1), .int (w.2.2.1), .int (w.2.2.2.1)])), (cs, .inl (G.2.1 3, 6, .inr (.inr (.inr (.inr (f))))))] := hD
  have hIT0 := hX
  refine lv_aload_n hx hb dc_X9_digit_0 rfl (lv_at hl 0 rfl) ?_
  refine va_get (D := G.1) (ci := 5) (v := .ref cs) (C := RX9) (T := TX9) (N := 5) hx hb hts ki_X9 hown hE.1 hP 0 rfl rfl 1 (by decide) (hts _ kw_6_20) (fun _ h9 => h9) rfl dc_X9_digit_1 ?_
  refine lv_iload_n hx hb dc_X9_digit_4 rfl (lv_at hl 1 rfl) ?_
  have hv_0 : vp_in (a1) 6 := h1
  have hIT := hIT0.ro hAe hS
  refine va_aldq hx hb hE.1 hP 1 3 rfl rfl hv_0 dc_X9_digit_5 ?_
  obtain ⟨b_0, hb_0, hI_0, ho_0⟩ := hIT.2 _ (ky_i6 hv_0)
  rw [ky_rf hb_0]
  have hX_0 : ky_It G b_0 ((w.2.2.2.2) (a1).toNatClampNeg) s.heap := by obtain ⟨b9, e9, i9, -⟩ := hIT0.2 _ (ky_i6 hv_0); have z9 : b9 = b_0 := Option.some.inj (e9.symm.trans hb_0); exact z9 ▸ i9
  refine lv_astore_n (lv' := [(3, .ref b_0), (0, .ref mo), (1, .int (a1)), (2, .int (a2))]) hx hb dc_X9_digit_6 rfl hl (by decide) rfl (fun ls hl => ?_)
  refine lv_iload_n hx hb dc_X9_digit_7 rfl (lv_at hl 3 rfl) ?_
  refine lv_iconst (v := 2) hx hb dc_X9_digit_8 (by decide) ?_
  refine lv_icmp_ge (tgt := 28) hx hb dc_X9_digit_9 (by decide) (fun c_1 => ?_) (fun c_1 => ?_)
  · skip
    refine lv_iload_n hx hb dc_X9_digit_28 rfl (lv_at hl 3 rfl) ?_
    refine lv_iconst (v := 2) hx hb dc_X9_digit_29 (by decide) ?_
    refine lv_icmp_ne (tgt := 44) hx hb dc_X9_digit_30 (by decide) (fun c_2 => ?_) (fun c_2 => ?_)
    · skip
      refine lv_aload_n hx hb dc_X9_digit_44 rfl (lv_at hl 0 rfl) ?_
      have hI_0 := ky_ro2 hX_0 ho_0 hAe hS
      refine ky_cV1 (As := []) F (hE.at hfr hS) (mt_X8_low l G (b_0) (((w.2.2.2.2) (a1).toNatClampNeg)) ) kv_X9_164 ⟨⟨rfl, rfl⟩, by decide, by decide⟩ rfl hl.1 rfl (Nat.le_of_ble_eq_true rfl) ⟨Nat.le_of_ble_eq_true rfl, Nat.le_of_ble_eq_true rfl⟩ (va_recv hE.1 hI_0 (ci := 4) (q0 := 0) rfl rfl) hI_0 dc_X9_digit_45 ?_
      refine lv_l2i (v := (fn_X8_low ((w.2.2.2.2) (a1).toNatClampNeg)).toInt32) hx hb dc_X9_digit_48 rfl ?_
      have hP9 := hP.sub (ws' := [(mo, .inr (5, [.int (w.1), .ref cs, .int (w.2.1), .int (w.2.2.1), .int (w.2.2.2.1)])), (cs, .inl (G.2.1 3, 6, .inr (.inr (.inr (.inr (f))))))]) [0, 1] rfl
      have hD9 := hD.sub (ws' := [(mo, .inr (5, [.int (w.1), .ref cs, .int (w.2.1), .int (w.2.2.1), .int (w.2.2.2.1)])), (cs, .inl (G.2.1 3, 6, .inr (.inr (.inr (.inr (f))))))]) [0, 1] (by decide) rfl
      refine W.widen (k := 0) (n := 0) (Nat.le_of_ble_eq_true rfl) (Nat.le_of_ble_eq_true rfl) ?_
      exact W.iret (v := (fn_X8_low ((w.2.2.2.2) (a1).toNatClampNeg)).toInt32) hx hb hr (fun t ht hW => ⟨⟨_, (), rfl, ⟨_, rfl⟩, by rw [ht]; exact hP9, hD9, by rw [ht]; exact hIT0.ro hAe hS⟩, hS.F ht⟩) hS.2.2 dc_X9_digit_49
    · skip
      refine lv_aload_n hx hb dc_X9_digit_33 rfl (lv_at hl 0 rfl) ?_
      have hI_0 := ky_ro2 hX_0 ho_0 hAe hS
      refine ky_cV1 (As := []) F (hE.at hfr hS) (mt_X8_low l G (b_0) (((w.2.2.2.2) (a1).toNatClampNeg)) ) kv_X9_164 ⟨⟨rfl, rfl⟩, by decide, by decide⟩ rfl hl.1 rfl (Nat.le_of_ble_eq_true rfl) ⟨Nat.le_of_ble_eq_true rfl, Nat.le_of_ble_eq_true rfl⟩ (va_recv hE.1 hI_0 (ci := 4) (q0 := 0) rfl rfl) hI_0 dc_X9_digit_34 ?_
      refine lv_bipush (v := 32) hx hb dc_X9_digit_37 (by decide) ?_
      refine lv_lshr (v := jlshr (fn_X8_low ((w.2.2.2.2) (a1).toNatClampNeg)) ((32 : Int32))) hx hb dc_X9_digit_39 rfl ?_
      refine lv_l2i (v := (jlshr (fn_X8_low ((w.2.2.2.2) (a1).toNatClampNeg)) ((32 : Int32))).toInt32) hx hb dc_X9_digit_40 rfl ?_
      refine lv_goto (tgt := 49) hx hb dc_X9_digit_41 (by decide) ?_
      have hP9 := hP.sub (ws' := [(mo, .inr (5, [.int (w.1), .ref cs, .int (w.2.1), .int (w.2.2.1), .int (w.2.2.2.1)])), (cs, .inl (G.2.1 3, 6, .inr (.inr (.inr (.inr (f))))))]) [0, 1] rfl
      have hD9 := hD.sub (ws' := [(mo, .inr (5, [.int (w.1), .ref cs, .int (w.2.1), .int (w.2.2.1), .int (w.2.2.2.1)])), (cs, .inl (G.2.1 3, 6, .inr (.inr (.inr (.inr (f))))))]) [0, 1] (by decide) rfl
      refine W.widen (k := 0) (n := 0) (Nat.le_of_ble_eq_true rfl) (Nat.le_of_ble_eq_true rfl) ?_
      exact W.iret (v := (jlshr (fn_X8_low ((w.2.2.2.2) (a1).toNatClampNeg)) ((32 : Int32))).toInt32) hx hb hr (fun t ht hW => ⟨⟨_, (), rfl, ⟨_, rfl⟩, by rw [ht]; exact hP9, hD9, by rw [ht]; exact hIT0.ro hAe hS⟩, hS.F ht⟩) hS.2.2 dc_X9_digit_49
  · skip
    refine lv_iload_n hx hb dc_X9_digit_12 rfl (lv_at hl 3 rfl) ?_
    refine lv_if_ne (tgt := 23) hx hb dc_X9_digit_13 (by decide) (fun c_2 => ?_) (fun c_2 => ?_)
    · skip
      refine lv_aload_n hx hb dc_X9_digit_23 rfl (lv_at hl 0 rfl) ?_
      have hI_0 := ky_ro2 hX_0 ho_0 hAe hS
      refine ky_cV1 (As := []) F (hE.at hfr hS) (mt_X8_high l G (b_0) (((w.2.2.2.2) (a1).toNatClampNeg)) ) kv_X9_161 ⟨⟨rfl, rfl⟩, by decide, by decide⟩ rfl hl.1 rfl (Nat.le_of_ble_eq_true rfl) ⟨Nat.le_of_ble_eq_true rfl, Nat.le_of_ble_eq_true rfl⟩ (va_recv hE.1 hI_0 (ci := 4) (q0 := 0) rfl rfl) hI_0 dc_X9_digit_24 ?_
      have hP9 := hP.sub (ws' := [(mo, .inr (5, [.int (w.1), .ref cs, .int (w.2.1), .int (w.2.2.1), .int (w.2.2.2.1)])), (cs, .inl (G.2.1 3, 6, .inr (.inr (.inr (.inr (f))))))]) [0, 1] rfl
      have hD9 := hD.sub (ws' := [(mo, .inr (5, [.int (w.1), .ref cs, .int (w.2.1), .int (w.2.2.1), .int (w.2.2.2.1)])), (cs, .inl (G.2.1 3, 6, .inr (.inr (.inr (.inr (f))))))]) [0, 1] (by decide) rfl
      refine W.widen (k := 0) (n := 0) (Nat.le_of_ble_eq_true rfl) (Nat.le_of_ble_eq_true rfl) ?_
      exact W.iret (v := fn_X8_high ((w.2.2.2.2) (a1).toNatClampNeg)) hx hb hr (fun t ht hW => ⟨⟨_, (), rfl, ⟨_, rfl⟩, by rw [ht]; exact hP9, hD9, by rw [ht]; exact hIT0.ro hAe hS⟩, hS.F ht⟩) hS.2.2 dc_X9_digit_27
    · skip
      refine lv_aload_n hx hb dc_X9_digit_16 rfl (lv_at hl 0 rfl) ?_
      have hI_0 := ky_ro2 hX_0 ho_0 hAe hS
      refine va_get (D := G.1) (ci := 4) (v := .int (((w.2.2.2.2) (a1).toNatClampNeg).1)) (C := RX8) (T := TX8) (N := 2) hx hb hts ki_X8 hown hE.1 hI_0 0 rfl rfl 0 (by decide) (hts _ kw_6_11) (fun _ h9 => h9) rfl dc_X9_digit_17 ?_
      refine lv_goto (tgt := 27) hx hb dc_X9_digit_20 (by decide) ?_
      have hP9 := hP.sub (ws' := [(mo, .inr (5, [.int (w.1), .ref cs, .int (w.2.1), .int (w.2.2.1), .int (w.2.2.2.1)])), (cs, .inl (G.2.1 3, 6, .inr (.inr (.inr (.inr (f))))))]) [0, 1] rfl
      have hD9 := hD.sub (ws' := [(mo, .inr (5, [.int (w.1), .ref cs, .int (w.2.1), .int (w.2.2.1), .int (w.2.2.2.1)])), (cs, .inl (G.2.1 3, 6, .inr (.inr (.inr (.inr (f))))))]) [0, 1] (by decide) rfl
      refine W.widen (k := 0) (n := 0) (Nat.le_of_ble_eq_true rfl) (Nat.le_of_ble_eq_true rfl) ?_
      exact W.iret (v := ((w.2.2.2.2) (a1).toNatClampNeg).1) hx hb hr (fun t ht hW => ⟨⟨_, (), rfl, ⟨_, rfl⟩, by rw [ht]; exact hP9, hD9, by rw [ht]; exact hIT0.ro hAe hS⟩, hS.F ht⟩) hS.2.2 dc_X9_digit_27
set_option linter.constructorNameAsVariable false in
set_option maxHeartbeats 4000000 in
set_option maxRecDepth 100000 in
theorem mt_X9_partW (l : Launch) (G : ky_G) (mo : Nat) (cs : Nat) (N : Nat → Prop) (w : ky_MV) (f : Nat → Option Nat) (a1 : Int32) (a2 : Int32) (sz : Nat) (h1 : vp_in (a1) 6) : Met l my_X9_part (.code my_X9_part prog_10_method_44_code 3 (some .int) :: ky_B) { frames := 5, cells := 0, slots := 0, locals := 110 } (ky_P G [.ref mo, .int (a1), .int (a2)] (ky_WM G mo cs w f) sz (fun H => ky_IT G mo cs N f w.2.2.2.2 H)) (ky_Q (S := Unit) G (va_A (ky_WM G mo cs w f) sz) (fun v _ => ∃ r : Int32, v = some (.int r)) (fun _ => ky_WM G mo cs w f) (fun _ H => ky_IT G mo cs N f w.2.2.2.2 H)) (0) (0) (va_A (ky_WM G mo cs w f) sz) := by
  refine ky_start (by decide) (Nat.le_of_ble_eq_true rfl) (fun p e s m below meth c F hE A hAe hsz hA hfr hP hD hS hX ls hl => ?_)
  obtain ⟨hx, hb, hml, hown, hr, hlocks, hts⟩ := id F
  have hl : lv_has ls 3 [(0, .ref mo), (1, .int (a1)), (2, .int (a2))] := hl
  have hP : va_P G.1 kcl [(mo, .inr (5, [.int (w.1), .ref cs, .int (w.2.1), .int (w.2.2.1), .int (w.2.2.2.1)])), (cs, .inl (G.2.1 3, 6, .inr (.inr (.inr (.inr (f))))))] s.heap := hP
  have hD : va_D A [(mo, .inr (5, [.int (w.1), .ref cs, .int (w.2.1), .int (w.2.2.1), .int (w.2.2.2.1)])), (cs, .inl (G.2.1 3, 6, .inr (.inr (.inr (.inr (f))))))] := hD
  have hIT0 := hX
  refine lv_aload_n hx hb dc_X9_part_0 rfl (lv_at hl 0 rfl) ?_
  refine va_get (D := G.1) (ci := 5) (v := .ref cs) (C := RX9) (T := TX9) (N := 5) hx hb hts ki_X9 hown hE.1 hP 0 rfl rfl 1 (by decide) (hts _ kw_6_20) (fun _ h9 => h9) rfl dc_X9_part_1 ?_
  refine lv_iload_n hx hb dc_X9_part_4 rfl (lv_at hl 1 rfl) ?_
  have hv_0 : vp_in (a1) 6 := h1
  have hIT := hIT0.ro hAe hS
  refine va_aldq hx hb hE.1 hP 1 3 rfl rfl hv_0 dc_X9_part_5 ?_
  obtain ⟨b_0, hb_0, hI_0, ho_0⟩ := hIT.2 _ (ky_i6 hv_0)
  rw [ky_rf hb_0]
  have hX_0 : ky_It G b_0 ((w.2.2.2.2) (a1).toNatClampNeg) s.heap := by obtain ⟨b9, e9, i9, -⟩ := hIT0.2 _ (ky_i6 hv_0); have z9 : b9 = b_0 := Option.some.inj (e9.symm.trans hb_0); exact z9 ▸ i9
  refine lv_iconst (v := 0) hx hb dc_X9_part_6 (by decide) ?_
  have hI_0 := ky_ro2 hX_0 ho_0 hAe hS
  refine ky_cV1 (As := [.int ((0 : Int32))]) F (hE.at hfr hS) (mt_X8_rounded l G (b_0) (((w.2.2.2.2) (a1).toNatClampNeg)) ((0 : Int32))) kv_X9_177 ⟨⟨rfl, rfl⟩, by decide, by decide⟩ rfl hl.1 rfl (Nat.le_of_ble_eq_true rfl) ⟨Nat.le_of_ble_eq_true rfl, Nat.le_of_ble_eq_true rfl⟩ (va_recv hE.1 hI_0 (ci := 4) (q0 := 0) rfl rfl) hI_0 dc_X9_part_7 ?_
  refine lv_iload_n hx hb dc_X9_part_10 rfl (lv_at hl 2 rfl) ?_
  refine lv_if_eq (tgt := 19) hx hb dc_X9_part_11 (by decide) (fun c_1 => ?_) (fun c_1 => ?_)
  · skip
    refine lv_iconst (v := 0) hx hb dc_X9_part_19 (by decide) ?_
    refine lv_lshr (v := jlshr (fn_X8_rounded ((0 : Int32)) ((w.2.2.2.2) (a1).toNatClampNeg)) ((0 : Int32))) hx hb dc_X9_part_20 rfl ?_
    refine lv_l2i (v := (jlshr (fn_X8_rounded ((0 : Int32)) ((w.2.2.2.2) (a1).toNatClampNeg)) ((0 : Int32))).toInt32) hx hb dc_X9_part_21 rfl ?_
    have hP9 := hP.sub (ws' := [(mo, .inr (5, [.int (w.1), .ref cs, .int (w.2.1), .int (w.2.2.1), .int (w.2.2.2.1)])), (cs, .inl (G.2.1 3, 6, .inr (.inr (.inr (.inr (f))))))]) [0, 1] rfl
    have hD9 := hD.sub (ws' := [(mo, .inr (5, [.int (w.1), .ref cs, .int (w.2.1), .int (w.2.2.1), .int (w.2.2.2.1)])), (cs, .inl (G.2.1 3, 6, .inr (.inr (.inr (.inr (f))))))]) [0, 1] (by decide) rfl
    refine W.widen (k := 0) (n := 0) (Nat.le_of_ble_eq_true rfl) (Nat.le_of_ble_eq_true rfl) ?_
    exact W.iret (v := (jlshr (fn_X8_rounded ((0 : Int32)) ((w.2.2.2.2) (a1).toNatClampNeg)) ((0 : Int32))).toInt32) hx hb hr (fun t ht hW => ⟨⟨_, (), rfl, ⟨_, rfl⟩, by rw [ht]; exact hP9, hD9, by rw [ht]; exact hIT0.ro hAe hS⟩, hS.F ht⟩) hS.2.2 dc_X9_part_22
  · skip
    refine lv_bipush (v := 32) hx hb dc_X9_part_14 (by decide) ?_
    refine lv_goto (tgt := 20) hx hb dc_X9_part_16 (by decide) ?_
    refine lv_lshr (v := jlshr (fn_X8_rounded ((0 : Int32)) ((w.2.2.2.2) (a1).toNatClampNeg)) ((32 : Int32))) hx hb dc_X9_part_20 rfl ?_
    refine lv_l2i (v := (jlshr (fn_X8_rounded ((0 : Int32)) ((w.2.2.2.2) (a1).toNatClampNeg)) ((32 : Int32))).toInt32) hx hb dc_X9_part_21 rfl ?_
    have hP9 := hP.sub (ws' := [(mo, .inr (5, [.int (w.1), .ref cs, .int (w.2.1), .int (w.2.2.1), .int (w.2.2.2.1)])), (cs, .inl (G.2.1 3, 6, .inr (.inr (.inr (.inr (f))))))]) [0, 1] rfl
    have hD9 := hD.sub (ws' := [(mo, .inr (5, [.int (w.1), .ref cs, .int (w.2.1), .int (w.2.2.1), .int (w.2.2.2.1)])), (cs, .inl (G.2.1 3, 6, .inr (.inr (.inr (.inr (f))))))]) [0, 1] (by decide) rfl
    refine W.widen (k := 0) (n := 0) (Nat.le_of_ble_eq_true rfl) (Nat.le_of_ble_eq_true rfl) ?_
    exact W.iret (v := (jlshr (fn_X8_rounded ((0 : Int32)) ((w.2.2.2.2) (a1).toNatClampNeg)) ((32 : Int32))).toInt32) hx hb hr (fun t ht hW => ⟨⟨_, (), rfl, ⟨_, rfl⟩, by rw [ht]; exact hP9, hD9, by rw [ht]; exact hIT0.ro hAe hS⟩, hS.F ht⟩) hS.2.2 dc_X9_part_22
set_option linter.constructorNameAsVariable false in
set_option maxHeartbeats 4000000 in
set_option maxRecDepth 100000 in
theorem mt_X9_shortNowW (l : Launch) (G : ky_G) (mo : Nat) (cs : Nat) (N : Nat → Prop) (w : ky_MV) (f : Nat → Option Nat) (a1 : Int32) (sz : Nat) (h1 : vp_in (a1) 6) : Met l my_X9_shortNow (.code my_X9_shortNow prog_10_method_49_code 2 (some .int) :: ky_B) { frames := 5, cells := 0, slots := 0, locals := 110 } (ky_P G [.ref mo, .int (a1)] (ky_WM G mo cs w f) sz (fun H => ky_IT G mo cs N f w.2.2.2.2 H)) (ky_Q (S := Unit) G (va_A (ky_WM G mo cs w f) sz) (fun v _ => ∃ r : Int32, v = some (.int r)) (fun _ => ky_WM G mo cs w f) (fun _ H => ky_IT G mo cs N f w.2.2.2.2 H)) (0) (0) (va_A (ky_WM G mo cs w f) sz) := by
  refine ky_start (by decide) (Nat.le_of_ble_eq_true rfl) (fun p e s m below meth c F hE A hAe hsz hA hfr hP hD hS hX ls hl => ?_)
  obtain ⟨hx, hb, hml, hown, hr, hlocks, hts⟩ := id F
  have hl : lv_has ls 2 [(0, .ref mo), (1, .int (a1))] := hl
  have hP : va_P G.1 kcl [(mo, .inr (5, [.int (w.1), .ref cs, .int (w.2.1), .int (w.2.2.1), .int (w.2.2.2.1)])), (cs, .inl (G.2.1 3, 6, .inr (.inr (.inr (.inr (f))))))] s.heap := hP
  have hD : va_D A [(mo, .inr (5, [.int (w.1), .ref cs, .int (w.2.1), .int (w.2.2.1), .int (w.2.2.2.1)])), (cs, .inl (G.2.1 3, 6, .inr (.inr (.inr (.inr (f))))))] := hD
  have hIT0 := hX
  refine lv_ldc2 (v := (-2147483648)) hx hb hown (hts _ kw_7_133) dc_X9_shortNow_0 ?_
  refine lv_ldc2 (v := 2147483647) hx hb hown (hts _ kw_7_134) dc_X9_shortNow_3 ?_
  refine lv_aload_n hx hb dc_X9_shortNow_6 rfl (lv_at hl 0 rfl) ?_
  refine va_get (D := G.1) (ci := 5) (v := .ref cs) (C := RX9) (T := TX9) (N := 5) hx hb hts ki_X9 hown hE.1 hP 0 rfl rfl 1 (by decide) (hts _ kw_6_20) (fun _ h9 => h9) rfl dc_X9_shortNow_7 ?_
  refine lv_iload_n hx hb dc_X9_shortNow_10 rfl (lv_at hl 1 rfl) ?_
  have hv_0 : vp_in (a1) 6 := h1
  have hIT := hIT0.ro hAe hS
  refine va_aldq hx hb hE.1 hP 1 3 rfl rfl hv_0 dc_X9_shortNow_11 ?_
  obtain ⟨b_0, hb_0, hI_0, ho_0⟩ := hIT.2 _ (ky_i6 hv_0)
  rw [ky_rf hb_0]
  have hX_0 : ky_It G b_0 ((w.2.2.2.2) (a1).toNatClampNeg) s.heap := by obtain ⟨b9, e9, i9, -⟩ := hIT0.2 _ (ky_i6 hv_0); have z9 : b9 = b_0 := Option.some.inj (e9.symm.trans hb_0); exact z9 ▸ i9
  refine lv_iconst (v := 1) hx hb dc_X9_shortNow_12 (by decide) ?_
  have hI_0 := ky_ro2 hX_0 ho_0 hAe hS
  refine ky_cV1 (As := [.int ((1 : Int32))]) F (hE.at hfr hS) (mt_X8_rounded l G (b_0) (((w.2.2.2.2) (a1).toNatClampNeg)) ((1 : Int32))) kv_X9_177 ⟨⟨rfl, rfl⟩, by decide, by decide⟩ rfl hl.1 rfl (Nat.le_of_ble_eq_true rfl) ⟨Nat.le_of_ble_eq_true rfl, Nat.le_of_ble_eq_true rfl⟩ (va_recv hE.1 hI_0 (ci := 4) (q0 := 0) rfl rfl) hI_0 dc_X9_shortNow_13 ?_
  refine ky_lmin F ⟨kw_7_135, kw_4_32, kw_1_16, kw_4_33⟩ hl.1 (Nat.le_of_ble_eq_true rfl) (Nat.le_of_ble_eq_true rfl) ⟨Nat.le_of_ble_eq_true rfl, Nat.le_of_ble_eq_true rfl⟩ dc_X9_shortNow_16 ?_
  refine ky_lmax F ⟨kw_7_136, kw_4_35, kw_1_16, kw_4_36⟩ hl.1 (Nat.le_of_ble_eq_true rfl) (Nat.le_of_ble_eq_true rfl) ⟨Nat.le_of_ble_eq_true rfl, Nat.le_of_ble_eq_true rfl⟩ dc_X9_shortNow_19 ?_
  refine lv_l2i (v := (jlmax ((-2147483648 : Int64)) (jlmin ((2147483647 : Int64)) (fn_X8_rounded ((1 : Int32)) ((w.2.2.2.2) (a1).toNatClampNeg)))).toInt32) hx hb dc_X9_shortNow_22 rfl ?_
  have hP9 := hP.sub (ws' := [(mo, .inr (5, [.int (w.1), .ref cs, .int (w.2.1), .int (w.2.2.1), .int (w.2.2.2.1)])), (cs, .inl (G.2.1 3, 6, .inr (.inr (.inr (.inr (f))))))]) [0, 1] rfl
  have hD9 := hD.sub (ws' := [(mo, .inr (5, [.int (w.1), .ref cs, .int (w.2.1), .int (w.2.2.1), .int (w.2.2.2.1)])), (cs, .inl (G.2.1 3, 6, .inr (.inr (.inr (.inr (f))))))]) [0, 1] (by decide) rfl
  refine W.widen (k := 0) (n := 0) (Nat.le_of_ble_eq_true rfl) (Nat.le_of_ble_eq_true rfl) ?_
  exact W.iret (v := (jlmax ((-2147483648 : Int64)) (jlmin ((2147483647 : Int64)) (fn_X8_rounded ((1 : Int32)) ((w.2.2.2.2) (a1).toNatClampNeg)))).toInt32) hx hb hr (fun t ht hW => ⟨⟨_, (), rfl, ⟨_, rfl⟩, by rw [ht]; exact hP9, hD9, by rw [ht]; exact hIT0.ro hAe hS⟩, hS.F ht⟩) hS.2.2 dc_X9_shortNow_23
set_option linter.constructorNameAsVariable false in
set_option maxHeartbeats 4000000 in
set_option maxRecDepth 100000 in
theorem mt_X9_comparedNowW (l : Launch) (G : ky_G) (mo : Nat) (cs : Nat) (N : Nat → Prop) (w : ky_MV) (f : Nat → Option Nat) (a1 : Int32) (a2 : Int32) (sz : Nat) (h1 : vp_in (a1) 6) (h2 : vp_in (a2) 6) : Met l my_X9_comparedNow (.code my_X9_comparedNow prog_10_method_53_code 3 (some .int) :: ky_B) { frames := 1, cells := 0, slots := 0, locals := 23 } (ky_P G [.ref mo, .int (a1), .int (a2)] (ky_WM G mo cs w f) sz (fun H => ky_IT G mo cs N f w.2.2.2.2 H)) (ky_Q (S := Unit) G (va_A (ky_WM G mo cs w f) sz) (fun v _ => ∃ r : Int32, v = some (.int r)) (fun _ => ky_WM G mo cs w f) (fun _ H => ky_IT G mo cs N f w.2.2.2.2 H)) (0) (0) (va_A (ky_WM G mo cs w f) sz) := by
  refine ky_start (by decide) (Nat.le_of_ble_eq_true rfl) (fun p e s m below meth c F hE A hAe hsz hA hfr hP hD hS hX ls hl => ?_)
  obtain ⟨hx, hb, hml, hown, hr, hlocks, hts⟩ := id F
  have hl : lv_has ls 3 [(0, .ref mo), (1, .int (a1)), (2, .int (a2))] := hl
  have hP : va_P G.1 kcl [(mo, .inr (5, [.int (w.1), .ref cs, .int (w.2.1), .int (w.2.2.1), .int (w.2.2.2.1)])), (cs, .inl (G.2.1 3, 6, .inr (.inr (.inr (.inr (f))))))] s.heap := hP
  have hD : va_D A [(mo, .inr (5, [.int (w.1), .ref cs, .int (w.2.1), .int (w.2.2.1), .int (w.2.2.2.1)])), (cs, .inl (G.2.1 3, 6, .inr (.inr (.inr (.inr (f))))))] := hD
  have hIT0 := hX
  refine lv_aload_n hx hb dc_X9_comparedNow_0 rfl (lv_at hl 0 rfl) ?_
  refine va_get (D := G.1) (ci := 5) (v := .ref cs) (C := RX9) (T := TX9) (N := 5) hx hb hts ki_X9 hown hE.1 hP 0 rfl rfl 1 (by decide) (hts _ kw_6_20) (fun _ h9 => h9) rfl dc_X9_comparedNow_1 ?_
  refine lv_iload_n hx hb dc_X9_comparedNow_4 rfl (lv_at hl 1 rfl) ?_
  have hv_0 : vp_in (a1) 6 := h1
  have hIT := hIT0.ro hAe hS
  refine va_aldq hx hb hE.1 hP 1 3 rfl rfl hv_0 dc_X9_comparedNow_5 ?_
  obtain ⟨b_0, hb_0, hI_0, ho_0⟩ := hIT.2 _ (ky_i6 hv_0)
  rw [ky_rf hb_0]
  have hX_0 : ky_It G b_0 ((w.2.2.2.2) (a1).toNatClampNeg) s.heap := by obtain ⟨b9, e9, i9, -⟩ := hIT0.2 _ (ky_i6 hv_0); have z9 : b9 = b_0 := Option.some.inj (e9.symm.trans hb_0); exact z9 ▸ i9
  have hI_0 := ky_ro2 hX_0 ho_0 hAe hS
  refine ky_cV1 (As := []) F (hE.at hfr hS) (mt_X8_place l G (b_0) (((w.2.2.2.2) (a1).toNatClampNeg)) ) kv_X9_147 ⟨⟨rfl, rfl⟩, by decide, by decide⟩ rfl hl.1 rfl (Nat.le_of_ble_eq_true rfl) ⟨Nat.le_of_ble_eq_true rfl, Nat.le_of_ble_eq_true rfl⟩ (va_recv hE.1 hI_0 (ci := 4) (q0 := 0) rfl rfl) hI_0 dc_X9_comparedNow_6 ?_
  refine lv_aload_n hx hb dc_X9_comparedNow_9 rfl (lv_at hl 0 rfl) ?_
  refine va_get (D := G.1) (ci := 5) (v := .ref cs) (C := RX9) (T := TX9) (N := 5) hx hb hts ki_X9 hown hE.1 hP 0 rfl rfl 1 (by decide) (hts _ kw_6_20) (fun _ h9 => h9) rfl dc_X9_comparedNow_10 ?_
  refine lv_iload_n hx hb dc_X9_comparedNow_13 rfl (lv_at hl 2 rfl) ?_
  have hv_1 : vp_in (a2) 6 := h2
  have hIT := hIT0.ro hAe hS
  refine va_aldq hx hb hE.1 hP 1 3 rfl rfl hv_1 dc_X9_comparedNow_14 ?_
  obtain ⟨b_1, hb_1, hI_1, ho_1⟩ := hIT.2 _ (ky_i6 hv_1)
  rw [ky_rf hb_1]
  have hX_1 : ky_It G b_1 ((w.2.2.2.2) (a2).toNatClampNeg) s.heap := by obtain ⟨b9, e9, i9, -⟩ := hIT0.2 _ (ky_i6 hv_1); have z9 : b9 = b_1 := Option.some.inj (e9.symm.trans hb_1); exact z9 ▸ i9
  have hI_1 := ky_ro2 hX_1 ho_1 hAe hS
  refine ky_cV1 (As := []) F (hE.at hfr hS) (mt_X8_place l G (b_1) (((w.2.2.2.2) (a2).toNatClampNeg)) ) kv_X9_147 ⟨⟨rfl, rfl⟩, by decide, by decide⟩ rfl hl.1 rfl (Nat.le_of_ble_eq_true rfl) ⟨Nat.le_of_ble_eq_true rfl, Nat.le_of_ble_eq_true rfl⟩ (va_recv hE.1 hI_1 (ci := 4) (q0 := 0) rfl rfl) hI_1 dc_X9_comparedNow_15 ?_
  refine ky_cS0 (As := [.long (fn_X8_place ((w.2.2.2.2) (a1).toNatClampNeg)), .long (fn_X8_place ((w.2.2.2.2) (a2).toNatClampNeg))]) F (mt_X9_compared l (fn_X8_place ((w.2.2.2.2) (a1).toNatClampNeg)) (fn_X8_place ((w.2.2.2.2) (a2).toNatClampNeg))) ks_X9_228 ⟨⟨rfl, rfl⟩, by decide, by decide⟩ rfl hl.1 rfl (Nat.le_of_ble_eq_true rfl) ⟨Nat.le_of_ble_eq_true rfl, Nat.le_of_ble_eq_true rfl⟩ dc_X9_comparedNow_18 ?_
  have hP9 := hP.sub (ws' := [(mo, .inr (5, [.int (w.1), .ref cs, .int (w.2.1), .int (w.2.2.1), .int (w.2.2.2.1)])), (cs, .inl (G.2.1 3, 6, .inr (.inr (.inr (.inr (f))))))]) [0, 1] rfl
  have hD9 := hD.sub (ws' := [(mo, .inr (5, [.int (w.1), .ref cs, .int (w.2.1), .int (w.2.2.1), .int (w.2.2.2.1)])), (cs, .inl (G.2.1 3, 6, .inr (.inr (.inr (.inr (f))))))]) [0, 1] (by decide) rfl
  refine W.widen (k := 0) (n := 0) (Nat.le_of_ble_eq_true rfl) (Nat.le_of_ble_eq_true rfl) ?_
  exact W.iret (v := fn_X9_compared (fn_X8_place ((w.2.2.2.2) (a1).toNatClampNeg)) (fn_X8_place ((w.2.2.2.2) (a2).toNatClampNeg))) hx hb hr (fun t ht hW => ⟨⟨_, (), rfl, ⟨_, rfl⟩, by rw [ht]; exact hP9, hD9, by rw [ht]; exact hIT0.ro hAe hS⟩, hS.F ht⟩) hS.2.2 dc_X9_comparedNow_21
set_option linter.constructorNameAsVariable false in
set_option maxHeartbeats 4000000 in
set_option maxRecDepth 100000 in
theorem mt_X9_apartNowW (l : Launch) (G : ky_G) (mo : Nat) (cs : Nat) (N : Nat → Prop) (w : ky_MV) (f : Nat → Option Nat) (a1 : Int32) (a2 : Int32) (sz : Nat) (h1 : vp_in (a1) 6) (h2 : vp_in (a2) 6) : Met l my_X9_apartNow (.code my_X9_apartNow prog_10_method_59_code 7 (some .int) :: ky_B) { frames := 1, cells := 0, slots := 0, locals := 20 } (ky_P G [.ref mo, .int (a1), .int (a2)] (ky_WM G mo cs w f) sz (fun H => ky_IT G mo cs N f w.2.2.2.2 H)) (ky_Q (S := Unit) G (va_A (ky_WM G mo cs w f) sz) (fun v _ => ∃ r : Int32, v = some (.int r)) (fun _ => ky_WM G mo cs w f) (fun _ H => ky_IT G mo cs N f w.2.2.2.2 H)) (0) (0) (va_A (ky_WM G mo cs w f) sz) := by
  refine ky_start (by decide) (Nat.le_of_ble_eq_true rfl) (fun p e s m below meth c F hE A hAe hsz hA hfr hP hD hS hX ls hl => ?_)
  obtain ⟨hx, hb, hml, hown, hr, hlocks, hts⟩ := id F
  have hl : lv_has ls 7 [(0, .ref mo), (1, .int (a1)), (2, .int (a2))] := hl
  have hP : va_P G.1 kcl [(mo, .inr (5, [.int (w.1), .ref cs, .int (w.2.1), .int (w.2.2.1), .int (w.2.2.2.1)])), (cs, .inl (G.2.1 3, 6, .inr (.inr (.inr (.inr (f))))))] s.heap := hP
  have hD : va_D A [(mo, .inr (5, [.int (w.1), .ref cs, .int (w.2.1), .int (w.2.2.1), .int (w.2.2.2.1)])), (cs, .inl (G.2.1 3, 6, .inr (.inr (.inr (.inr (f))))))] := hD
  have hIT0 := hX
  refine lv_aload_n hx hb dc_X9_apartNow_0 rfl (lv_at hl 0 rfl) ?_
  refine va_get (D := G.1) (ci := 5) (v := .ref cs) (C := RX9) (T := TX9) (N := 5) hx hb hts ki_X9 hown hE.1 hP 0 rfl rfl 1 (by decide) (hts _ kw_6_20) (fun _ h9 => h9) rfl dc_X9_apartNow_1 ?_
  refine lv_iload_n hx hb dc_X9_apartNow_4 rfl (lv_at hl 1 rfl) ?_
  have hv_0 : vp_in (a1) 6 := h1
  have hIT := hIT0.ro hAe hS
  refine va_aldq hx hb hE.1 hP 1 3 rfl rfl hv_0 dc_X9_apartNow_5 ?_
  obtain ⟨b_0, hb_0, hI_0, ho_0⟩ := hIT.2 _ (ky_i6 hv_0)
  rw [ky_rf hb_0]
  have hX_0 : ky_It G b_0 ((w.2.2.2.2) (a1).toNatClampNeg) s.heap := by obtain ⟨b9, e9, i9, -⟩ := hIT0.2 _ (ky_i6 hv_0); have z9 : b9 = b_0 := Option.some.inj (e9.symm.trans hb_0); exact z9 ▸ i9
  have hI_0 := ky_ro2 hX_0 ho_0 hAe hS
  refine ky_cV1 (As := []) F (hE.at hfr hS) (mt_X8_rung l G (b_0) (((w.2.2.2.2) (a1).toNatClampNeg)) ) kv_X9_217 ⟨⟨rfl, rfl⟩, by decide, by decide⟩ rfl hl.1 rfl (Nat.le_of_ble_eq_true rfl) ⟨Nat.le_of_ble_eq_true rfl, Nat.le_of_ble_eq_true rfl⟩ (va_recv hE.1 hI_0 (ci := 4) (q0 := 0) rfl rfl) hI_0 dc_X9_apartNow_6 ?_
  generalize ((fn_X8_rung ((w.2.2.2.2) (a1).toNatClampNeg)) : Int64) = j_1
  refine lv_lstore_n (lv' := [(3, .long (j_1)), (0, .ref mo), (1, .int (a1)), (2, .int (a2))]) hx hb dc_X9_apartNow_9 rfl hl (by decide) rfl (fun ls hl => ?_)
  refine lv_aload_n hx hb dc_X9_apartNow_10 rfl (lv_at hl 1 rfl) ?_
  refine va_get (D := G.1) (ci := 5) (v := .ref cs) (C := RX9) (T := TX9) (N := 5) hx hb hts ki_X9 hown hE.1 hP 0 rfl rfl 1 (by decide) (hts _ kw_6_20) (fun _ h9 => h9) rfl dc_X9_apartNow_11 ?_
  refine lv_iload_n hx hb dc_X9_apartNow_14 rfl (lv_at hl 3 rfl) ?_
  have hv_2 : vp_in (a2) 6 := h2
  have hIT := hIT0.ro hAe hS
  refine va_aldq hx hb hE.1 hP 1 3 rfl rfl hv_2 dc_X9_apartNow_15 ?_
  obtain ⟨b_2, hb_2, hI_2, ho_2⟩ := hIT.2 _ (ky_i6 hv_2)
  rw [ky_rf hb_2]
  have hX_2 : ky_It G b_2 ((w.2.2.2.2) (a2).toNatClampNeg) s.heap := by obtain ⟨b9, e9, i9, -⟩ := hIT0.2 _ (ky_i6 hv_2); have z9 : b9 = b_2 := Option.some.inj (e9.symm.trans hb_2); exact z9 ▸ i9
  have hI_2 := ky_ro2 hX_2 ho_2 hAe hS
  refine ky_cV1 (As := []) F (hE.at hfr hS) (mt_X8_rung l G (b_2) (((w.2.2.2.2) (a2).toNatClampNeg)) ) kv_X9_217 ⟨⟨rfl, rfl⟩, by decide, by decide⟩ rfl hl.1 rfl (Nat.le_of_ble_eq_true rfl) ⟨Nat.le_of_ble_eq_true rfl, Nat.le_of_ble_eq_true rfl⟩ (va_recv hE.1 hI_2 (ci := 4) (q0 := 0) rfl rfl) hI_2 dc_X9_apartNow_16 ?_
  generalize ((fn_X8_rung ((w.2.2.2.2) (a2).toNatClampNeg)) : Int64) = j_3
  refine lv_lstore (lv' := [(5, .long (j_3)), (3, .long (j_1)), (0, .ref mo), (1, .int (a1)), (2, .int (a2))]) hx hb dc_X9_apartNow_19 hl (by decide) rfl (fun ls hl => ?_)
  refine lv_lload hx hb dc_X9_apartNow_21 (lv_at hl 0 rfl) ?_
  refine lv_lload_n hx hb dc_X9_apartNow_23 rfl (lv_at hl 1 rfl) ?_
  refine W.lcmp hx hb dc_X9_apartNow_24 ?_
  refine lv_if_lt (tgt := 39) hx hb dc_X9_apartNow_25 (by decide) (fun c_4 => ?_) (fun c_4 => ?_)
  · skip
    refine lv_iconst (v := (-1)) hx hb dc_X9_apartNow_39 (by decide) ?_
    refine lv_goto (tgt := 48) hx hb dc_X9_apartNow_40 (by decide) ?_
    have hP9 := hP.sub (ws' := [(mo, .inr (5, [.int (w.1), .ref cs, .int (w.2.1), .int (w.2.2.1), .int (w.2.2.2.1)])), (cs, .inl (G.2.1 3, 6, .inr (.inr (.inr (.inr (f))))))]) [0, 1] rfl
    have hD9 := hD.sub (ws' := [(mo, .inr (5, [.int (w.1), .ref cs, .int (w.2.1), .int (w.2.2.1), .int (w.2.2.2.1)])), (cs, .inl (G.2.1 3, 6, .inr (.inr (.inr (.inr (f))))))]) [0, 1] (by decide) rfl
    refine W.widen (k := 0) (n := 0) (Nat.le_of_ble_eq_true rfl) (Nat.le_of_ble_eq_true rfl) ?_
    exact W.iret (v := (-1 : Int32)) hx hb hr (fun t ht hW => ⟨⟨_, (), rfl, ⟨_, rfl⟩, by rw [ht]; exact hP9, hD9, by rw [ht]; exact hIT0.ro hAe hS⟩, hS.F ht⟩) hS.2.2 dc_X9_apartNow_48
  · skip
    refine lv_lload hx hb dc_X9_apartNow_28 (lv_at hl 0 rfl) ?_
    refine lv_lload_n hx hb dc_X9_apartNow_30 rfl (lv_at hl 1 rfl) ?_
    refine lv_ldc2 (v := 40) hx hb hown (hts _ kw_7_196) dc_X9_apartNow_31 ?_
    refine lv_ladd hx hb dc_X9_apartNow_34 ?_
    refine W.lcmp hx hb dc_X9_apartNow_35 ?_
    refine lv_if_le (tgt := 43) hx hb dc_X9_apartNow_36 (by decide) (fun c_5 => ?_) (fun c_5 => ?_)
    · skip
      refine lv_lload hx hb dc_X9_apartNow_43 (lv_at hl 0 rfl) ?_
      refine lv_lload_n hx hb dc_X9_apartNow_45 rfl (lv_at hl 1 rfl) ?_
      refine lv_lsub hx hb dc_X9_apartNow_46 ?_
      refine lv_l2i (v := ((j_3) - (j_1)).toInt32) hx hb dc_X9_apartNow_47 rfl ?_
      have hP9 := hP.sub (ws' := [(mo, .inr (5, [.int (w.1), .ref cs, .int (w.2.1), .int (w.2.2.1), .int (w.2.2.2.1)])), (cs, .inl (G.2.1 3, 6, .inr (.inr (.inr (.inr (f))))))]) [0, 1] rfl
      have hD9 := hD.sub (ws' := [(mo, .inr (5, [.int (w.1), .ref cs, .int (w.2.1), .int (w.2.2.1), .int (w.2.2.2.1)])), (cs, .inl (G.2.1 3, 6, .inr (.inr (.inr (.inr (f))))))]) [0, 1] (by decide) rfl
      refine W.widen (k := 0) (n := 0) (Nat.le_of_ble_eq_true rfl) (Nat.le_of_ble_eq_true rfl) ?_
      exact W.iret (v := ((j_3) - (j_1)).toInt32) hx hb hr (fun t ht hW => ⟨⟨_, (), rfl, ⟨_, rfl⟩, by rw [ht]; exact hP9, hD9, by rw [ht]; exact hIT0.ro hAe hS⟩, hS.F ht⟩) hS.2.2 dc_X9_apartNow_48
    · skip
      refine lv_iconst (v := (-1)) hx hb dc_X9_apartNow_39 (by decide) ?_
      refine lv_goto (tgt := 48) hx hb dc_X9_apartNow_40 (by decide) ?_
      have hP9 := hP.sub (ws' := [(mo, .inr (5, [.int (w.1), .ref cs, .int (w.2.1), .int (w.2.2.1), .int (w.2.2.2.1)])), (cs, .inl (G.2.1 3, 6, .inr (.inr (.inr (.inr (f))))))]) [0, 1] rfl
      have hD9 := hD.sub (ws' := [(mo, .inr (5, [.int (w.1), .ref cs, .int (w.2.1), .int (w.2.2.1), .int (w.2.2.2.1)])), (cs, .inl (G.2.1 3, 6, .inr (.inr (.inr (.inr (f))))))]) [0, 1] (by decide) rfl
      refine W.widen (k := 0) (n := 0) (Nat.le_of_ble_eq_true rfl) (Nat.le_of_ble_eq_true rfl) ?_
      exact W.iret (v := (-1 : Int32)) hx hb hr (fun t ht hW => ⟨⟨_, (), rfl, ⟨_, rfl⟩, by rw [ht]; exact hP9, hD9, by rw [ht]; exact hIT0.ro hAe hS⟩, hS.F ht⟩) hS.2.2 dc_X9_apartNow_48
set_option linter.constructorNameAsVariable false in
set_option maxHeartbeats 4000000 in
set_option maxRecDepth 100000 in
theorem ml_X9_placeNow_L14W {p : Program} {l : Launch} {e : Env} {s : State} {m : MethodId} {args : Array Value} {below : List Frame} {meth : Method} {c : Code} {G : ky_G} {A : Nat → Prop} {mo : Nat} {cs : Nat} {N : Nat → Prop} {w : ky_MV} {f : Nat → Option Nat} {a1 : Int32} (F : ky_F p s m meth c my_X9_placeNow.cls prog_10_method_61_code 7 (some .int) args) (hE : ky_E G s) (hA : ∀ q, s.heap.size ≤ q → A q) (hfr : ∀ q, A q → ky_fr G q) (hAe : A = va_A (ky_WM G mo cs w f) s.heap.size) (hIT0 : ky_IT G mo cs N f w.2.2.2.2 s.heap) (h1 : vp_in (a1) 6) : ∀ (n9 : Nat) (k9 : Nat) (ct : Int32) (h9 : k9 ≤ 6) (hn9 : 6 - k9 < n9) (H : Heap) (locs : List Loc), va_P G.1 kcl [(mo, .inr (5, [.int (w.1), .ref cs, .int (w.2.1), .int (w.2.2.1), .int (w.2.2.2.1)])), (cs, .inl (G.2.1 3, 6, .inr (.inr (.inr (.inr (f))))))] H → va_D A [(mo, .inr (5, [.int (w.1), .ref cs, .int (w.2.1), .int (w.2.2.1), .int (w.2.2.2.1)])), (cs, .inl (G.2.1 3, 6, .inr (.inr (.inr (.inr (f))))))] → va_S A s.heap H locs →  ∀ ls : Array Slot, lv_has ls 7 [(0, .ref mo), (1, .int (a1)), (3, .ref cs), (4, .int ((6 : Int32))), (2, .int (ct)), (5, .int (nI (k9)))] → W p l e { frames := 1, cells := 0, slots := 0, locals := 20 } s m args below meth c H locs (0) (0) (MQ below (ky_Q (S := Unit) G A (fun v _ => ∃ r : Int32, v = some (.int r)) (fun _ => ky_WM G mo cs w f) (fun _ H => ky_IT G mo cs N f w.2.2.2.2 H)) args s (0) (0) A) (F0 m 14 ls []) := by
  obtain ⟨hx, hb, hml, hown, hr, hlocks, hts⟩ := id F
  intro n9
  induction n9 with
  | zero => intro k9 ct h9 hn9; exact False.elim (by omega)
  | succ n9 ih =>
      intro k9 ct h9 hn9 H locs hP hD hS  ls hl
      refine lv_iload hx hb dc_X9_placeNow_14 (lv_at hl 5 rfl) ?_
      refine lv_iload hx hb dc_X9_placeNow_16 (lv_at hl 3 rfl) ?_
      refine lv_icmp_ge (tgt := 62) hx hb dc_X9_placeNow_18 (by decide) (fun c_0 => ?_) (fun c_0 => ?_)
      · skip
        refine lv_iload_n hx hb dc_X9_placeNow_62 rfl (lv_at hl 4 rfl) ?_
        have hP9 := hP.sub (ws' := [(mo, .inr (5, [.int (w.1), .ref cs, .int (w.2.1), .int (w.2.2.1), .int (w.2.2.2.1)])), (cs, .inl (G.2.1 3, 6, .inr (.inr (.inr (.inr (f))))))]) [0, 1] rfl
        have hD9 := hD.sub (ws' := [(mo, .inr (5, [.int (w.1), .ref cs, .int (w.2.1), .int (w.2.2.1), .int (w.2.2.2.1)])), (cs, .inl (G.2.1 3, 6, .inr (.inr (.inr (.inr (f))))))]) [0, 1] (by decide) rfl
        refine W.widen (k := 0) (n := 0) (Nat.le_of_ble_eq_true rfl) (Nat.le_of_ble_eq_true rfl) ?_
        exact W.iret (v := ct) hx hb hr (fun t ht hW => ⟨⟨_, (), rfl, ⟨_, rfl⟩, by rw [ht]; exact hP9, hD9, by rw [ht]; exact hIT0.ro hAe hS⟩, hS.F ht⟩) hS.2.2 dc_X9_placeNow_63
      · skip
        have h9k9 : ¬ 6 ≤ k9 := fun z => c_0 ((nI_leI (a := 6) (b := k9) (by omega) (by omega)).mpr z)
        refine lv_aload_n hx hb dc_X9_placeNow_21 rfl (lv_at hl 2 rfl) ?_
        refine lv_iload hx hb dc_X9_placeNow_22 (lv_at hl 5 rfl) ?_
        have hv_1 : vp_in (nI (k9)) 6 := (vp_in_nI (by omega) (by omega))
        have hIT := hIT0.ro hAe hS
        refine va_aldq hx hb hE.1 hP 1 3 rfl rfl hv_1 dc_X9_placeNow_24 ?_
        obtain ⟨b_1, hb_1, hI_1, ho_1⟩ := hIT.2 _ (ky_i6 hv_1)
        rw [ky_rf hb_1]
        have hX_1 : ky_It G b_1 ((w.2.2.2.2) (nI (k9)).toNatClampNeg) s.heap := by obtain ⟨b9, e9, i9, -⟩ := hIT0.2 _ (ky_i6 hv_1); have z9 : b9 = b_1 := Option.some.inj (e9.symm.trans hb_1); exact z9 ▸ i9
        refine lv_astore (lv' := [(6, .ref b_1), (0, .ref mo), (1, .int (a1)), (3, .ref cs), (4, .int ((6 : Int32))), (2, .int (ct)), (5, .int (nI (k9)))]) hx hb dc_X9_placeNow_25 hl (by decide) rfl (fun ls hl => ?_)
        refine lv_iload_n hx hb dc_X9_placeNow_27 rfl (lv_at hl 5 rfl) ?_
        refine lv_aload hx hb dc_X9_placeNow_28 (lv_at hl 0 rfl) ?_
        have hI_1 := ky_ro2 hX_1 ho_1 hAe hS
        refine ky_cV1 (As := []) F (hE.at hfr hS) (mt_X8_place l G (b_1) (((w.2.2.2.2) (nI (k9)).toNatClampNeg)) ) kv_X9_147 ⟨⟨rfl, rfl⟩, by decide, by decide⟩ rfl hl.1 rfl (Nat.le_of_ble_eq_true rfl) ⟨Nat.le_of_ble_eq_true rfl, Nat.le_of_ble_eq_true rfl⟩ (va_recv hE.1 hI_1 (ci := 4) (q0 := 0) rfl rfl) hI_1 dc_X9_placeNow_30 ?_
        refine lv_aload_n hx hb dc_X9_placeNow_33 rfl (lv_at hl 1 rfl) ?_
        refine va_get (D := G.1) (ci := 5) (v := .ref cs) (C := RX9) (T := TX9) (N := 5) hx hb hts ki_X9 hown hE.1 hP 0 rfl rfl 1 (by decide) (hts _ kw_6_20) (fun _ h9 => h9) rfl dc_X9_placeNow_34 ?_
        refine lv_iload_n hx hb dc_X9_placeNow_37 rfl (lv_at hl 2 rfl) ?_
        have hv_2 : vp_in (a1) 6 := h1
        have hIT := hIT0.ro hAe hS
        refine va_aldq hx hb hE.1 hP 1 3 rfl rfl hv_2 dc_X9_placeNow_38 ?_
        obtain ⟨b_2, hb_2, hI_2, ho_2⟩ := hIT.2 _ (ky_i6 hv_2)
        rw [ky_rf hb_2]
        have hX_2 : ky_It G b_2 ((w.2.2.2.2) (a1).toNatClampNeg) s.heap := by obtain ⟨b9, e9, i9, -⟩ := hIT0.2 _ (ky_i6 hv_2); have z9 : b9 = b_2 := Option.some.inj (e9.symm.trans hb_2); exact z9 ▸ i9
        have hI_2 := ky_ro2 hX_2 ho_2 hAe hS
        refine ky_cV1 (As := []) F (hE.at hfr hS) (mt_X8_place l G (b_2) (((w.2.2.2.2) (a1).toNatClampNeg)) ) kv_X9_147 ⟨⟨rfl, rfl⟩, by decide, by decide⟩ rfl hl.1 rfl (Nat.le_of_ble_eq_true rfl) ⟨Nat.le_of_ble_eq_true rfl, Nat.le_of_ble_eq_true rfl⟩ (va_recv hE.1 hI_2 (ci := 4) (q0 := 0) rfl rfl) hI_2 dc_X9_placeNow_39 ?_
        refine W.lcmp hx hb dc_X9_placeNow_42 ?_
        refine lv_if_ge (tgt := 50) hx hb dc_X9_placeNow_43 (by decide) (fun c_3 => ?_) (fun c_3 => ?_)
        · skip
          refine lv_iconst (v := 0) hx hb dc_X9_placeNow_50 (by decide) ?_
          refine ky_cS0 (As := [.int ((0 : Int32))]) F (mt_X9_one l ((0 : Int32))) ks_X9_59 ⟨⟨rfl, rfl⟩, by decide, by decide⟩ rfl hl.1 rfl (Nat.le_of_ble_eq_true rfl) ⟨Nat.le_of_ble_eq_true rfl, Nat.le_of_ble_eq_true rfl⟩ dc_X9_placeNow_51 ?_
          refine lv_iadd hx hb dc_X9_placeNow_54 ?_
          generalize (((ct) + (fn_X9_one ((0 : Int32)))) : Int32) = j_4
          refine lv_istore_n (lv' := [(2, .int (j_4)), (6, .ref b_1), (0, .ref mo), (1, .int (a1)), (3, .ref cs), (4, .int ((6 : Int32))), (5, .int (nI (k9)))]) hx hb dc_X9_placeNow_55 rfl hl (by decide) rfl (fun ls hl => ?_)
          refine lv_iinc (v := nI (k9 + 1)) (lv' := [(5, .int (nI (k9 + 1))), (2, .int (j_4)), (6, .ref b_1), (0, .ref mo), (1, .int (a1)), (3, .ref cs), (4, .int ((6 : Int32)))]) hx hb dc_X9_placeNow_56 hl (k := 6) rfl (nI_1 _) (by decide) rfl (fun ls hl => ?_)
          refine lv_goto (tgt := 14) hx hb dc_X9_placeNow_59 (by decide) ?_
          refine W.widen (k := 0) (n := 0) (by first | exact Nat.le_refl _ | omega | exact Nat.zero_le _) (by first | exact Nat.le_refl _ | omega | exact Nat.zero_le _) ?_
          exact ih (k9 + 1) j_4 (by omega) (by omega) _ _ (hP.sub (ws' := [(mo, .inr (5, [.int (w.1), .ref cs, .int (w.2.1), .int (w.2.2.1), .int (w.2.2.2.1)])), (cs, .inl (G.2.1 3, 6, .inr (.inr (.inr (.inr (f))))))]) [0, 1] rfl) (hD.sub (ws' := [(mo, .inr (5, [.int (w.1), .ref cs, .int (w.2.1), .int (w.2.2.1), .int (w.2.2.2.1)])), (cs, .inl (G.2.1 3, 6, .inr (.inr (.inr (.inr (f))))))]) [0, 1] (by decide) rfl) hS  _ (lv_sub hl [3, 4, 5, 6, 1, 0] rfl)
        · skip
          refine lv_iconst (v := 1) hx hb dc_X9_placeNow_46 (by decide) ?_
          refine lv_goto (tgt := 51) hx hb dc_X9_placeNow_47 (by decide) ?_
          refine ky_cS0 (As := [.int ((1 : Int32))]) F (mt_X9_one l ((1 : Int32))) ks_X9_59 ⟨⟨rfl, rfl⟩, by decide, by decide⟩ rfl hl.1 rfl (Nat.le_of_ble_eq_true rfl) ⟨Nat.le_of_ble_eq_true rfl, Nat.le_of_ble_eq_true rfl⟩ dc_X9_placeNow_51 ?_
          refine lv_iadd hx hb dc_X9_placeNow_54 ?_
          generalize (((ct) + (fn_X9_one ((1 : Int32)))) : Int32) = j_4
          refine lv_istore_n (lv' := [(2, .int (j_4)), (6, .ref b_1), (0, .ref mo), (1, .int (a1)), (3, .ref cs), (4, .int ((6 : Int32))), (5, .int (nI (k9)))]) hx hb dc_X9_placeNow_55 rfl hl (by decide) rfl (fun ls hl => ?_)
          refine lv_iinc (v := nI (k9 + 1)) (lv' := [(5, .int (nI (k9 + 1))), (2, .int (j_4)), (6, .ref b_1), (0, .ref mo), (1, .int (a1)), (3, .ref cs), (4, .int ((6 : Int32)))]) hx hb dc_X9_placeNow_56 hl (k := 6) rfl (nI_1 _) (by decide) rfl (fun ls hl => ?_)
          refine lv_goto (tgt := 14) hx hb dc_X9_placeNow_59 (by decide) ?_
          refine W.widen (k := 0) (n := 0) (by first | exact Nat.le_refl _ | omega | exact Nat.zero_le _) (by first | exact Nat.le_refl _ | omega | exact Nat.zero_le _) ?_
          exact ih (k9 + 1) j_4 (by omega) (by omega) _ _ (hP.sub (ws' := [(mo, .inr (5, [.int (w.1), .ref cs, .int (w.2.1), .int (w.2.2.1), .int (w.2.2.2.1)])), (cs, .inl (G.2.1 3, 6, .inr (.inr (.inr (.inr (f))))))]) [0, 1] rfl) (hD.sub (ws' := [(mo, .inr (5, [.int (w.1), .ref cs, .int (w.2.1), .int (w.2.2.1), .int (w.2.2.2.1)])), (cs, .inl (G.2.1 3, 6, .inr (.inr (.inr (.inr (f))))))]) [0, 1] (by decide) rfl) hS  _ (lv_sub hl [3, 4, 5, 6, 1, 0] rfl)
set_option linter.constructorNameAsVariable false in
set_option maxHeartbeats 4000000 in
set_option maxRecDepth 100000 in
theorem mt_X9_placeNowW (l : Launch) (G : ky_G) (mo : Nat) (cs : Nat) (N : Nat → Prop) (w : ky_MV) (f : Nat → Option Nat) (a1 : Int32) (sz : Nat) (h1 : vp_in (a1) 6) : Met l my_X9_placeNow (.code my_X9_placeNow prog_10_method_61_code 7 (some .int) :: ky_B) { frames := 1, cells := 0, slots := 0, locals := 20 } (ky_P G [.ref mo, .int (a1)] (ky_WM G mo cs w f) sz (fun H => ky_IT G mo cs N f w.2.2.2.2 H)) (ky_Q (S := Unit) G (va_A (ky_WM G mo cs w f) sz) (fun v _ => ∃ r : Int32, v = some (.int r)) (fun _ => ky_WM G mo cs w f) (fun _ H => ky_IT G mo cs N f w.2.2.2.2 H)) (0) (0) (va_A (ky_WM G mo cs w f) sz) := by
  refine ky_start (by decide) (Nat.le_of_ble_eq_true rfl) (fun p e s m below meth c F hE A hAe hsz hA hfr hP hD hS hX ls hl => ?_)
  obtain ⟨hx, hb, hml, hown, hr, hlocks, hts⟩ := id F
  have hl : lv_has ls 7 [(0, .ref mo), (1, .int (a1))] := hl
  have hP : va_P G.1 kcl [(mo, .inr (5, [.int (w.1), .ref cs, .int (w.2.1), .int (w.2.2.1), .int (w.2.2.2.1)])), (cs, .inl (G.2.1 3, 6, .inr (.inr (.inr (.inr (f))))))] s.heap := hP
  have hD : va_D A [(mo, .inr (5, [.int (w.1), .ref cs, .int (w.2.1), .int (w.2.2.1), .int (w.2.2.2.1)])), (cs, .inl (G.2.1 3, 6, .inr (.inr (.inr (.inr (f))))))] := hD
  have hIT0 := hX
  refine lv_iconst (v := 0) hx hb dc_X9_placeNow_0 (by decide) ?_
  refine lv_istore_n (lv' := [(2, .int ((0 : Int32))), (0, .ref mo), (1, .int (a1))]) hx hb dc_X9_placeNow_1 rfl hl (by decide) rfl (fun ls hl => ?_)
  refine lv_aload_n hx hb dc_X9_placeNow_2 rfl (lv_at hl 1 rfl) ?_
  refine va_get (D := G.1) (ci := 5) (v := .ref cs) (C := RX9) (T := TX9) (N := 5) hx hb hts ki_X9 hown hE.1 hP 0 rfl rfl 1 (by decide) (hts _ kw_6_20) (fun _ h9 => h9) rfl dc_X9_placeNow_3 ?_
  refine lv_astore_n (lv' := [(3, .ref cs), (2, .int ((0 : Int32))), (0, .ref mo), (1, .int (a1))]) hx hb dc_X9_placeNow_6 rfl hl (by decide) rfl (fun ls hl => ?_)
  refine lv_aload_n hx hb dc_X9_placeNow_7 rfl (lv_at hl 0 rfl) ?_
  refine va_alen hx hb hE.1 hP 1 3 rfl rfl (v := (6 : Int32)) rfl dc_X9_placeNow_8 ?_
  refine lv_istore (lv' := [(4, .int ((6 : Int32))), (3, .ref cs), (2, .int ((0 : Int32))), (0, .ref mo), (1, .int (a1))]) hx hb dc_X9_placeNow_9 hl (by decide) rfl (fun ls hl => ?_)
  refine lv_iconst (v := 0) hx hb dc_X9_placeNow_11 (by decide) ?_
  refine lv_istore (lv' := [(5, .int ((0 : Int32))), (4, .int ((6 : Int32))), (3, .ref cs), (2, .int ((0 : Int32))), (0, .ref mo), (1, .int (a1))]) hx hb dc_X9_placeNow_12 hl (by decide) rfl (fun ls hl => ?_)
  refine W.widen (k := 0) (n := 0) (by first | exact Nat.le_refl _ | omega | exact Nat.zero_le _) (by first | exact Nat.le_refl _ | omega | exact Nat.zero_le _) ?_
  exact ml_X9_placeNow_L14W (mo := mo) (cs := cs) (N := N) (w := w) (f := f) (a1 := a1) F hE hA hfr hAe hIT0 h1 (7) 0 (0 : Int32) (by omega) (by omega) _ _ (hP.sub (ws' := [(mo, .inr (5, [.int (w.1), .ref cs, .int (w.2.1), .int (w.2.2.1), .int (w.2.2.2.1)])), (cs, .inl (G.2.1 3, 6, .inr (.inr (.inr (.inr (f))))))]) [0, 1] rfl) (hD.sub (ws' := [(mo, .inr (5, [.int (w.1), .ref cs, .int (w.2.1), .int (w.2.2.1), .int (w.2.2.2.1)])), (cs, .inl (G.2.1 3, 6, .inr (.inr (.inr (.inr (f))))))]) [0, 1] (by decide) rfl) hS  _ (lv_sub hl [4, 5, 2, 1, 3, 0] rfl)
set_option linter.constructorNameAsVariable false in
set_option maxHeartbeats 4000000 in
set_option maxRecDepth 100000 in
theorem ml_X9_houseNow_L14W {p : Program} {l : Launch} {e : Env} {s : State} {m : MethodId} {args : Array Value} {below : List Frame} {meth : Method} {c : Code} {G : ky_G} {A : Nat → Prop} {mo : Nat} {cs : Nat} {N : Nat → Prop} {w : ky_MV} {f : Nat → Option Nat} {a1 : Int32} (F : ky_F p s m meth c my_X9_houseNow.cls prog_10_method_75_code 7 (some .int) args) (hE : ky_E G s) (hA : ∀ q, s.heap.size ≤ q → A q) (hfr : ∀ q, A q → ky_fr G q) (hAe : A = va_A (ky_WM G mo cs w f) s.heap.size) (hIT0 : ky_IT G mo cs N f w.2.2.2.2 s.heap) (h1 : vp_in (a1) 4) : ∀ (n9 : Nat) (k9 : Nat) (ct : Int32) (h9 : k9 ≤ 6) (hn9 : 6 - k9 < n9) (H : Heap) (locs : List Loc), va_P G.1 kcl [(mo, .inr (5, [.int (w.1), .ref cs, .int (w.2.1), .int (w.2.2.1), .int (w.2.2.2.1)])), (cs, .inl (G.2.1 3, 6, .inr (.inr (.inr (.inr (f))))))] H → va_D A [(mo, .inr (5, [.int (w.1), .ref cs, .int (w.2.1), .int (w.2.2.1), .int (w.2.2.2.1)])), (cs, .inl (G.2.1 3, 6, .inr (.inr (.inr (.inr (f))))))] → va_S A s.heap H locs →  ∀ ls : Array Slot, lv_has ls 7 [(0, .ref mo), (1, .int (a1)), (3, .ref cs), (4, .int ((6 : Int32))), (2, .int (ct)), (5, .int (nI (k9)))] → W p l e { frames := 6, cells := 1, slots := 4, locals := 125 } s m args below meth c H locs (0) (0) (MQ below (ky_Q (S := Unit) G A (fun v _ => ∃ r : Int32, v = some (.int r)) (fun _ => ky_WM G mo cs w f) (fun _ H => ky_IT G mo cs N f w.2.2.2.2 H)) args s (1) (4) A) (F0 m 14 ls []) := by
  obtain ⟨hx, hb, hml, hown, hr, hlocks, hts⟩ := id F
  intro n9
  induction n9 with
  | zero => intro k9 ct h9 hn9; exact False.elim (by omega)
  | succ n9 ih =>
      intro k9 ct h9 hn9 H locs hP hD hS  ls hl
      refine lv_iload hx hb dc_X9_houseNow_14 (lv_at hl 5 rfl) ?_
      refine lv_iload hx hb dc_X9_houseNow_16 (lv_at hl 3 rfl) ?_
      refine lv_icmp_ge (tgt := 44) hx hb dc_X9_houseNow_18 (by decide) (fun c_0 => ?_) (fun c_0 => ?_)
      · skip
        refine lv_iconst (v := 4) hx hb dc_X9_houseNow_44 (by decide) ?_
        refine va_newa (atype := .int) (ty := .int) (N' := 4) (a0 := (4, .inl (fun _ => 0))) hx hb (hts _ kw_8_21) rfl hE.1 hP hD hS hA (fun _ => rfl) (by decide) (by decide) (by decide) (by show (_ : Nat) ≤ 1; omega) (by show (_ : Nat) ≤ 4; omega) dc_X9_houseNow_45 (fun q_1 cA_1 H hK_1 hP hD hS => ?_)
        have hc_1 : cA_1 = G.2.1 5 := ky_nB 5 hE.1 hK_1 rfl (fun _ h => by cases h)
        subst hc_1
        have hP : va_P G.1 kcl [(mo, .inr (5, [.int (w.1), .ref cs, .int (w.2.1), .int (w.2.2.1), .int (w.2.2.2.1)])), (cs, .inl (G.2.1 3, 6, .inr (.inr (.inr (.inr (f)))))), (q_1, .inl (G.2.1 5, 4, .inl (fun _ => 0)))] H := hP
        have hD : va_D A [(mo, .inr (5, [.int (w.1), .ref cs, .int (w.2.1), .int (w.2.2.1), .int (w.2.2.2.1)])), (cs, .inl (G.2.1 3, 6, .inr (.inr (.inr (.inr (f)))))), (q_1, .inl (G.2.1 5, 4, .inl (fun _ => 0)))] := hD
        refine W.widen (k := 1) (n := 4) (by first | exact Nat.le_refl _ | omega) (by first | exact Nat.le_refl _ | omega) ?_
        refine lv_dup hx hb dc_X9_houseNow_47 rfl ?_
        refine lv_iconst (v := 0) hx hb dc_X9_houseNow_48 (by decide) ?_
        refine lv_aload_n hx hb dc_X9_houseNow_49 rfl (lv_at hl 0 rfl) ?_
        refine va_get (D := G.1) (ci := 5) (v := .int (w.2.1)) (C := RX9) (T := TX9) (N := 5) hx hb hts ki_X9 hown hE.1 hP 0 rfl rfl 2 (by decide) (hts _ kw_6_21) (fun _ h9 => h9) rfl dc_X9_houseNow_50 ?_
        refine va_iast hx hb hE.1 hP hD hS 2 5 rfl rfl (vp_in_iff.mpr (by decide)) dc_X9_houseNow_53 (fun H locs hP hD hS => ?_)
        have hP : va_P G.1 kcl [(mo, .inr (5, [.int (w.1), .ref cs, .int (w.2.1), .int (w.2.2.1), .int (w.2.2.2.1)])), (cs, .inl (G.2.1 3, 6, .inr (.inr (.inr (.inr (f)))))), (q_1, .inl (G.2.1 5, 4, .inl (upd (fun _ => 0) ((0 : Int32)).toNatClampNeg (w.2.1))))] H := hP
        have hD : va_D A [(mo, .inr (5, [.int (w.1), .ref cs, .int (w.2.1), .int (w.2.2.1), .int (w.2.2.2.1)])), (cs, .inl (G.2.1 3, 6, .inr (.inr (.inr (.inr (f)))))), (q_1, .inl (G.2.1 5, 4, .inl (upd (fun _ => 0) ((0 : Int32)).toNatClampNeg (w.2.1))))] := hD
        refine lv_dup hx hb dc_X9_houseNow_54 rfl ?_
        refine lv_iconst (v := 1) hx hb dc_X9_houseNow_55 (by decide) ?_
        refine lv_aload_n hx hb dc_X9_houseNow_56 rfl (lv_at hl 0 rfl) ?_
        refine va_get (D := G.1) (ci := 5) (v := .int (w.2.2.1)) (C := RX9) (T := TX9) (N := 5) hx hb hts ki_X9 hown hE.1 hP 0 rfl rfl 3 (by decide) (hts _ kw_6_22) (fun _ h9 => h9) rfl dc_X9_houseNow_57 ?_
        refine va_iast hx hb hE.1 hP hD hS 2 5 rfl rfl (vp_in_iff.mpr (by decide)) dc_X9_houseNow_60 (fun H locs hP hD hS => ?_)
        have hP : va_P G.1 kcl [(mo, .inr (5, [.int (w.1), .ref cs, .int (w.2.1), .int (w.2.2.1), .int (w.2.2.2.1)])), (cs, .inl (G.2.1 3, 6, .inr (.inr (.inr (.inr (f)))))), (q_1, .inl (G.2.1 5, 4, .inl (upd (upd (fun _ => 0) ((0 : Int32)).toNatClampNeg (w.2.1)) ((1 : Int32)).toNatClampNeg (w.2.2.1))))] H := hP
        have hD : va_D A [(mo, .inr (5, [.int (w.1), .ref cs, .int (w.2.1), .int (w.2.2.1), .int (w.2.2.2.1)])), (cs, .inl (G.2.1 3, 6, .inr (.inr (.inr (.inr (f)))))), (q_1, .inl (G.2.1 5, 4, .inl (upd (upd (fun _ => 0) ((0 : Int32)).toNatClampNeg (w.2.1)) ((1 : Int32)).toNatClampNeg (w.2.2.1))))] := hD
        refine lv_dup hx hb dc_X9_houseNow_61 rfl ?_
        refine lv_iconst (v := 2) hx hb dc_X9_houseNow_62 (by decide) ?_
        refine lv_aload_n hx hb dc_X9_houseNow_63 rfl (lv_at hl 0 rfl) ?_
        refine va_get (D := G.1) (ci := 5) (v := .int (w.2.2.2.1)) (C := RX9) (T := TX9) (N := 5) hx hb hts ki_X9 hown hE.1 hP 0 rfl rfl 4 (by decide) (hts _ kw_6_23) (fun _ h9 => h9) rfl dc_X9_houseNow_64 ?_
        refine va_iast hx hb hE.1 hP hD hS 2 5 rfl rfl (vp_in_iff.mpr (by decide)) dc_X9_houseNow_67 (fun H locs hP hD hS => ?_)
        have hP : va_P G.1 kcl [(mo, .inr (5, [.int (w.1), .ref cs, .int (w.2.1), .int (w.2.2.1), .int (w.2.2.2.1)])), (cs, .inl (G.2.1 3, 6, .inr (.inr (.inr (.inr (f)))))), (q_1, .inl (G.2.1 5, 4, .inl (upd (upd (upd (fun _ => 0) ((0 : Int32)).toNatClampNeg (w.2.1)) ((1 : Int32)).toNatClampNeg (w.2.2.1)) ((2 : Int32)).toNatClampNeg (w.2.2.2.1))))] H := hP
        have hD : va_D A [(mo, .inr (5, [.int (w.1), .ref cs, .int (w.2.1), .int (w.2.2.1), .int (w.2.2.2.1)])), (cs, .inl (G.2.1 3, 6, .inr (.inr (.inr (.inr (f)))))), (q_1, .inl (G.2.1 5, 4, .inl (upd (upd (upd (fun _ => 0) ((0 : Int32)).toNatClampNeg (w.2.1)) ((1 : Int32)).toNatClampNeg (w.2.2.1)) ((2 : Int32)).toNatClampNeg (w.2.2.2.1))))] := hD
        refine lv_dup hx hb dc_X9_houseNow_68 rfl ?_
        refine lv_iconst (v := 3) hx hb dc_X9_houseNow_69 (by decide) ?_
        refine lv_iload_n hx hb dc_X9_houseNow_70 rfl (lv_at hl 4 rfl) ?_
        refine va_iast hx hb hE.1 hP hD hS 2 5 rfl rfl (vp_in_iff.mpr (by decide)) dc_X9_houseNow_71 (fun H locs hP hD hS => ?_)
        have hP : va_P G.1 kcl [(mo, .inr (5, [.int (w.1), .ref cs, .int (w.2.1), .int (w.2.2.1), .int (w.2.2.2.1)])), (cs, .inl (G.2.1 3, 6, .inr (.inr (.inr (.inr (f)))))), (q_1, .inl (G.2.1 5, 4, .inl (upd (upd (upd (upd (fun _ => 0) ((0 : Int32)).toNatClampNeg (w.2.1)) ((1 : Int32)).toNatClampNeg (w.2.2.1)) ((2 : Int32)).toNatClampNeg (w.2.2.2.1)) ((3 : Int32)).toNatClampNeg (ct))))] H := hP
        have hD : va_D A [(mo, .inr (5, [.int (w.1), .ref cs, .int (w.2.1), .int (w.2.2.1), .int (w.2.2.2.1)])), (cs, .inl (G.2.1 3, 6, .inr (.inr (.inr (.inr (f)))))), (q_1, .inl (G.2.1 5, 4, .inl (upd (upd (upd (upd (fun _ => 0) ((0 : Int32)).toNatClampNeg (w.2.1)) ((1 : Int32)).toNatClampNeg (w.2.2.1)) ((2 : Int32)).toNatClampNeg (w.2.2.2.1)) ((3 : Int32)).toNatClampNeg (ct))))] := hD
        refine lv_astore_n (lv' := [(3, .ref q_1), (0, .ref mo), (1, .int (a1)), (4, .int ((6 : Int32))), (2, .int (ct)), (5, .int (nI (k9)))]) hx hb dc_X9_houseNow_72 rfl hl (by decide) rfl (fun ls hl => ?_)
        refine lv_aload_n hx hb dc_X9_houseNow_73 rfl (lv_at hl 0 rfl) ?_
        refine lv_iload_n hx hb dc_X9_houseNow_74 rfl (lv_at hl 2 rfl) ?_
        refine va_iald hx hb hE.1 hP 2 5 rfl rfl h1 dc_X9_houseNow_75 ?_
        have hP9 := hP.sub (ws' := [(mo, .inr (5, [.int (w.1), .ref cs, .int (w.2.1), .int (w.2.2.1), .int (w.2.2.2.1)])), (cs, .inl (G.2.1 3, 6, .inr (.inr (.inr (.inr (f))))))]) [0, 1] rfl
        have hD9 := hD.sub (ws' := [(mo, .inr (5, [.int (w.1), .ref cs, .int (w.2.1), .int (w.2.2.1), .int (w.2.2.2.1)])), (cs, .inl (G.2.1 3, 6, .inr (.inr (.inr (.inr (f))))))]) [0, 1] (by decide) rfl
        refine W.widen (k := 1) (n := 4) (by omega) (by omega) ?_
        exact W.iret (v := (upd (upd (upd (upd (fun _ => 0) ((0 : Int32)).toNatClampNeg (w.2.1)) ((1 : Int32)).toNatClampNeg (w.2.2.1)) ((2 : Int32)).toNatClampNeg (w.2.2.2.1)) ((3 : Int32)).toNatClampNeg (ct)) (a1).toNatClampNeg) hx hb hr (fun t ht hW => ⟨⟨_, (), rfl, ⟨_, rfl⟩, by rw [ht]; exact hP9, hD9, by rw [ht]; exact hIT0.ro hAe hS⟩, hS.F ht⟩) hS.2.2 dc_X9_houseNow_76
      · skip
        have h9k9 : ¬ 6 ≤ k9 := fun z => c_0 ((nI_leI (a := 6) (b := k9) (by omega) (by omega)).mpr z)
        refine lv_aload_n hx hb dc_X9_houseNow_21 rfl (lv_at hl 2 rfl) ?_
        refine lv_iload hx hb dc_X9_houseNow_22 (lv_at hl 5 rfl) ?_
        have hv_1 : vp_in (nI (k9)) 6 := (vp_in_nI (by omega) (by omega))
        have hIT := hIT0.ro hAe hS
        refine va_aldq hx hb hE.1 hP 1 3 rfl rfl hv_1 dc_X9_houseNow_24 ?_
        obtain ⟨b_1, hb_1, hI_1, ho_1⟩ := hIT.2 _ (ky_i6 hv_1)
        rw [ky_rf hb_1]
        have hX_1 : ky_It G b_1 ((w.2.2.2.2) (nI (k9)).toNatClampNeg) s.heap := by obtain ⟨b9, e9, i9, -⟩ := hIT0.2 _ (ky_i6 hv_1); have z9 : b9 = b_1 := Option.some.inj (e9.symm.trans hb_1); exact z9 ▸ i9
        refine lv_astore (lv' := [(6, .ref b_1), (0, .ref mo), (1, .int (a1)), (3, .ref cs), (4, .int ((6 : Int32))), (2, .int (ct)), (5, .int (nI (k9)))]) hx hb dc_X9_houseNow_25 hl (by decide) rfl (fun ls hl => ?_)
        refine lv_iload_n hx hb dc_X9_houseNow_27 rfl (lv_at hl 5 rfl) ?_
        refine lv_aload hx hb dc_X9_houseNow_28 (lv_at hl 0 rfl) ?_
        have hI_1 := ky_ro2 hX_1 ho_1 hAe hS
        refine ky_cV1 (As := []) F (hE.at hfr hS) (mt_X8_isWhole l G (b_1) (((w.2.2.2.2) (nI (k9)).toNatClampNeg)) ) kv_X9_224 ⟨⟨rfl, rfl⟩, by decide, by decide⟩ rfl hl.1 rfl (Nat.le_of_ble_eq_true rfl) ⟨by show (_ : Nat) ≤ 1; omega, by show (_ : Nat) ≤ 4; omega⟩ (va_recv hE.1 hI_1 (ci := 4) (q0 := 0) rfl rfl) hI_1 dc_X9_houseNow_30 ?_
        refine ky_cS0 (As := [.int (fn_X8_isWhole ((w.2.2.2.2) (nI (k9)).toNatClampNeg))]) F (mt_X9_one l (fn_X8_isWhole ((w.2.2.2.2) (nI (k9)).toNatClampNeg))) ks_X9_59 ⟨⟨rfl, rfl⟩, by decide, by decide⟩ rfl hl.1 rfl (Nat.le_of_ble_eq_true rfl) ⟨by show (_ : Nat) ≤ 1; omega, by show (_ : Nat) ≤ 4; omega⟩ dc_X9_houseNow_33 ?_
        refine lv_iadd hx hb dc_X9_houseNow_36 ?_
        generalize (((ct) + (fn_X9_one (fn_X8_isWhole ((w.2.2.2.2) (nI (k9)).toNatClampNeg)))) : Int32) = j_2
        refine lv_istore_n (lv' := [(2, .int (j_2)), (6, .ref b_1), (0, .ref mo), (1, .int (a1)), (3, .ref cs), (4, .int ((6 : Int32))), (5, .int (nI (k9)))]) hx hb dc_X9_houseNow_37 rfl hl (by decide) rfl (fun ls hl => ?_)
        refine lv_iinc (v := nI (k9 + 1)) (lv' := [(5, .int (nI (k9 + 1))), (2, .int (j_2)), (6, .ref b_1), (0, .ref mo), (1, .int (a1)), (3, .ref cs), (4, .int ((6 : Int32)))]) hx hb dc_X9_houseNow_38 hl (k := 6) rfl (nI_1 _) (by decide) rfl (fun ls hl => ?_)
        refine lv_goto (tgt := 14) hx hb dc_X9_houseNow_41 (by decide) ?_
        refine W.widen (k := 0) (n := 0) (by first | exact Nat.le_refl _ | omega | exact Nat.zero_le _) (by first | exact Nat.le_refl _ | omega | exact Nat.zero_le _) ?_
        exact ih (k9 + 1) j_2 (by omega) (by omega) _ _ (hP.sub (ws' := [(mo, .inr (5, [.int (w.1), .ref cs, .int (w.2.1), .int (w.2.2.1), .int (w.2.2.2.1)])), (cs, .inl (G.2.1 3, 6, .inr (.inr (.inr (.inr (f))))))]) [0, 1] rfl) (hD.sub (ws' := [(mo, .inr (5, [.int (w.1), .ref cs, .int (w.2.1), .int (w.2.2.1), .int (w.2.2.2.1)])), (cs, .inl (G.2.1 3, 6, .inr (.inr (.inr (.inr (f))))))]) [0, 1] (by decide) rfl) hS  _ (lv_sub hl [3, 4, 5, 6, 1, 0] rfl)
set_option linter.constructorNameAsVariable false in
set_option maxHeartbeats 4000000 in
set_option maxRecDepth 100000 in
theorem mt_X9_houseNowW (l : Launch) (G : ky_G) (mo : Nat) (cs : Nat) (N : Nat → Prop) (w : ky_MV) (f : Nat → Option Nat) (a1 : Int32) (sz : Nat) (h1 : vp_in (a1) 4) : Met l my_X9_houseNow (.code my_X9_houseNow prog_10_method_75_code 7 (some .int) :: ky_B) { frames := 6, cells := 1, slots := 4, locals := 125 } (ky_P G [.ref mo, .int (a1)] (ky_WM G mo cs w f) sz (fun H => ky_IT G mo cs N f w.2.2.2.2 H)) (ky_Q (S := Unit) G (va_A (ky_WM G mo cs w f) sz) (fun v _ => ∃ r : Int32, v = some (.int r)) (fun _ => ky_WM G mo cs w f) (fun _ H => ky_IT G mo cs N f w.2.2.2.2 H)) (1) (4) (va_A (ky_WM G mo cs w f) sz) := by
  refine ky_start (by decide) (Nat.le_of_ble_eq_true rfl) (fun p e s m below meth c F hE A hAe hsz hA hfr hP hD hS hX ls hl => ?_)
  obtain ⟨hx, hb, hml, hown, hr, hlocks, hts⟩ := id F
  have hl : lv_has ls 7 [(0, .ref mo), (1, .int (a1))] := hl
  have hP : va_P G.1 kcl [(mo, .inr (5, [.int (w.1), .ref cs, .int (w.2.1), .int (w.2.2.1), .int (w.2.2.2.1)])), (cs, .inl (G.2.1 3, 6, .inr (.inr (.inr (.inr (f))))))] s.heap := hP
  have hD : va_D A [(mo, .inr (5, [.int (w.1), .ref cs, .int (w.2.1), .int (w.2.2.1), .int (w.2.2.2.1)])), (cs, .inl (G.2.1 3, 6, .inr (.inr (.inr (.inr (f))))))] := hD
  have hIT0 := hX
  refine lv_iconst (v := 0) hx hb dc_X9_houseNow_0 (by decide) ?_
  refine lv_istore_n (lv' := [(2, .int ((0 : Int32))), (0, .ref mo), (1, .int (a1))]) hx hb dc_X9_houseNow_1 rfl hl (by decide) rfl (fun ls hl => ?_)
  refine lv_aload_n hx hb dc_X9_houseNow_2 rfl (lv_at hl 1 rfl) ?_
  refine va_get (D := G.1) (ci := 5) (v := .ref cs) (C := RX9) (T := TX9) (N := 5) hx hb hts ki_X9 hown hE.1 hP 0 rfl rfl 1 (by decide) (hts _ kw_6_20) (fun _ h9 => h9) rfl dc_X9_houseNow_3 ?_
  refine lv_astore_n (lv' := [(3, .ref cs), (2, .int ((0 : Int32))), (0, .ref mo), (1, .int (a1))]) hx hb dc_X9_houseNow_6 rfl hl (by decide) rfl (fun ls hl => ?_)
  refine lv_aload_n hx hb dc_X9_houseNow_7 rfl (lv_at hl 0 rfl) ?_
  refine va_alen hx hb hE.1 hP 1 3 rfl rfl (v := (6 : Int32)) rfl dc_X9_houseNow_8 ?_
  refine lv_istore (lv' := [(4, .int ((6 : Int32))), (3, .ref cs), (2, .int ((0 : Int32))), (0, .ref mo), (1, .int (a1))]) hx hb dc_X9_houseNow_9 hl (by decide) rfl (fun ls hl => ?_)
  refine lv_iconst (v := 0) hx hb dc_X9_houseNow_11 (by decide) ?_
  refine lv_istore (lv' := [(5, .int ((0 : Int32))), (4, .int ((6 : Int32))), (3, .ref cs), (2, .int ((0 : Int32))), (0, .ref mo), (1, .int (a1))]) hx hb dc_X9_houseNow_12 hl (by decide) rfl (fun ls hl => ?_)
  refine W.widen (k := 0) (n := 0) (by first | exact Nat.le_refl _ | omega | exact Nat.zero_le _) (by first | exact Nat.le_refl _ | omega | exact Nat.zero_le _) ?_
  exact ml_X9_houseNow_L14W (mo := mo) (cs := cs) (N := N) (w := w) (f := f) (a1 := a1) F hE hA hfr hAe hIT0 h1 (7) 0 (0 : Int32) (by omega) (by omega) _ _ (hP.sub (ws' := [(mo, .inr (5, [.int (w.1), .ref cs, .int (w.2.1), .int (w.2.2.1), .int (w.2.2.2.1)])), (cs, .inl (G.2.1 3, 6, .inr (.inr (.inr (.inr (f))))))]) [0, 1] rfl) (hD.sub (ws' := [(mo, .inr (5, [.int (w.1), .ref cs, .int (w.2.1), .int (w.2.2.1), .int (w.2.2.2.1)])), (cs, .inl (G.2.1 3, 6, .inr (.inr (.inr (.inr (f))))))]) [0, 1] (by decide) rfl) hS  _ (lv_sub hl [4, 5, 2, 1, 3, 0] rfl)
