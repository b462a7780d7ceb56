def fn_X8_high  (v0 : Int32 × Int64) : Int32 :=
  (jlshr (v0.2) ((52 : Int32))).toInt32
set_option linter.constructorNameAsVariable false in
set_option maxHeartbeats 4000000 in
set_option maxRecDepth 100000 in
theorem mt_X8_high (l : Launch) (G : ky_G) (b0 : Nat) (v0 : Int32 × Int64)  : Met l my_X8_high (.code my_X8_high prog_11_method_2_code 1 (some .int) :: ky_B) { frames := 0, cells := 0, slots := 0, locals := 0 } (ky_P1 G [.ref b0] (fun H => ky_It G b0 v0 H)) (ky_Q0 (some (.int (fn_X8_high v0)))) 0 0 (fun _ => False) := by
  refine ky_start1 (by decide) (Nat.le_of_ble_eq_true rfl) (fun p e s m below meth c F hE hX ls hl => ?_)
  obtain ⟨hx, hb, hml, hown, hr, hlocks, hts⟩ := id F
  have hI0 := hX
  have hl : lv_has ls 1 [(0, .ref b0)] := hl
  have hw : fn_X8_high v0 = _ := fn_X8_high.eq_1 v0
  refine lv_aload_n hx hb dc_X8_high_0 rfl (lv_at hl 0 rfl) ?_
  refine va_get (D := G.1) (ci := 4) (v := .long (v0.2)) (C := RX8) (T := TX8) (N := 2) hx hb hts ki_X8 hown hE.1 hI0 0 rfl rfl 1 (by decide) (hts _ kw_6_12) (fun _ h9 => h9) rfl dc_X8_high_1 ?_
  refine lv_bipush (v := 52) hx hb dc_X8_high_4 (by decide) ?_
  refine lv_lshr (v := jlshr (v0.2) ((52 : Int32))) hx hb dc_X8_high_6 rfl ?_
  refine lv_l2i (v := (jlshr (v0.2) ((52 : Int32))).toInt32) hx hb dc_X8_high_7 rfl ?_
  exact W.iret hx hb hr (fun t ht hW => ⟨congrArg (fun z => Outcome.returned (some (Value.int z))) hw.symm, ht⟩) ky_nil dc_X8_high_8
def fn_X8_low  (v0 : Int32 × Int64) : Int64 :=
  (v0.2) &&& ((4503599627370495 : Int64))
set_option linter.constructorNameAsVariable false in
set_option maxHeartbeats 4000000 in
set_option maxRecDepth 100000 in
theorem mt_X8_low (l : Launch) (G : ky_G) (b0 : Nat) (v0 : Int32 × Int64)  : Met l my_X8_low (.code my_X8_low prog_11_method_3_code 1 (some .long) :: ky_B) { frames := 0, cells := 0, slots := 0, locals := 0 } (ky_P1 G [.ref b0] (fun H => ky_It G b0 v0 H)) (ky_Q0 (some (.long (fn_X8_low v0)))) 0 0 (fun _ => False) := by
  refine ky_start1 (by decide) (Nat.le_of_ble_eq_true rfl) (fun p e s m below meth c F hE hX ls hl => ?_)
  obtain ⟨hx, hb, hml, hown, hr, hlocks, hts⟩ := id F
  have hI0 := hX
  have hl : lv_has ls 1 [(0, .ref b0)] := hl
  have hw : fn_X8_low v0 = _ := fn_X8_low.eq_1 v0
  refine lv_aload_n hx hb dc_X8_low_0 rfl (lv_at hl 0 rfl) ?_
  refine va_get (D := G.1) (ci := 4) (v := .long (v0.2)) (C := RX8) (T := TX8) (N := 2) hx hb hts ki_X8 hown hE.1 hI0 0 rfl rfl 1 (by decide) (hts _ kw_6_12) (fun _ h9 => h9) rfl dc_X8_low_1 ?_
  refine lv_ldc2 (v := 4503599627370495) hx hb hown (hts _ kw_6_89) dc_X8_low_4 ?_
  refine lv_land hx hb dc_X8_low_7 ?_
  exact W.lret hx hb hr (fun t ht hW => ⟨congrArg (fun z => Outcome.returned (some (Value.long z))) hw.symm, ht⟩) ky_nil dc_X8_low_8
def fn_X8_many  (v0 : Int32 × Int64) : Int64 :=
  if (fn_X8_high v0) = (0 : Int32) then (fn_X8_low v0) else ((fn_X8_low v0) + ((4503599627370496 : Int64)))
set_option linter.constructorNameAsVariable false in
set_option maxHeartbeats 4000000 in
set_option maxRecDepth 100000 in
theorem mt_X8_many (l : Launch) (G : ky_G) (b0 : Nat) (v0 : Int32 × Int64)  : Met l my_X8_many (.code my_X8_many prog_11_method_4_code 1 (some .long) :: ky_B) { frames := 1, cells := 0, slots := 0, locals := 20 } (ky_P1 G [.ref b0] (fun H => ky_It G b0 v0 H)) (ky_Q0 (some (.long (fn_X8_many v0)))) 0 0 (fun _ => False) := by
  refine ky_start1 (by decide) (Nat.le_of_ble_eq_true rfl) (fun p e s m below meth c F hE hX ls hl => ?_)
  obtain ⟨hx, hb, hml, hown, hr, hlocks, hts⟩ := id F
  have hI0 := hX
  have hl : lv_has ls 1 [(0, .ref b0)] := hl
  have hw : fn_X8_many v0 = _ := fn_X8_many.eq_1 v0
  refine lv_aload_n hx hb dc_X8_many_0 rfl (lv_at hl 0 rfl) ?_
  refine ky_cV1 (As := []) F (hE.at0) (mt_X8_high l G (b0) (v0) ) kv_X8_21 ⟨⟨rfl, rfl⟩, by decide, by decide⟩ rfl hl.1 rfl (Nat.le_of_ble_eq_true rfl) ⟨Nat.zero_le _, Nat.zero_le _⟩ (va_recv hE.1 hI0 (ci := 4) (q0 := 0) rfl rfl) hI0 dc_X8_many_1 ?_
  refine lv_if_ne (tgt := 14) hx hb dc_X8_many_4 (by decide) (fun c_0 => ?_) (fun c_0 => ?_)
  · have hw := hw.trans (if_neg c_0)
    refine lv_aload_n hx hb dc_X8_many_14 rfl (lv_at hl 0 rfl) ?_
    refine ky_cV1 (As := []) F (hE.at0) (mt_X8_low l G (b0) (v0) ) kv_X8_25 ⟨⟨rfl, rfl⟩, by decide, by decide⟩ rfl hl.1 rfl (Nat.le_of_ble_eq_true rfl) ⟨Nat.zero_le _, Nat.zero_le _⟩ (va_recv hE.1 hI0 (ci := 4) (q0 := 0) rfl rfl) hI0 dc_X8_many_15 ?_
    refine lv_ldc2 (v := 4503599627370496) hx hb hown (hts _ kw_6_90) dc_X8_many_18 ?_
    refine lv_ladd hx hb dc_X8_many_21 ?_
    exact W.lret hx hb hr (fun t ht hW => ⟨congrArg (fun z => Outcome.returned (some (Value.long z))) hw.symm, ht⟩) ky_nil dc_X8_many_22
  · have hw := hw.trans (if_pos c_0)
    refine lv_aload_n hx hb dc_X8_many_7 rfl (lv_at hl 0 rfl) ?_
    refine ky_cV1 (As := []) F (hE.at0) (mt_X8_low l G (b0) (v0) ) kv_X8_25 ⟨⟨rfl, rfl⟩, by decide, by decide⟩ rfl hl.1 rfl (Nat.le_of_ble_eq_true rfl) ⟨Nat.zero_le _, Nat.zero_le _⟩ (va_recv hE.1 hI0 (ci := 4) (q0 := 0) rfl rfl) hI0 dc_X8_many_8 ?_
    refine lv_goto (tgt := 22) hx hb dc_X8_many_11 (by decide) ?_
    exact W.lret hx hb hr (fun t ht hW => ⟨congrArg (fun z => Outcome.returned (some (Value.long z))) hw.symm, ht⟩) ky_nil dc_X8_many_22
def fn_X8_power  (v0 : Int32 × Int64) : Int32 :=
  if (fn_X8_high v0) = (0 : Int32) then ((-1074 : Int32)) else ((fn_X8_high v0) - ((1075 : Int32)))
set_option linter.constructorNameAsVariable false in
set_option maxHeartbeats 4000000 in
set_option maxRecDepth 100000 in
theorem mt_X8_power (l : Launch) (G : ky_G) (b0 : Nat) (v0 : Int32 × Int64)  : Met l my_X8_power (.code my_X8_power prog_11_method_5_code 1 (some .int) :: ky_B) { frames := 1, cells := 0, slots := 0, locals := 20 } (ky_P1 G [.ref b0] (fun H => ky_It G b0 v0 H)) (ky_Q0 (some (.int (fn_X8_power v0)))) 0 0 (fun _ => False) := by
  refine ky_start1 (by decide) (Nat.le_of_ble_eq_true rfl) (fun p e s m below meth c F hE hX ls hl => ?_)
  obtain ⟨hx, hb, hml, hown, hr, hlocks, hts⟩ := id F
  have hI0 := hX
  have hl : lv_has ls 1 [(0, .ref b0)] := hl
  have hw : fn_X8_power v0 = _ := fn_X8_power.eq_1 v0
  refine lv_aload_n hx hb dc_X8_power_0 rfl (lv_at hl 0 rfl) ?_
  refine ky_cV1 (As := []) F (hE.at0) (mt_X8_high l G (b0) (v0) ) kv_X8_21 ⟨⟨rfl, rfl⟩, by decide, by decide⟩ rfl hl.1 rfl (Nat.le_of_ble_eq_true rfl) ⟨Nat.zero_le _, Nat.zero_le _⟩ (va_recv hE.1 hI0 (ci := 4) (q0 := 0) rfl rfl) hI0 dc_X8_power_1 ?_
  refine lv_if_ne (tgt := 13) hx hb dc_X8_power_4 (by decide) (fun c_0 => ?_) (fun c_0 => ?_)
  · have hw := hw.trans (if_neg c_0)
    refine lv_aload_n hx hb dc_X8_power_13 rfl (lv_at hl 0 rfl) ?_
    refine ky_cV1 (As := []) F (hE.at0) (mt_X8_high l G (b0) (v0) ) kv_X8_21 ⟨⟨rfl, rfl⟩, by decide, by decide⟩ rfl hl.1 rfl (Nat.le_of_ble_eq_true rfl) ⟨Nat.zero_le _, Nat.zero_le _⟩ (va_recv hE.1 hI0 (ci := 4) (q0 := 0) rfl rfl) hI0 dc_X8_power_14 ?_
    refine lv_sipush (v := 1075) hx hb dc_X8_power_17 (by decide) ?_
    refine lv_isub hx hb dc_X8_power_20 ?_
    exact W.iret hx hb hr (fun t ht hW => ⟨congrArg (fun z => Outcome.returned (some (Value.int z))) hw.symm, ht⟩) ky_nil dc_X8_power_21
  · have hw := hw.trans (if_pos c_0)
    refine lv_sipush (v := (-1074)) hx hb dc_X8_power_7 (by decide) ?_
    refine lv_goto (tgt := 21) hx hb dc_X8_power_10 (by decide) ?_
    exact W.iret hx hb hr (fun t ht hW => ⟨congrArg (fun z => Outcome.returned (some (Value.int z))) hw.symm, ht⟩) ky_nil dc_X8_power_21
def fn_X8_isEndless  (v0 : Int32 × Int64) : Int32 :=
  if (lg_cmp (v0.2) ((9218868437227405312 : Int64))) = (0 : Int32) then ((1 : Int32)) else ((0 : Int32))
set_option linter.constructorNameAsVariable false in
set_option maxHeartbeats 4000000 in
set_option maxRecDepth 100000 in
theorem mt_X8_isEndless (l : Launch) (G : ky_G) (b0 : Nat) (v0 : Int32 × Int64)  : Met l my_X8_isEndless (.code my_X8_isEndless prog_11_method_6_code 1 (some .boolean) :: ky_B) { frames := 0, cells := 0, slots := 0, locals := 0 } (ky_P1 G [.ref b0] (fun H => ky_It G b0 v0 H)) (ky_Q0 (some (.int (fn_X8_isEndless v0)))) 0 0 (fun _ => False) := by
  refine ky_start1 (by decide) (Nat.le_of_ble_eq_true rfl) (fun p e s m below meth c F hE hX ls hl => ?_)
  obtain ⟨hx, hb, hml, hown, hr, hlocks, hts⟩ := id F
  have hI0 := hX
  have hl : lv_has ls 1 [(0, .ref b0)] := hl
  have hw : fn_X8_isEndless v0 = _ := fn_X8_isEndless.eq_1 v0
  refine lv_aload_n hx hb dc_X8_isEndless_0 rfl (lv_at hl 0 rfl) ?_
  refine va_get (D := G.1) (ci := 4) (v := .long (v0.2)) (C := RX8) (T := TX8) (N := 2) hx hb hts ki_X8 hown hE.1 hI0 0 rfl rfl 1 (by decide) (hts _ kw_6_12) (fun _ h9 => h9) rfl dc_X8_isEndless_1 ?_
  refine lv_ldc2 (v := 9218868437227405312) hx hb hown (hts _ kw_6_68) dc_X8_isEndless_4 ?_
  refine W.lcmp hx hb dc_X8_isEndless_7 ?_
  refine lv_if_ne (tgt := 15) hx hb dc_X8_isEndless_8 (by decide) (fun c_0 => ?_) (fun c_0 => ?_)
  · have hw := hw.trans (if_neg c_0)
    refine lv_iconst (v := 0) hx hb dc_X8_isEndless_15 (by decide) ?_
    exact W.zret hx hb hr (by decide) (fun t ht hW => ⟨congrArg (fun z => Outcome.returned (some (Value.int z))) hw.symm, ht⟩) ky_nil dc_X8_isEndless_16
  · have hw := hw.trans (if_pos c_0)
    refine lv_iconst (v := 1) hx hb dc_X8_isEndless_11 (by decide) ?_
    refine lv_goto (tgt := 16) hx hb dc_X8_isEndless_12 (by decide) ?_
    exact W.zret hx hb hr (by decide) (fun t ht hW => ⟨congrArg (fun z => Outcome.returned (some (Value.int z))) hw.symm, ht⟩) ky_nil dc_X8_isEndless_16
theorem fz_X8_isEndless  (v0 : Int32 × Int64) : fn_X8_isEndless v0 = 0 ∨ fn_X8_isEndless v0 = 1 := by
  unfold fn_X8_isEndless
  repeat' split
  all_goals first | exact Or.inl rfl | exact Or.inr rfl
def fn_X8_rung  (v0 : Int32 × Int64) : Int64 :=
  if (v0.1) = (0 : Int32) then (v0.2) else (-(v0.2))
set_option linter.constructorNameAsVariable false in
set_option maxHeartbeats 4000000 in
set_option maxRecDepth 100000 in
theorem mt_X8_rung (l : Launch) (G : ky_G) (b0 : Nat) (v0 : Int32 × Int64)  : Met l my_X8_rung (.code my_X8_rung prog_11_method_7_code 1 (some .long) :: ky_B) { frames := 0, cells := 0, slots := 0, locals := 0 } (ky_P1 G [.ref b0] (fun H => ky_It G b0 v0 H)) (ky_Q0 (some (.long (fn_X8_rung v0)))) 0 0 (fun _ => False) := by
  refine ky_start1 (by decide) (Nat.le_of_ble_eq_true rfl) (fun p e s m below meth c F hE hX ls hl => ?_)
  obtain ⟨hx, hb, hml, hown, hr, hlocks, hts⟩ := id F
  have hI0 := hX
  have hl : lv_has ls 1 [(0, .ref b0)] := hl
  have hw : fn_X8_rung v0 = _ := fn_X8_rung.eq_1 v0
  refine lv_aload_n hx hb dc_X8_rung_0 rfl (lv_at hl 0 rfl) ?_
  refine va_get (D := G.1) (ci := 4) (v := .int (v0.1)) (C := RX8) (T := TX8) (N := 2) hx hb hts ki_X8 hown hE.1 hI0 0 rfl rfl 0 (by decide) (hts _ kw_6_10) (fun _ h9 => h9) rfl dc_X8_rung_1 ?_
  refine lv_if_ne (tgt := 14) hx hb dc_X8_rung_4 (by decide) (fun c_0 => ?_) (fun c_0 => ?_)
  · have hw := hw.trans (if_neg c_0)
    refine lv_aload_n hx hb dc_X8_rung_14 rfl (lv_at hl 0 rfl) ?_
    refine va_get (D := G.1) (ci := 4) (v := .long (v0.2)) (C := RX8) (T := TX8) (N := 2) hx hb hts ki_X8 hown hE.1 hI0 0 rfl rfl 1 (by decide) (hts _ kw_6_12) (fun _ h9 => h9) rfl dc_X8_rung_15 ?_
    refine lv_lneg hx hb dc_X8_rung_18 ?_
    exact W.lret hx hb hr (fun t ht hW => ⟨congrArg (fun z => Outcome.returned (some (Value.long z))) hw.symm, ht⟩) ky_nil dc_X8_rung_19
  · have hw := hw.trans (if_pos c_0)
    refine lv_aload_n hx hb dc_X8_rung_7 rfl (lv_at hl 0 rfl) ?_
    refine va_get (D := G.1) (ci := 4) (v := .long (v0.2)) (C := RX8) (T := TX8) (N := 2) hx hb hts ki_X8 hown hE.1 hI0 0 rfl rfl 1 (by decide) (hts _ kw_6_12) (fun _ h9 => h9) rfl dc_X8_rung_8 ?_
    refine lv_goto (tgt := 19) hx hb dc_X8_rung_11 (by decide) ?_
    exact W.lret hx hb hr (fun t ht hW => ⟨congrArg (fun z => Outcome.returned (some (Value.long z))) hw.symm, ht⟩) ky_nil dc_X8_rung_19
def fn_X8_place  (v0 : Int32 × Int64) : Int64 :=
  if (v0.1) = (0 : Int32) then (v0.2) else ((-(v0.2)) - ((1 : Int64)))
set_option linter.constructorNameAsVariable false in
set_option maxHeartbeats 4000000 in
set_option maxRecDepth 100000 in
theorem mt_X8_place (l : Launch) (G : ky_G) (b0 : Nat) (v0 : Int32 × Int64)  : Met l my_X8_place (.code my_X8_place prog_11_method_8_code 1 (some .long) :: ky_B) { frames := 0, cells := 0, slots := 0, locals := 0 } (ky_P1 G [.ref b0] (fun H => ky_It G b0 v0 H)) (ky_Q0 (some (.long (fn_X8_place v0)))) 0 0 (fun _ => False) := by
  refine ky_start1 (by decide) (Nat.le_of_ble_eq_true rfl) (fun p e s m below meth c F hE hX ls hl => ?_)
  obtain ⟨hx, hb, hml, hown, hr, hlocks, hts⟩ := id F
  have hI0 := hX
  have hl : lv_has ls 1 [(0, .ref b0)] := hl
  have hw : fn_X8_place v0 = _ := fn_X8_place.eq_1 v0
  refine lv_aload_n hx hb dc_X8_place_0 rfl (lv_at hl 0 rfl) ?_
  refine va_get (D := G.1) (ci := 4) (v := .int (v0.1)) (C := RX8) (T := TX8) (N := 2) hx hb hts ki_X8 hown hE.1 hI0 0 rfl rfl 0 (by decide) (hts _ kw_6_10) (fun _ h9 => h9) rfl dc_X8_place_1 ?_
  refine lv_if_ne (tgt := 14) hx hb dc_X8_place_4 (by decide) (fun c_0 => ?_) (fun c_0 => ?_)
  · have hw := hw.trans (if_neg c_0)
    refine lv_aload_n hx hb dc_X8_place_14 rfl (lv_at hl 0 rfl) ?_
    refine va_get (D := G.1) (ci := 4) (v := .long (v0.2)) (C := RX8) (T := TX8) (N := 2) hx hb hts ki_X8 hown hE.1 hI0 0 rfl rfl 1 (by decide) (hts _ kw_6_12) (fun _ h9 => h9) rfl dc_X8_place_15 ?_
    refine lv_lneg hx hb dc_X8_place_18 ?_
    refine lv_lconst (v := 1) hx hb dc_X8_place_19 (by decide) ?_
    refine lv_lsub hx hb dc_X8_place_20 ?_
    exact W.lret hx hb hr (fun t ht hW => ⟨congrArg (fun z => Outcome.returned (some (Value.long z))) hw.symm, ht⟩) ky_nil dc_X8_place_21
  · have hw := hw.trans (if_pos c_0)
    refine lv_aload_n hx hb dc_X8_place_7 rfl (lv_at hl 0 rfl) ?_
    refine va_get (D := G.1) (ci := 4) (v := .long (v0.2)) (C := RX8) (T := TX8) (N := 2) hx hb hts ki_X8 hown hE.1 hI0 0 rfl rfl 1 (by decide) (hts _ kw_6_12) (fun _ h9 => h9) rfl dc_X8_place_8 ?_
    refine lv_goto (tgt := 21) hx hb dc_X8_place_11 (by decide) ?_
    exact W.lret hx hb hr (fun t ht hW => ⟨congrArg (fun z => Outcome.returned (some (Value.long z))) hw.symm, ht⟩) ky_nil dc_X8_place_21
def fn_X8_isSame  (v0 : Int32 × Int64) (v1 : Int32 × Int64) : Int32 :=
  if (v0.1) = (v1.1) then (if (lg_cmp (v0.2) (v1.2)) = (0 : Int32) then ((1 : Int32)) else ((0 : Int32))) else ((0 : Int32))
set_option linter.constructorNameAsVariable false in
set_option maxHeartbeats 4000000 in
set_option maxRecDepth 100000 in
theorem mt_X8_isSame (l : Launch) (G : ky_G) (b0 : Nat) (b1 : Nat) (v0 : Int32 × Int64) (v1 : Int32 × Int64)  : Met l my_X8_isSame (.code my_X8_isSame prog_11_method_9_code 2 (some .boolean) :: ky_B) { frames := 0, cells := 0, slots := 0, locals := 0 } (ky_P1 G [.ref b0, .ref b1] (fun H => ky_It G b0 v0 H ∧ ky_It G b1 v1 H)) (ky_Q0 (some (.int (fn_X8_isSame v0 v1)))) 0 0 (fun _ => False) := by
  refine ky_start1 (by decide) (Nat.le_of_ble_eq_true rfl) (fun p e s m below meth c F hE hX ls hl => ?_)
  obtain ⟨hx, hb, hml, hown, hr, hlocks, hts⟩ := id F
  obtain ⟨hI0, hI1⟩ := hX
  have hl : lv_has ls 2 [(0, .ref b0), (1, .ref b1)] := hl
  have hw : fn_X8_isSame v0 v1 = _ := fn_X8_isSame.eq_1 v0 v1
  refine lv_aload_n hx hb dc_X8_isSame_0 rfl (lv_at hl 0 rfl) ?_
  refine va_get (D := G.1) (ci := 4) (v := .int (v0.1)) (C := RX8) (T := TX8) (N := 2) hx hb hts ki_X8 hown hE.1 hI0 0 rfl rfl 0 (by decide) (hts _ kw_6_10) (fun _ h9 => h9) rfl dc_X8_isSame_1 ?_
  refine lv_aload_n hx hb dc_X8_isSame_4 rfl (lv_at hl 1 rfl) ?_
  refine va_get (D := G.1) (ci := 4) (v := .int (v1.1)) (C := RX8) (T := TX8) (N := 2) hx hb hts ki_X8 hown hE.1 hI1 0 rfl rfl 0 (by decide) (hts _ kw_6_10) (fun _ h9 => h9) rfl dc_X8_isSame_5 ?_
  refine lv_icmp_ne (tgt := 27) hx hb dc_X8_isSame_8 (by decide) (fun c_0 => ?_) (fun c_0 => ?_)
  · have hw := hw.trans (if_neg c_0)
    refine lv_iconst (v := 0) hx hb dc_X8_isSame_27 (by decide) ?_
    exact W.zret hx hb hr (by decide) (fun t ht hW => ⟨congrArg (fun z => Outcome.returned (some (Value.int z))) hw.symm, ht⟩) ky_nil dc_X8_isSame_28
  · have hw := hw.trans (if_pos c_0)
    refine lv_aload_n hx hb dc_X8_isSame_11 rfl (lv_at hl 0 rfl) ?_
    refine va_get (D := G.1) (ci := 4) (v := .long (v0.2)) (C := RX8) (T := TX8) (N := 2) hx hb hts ki_X8 hown hE.1 hI0 0 rfl rfl 1 (by decide) (hts _ kw_6_12) (fun _ h9 => h9) rfl dc_X8_isSame_12 ?_
    refine lv_aload_n hx hb dc_X8_isSame_15 rfl (lv_at hl 1 rfl) ?_
    refine va_get (D := G.1) (ci := 4) (v := .long (v1.2)) (C := RX8) (T := TX8) (N := 2) hx hb hts ki_X8 hown hE.1 hI1 0 rfl rfl 1 (by decide) (hts _ kw_6_12) (fun _ h9 => h9) rfl dc_X8_isSame_16 ?_
    refine W.lcmp hx hb dc_X8_isSame_19 ?_
    refine lv_if_ne (tgt := 27) hx hb dc_X8_isSame_20 (by decide) (fun c_1 => ?_) (fun c_1 => ?_)
    · have hw := hw.trans (if_neg c_1)
      refine lv_iconst (v := 0) hx hb dc_X8_isSame_27 (by decide) ?_
      exact W.zret hx hb hr (by decide) (fun t ht hW => ⟨congrArg (fun z => Outcome.returned (some (Value.int z))) hw.symm, ht⟩) ky_nil dc_X8_isSame_28
    · have hw := hw.trans (if_pos c_1)
      refine lv_iconst (v := 1) hx hb dc_X8_isSame_23 (by decide) ?_
      refine lv_goto (tgt := 28) hx hb dc_X8_isSame_24 (by decide) ?_
      exact W.zret hx hb hr (by decide) (fun t ht hW => ⟨congrArg (fun z => Outcome.returned (some (Value.int z))) hw.symm, ht⟩) ky_nil dc_X8_isSame_28
theorem fz_X8_isSame  (v0 : Int32 × Int64) (v1 : Int32 × Int64) : fn_X8_isSame v0 v1 = 0 ∨ fn_X8_isSame v0 v1 = 1 := by
  unfold fn_X8_isSame
  repeat' split
  all_goals first | exact Or.inl rfl | exact Or.inr rfl
def fn_X8_whole  (v0 : Int32 × Int64) : Int64 :=
  if ((-53 : Int32)) ≤ (fn_X8_power v0) then (jlshr (fn_X8_many v0) (-(fn_X8_power v0))) else ((0 : Int64))
set_option linter.constructorNameAsVariable false in
set_option maxHeartbeats 4000000 in
set_option maxRecDepth 100000 in
theorem mt_X8_whole (l : Launch) (G : ky_G) (b0 : Nat) (v0 : Int32 × Int64)  : Met l my_X8_whole (.code my_X8_whole prog_11_method_12_code 1 (some .long) :: ky_B) { frames := 2, cells := 0, slots := 0, locals := 40 } (ky_P1 G [.ref b0] (fun H => ky_It G b0 v0 H)) (ky_Q0 (some (.long (fn_X8_whole v0)))) 0 0 (fun _ => False) := by
  refine ky_start1 (by decide) (Nat.le_of_ble_eq_true rfl) (fun p e s m below meth c F hE hX ls hl => ?_)
  obtain ⟨hx, hb, hml, hown, hr, hlocks, hts⟩ := id F
  have hI0 := hX
  have hl : lv_has ls 1 [(0, .ref b0)] := hl
  have hw : fn_X8_whole v0 = _ := fn_X8_whole.eq_1 v0
  refine lv_aload_n hx hb dc_X8_whole_0 rfl (lv_at hl 0 rfl) ?_
  refine ky_cV1 (As := []) F (hE.at0) (mt_X8_power l G (b0) (v0) ) kv_X8_36 ⟨⟨rfl, rfl⟩, by decide, by decide⟩ rfl hl.1 rfl (Nat.le_of_ble_eq_true rfl) ⟨Nat.zero_le _, Nat.zero_le _⟩ (va_recv hE.1 hI0 (ci := 4) (q0 := 0) rfl rfl) hI0 dc_X8_whole_1 ?_
  refine lv_bipush (v := (-53)) hx hb dc_X8_whole_4 (by decide) ?_
  refine lv_icmp_ge (tgt := 13) hx hb dc_X8_whole_6 (by decide) (fun c_0 => ?_) (fun c_0 => ?_)
  · have hw := hw.trans (if_pos c_0)
    refine lv_aload_n hx hb dc_X8_whole_13 rfl (lv_at hl 0 rfl) ?_
    refine ky_cV1 (As := []) F (hE.at0) (mt_X8_many l G (b0) (v0) ) kv_X8_39 ⟨⟨rfl, rfl⟩, by decide, by decide⟩ rfl hl.1 rfl (Nat.le_of_ble_eq_true rfl) ⟨Nat.zero_le _, Nat.zero_le _⟩ (va_recv hE.1 hI0 (ci := 4) (q0 := 0) rfl rfl) hI0 dc_X8_whole_14 ?_
    refine lv_aload_n hx hb dc_X8_whole_17 rfl (lv_at hl 0 rfl) ?_
    refine ky_cV1 (As := []) F (hE.at0) (mt_X8_power l G (b0) (v0) ) kv_X8_36 ⟨⟨rfl, rfl⟩, by decide, by decide⟩ rfl hl.1 rfl (Nat.le_of_ble_eq_true rfl) ⟨Nat.zero_le _, Nat.zero_le _⟩ (va_recv hE.1 hI0 (ci := 4) (q0 := 0) rfl rfl) hI0 dc_X8_whole_18 ?_
    refine lv_ineg hx hb dc_X8_whole_21 ?_
    refine lv_lshr (v := jlshr (fn_X8_many v0) (-(fn_X8_power v0))) hx hb dc_X8_whole_22 rfl ?_
    exact W.lret hx hb hr (fun t ht hW => ⟨congrArg (fun z => Outcome.returned (some (Value.long z))) hw.symm, ht⟩) ky_nil dc_X8_whole_23
  · have hw := hw.trans (if_neg c_0)
    refine lv_lconst (v := 0) hx hb dc_X8_whole_9 (by decide) ?_
    refine lv_goto (tgt := 23) hx hb dc_X8_whole_10 (by decide) ?_
    exact W.lret hx hb hr (fun t ht hW => ⟨congrArg (fun z => Outcome.returned (some (Value.long z))) hw.symm, ht⟩) ky_nil dc_X8_whole_23
def fn_X8_behind  (v0 : Int32 × Int64) : Int32 :=
  if (-(fn_X8_power v0)) ≤ (0 : Int32) then ((0 : Int32)) else (if (lg_cmp (fn_X8_many v0) ((0 : Int64))) = (0 : Int32) then ((0 : Int32)) else (if (-(fn_X8_power v0)) ≤ ((53 : Int32)) then (if (lg_cmp ((fn_X8_many v0) - (jlshl (fn_X8_whole v0) (-(fn_X8_power v0)))) ((0 : Int64))) = (0 : Int32) then ((0 : Int32)) else (if (0 : Int32) ≤ (lg_cmp ((fn_X8_many v0) - (jlshl (fn_X8_whole v0) (-(fn_X8_power v0)))) (jlshl ((1 : Int64)) ((-(fn_X8_power v0)) - ((1 : Int32))))) then (if (lg_cmp ((fn_X8_many v0) - (jlshl (fn_X8_whole v0) (-(fn_X8_power v0)))) (jlshl ((1 : Int64)) ((-(fn_X8_power v0)) - ((1 : Int32))))) = (0 : Int32) then ((2 : Int32)) else ((3 : Int32))) else ((1 : Int32)))) else ((1 : Int32))))
set_option linter.constructorNameAsVariable false in
set_option maxHeartbeats 4000000 in
set_option maxRecDepth 100000 in
theorem mt_X8_behind (l : Launch) (G : ky_G) (b0 : Nat) (v0 : Int32 × Int64)  : Met l my_X8_behind (.code my_X8_behind prog_11_method_11_code 6 (some .int) :: ky_B) { frames := 3, cells := 0, slots := 0, locals := 60 } (ky_P1 G [.ref b0] (fun H => ky_It G b0 v0 H)) (ky_Q0 (some (.int (fn_X8_behind v0)))) 0 0 (fun _ => False) := by
  refine ky_start1 (by decide) (Nat.le_of_ble_eq_true rfl) (fun p e s m below meth c F hE hX ls hl => ?_)
  obtain ⟨hx, hb, hml, hown, hr, hlocks, hts⟩ := id F
  have hI0 := hX
  have hl : lv_has ls 6 [(0, .ref b0)] := hl
  have hw : fn_X8_behind v0 = _ := fn_X8_behind.eq_1 v0
  refine lv_aload_n hx hb dc_X8_behind_0 rfl (lv_at hl 0 rfl) ?_
  refine ky_cV1 (As := []) F (hE.at0) (mt_X8_power l G (b0) (v0) ) kv_X8_36 ⟨⟨rfl, rfl⟩, by decide, by decide⟩ rfl hl.1 rfl (Nat.le_of_ble_eq_true rfl) ⟨Nat.zero_le _, Nat.zero_le _⟩ (va_recv hE.1 hI0 (ci := 4) (q0 := 0) rfl rfl) hI0 dc_X8_behind_1 ?_
  refine lv_ineg hx hb dc_X8_behind_4 ?_
  refine lv_istore_n (lv' := [(1, .int (-(fn_X8_power v0))), (0, .ref b0)]) hx hb dc_X8_behind_5 rfl hl (by decide) rfl (fun ls hl => ?_)
  refine lv_iload_n hx hb dc_X8_behind_6 rfl (lv_at hl 0 rfl) ?_
  refine lv_if_le (tgt := 19) hx hb dc_X8_behind_7 (by decide) (fun c_0 => ?_) (fun c_0 => ?_)
  · have hw := hw.trans (if_pos c_0)
    refine lv_iconst (v := 0) hx hb dc_X8_behind_19 (by decide) ?_
    exact W.iret hx hb hr (fun t ht hW => ⟨congrArg (fun z => Outcome.returned (some (Value.int z))) hw.symm, ht⟩) ky_nil dc_X8_behind_20
  · have hw := hw.trans (if_neg c_0)
    refine lv_aload_n hx hb dc_X8_behind_10 rfl (lv_at hl 1 rfl) ?_
    refine ky_cV1 (As := []) F (hE.at0) (mt_X8_many l G (b0) (v0) ) kv_X8_39 ⟨⟨rfl, rfl⟩, by decide, by decide⟩ rfl hl.1 rfl (Nat.le_of_ble_eq_true rfl) ⟨Nat.zero_le _, Nat.zero_le _⟩ (va_recv hE.1 hI0 (ci := 4) (q0 := 0) rfl rfl) hI0 dc_X8_behind_11 ?_
    refine lv_lconst (v := 0) hx hb dc_X8_behind_14 (by decide) ?_
    refine W.lcmp hx hb dc_X8_behind_15 ?_
    refine lv_if_ne (tgt := 21) hx hb dc_X8_behind_16 (by decide) (fun c_1 => ?_) (fun c_1 => ?_)
    · have hw := hw.trans (if_neg c_1)
      refine lv_iload_n hx hb dc_X8_behind_21 rfl (lv_at hl 0 rfl) ?_
      refine lv_bipush (v := 53) hx hb dc_X8_behind_22 (by decide) ?_
      refine lv_icmp_le (tgt := 29) hx hb dc_X8_behind_24 (by decide) (fun c_2 => ?_) (fun c_2 => ?_)
      · have hw := hw.trans (if_pos c_2)
        refine lv_aload_n hx hb dc_X8_behind_29 rfl (lv_at hl 1 rfl) ?_
        refine ky_cV1 (As := []) F (hE.at0) (mt_X8_many l G (b0) (v0) ) kv_X8_39 ⟨⟨rfl, rfl⟩, by decide, by decide⟩ rfl hl.1 rfl (Nat.le_of_ble_eq_true rfl) ⟨Nat.zero_le _, Nat.zero_le _⟩ (va_recv hE.1 hI0 (ci := 4) (q0 := 0) rfl rfl) hI0 dc_X8_behind_30 ?_
        refine lv_aload_n hx hb dc_X8_behind_33 rfl (lv_at hl 1 rfl) ?_
        refine ky_cV1 (As := []) F (hE.at0) (mt_X8_whole l G (b0) (v0) ) kv_X8_42 ⟨⟨rfl, rfl⟩, by decide, by decide⟩ rfl hl.1 rfl (Nat.le_of_ble_eq_true rfl) ⟨Nat.zero_le _, Nat.zero_le _⟩ (va_recv hE.1 hI0 (ci := 4) (q0 := 0) rfl rfl) hI0 dc_X8_behind_34 ?_
        refine lv_iload_n hx hb dc_X8_behind_37 rfl (lv_at hl 0 rfl) ?_
        refine lv_lshl (v := jlshl (fn_X8_whole v0) (-(fn_X8_power v0))) hx hb dc_X8_behind_38 rfl ?_
        refine lv_lsub hx hb dc_X8_behind_39 ?_
        refine lv_lstore_n (lv' := [(2, .long ((fn_X8_many v0) - (jlshl (fn_X8_whole v0) (-(fn_X8_power v0))))), (1, .int (-(fn_X8_power v0))), (0, .ref b0)]) hx hb dc_X8_behind_40 rfl hl (by decide) rfl (fun ls hl => ?_)
        refine lv_lconst (v := 1) hx hb dc_X8_behind_41 (by decide) ?_
        refine lv_iload_n hx hb dc_X8_behind_42 rfl (lv_at hl 1 rfl) ?_
        refine lv_iconst (v := 1) hx hb dc_X8_behind_43 (by decide) ?_
        refine lv_isub hx hb dc_X8_behind_44 ?_
        refine lv_lshl (v := jlshl ((1 : Int64)) ((-(fn_X8_power v0)) - ((1 : Int32)))) hx hb dc_X8_behind_45 rfl ?_
        refine lv_lstore (lv' := [(4, .long (jlshl ((1 : Int64)) ((-(fn_X8_power v0)) - ((1 : Int32))))), (2, .long ((fn_X8_many v0) - (jlshl (fn_X8_whole v0) (-(fn_X8_power v0))))), (1, .int (-(fn_X8_power v0))), (0, .ref b0)]) hx hb dc_X8_behind_46 hl (by decide) rfl (fun ls hl => ?_)
        refine lv_lload_n hx hb dc_X8_behind_48 rfl (lv_at hl 1 rfl) ?_
        refine lv_lconst (v := 0) hx hb dc_X8_behind_49 (by decide) ?_
        refine W.lcmp hx hb dc_X8_behind_50 ?_
        refine lv_if_ne (tgt := 58) hx hb dc_X8_behind_51 (by decide) (fun c_3 => ?_) (fun c_3 => ?_)
        · have hw := hw.trans (if_neg c_3)
          refine lv_lload_n hx hb dc_X8_behind_58 rfl (lv_at hl 1 rfl) ?_
          refine lv_lload hx hb dc_X8_behind_59 (lv_at hl 0 rfl) ?_
          refine W.lcmp hx hb dc_X8_behind_61 ?_
          refine lv_if_ge (tgt := 69) hx hb dc_X8_behind_62 (by decide) (fun c_4 => ?_) (fun c_4 => ?_)
          · have hw := hw.trans (if_pos c_4)
            refine lv_lload_n hx hb dc_X8_behind_69 rfl (lv_at hl 1 rfl) ?_
            refine lv_lload hx hb dc_X8_behind_70 (lv_at hl 0 rfl) ?_
            refine W.lcmp hx hb dc_X8_behind_72 ?_
            refine lv_if_ne (tgt := 80) hx hb dc_X8_behind_73 (by decide) (fun c_5 => ?_) (fun c_5 => ?_)
            · have hw := hw.trans (if_neg c_5)
              refine lv_iconst (v := 3) hx hb dc_X8_behind_80 (by decide) ?_
              exact W.iret hx hb hr (fun t ht hW => ⟨congrArg (fun z => Outcome.returned (some (Value.int z))) hw.symm, ht⟩) ky_nil dc_X8_behind_81
            · have hw := hw.trans (if_pos c_5)
              refine lv_iconst (v := 2) hx hb dc_X8_behind_76 (by decide) ?_
              refine lv_goto (tgt := 81) hx hb dc_X8_behind_77 (by decide) ?_
              exact W.iret hx hb hr (fun t ht hW => ⟨congrArg (fun z => Outcome.returned (some (Value.int z))) hw.symm, ht⟩) ky_nil dc_X8_behind_81
          · have hw := hw.trans (if_neg c_4)
            refine lv_iconst (v := 1) hx hb dc_X8_behind_65 (by decide) ?_
            refine lv_goto (tgt := 81) hx hb dc_X8_behind_66 (by decide) ?_
            exact W.iret hx hb hr (fun t ht hW => ⟨congrArg (fun z => Outcome.returned (some (Value.int z))) hw.symm, ht⟩) ky_nil dc_X8_behind_81
        · have hw := hw.trans (if_pos c_3)
          refine lv_iconst (v := 0) hx hb dc_X8_behind_54 (by decide) ?_
          refine lv_goto (tgt := 81) hx hb dc_X8_behind_55 (by decide) ?_
          exact W.iret hx hb hr (fun t ht hW => ⟨congrArg (fun z => Outcome.returned (some (Value.int z))) hw.symm, ht⟩) ky_nil dc_X8_behind_81
      · have hw := hw.trans (if_neg c_2)
        refine lv_iconst (v := 1) hx hb dc_X8_behind_27 (by decide) ?_
        exact W.iret hx hb hr (fun t ht hW => ⟨congrArg (fun z => Outcome.returned (some (Value.int z))) hw.symm, ht⟩) ky_nil dc_X8_behind_28
    · have hw := hw.trans (if_pos c_1)
      refine lv_iconst (v := 0) hx hb dc_X8_behind_19 (by decide) ?_
      exact W.iret hx hb hr (fun t ht hW => ⟨congrArg (fun z => Outcome.returned (some (Value.int z))) hw.symm, ht⟩) ky_nil dc_X8_behind_20
def fn_X8_kind  (v0 : Int32 × Int64) : Int32 :=
  if (lg_cmp (v0.2) ((0 : Int64))) = (0 : Int32) then (if (lg_cmp (v0.2) ((0 : Int64))) = (0 : Int32) then ((0 : Int32)) else ((4 : Int32))) else (if (fn_X8_isEndless v0) = (0 : Int32) then (if (fn_X8_high v0) = (0 : Int32) then ((1 : Int32)) else (if (fn_X8_behind v0) = (0 : Int32) then ((3 : Int32)) else ((2 : Int32)))) else (if (lg_cmp (v0.2) ((0 : Int64))) = (0 : Int32) then ((0 : Int32)) else ((4 : Int32))))
set_option linter.constructorNameAsVariable false in
set_option maxHeartbeats 4000000 in
set_option maxRecDepth 100000 in
theorem mt_X8_kind (l : Launch) (G : ky_G) (b0 : Nat) (v0 : Int32 × Int64)  : Met l my_X8_kind (.code my_X8_kind prog_11_method_13_code 1 (some .int) :: ky_B) { frames := 4, cells := 0, slots := 0, locals := 85 } (ky_P1 G [.ref b0] (fun H => ky_It G b0 v0 H)) (ky_Q0 (some (.int (fn_X8_kind v0)))) 0 0 (fun _ => False) := by
  refine ky_start1 (by decide) (Nat.le_of_ble_eq_true rfl) (fun p e s m below meth c F hE hX ls hl => ?_)
  obtain ⟨hx, hb, hml, hown, hr, hlocks, hts⟩ := id F
  have hI0 := hX
  have hl : lv_has ls 1 [(0, .ref b0)] := hl
  have hw : fn_X8_kind v0 = _ := fn_X8_kind.eq_1 v0
  refine lv_aload_n hx hb dc_X8_kind_0 rfl (lv_at hl 0 rfl) ?_
  refine va_get (D := G.1) (ci := 4) (v := .long (v0.2)) (C := RX8) (T := TX8) (N := 2) hx hb hts ki_X8 hown hE.1 hI0 0 rfl rfl 1 (by decide) (hts _ kw_6_12) (fun _ h9 => h9) rfl dc_X8_kind_1 ?_
  refine lv_lconst (v := 0) hx hb dc_X8_kind_4 (by decide) ?_
  refine W.lcmp hx hb dc_X8_kind_5 ?_
  refine lv_if_eq (tgt := 16) hx hb dc_X8_kind_6 (by decide) (fun c_0 => ?_) (fun c_0 => ?_)
  · have hw := hw.trans (if_pos c_0)
    refine lv_aload_n hx hb dc_X8_kind_16 rfl (lv_at hl 0 rfl) ?_
    refine va_get (D := G.1) (ci := 4) (v := .long (v0.2)) (C := RX8) (T := TX8) (N := 2) hx hb hts ki_X8 hown hE.1 hI0 0 rfl rfl 1 (by decide) (hts _ kw_6_12) (fun _ h9 => h9) rfl dc_X8_kind_17 ?_
    refine lv_lconst (v := 0) hx hb dc_X8_kind_20 (by decide) ?_
    refine W.lcmp hx hb dc_X8_kind_21 ?_
    refine lv_if_ne (tgt := 29) hx hb dc_X8_kind_22 (by decide) (fun c_1 => ?_) (fun c_1 => ?_)
    · have hw := hw.trans (if_neg c_1)
      refine lv_iconst (v := 4) hx hb dc_X8_kind_29 (by decide) ?_
      exact W.iret hx hb hr (fun t ht hW => ⟨congrArg (fun z => Outcome.returned (some (Value.int z))) hw.symm, ht⟩) ky_nil dc_X8_kind_30
    · have hw := hw.trans (if_pos c_1)
      refine lv_iconst (v := 0) hx hb dc_X8_kind_25 (by decide) ?_
      refine lv_goto (tgt := 30) hx hb dc_X8_kind_26 (by decide) ?_
      exact W.iret hx hb hr (fun t ht hW => ⟨congrArg (fun z => Outcome.returned (some (Value.int z))) hw.symm, ht⟩) ky_nil dc_X8_kind_30
  · have hw := hw.trans (if_neg c_0)
    refine lv_aload_n hx hb dc_X8_kind_9 rfl (lv_at hl 0 rfl) ?_
    refine ky_cV1 (As := []) F (hE.at0) (mt_X8_isEndless l G (b0) (v0) ) kv_X8_45 ⟨⟨rfl, rfl⟩, by decide, by decide⟩ rfl hl.1 rfl (Nat.le_of_ble_eq_true rfl) ⟨Nat.zero_le _, Nat.zero_le _⟩ (va_recv hE.1 hI0 (ci := 4) (q0 := 0) rfl rfl) hI0 dc_X8_kind_10 ?_
    refine lv_if_eq (tgt := 31) hx hb dc_X8_kind_13 (by decide) (fun c_1 => ?_) (fun c_1 => ?_)
    · have hw := hw.trans (if_pos c_1)
      refine lv_aload_n hx hb dc_X8_kind_31 rfl (lv_at hl 0 rfl) ?_
      refine ky_cV1 (As := []) F (hE.at0) (mt_X8_high l G (b0) (v0) ) kv_X8_21 ⟨⟨rfl, rfl⟩, by decide, by decide⟩ rfl hl.1 rfl (Nat.le_of_ble_eq_true rfl) ⟨Nat.zero_le _, Nat.zero_le _⟩ (va_recv hE.1 hI0 (ci := 4) (q0 := 0) rfl rfl) hI0 dc_X8_kind_32 ?_
      refine lv_if_ne (tgt := 42) hx hb dc_X8_kind_35 (by decide) (fun c_2 => ?_) (fun c_2 => ?_)
      · have hw := hw.trans (if_neg c_2)
        refine lv_aload_n hx hb dc_X8_kind_42 rfl (lv_at hl 0 rfl) ?_
        refine ky_cV1 (As := []) F (hE.at0) (mt_X8_behind l G (b0) (v0) ) kv_X8_49 ⟨⟨rfl, rfl⟩, by decide, by decide⟩ rfl hl.1 rfl (Nat.le_of_ble_eq_true rfl) ⟨Nat.zero_le _, Nat.zero_le _⟩ (va_recv hE.1 hI0 (ci := 4) (q0 := 0) rfl rfl) hI0 dc_X8_kind_43 ?_
        refine lv_if_ne (tgt := 53) hx hb dc_X8_kind_46 (by decide) (fun c_3 => ?_) (fun c_3 => ?_)
        · have hw := hw.trans (if_neg c_3)
          refine lv_iconst (v := 2) hx hb dc_X8_kind_53 (by decide) ?_
          exact W.iret hx hb hr (fun t ht hW => ⟨congrArg (fun z => Outcome.returned (some (Value.int z))) hw.symm, ht⟩) ky_nil dc_X8_kind_54
        · have hw := hw.trans (if_pos c_3)
          refine lv_iconst (v := 3) hx hb dc_X8_kind_49 (by decide) ?_
          refine lv_goto (tgt := 54) hx hb dc_X8_kind_50 (by decide) ?_
          exact W.iret hx hb hr (fun t ht hW => ⟨congrArg (fun z => Outcome.returned (some (Value.int z))) hw.symm, ht⟩) ky_nil dc_X8_kind_54
      · have hw := hw.trans (if_pos c_2)
        refine lv_iconst (v := 1) hx hb dc_X8_kind_38 (by decide) ?_
        refine lv_goto (tgt := 54) hx hb dc_X8_kind_39 (by decide) ?_
        exact W.iret hx hb hr (fun t ht hW => ⟨congrArg (fun z => Outcome.returned (some (Value.int z))) hw.symm, ht⟩) ky_nil dc_X8_kind_54
    · have hw := hw.trans (if_neg c_1)
      refine lv_aload_n hx hb dc_X8_kind_16 rfl (lv_at hl 0 rfl) ?_
      refine va_get (D := G.1) (ci := 4) (v := .long (v0.2)) (C := RX8) (T := TX8) (N := 2) hx hb hts ki_X8 hown hE.1 hI0 0 rfl rfl 1 (by decide) (hts _ kw_6_12) (fun _ h9 => h9) rfl dc_X8_kind_17 ?_
      refine lv_lconst (v := 0) hx hb dc_X8_kind_20 (by decide) ?_
      refine W.lcmp hx hb dc_X8_kind_21 ?_
      refine lv_if_ne (tgt := 29) hx hb dc_X8_kind_22 (by decide) (fun c_2 => ?_) (fun c_2 => ?_)
      · have hw := hw.trans (if_neg c_2)
        refine lv_iconst (v := 4) hx hb dc_X8_kind_29 (by decide) ?_
        exact W.iret hx hb hr (fun t ht hW => ⟨congrArg (fun z => Outcome.returned (some (Value.int z))) hw.symm, ht⟩) ky_nil dc_X8_kind_30
      · have hw := hw.trans (if_pos c_2)
        refine lv_iconst (v := 0) hx hb dc_X8_kind_25 (by decide) ?_
        refine lv_goto (tgt := 30) hx hb dc_X8_kind_26 (by decide) ?_
        exact W.iret hx hb hr (fun t ht hW => ⟨congrArg (fun z => Outcome.returned (some (Value.int z))) hw.symm, ht⟩) ky_nil dc_X8_kind_30
def fn_X8_isWhole  (v0 : Int32 × Int64) : Int32 :=
  if (fn_X8_kind v0) = (0 : Int32) then ((1 : Int32)) else (if (fn_X8_kind v0) = ((3 : Int32)) then ((1 : Int32)) else ((0 : Int32)))
set_option linter.constructorNameAsVariable false in
set_option maxHeartbeats 4000000 in
set_option maxRecDepth 100000 in
theorem mt_X8_isWhole (l : Launch) (G : ky_G) (b0 : Nat) (v0 : Int32 × Int64)  : Met l my_X8_isWhole (.code my_X8_isWhole prog_11_method_14_code 1 (some .boolean) :: ky_B) { frames := 5, cells := 0, slots := 0, locals := 105 } (ky_P1 G [.ref b0] (fun H => ky_It G b0 v0 H)) (ky_Q0 (some (.int (fn_X8_isWhole v0)))) 0 0 (fun _ => False) := by
  refine ky_start1 (by decide) (Nat.le_of_ble_eq_true rfl) (fun p e s m below meth c F hE hX ls hl => ?_)
  obtain ⟨hx, hb, hml, hown, hr, hlocks, hts⟩ := id F
  have hI0 := hX
  have hl : lv_has ls 1 [(0, .ref b0)] := hl
  have hw : fn_X8_isWhole v0 = _ := fn_X8_isWhole.eq_1 v0
  refine lv_aload_n hx hb dc_X8_isWhole_0 rfl (lv_at hl 0 rfl) ?_
  refine ky_cV1 (As := []) F (hE.at0) (mt_X8_kind l G (b0) (v0) ) kv_X8_52 ⟨⟨rfl, rfl⟩, by decide, by decide⟩ rfl hl.1 rfl (Nat.le_of_ble_eq_true rfl) ⟨Nat.zero_le _, Nat.zero_le _⟩ (va_recv hE.1 hI0 (ci := 4) (q0 := 0) rfl rfl) hI0 dc_X8_isWhole_1 ?_
  refine lv_if_eq (tgt := 15) hx hb dc_X8_isWhole_4 (by decide) (fun c_0 => ?_) (fun c_0 => ?_)
  · have hw := hw.trans (if_pos c_0)
    refine lv_iconst (v := 1) hx hb dc_X8_isWhole_15 (by decide) ?_
    refine lv_goto (tgt := 20) hx hb dc_X8_isWhole_16 (by decide) ?_
    exact W.zret hx hb hr (by decide) (fun t ht hW => ⟨congrArg (fun z => Outcome.returned (some (Value.int z))) hw.symm, ht⟩) ky_nil dc_X8_isWhole_20
  · have hw := hw.trans (if_neg c_0)
    refine lv_aload_n hx hb dc_X8_isWhole_7 rfl (lv_at hl 0 rfl) ?_
    refine ky_cV1 (As := []) F (hE.at0) (mt_X8_kind l G (b0) (v0) ) kv_X8_52 ⟨⟨rfl, rfl⟩, by decide, by decide⟩ rfl hl.1 rfl (Nat.le_of_ble_eq_true rfl) ⟨Nat.zero_le _, Nat.zero_le _⟩ (va_recv hE.1 hI0 (ci := 4) (q0 := 0) rfl rfl) hI0 dc_X8_isWhole_8 ?_
    refine lv_iconst (v := 3) hx hb dc_X8_isWhole_11 (by decide) ?_
    refine lv_icmp_ne (tgt := 19) hx hb dc_X8_isWhole_12 (by decide) (fun c_1 => ?_) (fun c_1 => ?_)
    · have hw := hw.trans (if_neg c_1)
      refine lv_iconst (v := 0) hx hb dc_X8_isWhole_19 (by decide) ?_
      exact W.zret hx hb hr (by decide) (fun t ht hW => ⟨congrArg (fun z => Outcome.returned (some (Value.int z))) hw.symm, ht⟩) ky_nil dc_X8_isWhole_20
    · have hw := hw.trans (if_pos c_1)
      refine lv_iconst (v := 1) hx hb dc_X8_isWhole_15 (by decide) ?_
      refine lv_goto (tgt := 20) hx hb dc_X8_isWhole_16 (by decide) ?_
      exact W.zret hx hb hr (by decide) (fun t ht hW => ⟨congrArg (fun z => Outcome.returned (some (Value.int z))) hw.symm, ht⟩) ky_nil dc_X8_isWhole_20
theorem fz_X8_isWhole  (v0 : Int32 × Int64) : fn_X8_isWhole v0 = 0 ∨ fn_X8_isWhole v0 = 1 := by
  unfold fn_X8_isWhole
  repeat' split
  all_goals first | exact Or.inl rfl | exact Or.inr rfl
def fn_X8_exponent  (v0 : Int32 × Int64) : Int32 :=
  (fn_X8_high v0) - ((1023 : Int32))
set_option linter.constructorNameAsVariable false in
set_option maxHeartbeats 4000000 in
set_option maxRecDepth 100000 in
theorem mt_X8_exponent (l : Launch) (G : ky_G) (b0 : Nat) (v0 : Int32 × Int64)  : Met l my_X8_exponent (.code my_X8_exponent prog_11_method_20_code 1 (some .int) :: ky_B) { frames := 1, cells := 0, slots := 0, locals := 20 } (ky_P1 G [.ref b0] (fun H => ky_It G b0 v0 H)) (ky_Q0 (some (.int (fn_X8_exponent v0)))) 0 0 (fun _ => False) := by
  refine ky_start1 (by decide) (Nat.le_of_ble_eq_true rfl) (fun p e s m below meth c F hE hX ls hl => ?_)
  obtain ⟨hx, hb, hml, hown, hr, hlocks, hts⟩ := id F
  have hI0 := hX
  have hl : lv_has ls 1 [(0, .ref b0)] := hl
  have hw : fn_X8_exponent v0 = _ := fn_X8_exponent.eq_1 v0
  refine lv_aload_n hx hb dc_X8_exponent_0 rfl (lv_at hl 0 rfl) ?_
  refine ky_cV1 (As := []) F (hE.at0) (mt_X8_high l G (b0) (v0) ) kv_X8_21 ⟨⟨rfl, rfl⟩, by decide, by decide⟩ rfl hl.1 rfl (Nat.le_of_ble_eq_true rfl) ⟨Nat.zero_le _, Nat.zero_le _⟩ (va_recv hE.1 hI0 (ci := 4) (q0 := 0) rfl rfl) hI0 dc_X8_exponent_1 ?_
  refine lv_sipush (v := 1023) hx hb dc_X8_exponent_4 (by decide) ?_
  refine lv_isub hx hb dc_X8_exponent_7 ?_
  exact W.iret hx hb hr (fun t ht hW => ⟨congrArg (fun z => Outcome.returned (some (Value.int z))) hw.symm, ht⟩) ky_nil dc_X8_exponent_8
def fn_X8_rounded (a1 : Int32) (v0 : Int32 × Int64) : Int64 :=
  if (fn_X8_isEndless v0) = (0 : Int32) then (if (fn_X8_power v0) ≤ ((10 : Int32)) then (if (fn_X8_power v0) < (0 : Int32) then (if (a1) = (0 : Int32) then (if (fn_X8_behind v0) = ((3 : Int32)) then (if (v0.1) = (0 : Int32) then ((fn_X8_whole v0) + (((1 : Int32)).toInt64)) else (-((fn_X8_whole v0) + (((1 : Int32)).toInt64)))) else (if (fn_X8_behind v0) = ((2 : Int32)) then (if (v0.1) = (0 : Int32) then (if (v0.1) = (0 : Int32) then ((fn_X8_whole v0) + (((1 : Int32)).toInt64)) else (-((fn_X8_whole v0) + (((1 : Int32)).toInt64)))) else (if (v0.1) = (0 : Int32) then ((fn_X8_whole v0) + (((0 : Int32)).toInt64)) else (-((fn_X8_whole v0) + (((0 : Int32)).toInt64))))) else (if (v0.1) = (0 : Int32) then ((fn_X8_whole v0) + (((0 : Int32)).toInt64)) else (-((fn_X8_whole v0) + (((0 : Int32)).toInt64)))))) else (if (v0.1) = (0 : Int32) then ((fn_X8_whole v0) + (((0 : Int32)).toInt64)) else (-((fn_X8_whole v0) + (((0 : Int32)).toInt64))))) else (if (v0.1) = (0 : Int32) then (jlshl (fn_X8_many v0) (fn_X8_power v0)) else (-(jlshl (fn_X8_many v0) (fn_X8_power v0))))) else (if (v0.1) = (0 : Int32) then ((9223372036854775807 : Int64)) else ((-9223372036854775808 : Int64)))) else (if (v0.1) = (0 : Int32) then ((9223372036854775807 : Int64)) else ((-9223372036854775808 : Int64)))
set_option linter.constructorNameAsVariable false in
set_option maxHeartbeats 4000000 in
set_option maxRecDepth 100000 in
theorem mt_X8_rounded (l : Launch) (G : ky_G) (b0 : Nat) (v0 : Int32 × Int64) (a1 : Int32) : Met l my_X8_rounded (.code my_X8_rounded prog_11_method_23_code 6 (some .long) :: ky_B) { frames := 4, cells := 0, slots := 0, locals := 85 } (ky_P1 G [.ref b0, .int (a1)] (fun H => ky_It G b0 v0 H)) (ky_Q0 (some (.long (fn_X8_rounded a1 v0)))) 0 0 (fun _ => False) := by
  refine ky_start1 (by decide) (Nat.le_of_ble_eq_true rfl) (fun p e s m below meth c F hE hX ls hl => ?_)
  obtain ⟨hx, hb, hml, hown, hr, hlocks, hts⟩ := id F
  have hI0 := hX
  have hl : lv_has ls 6 [(0, .ref b0), (1, .int (a1))] := hl
  have hw : fn_X8_rounded a1 v0 = _ := fn_X8_rounded.eq_1 a1 v0
  refine lv_aload_n hx hb dc_X8_rounded_0 rfl (lv_at hl 0 rfl) ?_
  refine ky_cV1 (As := []) F (hE.at0) (mt_X8_isEndless l G (b0) (v0) ) kv_X8_45 ⟨⟨rfl, rfl⟩, by decide, by decide⟩ rfl hl.1 rfl (Nat.le_of_ble_eq_true rfl) ⟨Nat.zero_le _, Nat.zero_le _⟩ (va_recv hE.1 hI0 (ci := 4) (q0 := 0) rfl rfl) hI0 dc_X8_rounded_1 ?_
  refine lv_if_ne (tgt := 16) hx hb dc_X8_rounded_4 (by decide) (fun c_0 => ?_) (fun c_0 => ?_)
  · have hw := hw.trans (if_neg c_0)
    refine lv_aload_n hx hb dc_X8_rounded_16 rfl (lv_at hl 0 rfl) ?_
    refine va_get (D := G.1) (ci := 4) (v := .int (v0.1)) (C := RX8) (T := TX8) (N := 2) hx hb hts ki_X8 hown hE.1 hI0 0 rfl rfl 0 (by decide) (hts _ kw_6_10) (fun _ h9 => h9) rfl dc_X8_rounded_17 ?_
    refine lv_if_ne (tgt := 29) hx hb dc_X8_rounded_20 (by decide) (fun c_1 => ?_) (fun c_1 => ?_)
    · have hw := hw.trans (if_neg c_1)
      refine lv_ldc2 (v := (-9223372036854775808)) hx hb hown (hts _ kw_7_103) dc_X8_rounded_29 ?_
      exact W.lret hx hb hr (fun t ht hW => ⟨congrArg (fun z => Outcome.returned (some (Value.long z))) hw.symm, ht⟩) ky_nil dc_X8_rounded_32
    · have hw := hw.trans (if_pos c_1)
      refine lv_ldc2 (v := 9223372036854775807) hx hb hown (hts _ kw_7_102) dc_X8_rounded_23 ?_
      refine lv_goto (tgt := 32) hx hb dc_X8_rounded_26 (by decide) ?_
      exact W.lret hx hb hr (fun t ht hW => ⟨congrArg (fun z => Outcome.returned (some (Value.long z))) hw.symm, ht⟩) ky_nil dc_X8_rounded_32
  · have hw := hw.trans (if_pos c_0)
    refine lv_aload_n hx hb dc_X8_rounded_7 rfl (lv_at hl 0 rfl) ?_
    refine ky_cV1 (As := []) F (hE.at0) (mt_X8_power l G (b0) (v0) ) kv_X8_36 ⟨⟨rfl, rfl⟩, by decide, by decide⟩ rfl hl.1 rfl (Nat.le_of_ble_eq_true rfl) ⟨Nat.zero_le _, Nat.zero_le _⟩ (va_recv hE.1 hI0 (ci := 4) (q0 := 0) rfl rfl) hI0 dc_X8_rounded_8 ?_
    refine lv_bipush (v := 10) hx hb dc_X8_rounded_11 (by decide) ?_
    refine lv_icmp_le (tgt := 33) hx hb dc_X8_rounded_13 (by decide) (fun c_1 => ?_) (fun c_1 => ?_)
    · have hw := hw.trans (if_pos c_1)
      refine lv_aload_n hx hb dc_X8_rounded_33 rfl (lv_at hl 0 rfl) ?_
      refine ky_cV1 (As := []) F (hE.at0) (mt_X8_power l G (b0) (v0) ) kv_X8_36 ⟨⟨rfl, rfl⟩, by decide, by decide⟩ rfl hl.1 rfl (Nat.le_of_ble_eq_true rfl) ⟨Nat.zero_le _, Nat.zero_le _⟩ (va_recv hE.1 hI0 (ci := 4) (q0 := 0) rfl rfl) hI0 dc_X8_rounded_34 ?_
      refine lv_if_lt (tgt := 70) hx hb dc_X8_rounded_37 (by decide) (fun c_2 => ?_) (fun c_2 => ?_)
      · have hw := hw.trans (if_pos c_2)
        refine lv_aload_n hx hb dc_X8_rounded_70 rfl (lv_at hl 0 rfl) ?_
        refine ky_cV1 (As := []) F (hE.at0) (mt_X8_behind l G (b0) (v0) ) kv_X8_49 ⟨⟨rfl, rfl⟩, by decide, by decide⟩ rfl hl.1 rfl (Nat.le_of_ble_eq_true rfl) ⟨Nat.zero_le _, Nat.zero_le _⟩ (va_recv hE.1 hI0 (ci := 4) (q0 := 0) rfl rfl) hI0 dc_X8_rounded_71 ?_
        refine lv_istore_n (lv' := [(2, .int (fn_X8_behind v0)), (0, .ref b0), (1, .int (a1))]) hx hb dc_X8_rounded_74 rfl hl (by decide) rfl (fun ls hl => ?_)
        refine lv_iload_n hx hb dc_X8_rounded_75 rfl (lv_at hl 2 rfl) ?_
        refine lv_if_ne (tgt := 100) hx hb dc_X8_rounded_76 (by decide) (fun c_3 => ?_) (fun c_3 => ?_)
        · have hw := hw.trans (if_neg c_3)
          refine lv_iconst (v := 0) hx hb dc_X8_rounded_100 (by decide) ?_
          refine lv_istore_n (lv' := [(3, .int ((0 : Int32))), (2, .int (fn_X8_behind v0)), (0, .ref b0), (1, .int (a1))]) hx hb dc_X8_rounded_101 rfl hl (by decide) rfl (fun ls hl => ?_)
          refine lv_aload_n hx hb dc_X8_rounded_102 rfl (lv_at hl 2 rfl) ?_
          refine ky_cV1 (As := []) F (hE.at0) (mt_X8_whole l G (b0) (v0) ) kv_X8_42 ⟨⟨rfl, rfl⟩, by decide, by decide⟩ rfl hl.1 rfl (Nat.le_of_ble_eq_true rfl) ⟨Nat.zero_le _, Nat.zero_le _⟩ (va_recv hE.1 hI0 (ci := 4) (q0 := 0) rfl rfl) hI0 dc_X8_rounded_103 ?_
          refine lv_iload_n hx hb dc_X8_rounded_106 rfl (lv_at hl 0 rfl) ?_
          refine lv_if_eq (tgt := 114) hx hb dc_X8_rounded_107 (by decide) (fun _ => ?_) (fun c_4 => absurd c_4 (by decide))
          refine lv_iconst (v := 0) hx hb dc_X8_rounded_114 (by decide) ?_
          refine lv_i2l (v := ((0 : Int32)).toInt64) hx hb dc_X8_rounded_115 rfl ?_
          refine lv_ladd hx hb dc_X8_rounded_116 ?_
          refine lv_lstore (lv' := [(4, .long ((fn_X8_whole v0) + (((0 : Int32)).toInt64))), (3, .int ((0 : Int32))), (2, .int (fn_X8_behind v0)), (0, .ref b0), (1, .int (a1))]) hx hb dc_X8_rounded_117 hl (by decide) rfl (fun ls hl => ?_)
          refine lv_aload_n hx hb dc_X8_rounded_119 rfl (lv_at hl 3 rfl) ?_
          refine va_get (D := G.1) (ci := 4) (v := .int (v0.1)) (C := RX8) (T := TX8) (N := 2) hx hb hts ki_X8 hown hE.1 hI0 0 rfl rfl 0 (by decide) (hts _ kw_6_10) (fun _ h9 => h9) rfl dc_X8_rounded_120 ?_
          refine lv_if_ne (tgt := 131) hx hb dc_X8_rounded_123 (by decide) (fun c_5 => ?_) (fun c_5 => ?_)
          · have hw := hw.trans (if_neg c_5)
            refine lv_lload hx hb dc_X8_rounded_131 (lv_at hl 0 rfl) ?_
            refine lv_lneg hx hb dc_X8_rounded_133 ?_
            exact W.lret hx hb hr (fun t ht hW => ⟨congrArg (fun z => Outcome.returned (some (Value.long z))) hw.symm, ht⟩) ky_nil dc_X8_rounded_134
          · have hw := hw.trans (if_pos c_5)
            refine lv_lload hx hb dc_X8_rounded_126 (lv_at hl 0 rfl) ?_
            refine lv_goto (tgt := 134) hx hb dc_X8_rounded_128 (by decide) ?_
            exact W.lret hx hb hr (fun t ht hW => ⟨congrArg (fun z => Outcome.returned (some (Value.long z))) hw.symm, ht⟩) ky_nil dc_X8_rounded_134
        · have hw := hw.trans (if_pos c_3)
          refine lv_iload_n hx hb dc_X8_rounded_79 rfl (lv_at hl 0 rfl) ?_
          refine lv_iconst (v := 3) hx hb dc_X8_rounded_80 (by decide) ?_
          refine lv_icmp_eq (tgt := 96) hx hb dc_X8_rounded_81 (by decide) (fun c_4 => ?_) (fun c_4 => ?_)
          · have hw := hw.trans (if_pos c_4)
            refine lv_iconst (v := 1) hx hb dc_X8_rounded_96 (by decide) ?_
            refine lv_goto (tgt := 101) hx hb dc_X8_rounded_97 (by decide) ?_
            refine lv_istore_n (lv' := [(3, .int ((1 : Int32))), (2, .int (fn_X8_behind v0)), (0, .ref b0), (1, .int (a1))]) hx hb dc_X8_rounded_101 rfl hl (by decide) rfl (fun ls hl => ?_)
            refine lv_aload_n hx hb dc_X8_rounded_102 rfl (lv_at hl 2 rfl) ?_
            refine ky_cV1 (As := []) F (hE.at0) (mt_X8_whole l G (b0) (v0) ) kv_X8_42 ⟨⟨rfl, rfl⟩, by decide, by decide⟩ rfl hl.1 rfl (Nat.le_of_ble_eq_true rfl) ⟨Nat.zero_le _, Nat.zero_le _⟩ (va_recv hE.1 hI0 (ci := 4) (q0 := 0) rfl rfl) hI0 dc_X8_rounded_103 ?_
            refine lv_iload_n hx hb dc_X8_rounded_106 rfl (lv_at hl 0 rfl) ?_
            refine lv_if_eq (tgt := 114) hx hb dc_X8_rounded_107 (by decide) (fun c_5 => absurd c_5 (by decide)) (fun _ => ?_)
            refine lv_iconst (v := 1) hx hb dc_X8_rounded_110 (by decide) ?_
            refine lv_goto (tgt := 115) hx hb dc_X8_rounded_111 (by decide) ?_
            refine lv_i2l (v := ((1 : Int32)).toInt64) hx hb dc_X8_rounded_115 rfl ?_
            refine lv_ladd hx hb dc_X8_rounded_116 ?_
            refine lv_lstore (lv' := [(4, .long ((fn_X8_whole v0) + (((1 : Int32)).toInt64))), (3, .int ((1 : Int32))), (2, .int (fn_X8_behind v0)), (0, .ref b0), (1, .int (a1))]) hx hb dc_X8_rounded_117 hl (by decide) rfl (fun ls hl => ?_)
            refine lv_aload_n hx hb dc_X8_rounded_119 rfl (lv_at hl 3 rfl) ?_
            refine va_get (D := G.1) (ci := 4) (v := .int (v0.1)) (C := RX8) (T := TX8) (N := 2) hx hb hts ki_X8 hown hE.1 hI0 0 rfl rfl 0 (by decide) (hts _ kw_6_10) (fun _ h9 => h9) rfl dc_X8_rounded_120 ?_
            refine lv_if_ne (tgt := 131) hx hb dc_X8_rounded_123 (by decide) (fun c_6 => ?_) (fun c_6 => ?_)
            · have hw := hw.trans (if_neg c_6)
              refine lv_lload hx hb dc_X8_rounded_131 (lv_at hl 0 rfl) ?_
              refine lv_lneg hx hb dc_X8_rounded_133 ?_
              exact W.lret hx hb hr (fun t ht hW => ⟨congrArg (fun z => Outcome.returned (some (Value.long z))) hw.symm, ht⟩) ky_nil dc_X8_rounded_134
            · have hw := hw.trans (if_pos c_6)
              refine lv_lload hx hb dc_X8_rounded_126 (lv_at hl 0 rfl) ?_
              refine lv_goto (tgt := 134) hx hb dc_X8_rounded_128 (by decide) ?_
              exact W.lret hx hb hr (fun t ht hW => ⟨congrArg (fun z => Outcome.returned (some (Value.long z))) hw.symm, ht⟩) ky_nil dc_X8_rounded_134
          · have hw := hw.trans (if_neg c_4)
            refine lv_iload_n hx hb dc_X8_rounded_84 rfl (lv_at hl 0 rfl) ?_
            refine lv_iconst (v := 2) hx hb dc_X8_rounded_85 (by decide) ?_
            refine lv_icmp_ne (tgt := 100) hx hb dc_X8_rounded_86 (by decide) (fun c_5 => ?_) (fun c_5 => ?_)
            · have hw := hw.trans (if_neg c_5)
              refine lv_iconst (v := 0) hx hb dc_X8_rounded_100 (by decide) ?_
              refine lv_istore_n (lv' := [(3, .int ((0 : Int32))), (2, .int (fn_X8_behind v0)), (0, .ref b0), (1, .int (a1))]) hx hb dc_X8_rounded_101 rfl hl (by decide) rfl (fun ls hl => ?_)
              refine lv_aload_n hx hb dc_X8_rounded_102 rfl (lv_at hl 2 rfl) ?_
              refine ky_cV1 (As := []) F (hE.at0) (mt_X8_whole l G (b0) (v0) ) kv_X8_42 ⟨⟨rfl, rfl⟩, by decide, by decide⟩ rfl hl.1 rfl (Nat.le_of_ble_eq_true rfl) ⟨Nat.zero_le _, Nat.zero_le _⟩ (va_recv hE.1 hI0 (ci := 4) (q0 := 0) rfl rfl) hI0 dc_X8_rounded_103 ?_
              refine lv_iload_n hx hb dc_X8_rounded_106 rfl (lv_at hl 0 rfl) ?_
              refine lv_if_eq (tgt := 114) hx hb dc_X8_rounded_107 (by decide) (fun _ => ?_) (fun c_6 => absurd c_6 (by decide))
              refine lv_iconst (v := 0) hx hb dc_X8_rounded_114 (by decide) ?_
              refine lv_i2l (v := ((0 : Int32)).toInt64) hx hb dc_X8_rounded_115 rfl ?_
              refine lv_ladd hx hb dc_X8_rounded_116 ?_
              refine lv_lstore (lv' := [(4, .long ((fn_X8_whole v0) + (((0 : Int32)).toInt64))), (3, .int ((0 : Int32))), (2, .int (fn_X8_behind v0)), (0, .ref b0), (1, .int (a1))]) hx hb dc_X8_rounded_117 hl (by decide) rfl (fun ls hl => ?_)
              refine lv_aload_n hx hb dc_X8_rounded_119 rfl (lv_at hl 3 rfl) ?_
              refine va_get (D := G.1) (ci := 4) (v := .int (v0.1)) (C := RX8) (T := TX8) (N := 2) hx hb hts ki_X8 hown hE.1 hI0 0 rfl rfl 0 (by decide) (hts _ kw_6_10) (fun _ h9 => h9) rfl dc_X8_rounded_120 ?_
              refine lv_if_ne (tgt := 131) hx hb dc_X8_rounded_123 (by decide) (fun c_7 => ?_) (fun c_7 => ?_)
              · have hw := hw.trans (if_neg c_7)
                refine lv_lload hx hb dc_X8_rounded_131 (lv_at hl 0 rfl) ?_
                refine lv_lneg hx hb dc_X8_rounded_133 ?_
                exact W.lret hx hb hr (fun t ht hW => ⟨congrArg (fun z => Outcome.returned (some (Value.long z))) hw.symm, ht⟩) ky_nil dc_X8_rounded_134
              · have hw := hw.trans (if_pos c_7)
                refine lv_lload hx hb dc_X8_rounded_126 (lv_at hl 0 rfl) ?_
                refine lv_goto (tgt := 134) hx hb dc_X8_rounded_128 (by decide) ?_
                exact W.lret hx hb hr (fun t ht hW => ⟨congrArg (fun z => Outcome.returned (some (Value.long z))) hw.symm, ht⟩) ky_nil dc_X8_rounded_134
            · have hw := hw.trans (if_pos c_5)
              refine lv_aload_n hx hb dc_X8_rounded_89 rfl (lv_at hl 1 rfl) ?_
              refine va_get (D := G.1) (ci := 4) (v := .int (v0.1)) (C := RX8) (T := TX8) (N := 2) hx hb hts ki_X8 hown hE.1 hI0 0 rfl rfl 0 (by decide) (hts _ kw_6_10) (fun _ h9 => h9) rfl dc_X8_rounded_90 ?_
              refine lv_if_ne (tgt := 100) hx hb dc_X8_rounded_93 (by decide) (fun c_6 => ?_) (fun c_6 => ?_)
              · have hw := hw.trans (if_neg c_6)
                refine lv_iconst (v := 0) hx hb dc_X8_rounded_100 (by decide) ?_
                refine lv_istore_n (lv' := [(3, .int ((0 : Int32))), (2, .int (fn_X8_behind v0)), (0, .ref b0), (1, .int (a1))]) hx hb dc_X8_rounded_101 rfl hl (by decide) rfl (fun ls hl => ?_)
                refine lv_aload_n hx hb dc_X8_rounded_102 rfl (lv_at hl 2 rfl) ?_
                refine ky_cV1 (As := []) F (hE.at0) (mt_X8_whole l G (b0) (v0) ) kv_X8_42 ⟨⟨rfl, rfl⟩, by decide, by decide⟩ rfl hl.1 rfl (Nat.le_of_ble_eq_true rfl) ⟨Nat.zero_le _, Nat.zero_le _⟩ (va_recv hE.1 hI0 (ci := 4) (q0 := 0) rfl rfl) hI0 dc_X8_rounded_103 ?_
                refine lv_iload_n hx hb dc_X8_rounded_106 rfl (lv_at hl 0 rfl) ?_
                refine lv_if_eq (tgt := 114) hx hb dc_X8_rounded_107 (by decide) (fun _ => ?_) (fun c_7 => absurd c_7 (by decide))
                refine lv_iconst (v := 0) hx hb dc_X8_rounded_114 (by decide) ?_
                refine lv_i2l (v := ((0 : Int32)).toInt64) hx hb dc_X8_rounded_115 rfl ?_
                refine lv_ladd hx hb dc_X8_rounded_116 ?_
                refine lv_lstore (lv' := [(4, .long ((fn_X8_whole v0) + (((0 : Int32)).toInt64))), (3, .int ((0 : Int32))), (2, .int (fn_X8_behind v0)), (0, .ref b0), (1, .int (a1))]) hx hb dc_X8_rounded_117 hl (by decide) rfl (fun ls hl => ?_)
                refine lv_aload_n hx hb dc_X8_rounded_119 rfl (lv_at hl 3 rfl) ?_
                refine va_get (D := G.1) (ci := 4) (v := .int (v0.1)) (C := RX8) (T := TX8) (N := 2) hx hb hts ki_X8 hown hE.1 hI0 0 rfl rfl 0 (by decide) (hts _ kw_6_10) (fun _ h9 => h9) rfl dc_X8_rounded_120 ?_
                refine lv_if_ne (tgt := 131) hx hb dc_X8_rounded_123 (by decide) (fun c_8 => ?_) (fun c_8 => ?_)
                · have hw := hw.trans (if_neg c_8)
                  refine lv_lload hx hb dc_X8_rounded_131 (lv_at hl 0 rfl) ?_
                  refine lv_lneg hx hb dc_X8_rounded_133 ?_
                  exact W.lret hx hb hr (fun t ht hW => ⟨congrArg (fun z => Outcome.returned (some (Value.long z))) hw.symm, ht⟩) ky_nil dc_X8_rounded_134
                · have hw := hw.trans (if_pos c_8)
                  refine lv_lload hx hb dc_X8_rounded_126 (lv_at hl 0 rfl) ?_
                  refine lv_goto (tgt := 134) hx hb dc_X8_rounded_128 (by decide) ?_
                  exact W.lret hx hb hr (fun t ht hW => ⟨congrArg (fun z => Outcome.returned (some (Value.long z))) hw.symm, ht⟩) ky_nil dc_X8_rounded_134
              · have hw := hw.trans (if_pos c_6)
                refine lv_iconst (v := 1) hx hb dc_X8_rounded_96 (by decide) ?_
                refine lv_goto (tgt := 101) hx hb dc_X8_rounded_97 (by decide) ?_
                refine lv_istore_n (lv' := [(3, .int ((1 : Int32))), (2, .int (fn_X8_behind v0)), (0, .ref b0), (1, .int (a1))]) hx hb dc_X8_rounded_101 rfl hl (by decide) rfl (fun ls hl => ?_)
                refine lv_aload_n hx hb dc_X8_rounded_102 rfl (lv_at hl 2 rfl) ?_
                refine ky_cV1 (As := []) F (hE.at0) (mt_X8_whole l G (b0) (v0) ) kv_X8_42 ⟨⟨rfl, rfl⟩, by decide, by decide⟩ rfl hl.1 rfl (Nat.le_of_ble_eq_true rfl) ⟨Nat.zero_le _, Nat.zero_le _⟩ (va_recv hE.1 hI0 (ci := 4) (q0 := 0) rfl rfl) hI0 dc_X8_rounded_103 ?_
                refine lv_iload_n hx hb dc_X8_rounded_106 rfl (lv_at hl 0 rfl) ?_
                refine lv_if_eq (tgt := 114) hx hb dc_X8_rounded_107 (by decide) (fun c_7 => absurd c_7 (by decide)) (fun _ => ?_)
                refine lv_iconst (v := 1) hx hb dc_X8_rounded_110 (by decide) ?_
                refine lv_goto (tgt := 115) hx hb dc_X8_rounded_111 (by decide) ?_
                refine lv_i2l (v := ((1 : Int32)).toInt64) hx hb dc_X8_rounded_115 rfl ?_
                refine lv_ladd hx hb dc_X8_rounded_116 ?_
                refine lv_lstore (lv' := [(4, .long ((fn_X8_whole v0) + (((1 : Int32)).toInt64))), (3, .int ((1 : Int32))), (2, .int (fn_X8_behind v0)), (0, .ref b0), (1, .int (a1))]) hx hb dc_X8_rounded_117 hl (by decide) rfl (fun ls hl => ?_)
                refine lv_aload_n hx hb dc_X8_rounded_119 rfl (lv_at hl 3 rfl) ?_
                refine va_get (D := G.1) (ci := 4) (v := .int (v0.1)) (C := RX8) (T := TX8) (N := 2) hx hb hts ki_X8 hown hE.1 hI0 0 rfl rfl 0 (by decide) (hts _ kw_6_10) (fun _ h9 => h9) rfl dc_X8_rounded_120 ?_
                refine lv_if_ne (tgt := 131) hx hb dc_X8_rounded_123 (by decide) (fun c_8 => ?_) (fun c_8 => ?_)
                · have hw := hw.trans (if_neg c_8)
                  refine lv_lload hx hb dc_X8_rounded_131 (lv_at hl 0 rfl) ?_
                  refine lv_lneg hx hb dc_X8_rounded_133 ?_
                  exact W.lret hx hb hr (fun t ht hW => ⟨congrArg (fun z => Outcome.returned (some (Value.long z))) hw.symm, ht⟩) ky_nil dc_X8_rounded_134
                · have hw := hw.trans (if_pos c_8)
                  refine lv_lload hx hb dc_X8_rounded_126 (lv_at hl 0 rfl) ?_
                  refine lv_goto (tgt := 134) hx hb dc_X8_rounded_128 (by decide) ?_
                  exact W.lret hx hb hr (fun t ht hW => ⟨congrArg (fun z => Outcome.returned (some (Value.long z))) hw.symm, ht⟩) ky_nil dc_X8_rounded_134
      · have hw := hw.trans (if_neg c_2)
        refine lv_aload_n hx hb dc_X8_rounded_40 rfl (lv_at hl 0 rfl) ?_
        refine va_get (D := G.1) (ci := 4) (v := .int (v0.1)) (C := RX8) (T := TX8) (N := 2) hx hb hts ki_X8 hown hE.1 hI0 0 rfl rfl 0 (by decide) (hts _ kw_6_10) (fun _ h9 => h9) rfl dc_X8_rounded_41 ?_
        refine lv_if_ne (tgt := 59) hx hb dc_X8_rounded_44 (by decide) (fun c_3 => ?_) (fun c_3 => ?_)
        · have hw := hw.trans (if_neg c_3)
          refine lv_aload_n hx hb dc_X8_rounded_59 rfl (lv_at hl 0 rfl) ?_
          refine ky_cV1 (As := []) F (hE.at0) (mt_X8_many l G (b0) (v0) ) kv_X8_39 ⟨⟨rfl, rfl⟩, by decide, by decide⟩ rfl hl.1 rfl (Nat.le_of_ble_eq_true rfl) ⟨Nat.zero_le _, Nat.zero_le _⟩ (va_recv hE.1 hI0 (ci := 4) (q0 := 0) rfl rfl) hI0 dc_X8_rounded_60 ?_
          refine lv_aload_n hx hb dc_X8_rounded_63 rfl (lv_at hl 0 rfl) ?_
          refine ky_cV1 (As := []) F (hE.at0) (mt_X8_power l G (b0) (v0) ) kv_X8_36 ⟨⟨rfl, rfl⟩, by decide, by decide⟩ rfl hl.1 rfl (Nat.le_of_ble_eq_true rfl) ⟨Nat.zero_le _, Nat.zero_le _⟩ (va_recv hE.1 hI0 (ci := 4) (q0 := 0) rfl rfl) hI0 dc_X8_rounded_64 ?_
          refine lv_lshl (v := jlshl (fn_X8_many v0) (fn_X8_power v0)) hx hb dc_X8_rounded_67 rfl ?_
          refine lv_lneg hx hb dc_X8_rounded_68 ?_
          exact W.lret hx hb hr (fun t ht hW => ⟨congrArg (fun z => Outcome.returned (some (Value.long z))) hw.symm, ht⟩) ky_nil dc_X8_rounded_69
        · have hw := hw.trans (if_pos c_3)
          refine lv_aload_n hx hb dc_X8_rounded_47 rfl (lv_at hl 0 rfl) ?_
          refine ky_cV1 (As := []) F (hE.at0) (mt_X8_many l G (b0) (v0) ) kv_X8_39 ⟨⟨rfl, rfl⟩, by decide, by decide⟩ rfl hl.1 rfl (Nat.le_of_ble_eq_true rfl) ⟨Nat.zero_le _, Nat.zero_le _⟩ (va_recv hE.1 hI0 (ci := 4) (q0 := 0) rfl rfl) hI0 dc_X8_rounded_48 ?_
          refine lv_aload_n hx hb dc_X8_rounded_51 rfl (lv_at hl 0 rfl) ?_
          refine ky_cV1 (As := []) F (hE.at0) (mt_X8_power l G (b0) (v0) ) kv_X8_36 ⟨⟨rfl, rfl⟩, by decide, by decide⟩ rfl hl.1 rfl (Nat.le_of_ble_eq_true rfl) ⟨Nat.zero_le _, Nat.zero_le _⟩ (va_recv hE.1 hI0 (ci := 4) (q0 := 0) rfl rfl) hI0 dc_X8_rounded_52 ?_
          refine lv_lshl (v := jlshl (fn_X8_many v0) (fn_X8_power v0)) hx hb dc_X8_rounded_55 rfl ?_
          refine lv_goto (tgt := 69) hx hb dc_X8_rounded_56 (by decide) ?_
          exact W.lret hx hb hr (fun t ht hW => ⟨congrArg (fun z => Outcome.returned (some (Value.long z))) hw.symm, ht⟩) ky_nil dc_X8_rounded_69
    · have hw := hw.trans (if_neg c_1)
      refine lv_aload_n hx hb dc_X8_rounded_16 rfl (lv_at hl 0 rfl) ?_
      refine va_get (D := G.1) (ci := 4) (v := .int (v0.1)) (C := RX8) (T := TX8) (N := 2) hx hb hts ki_X8 hown hE.1 hI0 0 rfl rfl 0 (by decide) (hts _ kw_6_10) (fun _ h9 => h9) rfl dc_X8_rounded_17 ?_
      refine lv_if_ne (tgt := 29) hx hb dc_X8_rounded_20 (by decide) (fun c_2 => ?_) (fun c_2 => ?_)
      · have hw := hw.trans (if_neg c_2)
        refine lv_ldc2 (v := (-9223372036854775808)) hx hb hown (hts _ kw_7_103) dc_X8_rounded_29 ?_
        exact W.lret hx hb hr (fun t ht hW => ⟨congrArg (fun z => Outcome.returned (some (Value.long z))) hw.symm, ht⟩) ky_nil dc_X8_rounded_32
      · have hw := hw.trans (if_pos c_2)
        refine lv_ldc2 (v := 9223372036854775807) hx hb hown (hts _ kw_7_102) dc_X8_rounded_23 ?_
        refine lv_goto (tgt := 32) hx hb dc_X8_rounded_26 (by decide) ?_
        exact W.lret hx hb hr (fun t ht hW => ⟨congrArg (fun z => Outcome.returned (some (Value.long z))) hw.symm, ht⟩) ky_nil dc_X8_rounded_32
