section
def fn_X8_high  (v0 : Int32 × Int64) : Int32 :=
  (jlshr (v0.2) ((52 : Int32))).toInt32
set_option linter.constructorNameAsVariable false in
set_option maxHeartbeats 4000000 in
set_option maxRecDepth 100000 in
theorem mt_X8_high (l : Launch) (G : ky_G) (b0 : Nat) (v0 : Int32 × Int64)  : Met l my_X8_high (.code my_X8_high prog_11_method_2_code 1 (some .int) :: ky_B) { frames := 0, cells := 0, slots := 0, locals := 0 } (ky_P1 G [.ref b0] (fun H => ky_It G b0 v0 H)) (ky_Q0 (some (.int (fn_X8_high v0)))) 0 0 (fun _ => False) := by
  refine ky_start1 (by decide) (Nat.le_of_ble_eq_true rfl) (fun p e s m below meth c F hE hX ls hl => ?_)
  obtain ⟨hx, hb, hml, hown, hr, hlocks, hts⟩ := id F
  have hI0 := hX
  have hl : lv_has ls 1 [(0, .ref b0)] := hl
  have hw : fn_X8_high v0 = _ := fn_X8_high.eq_1 v0
  refine lv_aload_n hx hb dc_X8_high_0 rfl (lv_at hl 0 rfl) ?_
  refine va_get (D := G.1) (ci := 4) (v := .long (v0.2)) (C := RX8) (T := TX8) (N := 2) hx hb hts ki_X8 hown hE.1 hI0 0 rfl rfl 1 (by decide) (hts _ kw_6_12) (fun _ h9 => h9) rfl dc_X8_high_1 ?_
  refine lv_bipush (v := 52) hx hb dc_X8_high_4 (by decide) ?_
  refine lv_lshr (v := jlshr (v0.2) ((52 : Int32))) hx hb dc_X8_high_6 rfl ?_
  refine lv_l2i (v := (jlshr (v0.2) ((52 : Int32))).toInt32) hx hb dc_X8_high_7 rfl ?_
  exact W.iret hx hb hr (fun t ht hW => ⟨congrArg (fun z => Outcome.returned (some (Value.int z))) hw.symm, ht⟩) ky_nil dc_X8_high_8
def fn_X8_low  (v0 : Int32 × Int64) : Int64 :=
  (v0.2) &&& ((4503599627370495 : Int64))
set_option linter.constructorNameAsVariable false in
set_option maxHeartbeats 4000000 in
set_option maxRecDepth 100000 in
theorem mt_X8_low (l : Launch) (G : ky_G) (b0 : Nat) (v0 : Int32 × Int64)  : Met l my_X8_low (.code my_X8_low prog_11_method_3_code 1 (some .long) :: ky_B) { frames := 0, cells := 0, slots := 0, locals := 0 } (ky_P1 G [.ref b0] (fun H => ky_It G b0 v0 H)) (ky_Q0 (some (.long (fn_X8_low v0)))) 0 0 (fun _ => False) := by
  refine ky_start1 (by decide) (Nat.le_of_ble_eq_true rfl) (fun p e s m below meth c F hE hX ls hl => ?_)
  obtain ⟨hx, hb, hml, hown, hr, hlocks, hts⟩ := id F
  have hI0 := hX
  have hl : lv_has ls 1 [(0, .ref b0)] := hl
  have hw : fn_X8_low v0 = _ := fn_X8_low.eq_1 v0
  refine lv_aload_n hx hb dc_X8_low_0 rfl (lv_at hl 0 rfl) ?_
  refine va_get (D := G.1) (ci := 4) (v := .long (v0.2)) (C := RX8) (T := TX8) (N := 2) hx hb hts ki_X8 hown hE.1 hI0 0 rfl rfl 1 (by decide) (hts _ kw_6_12) (fun _ h9 => h9) rfl dc_X8_low_1 ?_
  refine lv_ldc2 (v := 4503599627370495) hx hb hown (hts _ kw_6_93) dc_X8_low_4 ?_
  refine lv_land hx hb dc_X8_low_7 ?_
  exact W.lret hx hb hr (fun t ht hW => ⟨congrArg (fun z => Outcome.returned (some (Value.long z))) hw.symm, ht⟩) ky_nil dc_X8_low_8
def fn_X8_many  (v0 : Int32 × Int64) : Int64 :=
  if (fn_X8_high v0) = (0 : Int32) then (fn_X8_low v0) else ((fn_X8_low v0) + ((4503599627370496 : Int64)))
set_option linter.constructorNameAsVariable false in
set_option maxHeartbeats 4000000 in
set_option maxRecDepth 100000 in
theorem mt_X8_many (l : Launch) (G : ky_G) (b0 : Nat) (v0 : Int32 × Int64)  : Met l my_X8_many (.code my_X8_many prog_11_method_4_code 1 (some .long) :: ky_B) { frames := 1, cells := 0, slots := 0, locals := 20 } (ky_P1 G [.ref b0] (fun H => ky_It G b0 v0 H)) (ky_Q0 (some (.long (fn_X8_many v0)))) 0 0 (fun _ => False) := by
  refine ky_start1 (by decide) (Nat.le_of_ble_eq_true rfl) (fun p e s m below meth c F hE hX ls hl => ?_)
  obtain ⟨hx, hb, hml, hown, hr, hlocks, hts⟩ := id F
  have hI0 := hX
  have hl : lv_has ls 1 [(0, .ref b0)] := hl
  have hw : fn_X8_many v0 = _ := fn_X8_many.eq_1 v0
  refine lv_aload_n hx hb dc_X8_many_0 rfl (lv_at hl 0 rfl) ?_
  refine ky_cV1 (As := []) F (hE.at0) (mt_X8_high l G (b0) (v0) ) kv_X8_21 ⟨⟨rfl, rfl⟩, by decide, by decide⟩ rfl hl.1 rfl (Nat.le_of_ble_eq_true rfl) ⟨Nat.zero_le _, Nat.zero_le _⟩ (va_recv hE.1 hI0 (ci := 4) (q0 := 0) rfl rfl) hI0 dc_X8_many_1 ?_
  refine lv_if_ne (tgt := 14) hx hb dc_X8_many_4 (by decide) (fun c_0 => ?_) (fun c_0 => ?_)
  · have hw := hw.trans (if_neg c_0)
    refine lv_aload_n hx hb dc_X8_many_14 rfl (lv_at hl 0 rfl) ?_
    refine ky_cV1 (As := []) F (hE.at0) (mt_X8_low l G (b0) (v0) ) kv_X8_25 ⟨⟨rfl, rfl⟩, by decide, by decide⟩ rfl hl.1 rfl (Nat.le_of_ble_eq_true rfl) ⟨Nat.zero_le _, Nat.zero_le _⟩ (va_recv hE.1 hI0 (ci := 4) (q0 := 0) rfl rfl) hI0 dc_X8_many_15 ?_
    refine lv_ldc2 (v := 4503599627370496) hx hb hown (hts _ kw_6_94) dc_X8_many_18 ?_
    refine lv_ladd hx hb dc_X8_many_21 ?_
    exact W.lret hx hb hr (fun t ht hW => ⟨congrArg (fun z => Outcome.returned (some (Value.long z))) hw.symm, ht⟩) ky_nil dc_X8_many_22
  · have hw := hw.trans (if_pos c_0)
    refine lv_aload_n hx hb dc_X8_many_7 rfl (lv_at hl 0 rfl) ?_
    refine ky_cV1 (As := []) F (hE.at0) (mt_X8_low l G (b0) (v0) ) kv_X8_25 ⟨⟨rfl, rfl⟩, by decide, by decide⟩ rfl hl.1 rfl (Nat.le_of_ble_eq_true rfl) ⟨Nat.zero_le _, Nat.zero_le _⟩ (va_recv hE.1 hI0 (ci := 4) (q0 := 0) rfl rfl) hI0 dc_X8_many_8 ?_
    refine lv_goto (tgt := 22) hx hb dc_X8_many_11 (by decide) ?_
    exact W.lret hx hb hr (fun t ht hW => ⟨congrArg (fun z => Outcome.returned (some (Value.long z))) hw.symm, ht⟩) ky_nil dc_X8_many_22
def fn_X8_power  (v0 : Int32 × Int64) : Int32 :=
  if (fn_X8_high v0) = (0 : Int32) then ((-1074 : Int32)) else ((fn_X8_high v0) - ((1075 : Int32)))
set_option linter.constructorNameAsVariable false in
set_option maxHeartbeats 4000000 in
set_option maxRecDepth 100000 in
theorem mt_X8_power (l : Launch) (G : ky_G) (b0 : Nat) (v0 : Int32 × Int64)  : Met l my_X8_power (.code my_X8_power prog_11_method_5_code 1 (some .int) :: ky_B) { frames := 1, cells := 0, slots := 0, locals := 20 } (ky_P1 G [.ref b0] (fun H => ky_It G b0 v0 H)) (ky_Q0 (some (.int (fn_X8_power v0)))) 0 0 (fun _ => False) := by
  refine ky_start1 (by decide) (Nat.le_of_ble_eq_true rfl) (fun p e s m below meth c F hE hX ls hl => ?_)
  obtain ⟨hx, hb, hml, hown, hr, hlocks, hts⟩ := id F
  have hI0 := hX
  have hl : lv_has ls 1 [(0, .ref b0)] := hl
  have hw : fn_X8_power v0 = _ := fn_X8_power.eq_1 v0
  refine lv_aload_n hx hb dc_X8_power_0 rfl (lv_at hl 0 rfl) ?_
  refine ky_cV1 (As := []) F (hE.at0) (mt_X8_high l G (b0) (v0) ) kv_X8_21 ⟨⟨rfl, rfl⟩, by decide, by decide⟩ rfl hl.1 rfl (Nat.le_of_ble_eq_true rfl) ⟨Nat.zero_le _, Nat.zero_le _⟩ (va_recv hE.1 hI0 (ci := 4) (q0 := 0) rfl rfl) hI0 dc_X8_power_1 ?_
  refine lv_if_ne (tgt := 13) hx hb dc_X8_power_4 (by decide) (fun c_0 => ?_) (fun c_0 => ?_)
  · have hw := hw.trans (if_neg c_0)
    refine lv_aload_n hx hb dc_X8_power_13 rfl (lv_at hl 0 rfl) ?_
    refine ky_cV1 (As := []) F (hE.at0) (mt_X8_high l G (b0) (v0) ) kv_X8_21 ⟨⟨rfl, rfl⟩, by decide, by decide⟩ rfl hl.1 rfl (Nat.le_of_ble_eq_true rfl) ⟨Nat.zero_le _, Nat.zero_le _⟩ (va_recv hE.1 hI0 (ci := 4) (q0 := 0) rfl rfl) hI0 dc_X8_power_14 ?_
    refine lv_sipush (v := 1075) hx hb dc_X8_power_17 (by decide) ?_
    refine lv_isub hx hb dc_X8_power_20 ?_
    exact W.iret hx hb hr (fun t ht hW => ⟨congrArg (fun z => Outcome.returned (some (Value.int z))) hw.symm, ht⟩) ky_nil dc_X8_power_21
  · have hw := hw.trans (if_pos c_0)
    refine lv_sipush (v := (-1074)) hx hb dc_X8_power_7 (by decide) ?_
    refine lv_goto (tgt := 21) hx hb dc_X8_power_10 (by decide) ?_
    exact W.iret hx hb hr (fun t ht hW => ⟨congrArg (fun z => Outcome.returned (some (Value.int z))) hw.symm, ht⟩) ky_nil dc_X8_power_21
def fn_X8_isEndless  (v0 : Int32 × Int64) : Int32 :=
  if (lg_cmp (v0.2) ((9218868437227405312 : Int64))) = (0 : Int32) then ((1 : Int32)) else ((0 : Int32))
set_option linter.constructorNameAsVariable false in
set_option maxHeartbeats 4000000 in
set_option maxRecDepth 100000 in
theorem mt_X8_isEndless (l : Launch) (G : ky_G) (b0 : Nat) (v0 : Int32 × Int64)  : Met l my_X8_isEndless (.code my_X8_isEndless prog_11_method_6_code 1 (some .boolean) :: ky_B) { frames := 0, cells := 0, slots := 0, locals := 0 } (ky_P1 G [.ref b0] (fun H => ky_It G b0 v0 H)) (ky_Q0 (some (.int (fn_X8_isEndless v0)))) 0 0 (fun _ => False) := by
  refine ky_start1 (by decide) (Nat.le_of_ble_eq_true rfl) (fun p e s m below meth c F hE hX ls hl => ?_)
  obtain ⟨hx, hb, hml, hown, hr, hlocks, hts⟩ := id F
  have hI0 := hX
  have hl : lv_has ls 1 [(0, .ref b0)] := hl
  have hw : fn_X8_isEndless v0 = _ := fn_X8_isEndless.eq_1 v0
  refine lv_aload_n hx hb dc_X8_isEndless_0 rfl (lv_at hl 0 rfl) ?_
  refine va_get (D := G.1) (ci := 4) (v := .long (v0.2)) (C := RX8) (T := TX8) (N := 2) hx hb hts ki_X8 hown hE.1 hI0 0 rfl rfl 1 (by decide) (hts _ kw_6_12) (fun _ h9 => h9) rfl dc_X8_isEndless_1 ?_
  refine lv_ldc2 (v := 9218868437227405312) hx hb hown (hts _ kw_6_72) dc_X8_isEndless_4 ?_
  refine W.lcmp hx hb dc_X8_isEndless_7 ?_
  refine lv_if_ne (tgt := 15) hx hb dc_X8_isEndless_8 (by decide) (fun c_0 => ?_) (fun c_0 => ?_)
  · have hw := hw.trans (if_neg c_0)
    refine lv_iconst (v := 0) hx hb dc_X8_isEndless_15 (by decide) ?_
    exact W.zret hx hb hr (by decide) (fun t ht hW => ⟨congrArg (fun z => Outcome.returned (some (Value.int z))) hw.symm, ht⟩) ky_nil dc_X8_isEndless_16
  · have hw := hw.trans (if_pos c_0)
    refine lv_iconst (v := 1) hx hb dc_X8_isEndless_11 (by decide) ?_
    refine lv_goto (tgt := 16) hx hb dc_X8_isEndless_12 (by decide) ?_
    exact W.zret hx hb hr (by decide) (fun t ht hW => ⟨congrArg (fun z => Outcome.returned (some (Value.int z))) hw.symm, ht⟩) ky_nil dc_X8_isEndless_16
theorem fz_X8_isEndless  (v0 : Int32 × Int64) : fn_X8_isEndless v0 = 0 ∨ fn_X8_isEndless v0 = 1 := by
  unfold fn_X8_isEndless
  repeat' split
  all_goals first | exact Or.inl rfl | exact Or.inr rfl
def fn_X8_rung  (v0 : Int32 × Int64) : Int64 :=
  if (v0.1) = (0 : Int32) then (v0.2) else (-(v0.2))
set_option linter.constructorNameAsVariable false in
set_option maxHeartbeats 4000000 in
set_option maxRecDepth 100000 in
theorem mt_X8_rung (l : Launch) (G : ky_G) (b0 : Nat) (v0 : Int32 × Int64)  : Met l my_X8_rung (.code my_X8_rung prog_11_method_7_code 1 (some .long) :: ky_B) { frames := 0, cells := 0, slots := 0, locals := 0 } (ky_P1 G [.ref b0] (fun H => ky_It G b0 v0 H)) (ky_Q0 (some (.long (fn_X8_rung v0)))) 0 0 (fun _ => False) := by
  refine ky_start1 (by decide) (Nat.le_of_ble_eq_true rfl) (fun p e s m below meth c F hE hX ls hl => ?_)
  obtain ⟨hx, hb, hml, hown, hr, hlocks, hts⟩ := id F
  have hI0 := hX
  have hl : lv_has ls 1 [(0, .ref b0)] := hl
  have hw : fn_X8_rung v0 = _ := fn_X8_rung.eq_1 v0
  refine lv_aload_n hx hb dc_X8_rung_0 rfl (lv_at hl 0 rfl) ?_
  refine va_get (D := G.1) (ci := 4) (v := .int (v0.1)) (C := RX8) (T := TX8) (N := 2) hx hb hts ki_X8 hown hE.1 hI0 0 rfl rfl 0 (by decide) (hts _ kw_6_10) (fun _ h9 => h9) rfl dc_X8_rung_1 ?_
  refine lv_if_ne (tgt := 14) hx hb dc_X8_rung_4 (by decide) (fun c_0 => ?_) (fun c_0 => ?_)
  · have hw := hw.trans (if_neg c_0)
    refine lv_aload_n hx hb dc_X8_rung_14 rfl (lv_at hl 0 rfl) ?_
    refine va_get (D := G.1) (ci := 4) (v := .long (v0.2)) (C := RX8) (T := TX8) (N := 2) hx hb hts ki_X8 hown hE.1 hI0 0 rfl rfl 1 (by decide) (hts _ kw_6_12) (fun _ h9 => h9) rfl dc_X8_rung_15 ?_
    refine lv_lneg hx hb dc_X8_rung_18 ?_
    exact W.lret hx hb hr (fun t ht hW => ⟨congrArg (fun z => Outcome.returned (some (Value.long z))) hw.symm, ht⟩) ky_nil dc_X8_rung_19
  · have hw := hw.trans (if_pos c_0)
    refine lv_aload_n hx hb dc_X8_rung_7 rfl (lv_at hl 0 rfl) ?_
    refine va_get (D := G.1) (ci := 4) (v := .long (v0.2)) (C := RX8) (T := TX8) (N := 2) hx hb hts ki_X8 hown hE.1 hI0 0 rfl rfl 1 (by decide) (hts _ kw_6_12) (fun _ h9 => h9) rfl dc_X8_rung_8 ?_
    refine lv_goto (tgt := 19) hx hb dc_X8_rung_11 (by decide) ?_
    exact W.lret hx hb hr (fun t ht hW => ⟨congrArg (fun z => Outcome.returned (some (Value.long z))) hw.symm, ht⟩) ky_nil dc_X8_rung_19
def fn_X8_place  (v0 : Int32 × Int64) : Int64 :=
  if (v0.1) = (0 : Int32) then (v0.2) else ((-(v0.2)) - ((1 : Int64)))
set_option linter.constructorNameAsVariable false in
set_option maxHeartbeats 4000000 in
set_option maxRecDepth 100000 in
theorem mt_X8_place (l : Launch) (G : ky_G) (b0 : Nat) (v0 : Int32 × Int64)  : Met l my_X8_place (.code my_X8_place prog_11_method_8_code 1 (some .long) :: ky_B) { frames := 0, cells := 0, slots := 0, locals := 0 } (ky_P1 G [.ref b0] (fun H => ky_It G b0 v0 H)) (ky_Q0 (some (.long (fn_X8_place v0)))) 0 0 (fun _ => False) := by
  refine ky_start1 (by decide) (Nat.le_of_ble_eq_true rfl) (fun p e s m below meth c F hE hX ls hl => ?_)
  obtain ⟨hx, hb, hml, hown, hr, hlocks, hts⟩ := id F
  have hI0 := hX
  have hl : lv_has ls 1 [(0, .ref b0)] := hl
  have hw : fn_X8_place v0 = _ := fn_X8_place.eq_1 v0
  refine lv_aload_n hx hb dc_X8_place_0 rfl (lv_at hl 0 rfl) ?_
  refine va_get (D := G.1) (ci := 4) (v := .int (v0.1)) (C := RX8) (T := TX8) (N := 2) hx hb hts ki_X8 hown hE.1 hI0 0 rfl rfl 0 (by decide) (hts _ kw_6_10) (fun _ h9 => h9) rfl dc_X8_place_1 ?_
  refine lv_if_ne (tgt := 14) hx hb dc_X8_place_4 (by decide) (fun c_0 => ?_) (fun c_0 => ?_)
  · have hw := hw.trans (if_neg c_0)
    refine lv_aload_n hx hb dc_X8_place_14 rfl (lv_at hl 0 rfl) ?_
    refine va_get (D := G.1) (ci := 4) (v := .long (v0.2)) (C := RX8) (T := TX8) (N := 2) hx hb hts ki_X8 hown hE.1 hI0 0 rfl rfl 1 (by decide) (hts _ kw_6_12) (fun _ h9 => h9) rfl dc_X8_place_15 ?_
    refine lv_lneg hx hb dc_X8_place_18 ?_
    refine lv_lconst (v := 1) hx hb dc_X8_place_19 (by decide) ?_
    refine lv_lsub hx hb dc_X8_place_20 ?_
    exact W.lret hx hb hr (fun t ht hW => ⟨congrArg (fun z => Outcome.returned (some (Value.long z))) hw.symm, ht⟩) ky_nil dc_X8_place_21
  · have hw := hw.trans (if_pos c_0)
    refine lv_aload_n hx hb dc_X8_place_7 rfl (lv_at hl 0 rfl) ?_
    refine va_get (D := G.1) (ci := 4) (v := .long (v0.2)) (C := RX8) (T := TX8) (N := 2) hx hb hts ki_X8 hown hE.1 hI0 0 rfl rfl 1 (by decide) (hts _ kw_6_12) (fun _ h9 => h9) rfl dc_X8_place_8 ?_
    refine lv_goto (tgt := 21) hx hb dc_X8_place_11 (by decide) ?_
    exact W.lret hx hb hr (fun t ht hW => ⟨congrArg (fun z => Outcome.returned (some (Value.long z))) hw.symm, ht⟩) ky_nil dc_X8_place_21
def fn_X8_isSame  (v0 : Int32 × Int64) (v1 : Int32 × Int64) : Int32 :=
  if (v0.1) = (v1.1) then (if (lg_cmp (v0.2) (v1.2)) = (0 : Int32) then ((1 : Int32)) else ((0 : Int32))) else ((0 : Int32))
set_option linter.constructorNameAsVariable false in
set_option maxHeartbeats 4000000 in
set_option maxRecDepth 100000 in
theorem mt_X8_isSame (l : Launch) (G : ky_G) (b0 : Nat) (b1 : Nat) (v0 : Int32 × Int64) (v1 : Int32 × Int64)  : Met l my_X8_isSame (.code my_X8_isSame prog_11_method_9_code 2 (some .boolean) :: ky_B) { frames := 0, cells := 0, slots := 0, locals := 0 } (ky_P1 G [.ref b0, .ref b1] (fun H => ky_It G b0 v0 H ∧ ky_It G b1 v1 H)) (ky_Q0 (some (.int (fn_X8_isSame v0 v1)))) 0 0 (fun _ => False) := by
  refine ky_start1 (by decide) (Nat.le_of_ble_eq_true rfl) (fun p e s m below meth c F hE hX ls hl => ?_)
  obtain ⟨hx, hb, hml, hown, hr, hlocks, hts⟩ := id F
  obtain ⟨hI0, hI1⟩ := hX
  have hl : lv_has ls 2 [(0, .ref b0), (1, .ref b1)] := hl
  have hw : fn_X8_isSame v0 v1 = _ := fn_X8_isSame.eq_1 v0 v1
  refine lv_aload_n hx hb dc_X8_isSame_0 rfl (lv_at hl 0 rfl) ?_
  refine va_get (D := G.1) (ci := 4) (v := .int (v0.1)) (C := RX8) (T := TX8) (N := 2) hx hb hts ki_X8 hown hE.1 hI0 0 rfl rfl 0 (by decide) (hts _ kw_6_10) (fun _ h9 => h9) rfl dc_X8_isSame_1 ?_
  refine lv_aload_n hx hb dc_X8_isSame_4 rfl (lv_at hl 1 rfl) ?_
  refine va_get (D := G.1) (ci := 4) (v := .int (v1.1)) (C := RX8) (T := TX8) (N := 2) hx hb hts ki_X8 hown hE.1 hI1 0 rfl rfl 0 (by decide) (hts _ kw_6_10) (fun _ h9 => h9) rfl dc_X8_isSame_5 ?_
  refine lv_icmp_ne (tgt := 27) hx hb dc_X8_isSame_8 (by decide) (fun c_0 => ?_) (fun c_0 => ?_)
  · have hw := hw.trans (if_neg c_0)
    refine lv_iconst (v := 0) hx hb dc_X8_isSame_27 (by decide) ?_
    exact W.zret hx hb hr (by decide) (fun t ht hW => ⟨congrArg (fun z => Outcome.returned (some (Value.int z))) hw.symm, ht⟩) ky_nil dc_X8_isSame_28
  · have hw := hw.trans (if_pos c_0)
    refine lv_aload_n hx hb dc_X8_isSame_11 rfl (lv_at hl 0 rfl) ?_
    refine va_get (D := G.1) (ci := 4) (v := .long (v0.2)) (C := RX8) (T := TX8) (N := 2) hx hb hts ki_X8 hown hE.1 hI0 0 rfl rfl 1 (by decide) (hts _ kw_6_12) (fun _ h9 => h9) rfl dc_X8_isSame_12 ?_
    refine lv_aload_n hx hb dc_X8_isSame_15 rfl (lv_at hl 1 rfl) ?_
    refine va_get (D := G.1) (ci := 4) (v := .long (v1.2)) (C := RX8) (T := TX8) (N := 2) hx hb hts ki_X8 hown hE.1 hI1 0 rfl rfl 1 (by decide) (hts _ kw_6_12) (fun _ h9 => h9) rfl dc_X8_isSame_16 ?_
    refine W.lcmp hx hb dc_X8_isSame_19 ?_
    refine lv_if_ne (tgt := 27) hx hb dc_X8_isSame_20 (by decide) (fun c_1 => ?_) (fun c_1 => ?_)
    · have hw := hw.trans (if_neg c_1)
      refine lv_iconst (v := 0) hx hb dc_X8_isSame_27 (by decide) ?_
      exact W.zret hx hb hr (by decide) (fun t ht hW => ⟨congrArg (fun z => Outcome.returned (some (Value.int z))) hw.symm, ht⟩) ky_nil dc_X8_isSame_28
    · have hw := hw.trans (if_pos c_1)
      refine lv_iconst (v := 1) hx hb dc_X8_isSame_23 (by decide) ?_
      refine lv_goto (tgt := 28) hx hb dc_X8_isSame_24 (by decide) ?_
      exact W.zret hx hb hr (by decide) (fun t ht hW => ⟨congrArg (fun z => Outcome.returned (some (Value.int z))) hw.symm, ht⟩) ky_nil dc_X8_isSame_28
theorem fz_X8_isSame  (v0 : Int32 × Int64) (v1 : Int32 × Int64) : fn_X8_isSame v0 v1 = 0 ∨ fn_X8_isSame v0 v1 = 1 := by
  unfold fn_X8_isSame
  repeat' split
  all_goals first | exact Or.inl rfl | exact Or.inr rfl
def fn_X8_whole  (v0 : Int32 × Int64) : Int64 :=
  if ((-53 : Int32)) ≤ (fn_X8_power v0) then (jlshr (fn_X8_many v0) (-(fn_X8_power v0))) else ((0 : Int64))
set_option linter.constructorNameAsVariable false in
set_option maxHeartbeats 4000000 in
set_option maxRecDepth 100000 in
theorem mt_X8_whole (l : Launch) (G : ky_G) (b0 : Nat) (v0 : Int32 × Int64)  : Met l my_X8_whole (.code my_X8_whole prog_11_method_12_code 1 (some .long) :: ky_B) { frames := 2, cells := 0, slots := 0, locals := 40 } (ky_P1 G [.ref b0] (fun H => ky_It G b0 v0 H)) (ky_Q0 (some (.long (fn_X8_whole v0)))) 0 0 (fun _ => False) := by
  refine ky_start1 (by decide) (Nat.le_of_ble_eq_true rfl) (fun p e s m below meth c F hE hX ls hl => ?_)
  obtain ⟨hx, hb, hml, hown, hr, hlocks, hts⟩ := id F
  have hI0 := hX
  have hl : lv_has ls 1 [(0, .ref b0)] := hl
  have hw : fn_X8_whole v0 = _ := fn_X8_whole.eq_1 v0
  refine lv_aload_n hx hb dc_X8_whole_0 rfl (lv_at hl 0 rfl) ?_
  refine ky_cV1 (As := []) F (hE.at0) (mt_X8_power l G (b0) (v0) ) kv_X8_36 ⟨⟨rfl, rfl⟩, by decide, by decide⟩ rfl hl.1 rfl (Nat.le_of_ble_eq_true rfl) ⟨Nat.zero_le _, Nat.zero_le _⟩ (va_recv hE.1 hI0 (ci := 4) (q0 := 0) rfl rfl) hI0 dc_X8_whole_1 ?_
  refine lv_bipush (v := (-53)) hx hb dc_X8_whole_4 (by decide) ?_
  refine lv_icmp_ge (tgt := 13) hx hb dc_X8_whole_6 (by decide) (fun c_0 => ?_) (fun c_0 => ?_)
  · have hw := hw.trans (if_pos c_0)
    refine lv_aload_n hx hb dc_X8_whole_13 rfl (lv_at hl 0 rfl) ?_
    refine ky_cV1 (As := []) F (hE.at0) (mt_X8_many l G (b0) (v0) ) kv_X8_39 ⟨⟨rfl, rfl⟩, by decide, by decide⟩ rfl hl.1 rfl (Nat.le_of_ble_eq_true rfl) ⟨Nat.zero_le _, Nat.zero_le _⟩ (va_recv hE.1 hI0 (ci := 4) (q0 := 0) rfl rfl) hI0 dc_X8_whole_14 ?_
    refine lv_aload_n hx hb dc_X8_whole_17 rfl (lv_at hl 0 rfl) ?_
    refine ky_cV1 (As := []) F (hE.at0) (mt_X8_power l G (b0) (v0) ) kv_X8_36 ⟨⟨rfl, rfl⟩, by decide, by decide⟩ rfl hl.1 rfl (Nat.le_of_ble_eq_true rfl) ⟨Nat.zero_le _, Nat.zero_le _⟩ (va_recv hE.1 hI0 (ci := 4) (q0 := 0) rfl rfl) hI0 dc_X8_whole_18 ?_
    refine lv_ineg hx hb dc_X8_whole_21 ?_
    refine lv_lshr (v := jlshr (fn_X8_many v0) (-(fn_X8_power v0))) hx hb dc_X8_whole_22 rfl ?_
    exact W.lret hx hb hr (fun t ht hW => ⟨congrArg (fun z => Outcome.returned (some (Value.long z))) hw.symm, ht⟩) ky_nil dc_X8_whole_23
  · have hw := hw.trans (if_neg c_0)
    refine lv_lconst (v := 0) hx hb dc_X8_whole_9 (by decide) ?_
    refine lv_goto (tgt := 23) hx hb dc_X8_whole_10 (by decide) ?_
    exact W.lret hx hb hr (fun t ht hW => ⟨congrArg (fun z => Outcome.returned (some (Value.long z))) hw.symm, ht⟩) ky_nil dc_X8_whole_23
def fn_X8_behind  (v0 : Int32 × Int64) : Int32 :=
  if (-(fn_X8_power v0)) ≤ (0 : Int32) then ((0 : Int32)) else (if (lg_cmp (fn_X8_many v0) ((0 : Int64))) = (0 : Int32) then ((0 : Int32)) else (if (-(fn_X8_power v0)) ≤ ((53 : Int32)) then (if (lg_cmp ((fn_X8_many v0) - (jlshl (fn_X8_whole v0) (-(fn_X8_power v0)))) ((0 : Int64))) = (0 : Int32) then ((0 : Int32)) else (if (0 : Int32) ≤ (lg_cmp ((fn_X8_many v0) - (jlshl (fn_X8_whole v0) (-(fn_X8_power v0)))) (jlshl ((1 : Int64)) ((-(fn_X8_power v0)) - ((1 : Int32))))) then (if (lg_cmp ((fn_X8_many v0) - (jlshl (fn_X8_whole v0) (-(fn_X8_power v0)))) (jlshl ((1 : Int64)) ((-(fn_X8_power v0)) - ((1 : Int32))))) = (0 : Int32) then ((2 : Int32)) else ((3 : Int32))) else ((1 : Int32)))) else ((1 : Int32))))
set_option linter.constructorNameAsVariable false in
set_option maxHeartbeats 4000000 in
set_option maxRecDepth 100000 in
theorem mt_X8_behind (l : Launch) (G : ky_G) (b0 : Nat) (v0 : Int32 × Int64)  : Met l my_X8_behind (.code my_X8_behind prog_11_method_11_code 6 (some .int) :: ky_B) { frames := 3, cells := 0, slots := 0, locals := 60 } (ky_P1 G [.ref b0] (fun H => ky_It G b0 v0 H)) (ky_Q0 (some (.int (fn_X8_behind v0)))) 0 0 (fun _ => False) := by
  refine ky_start1 (by decide) (Nat.le_of_ble_eq_true rfl) (fun p e s m below meth c F hE hX ls hl => ?_)
  obtain ⟨hx, hb, hml, hown, hr, hlocks, hts⟩ := id F
  have hI0 := hX
  have hl : lv_has ls 6 [(0, .ref b0)] := hl
  have hw : fn_X8_behind v0 = _ := fn_X8_behind.eq_1 v0
  refine lv_aload_n hx hb dc_X8_behind_0 rfl (lv_at hl 0 rfl) ?_
  refine ky_cV1 (As := []) F (hE.at0) (mt_X8_power l G (b0) (v0) ) kv_X8_36 ⟨⟨rfl, rfl⟩, by decide, by decide⟩ rfl hl.1 rfl (Nat.le_of_ble_eq_true rfl) ⟨Nat.zero_le _, Nat.zero_le _⟩ (va_recv hE.1 hI0 (ci := 4) (q0 := 0) rfl rfl) hI0 dc_X8_behind_1 ?_
  refine lv_ineg hx hb dc_X8_behind_4 ?_
  refine lv_istore_n (lv' := [(1, .int (-(fn_X8_power v0))), (0, .ref b0)]) hx hb dc_X8_behind_5 rfl hl (by decide) rfl (fun ls hl => ?_)
  refine lv_iload_n hx hb dc_X8_behind_6 rfl (lv_at hl 0 rfl) ?_
  refine lv_if_le (tgt := 19) hx hb dc_X8_behind_7 (by decide) (fun c_0 => ?_) (fun c_0 => ?_)
  · have hw := hw.trans (if_pos c_0)
    refine lv_iconst (v := 0) hx hb dc_X8_behind_19 (by decide) ?_
    exact W.iret hx hb hr (fun t ht hW => ⟨congrArg (fun z => Outcome.returned (some (Value.int z))) hw.symm, ht⟩) ky_nil dc_X8_behind_20
  · have hw := hw.trans (if_neg c_0)
    refine lv_aload_n hx hb dc_X8_behind_10 rfl (lv_at hl 1 rfl) ?_
    refine ky_cV1 (As := []) F (hE.at0) (mt_X8_many l G (b0) (v0) ) kv_X8_39 ⟨⟨rfl, rfl⟩, by decide, by decide⟩ rfl hl.1 rfl (Nat.le_of_ble_eq_true rfl) ⟨Nat.zero_le _, Nat.zero_le _⟩ (va_recv hE.1 hI0 (ci := 4) (q0 := 0) rfl rfl) hI0 dc_X8_behind_11 ?_
    refine lv_lconst (v := 0) hx hb dc_X8_behind_14 (by decide) ?_
    refine W.lcmp hx hb dc_X8_behind_15 ?_
    refine lv_if_ne (tgt := 21) hx hb dc_X8_behind_16 (by decide) (fun c_1 => ?_) (fun c_1 => ?_)
    · have hw := hw.trans (if_neg c_1)
      refine lv_iload_n hx hb dc_X8_behind_21 rfl (lv_at hl 0 rfl) ?_
      refine lv_bipush (v := 53) hx hb dc_X8_behind_22 (by decide) ?_
      refine lv_icmp_le (tgt := 29) hx hb dc_X8_behind_24 (by decide) (fun c_2 => ?_) (fun c_2 => ?_)
      · have hw := hw.trans (if_pos c_2)
        refine lv_aload_n hx hb dc_X8_behind_29 rfl (lv_at hl 1 rfl) ?_
        refine ky_cV1 (As := []) F (hE.at0) (mt_X8_many l G (b0) (v0) ) kv_X8_39 ⟨⟨rfl, rfl⟩, by decide, by decide⟩ rfl hl.1 rfl (Nat.le_of_ble_eq_true rfl) ⟨Nat.zero_le _, Nat.zero_le _⟩ (va_recv hE.1 hI0 (ci := 4) (q0 := 0) rfl rfl) hI0 dc_X8_behind_30 ?_
        refine lv_aload_n hx hb dc_X8_behind_33 rfl (lv_at hl 1 rfl) ?_
        refine ky_cV1 (As := []) F (hE.at0) (mt_X8_whole l G (b0) (v0) ) kv_X8_42 ⟨⟨rfl, rfl⟩, by decide, by decide⟩ rfl hl.1 rfl (Nat.le_of_ble_eq_true rfl) ⟨Nat.zero_le _, Nat.zero_le _⟩ (va_recv hE.1 hI0 (ci := 4) (q0 := 0) rfl rfl) hI0 dc_X8_behind_34 ?_
        refine lv_iload_n hx hb dc_X8_behind_37 rfl (lv_at hl 0 rfl) ?_
        refine lv_lshl (v := jlshl (fn_X8_whole v0) (-(fn_X8_power v0))) hx hb dc_X8_behind_38 rfl ?_
        refine lv_lsub hx hb dc_X8_behind_39 ?_
        refine lv_lstore_n (lv' := [(2, .long ((fn_X8_many v0) - (jlshl (fn_X8_whole v0) (-(fn_X8_power v0))))), (1, .int (-(fn_X8_power v0))), (0, .ref b0)]) hx hb dc_X8_behind_40 rfl hl (by decide) rfl (fun ls hl => ?_)
        refine lv_lconst (v := 1) hx hb dc_X8_behind_41 (by decide) ?_
        refine lv_iload_n hx hb dc_X8_behind_42 rfl (lv_at hl 1 rfl) ?_
        refine lv_iconst (v := 1) hx hb dc_X8_behind_43 (by decide) ?_
        refine lv_isub hx hb dc_X8_behind_44 ?_
        refine lv_lshl (v := jlshl ((1 : Int64)) ((-(fn_X8_power v0)) - ((1 : Int32)))) hx hb dc_X8_behind_45 rfl ?_
        refine lv_lstore (lv' := [(4, .long (jlshl ((1 : Int64)) ((-(fn_X8_power v0)) - ((1 : Int32))))), (2, .long ((fn_X8_many v0) - (jlshl (fn_X8_whole v0) (-(fn_X8_power v0))))), (1, .int (-(fn_X8_power v0))), (0, .ref b0)]) hx hb dc_X8_behind_46 hl (by decide) rfl (fun ls hl => ?_)
        refine lv_lload_n hx hb dc_X8_behind_48 rfl (lv_at hl 1 rfl) ?_
        refine lv_lconst (v := 0) hx hb dc_X8_behind_49 (by decide) ?_
        refine W.lcmp hx hb dc_X8_behind_50 ?_
        refine lv_if_ne (tgt := 58) hx hb dc_X8_behind_51 (by decide) (fun c_3 => ?_) (fun c_3 => ?_)
        · have hw := hw.trans (if_neg c_3)
          refine lv_lload_n hx hb dc_X8_behind_58 rfl (lv_at hl 1 rfl) ?_
          refine lv_lload hx hb dc_X8_behind_59 (lv_at hl 0 rfl) ?_
          refine W.lcmp hx hb dc_X8_behind_61 ?_
          refine lv_if_ge (tgt := 69) hx hb dc_X8_behind_62 (by decide) (fun c_4 => ?_) (fun c_4 => ?_)
          · have hw := hw.trans (if_pos c_4)
            refine lv_lload_n hx hb dc_X8_behind_69 rfl (lv_at hl 1 rfl) ?_
            refine lv_lload hx hb dc_X8_behind_70 (lv_at hl 0 rfl) ?_
            refine W.lcmp hx hb dc_X8_behind_72 ?_
            refine lv_if_ne (tgt := 80) hx hb dc_X8_behind_73 (by decide) (fun c_5 => ?_) (fun c_5 => ?_)
            · have hw := hw.trans (if_neg c_5)
              refine lv_iconst (v := 3) hx hb dc_X8_behind_80 (by decide) ?_
              exact W.iret hx hb hr (fun t ht hW => ⟨congrArg (fun z => Outcome.returned (some (Value.int z))) hw.symm, ht⟩) ky_nil dc_X8_behind_81
            · have hw := hw.trans (if_pos c_5)
              refine lv_iconst (v := 2) hx hb dc_X8_behind_76 (by decide) ?_
              refine lv_goto (tgt := 81) hx hb dc_X8_behind_77 (by decide) ?_
              exact W.iret hx hb hr (fun t ht hW => ⟨congrArg (fun z => Outcome.returned (some (Value.int z))) hw.symm, ht⟩) ky_nil dc_X8_behind_81
          · have hw := hw.trans (if_neg c_4)
            refine lv_iconst (v := 1) hx hb dc_X8_behind_65 (by decide) ?_
            refine lv_goto (tgt := 81) hx hb dc_X8_behind_66 (by decide) ?_
            exact W.iret hx hb hr (fun t ht hW => ⟨congrArg (fun z => Outcome.returned (some (Value.int z))) hw.symm, ht⟩) ky_nil dc_X8_behind_81
        · have hw := hw.trans (if_pos c_3)
          refine lv_iconst (v := 0) hx hb dc_X8_behind_54 (by decide) ?_
          refine lv_goto (tgt := 81) hx hb dc_X8_behind_55 (by decide) ?_
          exact W.iret hx hb hr (fun t ht hW => ⟨congrArg (fun z => Outcome.returned (some (Value.int z))) hw.symm, ht⟩) ky_nil dc_X8_behind_81
      · have hw := hw.trans (if_neg c_2)
        refine lv_iconst (v := 1) hx hb dc_X8_behind_27 (by decide) ?_
        exact W.iret hx hb hr (fun t ht hW => ⟨congrArg (fun z => Outcome.returned (some (Value.int z))) hw.symm, ht⟩) ky_nil dc_X8_behind_28
    · have hw := hw.trans (if_pos c_1)
      refine lv_iconst (v := 0) hx hb dc_X8_behind_19 (by decide) ?_
      exact W.iret hx hb hr (fun t ht hW => ⟨congrArg (fun z => Outcome.returned (some (Value.int z))) hw.symm, ht⟩) ky_nil dc_X8_behind_20
def fn_X8_kind  (v0 : Int32 × Int64) : Int32 :=
  if (lg_cmp (v0.2) ((0 : Int64))) = (0 : Int32) then (if (lg_cmp (v0.2) ((0 : Int64))) = (0 : Int32) then ((0 : Int32)) else ((4 : Int32))) else (if (fn_X8_isEndless v0) = (0 : Int32) then (if (fn_X8_high v0) = (0 : Int32) then ((1 : Int32)) else (if (fn_X8_behind v0) = (0 : Int32) then ((3 : Int32)) else ((2 : Int32)))) else (if (lg_cmp (v0.2) ((0 : Int64))) = (0 : Int32) then ((0 : Int32)) else ((4 : Int32))))
set_option linter.constructorNameAsVariable false in
set_option maxHeartbeats 4000000 in
set_option maxRecDepth 100000 in
theorem mt_X8_kind (l : Launch) (G : ky_G) (b0 : Nat) (v0 : Int32 × Int64)  : Met l my_X8_kind (.code my_X8_kind prog_11_method_13_code 1 (some .int) :: ky_B) { frames := 4, cells := 0, slots := 0, locals := 85 } (ky_P1 G [.ref b0] (fun H => ky_It G b0 v0 H)) (ky_Q0 (some (.int (fn_X8_kind v0)))) 0 0 (fun _ => False) := by
  refine ky_start1 (by decide) (Nat.le_of_ble_eq_true rfl) (fun p e s m below meth c F hE hX ls hl => ?_)
  obtain ⟨hx, hb, hml, hown, hr, hlocks, hts⟩ := id F
  have hI0 := hX
  have hl : lv_has ls 1 [(0, .ref b0)] := hl
  have hw : fn_X8_kind v0 = _ := fn_X8_kind.eq_1 v0
  refine lv_aload_n hx hb dc_X8_kind_0 rfl (lv_at hl 0 rfl) ?_
  refine va_get (D := G.1) (ci := 4) (v := .long (v0.2)) (C := RX8) (T := TX8) (N := 2) hx hb hts ki_X8 hown hE.1 hI0 0 rfl rfl 1 (by decide) (hts _ kw_6_12) (fun _ h9 => h9) rfl dc_X8_kind_1 ?_
  refine lv_lconst (v := 0) hx hb dc_X8_kind_4 (by decide) ?_
  refine W.lcmp hx hb dc_X8_kind_5 ?_
  refine lv_if_eq (tgt := 16) hx hb dc_X8_kind_6 (by decide) (fun c_0 => ?_) (fun c_0 => ?_)
  · have hw := hw.trans (if_pos c_0)
    refine lv_aload_n hx hb dc_X8_kind_16 rfl (lv_at hl 0 rfl) ?_
    refine va_get (D := G.1) (ci := 4) (v := .long (v0.2)) (C := RX8) (T := TX8) (N := 2) hx hb hts ki_X8 hown hE.1 hI0 0 rfl rfl 1 (by decide) (hts _ kw_6_12) (fun _ h9 => h9) rfl dc_X8_kind_17 ?_
    refine lv_lconst (v := 0) hx hb dc_X8_kind_20 (by decide) ?_
    refine W.lcmp hx hb dc_X8_kind_21 ?_
    refine lv_if_ne (tgt := 29) hx hb dc_X8_kind_22 (by decide) (fun c_1 => ?_) (fun c_1 => ?_)
    · have hw := hw.trans (if_neg c_1)
      refine lv_iconst (v := 4) hx hb dc_X8_kind_29 (by decide) ?_
      exact W.iret hx hb hr (fun t ht hW => ⟨congrArg (fun z => Outcome.returned (some (Value.int z))) hw.symm, ht⟩) ky_nil dc_X8_kind_30
    · have hw := hw.trans (if_pos c_1)
      refine lv_iconst (v := 0) hx hb dc_X8_kind_25 (by decide) ?_
      refine lv_goto (tgt := 30) hx hb dc_X8_kind_26 (by decide) ?_
      exact W.iret hx hb hr (fun t ht hW => ⟨congrArg (fun z => Outcome.returned (some (Value.int z))) hw.symm, ht⟩) ky_nil dc_X8_kind_30
  · have hw := hw.trans (if_neg c_0)
    refine lv_aload_n hx hb dc_X8_kind_9 rfl (lv_at hl 0 rfl) ?_
    refine ky_cV1 (As := []) F (hE.at0) (mt_X8_isEndless l G (b0) (v0) ) kv_X8_45 ⟨⟨rfl, rfl⟩, by decide, by decide⟩ rfl hl.1 rfl (Nat.le_of_ble_eq_true rfl) ⟨Nat.zero_le _, Nat.zero_le _⟩ (va_recv hE.1 hI0 (ci := 4) (q0 := 0) rfl rfl) hI0 dc_X8_kind_10 ?_
    refine lv_if_eq (tgt := 31) hx hb dc_X8_kind_13 (by decide) (fun c_1 => ?_) (fun c_1 => ?_)
    · have hw := hw.trans (if_pos c_1)
      refine lv_aload_n hx hb dc_X8_kind_31 rfl (lv_at hl 0 rfl) ?_
      refine ky_cV1 (As := []) F (hE.at0) (mt_X8_high l G (b0) (v0) ) kv_X8_21 ⟨⟨rfl, rfl⟩, by decide, by decide⟩ rfl hl.1 rfl (Nat.le_of_ble_eq_true rfl) ⟨Nat.zero_le _, Nat.zero_le _⟩ (va_recv hE.1 hI0 (ci := 4) (q0 := 0) rfl rfl) hI0 dc_X8_kind_32 ?_
      refine lv_if_ne (tgt := 42) hx hb dc_X8_kind_35 (by decide) (fun c_2 => ?_) (fun c_2 => ?_)
      · have hw := hw.trans (if_neg c_2)
        refine lv_aload_n hx hb dc_X8_kind_42 rfl (lv_at hl 0 rfl) ?_
        refine ky_cV1 (As := []) F (hE.at0) (mt_X8_behind l G (b0) (v0) ) kv_X8_49 ⟨⟨rfl, rfl⟩, by decide, by decide⟩ rfl hl.1 rfl (Nat.le_of_ble_eq_true rfl) ⟨Nat.zero_le _, Nat.zero_le _⟩ (va_recv hE.1 hI0 (ci := 4) (q0 := 0) rfl rfl) hI0 dc_X8_kind_43 ?_
        refine lv_if_ne (tgt := 53) hx hb dc_X8_kind_46 (by decide) (fun c_3 => ?_) (fun c_3 => ?_)
        · have hw := hw.trans (if_neg c_3)
          refine lv_iconst (v := 2) hx hb dc_X8_kind_53 (by decide) ?_
          exact W.iret hx hb hr (fun t ht hW => ⟨congrArg (fun z => Outcome.returned (some (Value.int z))) hw.symm, ht⟩) ky_nil dc_X8_kind_54
        · have hw := hw.trans (if_pos c_3)
          refine lv_iconst (v := 3) hx hb dc_X8_kind_49 (by decide) ?_
          refine lv_goto (tgt := 54) hx hb dc_X8_kind_50 (by decide) ?_
          exact W.iret hx hb hr (fun t ht hW => ⟨congrArg (fun z => Outcome.returned (some (Value.int z))) hw.symm, ht⟩) ky_nil dc_X8_kind_54
      · have hw := hw.trans (if_pos c_2)
        refine lv_iconst (v := 1) hx hb dc_X8_kind_38 (by decide) ?_
        refine lv_goto (tgt := 54) hx hb dc_X8_kind_39 (by decide) ?_
        exact W.iret hx hb hr (fun t ht hW => ⟨congrArg (fun z => Outcome.returned (some (Value.int z))) hw.symm, ht⟩) ky_nil dc_X8_kind_54
    · have hw := hw.trans (if_neg c_1)
      refine lv_aload_n hx hb dc_X8_kind_16 rfl (lv_at hl 0 rfl) ?_
      refine va_get (D := G.1) (ci := 4) (v := .long (v0.2)) (C := RX8) (T := TX8) (N := 2) hx hb hts ki_X8 hown hE.1 hI0 0 rfl rfl 1 (by decide) (hts _ kw_6_12) (fun _ h9 => h9) rfl dc_X8_kind_17 ?_
      refine lv_lconst (v := 0) hx hb dc_X8_kind_20 (by decide) ?_
      refine W.lcmp hx hb dc_X8_kind_21 ?_
      refine lv_if_ne (tgt := 29) hx hb dc_X8_kind_22 (by decide) (fun c_2 => ?_) (fun c_2 => ?_)
      · have hw := hw.trans (if_neg c_2)
        refine lv_iconst (v := 4) hx hb dc_X8_kind_29 (by decide) ?_
        exact W.iret hx hb hr (fun t ht hW => ⟨congrArg (fun z => Outcome.returned (some (Value.int z))) hw.symm, ht⟩) ky_nil dc_X8_kind_30
      · have hw := hw.trans (if_pos c_2)
        refine lv_iconst (v := 0) hx hb dc_X8_kind_25 (by decide) ?_
        refine lv_goto (tgt := 30) hx hb dc_X8_kind_26 (by decide) ?_
        exact W.iret hx hb hr (fun t ht hW => ⟨congrArg (fun z => Outcome.returned (some (Value.int z))) hw.symm, ht⟩) ky_nil dc_X8_kind_30
def fn_X8_isWhole  (v0 : Int32 × Int64) : Int32 :=
  if (fn_X8_kind v0) = (0 : Int32) then ((1 : Int32)) else (if (fn_X8_kind v0) = ((3 : Int32)) then ((1 : Int32)) else ((0 : Int32)))
set_option linter.constructorNameAsVariable false in
set_option maxHeartbeats 4000000 in
set_option maxRecDepth 100000 in
theorem mt_X8_isWhole (l : Launch) (G : ky_G) (b0 : Nat) (v0 : Int32 × Int64)  : Met l my_X8_isWhole (.code my_X8_isWhole prog_11_method_14_code 1 (some .boolean) :: ky_B) { frames := 5, cells := 0, slots := 0, locals := 105 } (ky_P1 G [.ref b0] (fun H => ky_It G b0 v0 H)) (ky_Q0 (some (.int (fn_X8_isWhole v0)))) 0 0 (fun _ => False) := by
  refine ky_start1 (by decide) (Nat.le_of_ble_eq_true rfl) (fun p e s m below meth c F hE hX ls hl => ?_)
  obtain ⟨hx, hb, hml, hown, hr, hlocks, hts⟩ := id F
  have hI0 := hX
  have hl : lv_has ls 1 [(0, .ref b0)] := hl
  have hw : fn_X8_isWhole v0 = _ := fn_X8_isWhole.eq_1 v0
  refine lv_aload_n hx hb dc_X8_isWhole_0 rfl (lv_at hl 0 rfl) ?_
  refine ky_cV1 (As := []) F (hE.at0) (mt_X8_kind l G (b0) (v0) ) kv_X8_52 ⟨⟨rfl, rfl⟩, by decide, by decide⟩ rfl hl.1 rfl (Nat.le_of_ble_eq_true rfl) ⟨Nat.zero_le _, Nat.zero_le _⟩ (va_recv hE.1 hI0 (ci := 4) (q0 := 0) rfl rfl) hI0 dc_X8_isWhole_1 ?_
  refine lv_if_eq (tgt := 15) hx hb dc_X8_isWhole_4 (by decide) (fun c_0 => ?_) (fun c_0 => ?_)
  · have hw := hw.trans (if_pos c_0)
    refine lv_iconst (v := 1) hx hb dc_X8_isWhole_15 (by decide) ?_
    refine lv_goto (tgt := 20) hx hb dc_X8_isWhole_16 (by decide) ?_
    exact W.zret hx hb hr (by decide) (fun t ht hW => ⟨congrArg (fun z => Outcome.returned (some (Value.int z))) hw.symm, ht⟩) ky_nil dc_X8_isWhole_20
  · have hw := hw.trans (if_neg c_0)
    refine lv_aload_n hx hb dc_X8_isWhole_7 rfl (lv_at hl 0 rfl) ?_
    refine ky_cV1 (As := []) F (hE.at0) (mt_X8_kind l G (b0) (v0) ) kv_X8_52 ⟨⟨rfl, rfl⟩, by decide, by decide⟩ rfl hl.1 rfl (Nat.le_of_ble_eq_true rfl) ⟨Nat.zero_le _, Nat.zero_le _⟩ (va_recv hE.1 hI0 (ci := 4) (q0 := 0) rfl rfl) hI0 dc_X8_isWhole_8 ?_
    refine lv_iconst (v := 3) hx hb dc_X8_isWhole_11 (by decide) ?_
    refine lv_icmp_ne (tgt := 19) hx hb dc_X8_isWhole_12 (by decide) (fun c_1 => ?_) (fun c_1 => ?_)
    · have hw := hw.trans (if_neg c_1)
      refine lv_iconst (v := 0) hx hb dc_X8_isWhole_19 (by decide) ?_
      exact W.zret hx hb hr (by decide) (fun t ht hW => ⟨congrArg (fun z => Outcome.returned (some (Value.int z))) hw.symm, ht⟩) ky_nil dc_X8_isWhole_20
    · have hw := hw.trans (if_pos c_1)
      refine lv_iconst (v := 1) hx hb dc_X8_isWhole_15 (by decide) ?_
      refine lv_goto (tgt := 20) hx hb dc_X8_isWhole_16 (by decide) ?_
      exact W.zret hx hb hr (by decide) (fun t ht hW => ⟨congrArg (fun z => Outcome.returned (some (Value.int z))) hw.symm, ht⟩) ky_nil dc_X8_isWhole_20
theorem fz_X8_isWhole  (v0 : Int32 × Int64) : fn_X8_isWhole v0 = 0 ∨ fn_X8_isWhole v0 = 1 := by
  unfold fn_X8_isWhole
  repeat' split
  all_goals first | exact Or.inl rfl | exact Or.inr rfl
def fn_X8_exponent  (v0 : Int32 × Int64) : Int32 :=
  (fn_X8_high v0) - ((1023 : Int32))
set_option linter.constructorNameAsVariable false in
set_option maxHeartbeats 4000000 in
set_option maxRecDepth 100000 in
theorem mt_X8_exponent (l : Launch) (G : ky_G) (b0 : Nat) (v0 : Int32 × Int64)  : Met l my_X8_exponent (.code my_X8_exponent prog_11_method_20_code 1 (some .int) :: ky_B) { frames := 1, cells := 0, slots := 0, locals := 20 } (ky_P1 G [.ref b0] (fun H => ky_It G b0 v0 H)) (ky_Q0 (some (.int (fn_X8_exponent v0)))) 0 0 (fun _ => False) := by
  refine ky_start1 (by decide) (Nat.le_of_ble_eq_true rfl) (fun p e s m below meth c F hE hX ls hl => ?_)
  obtain ⟨hx, hb, hml, hown, hr, hlocks, hts⟩ := id F
  have hI0 := hX
  have hl : lv_has ls 1 [(0, .ref b0)] := hl
  have hw : fn_X8_exponent v0 = _ := fn_X8_exponent.eq_1 v0
  refine lv_aload_n hx hb dc_X8_exponent_0 rfl (lv_at hl 0 rfl) ?_
  refine ky_cV1 (As := []) F (hE.at0) (mt_X8_high l G (b0) (v0) ) kv_X8_21 ⟨⟨rfl, rfl⟩, by decide, by decide⟩ rfl hl.1 rfl (Nat.le_of_ble_eq_true rfl) ⟨Nat.zero_le _, Nat.zero_le _⟩ (va_recv hE.1 hI0 (ci := 4) (q0 := 0) rfl rfl) hI0 dc_X8_exponent_1 ?_
  refine lv_sipush (v := 1023) hx hb dc_X8_exponent_4 (by decide) ?_
  refine lv_isub hx hb dc_X8_exponent_7 ?_
  exact W.iret hx hb hr (fun t ht hW => ⟨congrArg (fun z => Outcome.returned (some (Value.int z))) hw.symm, ht⟩) ky_nil dc_X8_exponent_8
def fn_X8_rounded (a1 : Int32) (v0 : Int32 × Int64) : Int64 :=
  if (fn_X8_isEndless v0) = (0 : Int32) then (if (fn_X8_power v0) ≤ ((10 : Int32)) then (if (fn_X8_power v0) < (0 : Int32) then (if (a1) = (0 : Int32) then (if (fn_X8_behind v0) = ((3 : Int32)) then (if (v0.1) = (0 : Int32) then ((fn_X8_whole v0) + (((1 : Int32)).toInt64)) else (-((fn_X8_whole v0) + (((1 : Int32)).toInt64)))) else (if (fn_X8_behind v0) = ((2 : Int32)) then (if (v0.1) = (0 : Int32) then (if (v0.1) = (0 : Int32) then ((fn_X8_whole v0) + (((1 : Int32)).toInt64)) else (-((fn_X8_whole v0) + (((1 : Int32)).toInt64)))) else (if (v0.1) = (0 : Int32) then ((fn_X8_whole v0) + (((0 : Int32)).toInt64)) else (-((fn_X8_whole v0) + (((0 : Int32)).toInt64))))) else (if (v0.1) = (0 : Int32) then ((fn_X8_whole v0) + (((0 : Int32)).toInt64)) else (-((fn_X8_whole v0) + (((0 : Int32)).toInt64)))))) else (if (v0.1) = (0 : Int32) then ((fn_X8_whole v0) + (((0 : Int32)).toInt64)) else (-((fn_X8_whole v0) + (((0 : Int32)).toInt64))))) else (if (v0.1) = (0 : Int32) then (jlshl (fn_X8_many v0) (fn_X8_power v0)) else (-(jlshl (fn_X8_many v0) (fn_X8_power v0))))) else (if (v0.1) = (0 : Int32) then ((9223372036854775807 : Int64)) else ((-9223372036854775808 : Int64)))) else (if (v0.1) = (0 : Int32) then ((9223372036854775807 : Int64)) else ((-9223372036854775808 : Int64)))
set_option linter.constructorNameAsVariable false in
set_option maxHeartbeats 4000000 in
set_option maxRecDepth 100000 in
theorem mt_X8_rounded (l : Launch) (G : ky_G) (b0 : Nat) (v0 : Int32 × Int64) (a1 : Int32) : Met l my_X8_rounded (.code my_X8_rounded prog_11_method_23_code 6 (some .long) :: ky_B) { frames := 4, cells := 0, slots := 0, locals := 85 } (ky_P1 G [.ref b0, .int (a1)] (fun H => ky_It G b0 v0 H)) (ky_Q0 (some (.long (fn_X8_rounded a1 v0)))) 0 0 (fun _ => False) := by
  refine ky_start1 (by decide) (Nat.le_of_ble_eq_true rfl) (fun p e s m below meth c F hE hX ls hl => ?_)
  obtain ⟨hx, hb, hml, hown, hr, hlocks, hts⟩ := id F
  have hI0 := hX
  have hl : lv_has ls 6 [(0, .ref b0), (1, .int (a1))] := hl
  have hw : fn_X8_rounded a1 v0 = _ := fn_X8_rounded.eq_1 a1 v0
  refine lv_aload_n hx hb dc_X8_rounded_0 rfl (lv_at hl 0 rfl) ?_
  refine ky_cV1 (As := []) F (hE.at0) (mt_X8_isEndless l G (b0) (v0) ) kv_X8_45 ⟨⟨rfl, rfl⟩, by decide, by decide⟩ rfl hl.1 rfl (Nat.le_of_ble_eq_true rfl) ⟨Nat.zero_le _, Nat.zero_le _⟩ (va_recv hE.1 hI0 (ci := 4) (q0 := 0) rfl rfl) hI0 dc_X8_rounded_1 ?_
  refine lv_if_ne (tgt := 16) hx hb dc_X8_rounded_4 (by decide) (fun c_0 => ?_) (fun c_0 => ?_)
  · have hw := hw.trans (if_neg c_0)
    refine lv_aload_n hx hb dc_X8_rounded_16 rfl (lv_at hl 0 rfl) ?_
    refine va_get (D := G.1) (ci := 4) (v := .int (v0.1)) (C := RX8) (T := TX8) (N := 2) hx hb hts ki_X8 hown hE.1 hI0 0 rfl rfl 0 (by decide) (hts _ kw_6_10) (fun _ h9 => h9) rfl dc_X8_rounded_17 ?_
    refine lv_if_ne (tgt := 29) hx hb dc_X8_rounded_20 (by decide) (fun c_1 => ?_) (fun c_1 => ?_)
    · have hw := hw.trans (if_neg c_1)
      refine lv_ldc2 (v := (-9223372036854775808)) hx hb hown (hts _ kw_7_107) dc_X8_rounded_29 ?_
      exact W.lret hx hb hr (fun t ht hW => ⟨congrArg (fun z => Outcome.returned (some (Value.long z))) hw.symm, ht⟩) ky_nil dc_X8_rounded_32
    · have hw := hw.trans (if_pos c_1)
      refine lv_ldc2 (v := 9223372036854775807) hx hb hown (hts _ kw_7_106) dc_X8_rounded_23 ?_
      refine lv_goto (tgt := 32) hx hb dc_X8_rounded_26 (by decide) ?_
      exact W.lret hx hb hr (fun t ht hW => ⟨congrArg (fun z => Outcome.returned (some (Value.long z))) hw.symm, ht⟩) ky_nil dc_X8_rounded_32
  · have hw := hw.trans (if_pos c_0)
    refine lv_aload_n hx hb dc_X8_rounded_7 rfl (lv_at hl 0 rfl) ?_
    refine ky_cV1 (As := []) F (hE.at0) (mt_X8_power l G (b0) (v0) ) kv_X8_36 ⟨⟨rfl, rfl⟩, by decide, by decide⟩ rfl hl.1 rfl (Nat.le_of_ble_eq_true rfl) ⟨Nat.zero_le _, Nat.zero_le _⟩ (va_recv hE.1 hI0 (ci := 4) (q0 := 0) rfl rfl) hI0 dc_X8_rounded_8 ?_
    refine lv_bipush (v := 10) hx hb dc_X8_rounded_11 (by decide) ?_
    refine lv_icmp_le (tgt := 33) hx hb dc_X8_rounded_13 (by decide) (fun c_1 => ?_) (fun c_1 => ?_)
    · have hw := hw.trans (if_pos c_1)
      refine lv_aload_n hx hb dc_X8_rounded_33 rfl (lv_at hl 0 rfl) ?_
      refine ky_cV1 (As := []) F (hE.at0) (mt_X8_power l G (b0) (v0) ) kv_X8_36 ⟨⟨rfl, rfl⟩, by decide, by decide⟩ rfl hl.1 rfl (Nat.le_of_ble_eq_true rfl) ⟨Nat.zero_le _, Nat.zero_le _⟩ (va_recv hE.1 hI0 (ci := 4) (q0 := 0) rfl rfl) hI0 dc_X8_rounded_34 ?_
      refine lv_if_lt (tgt := 70) hx hb dc_X8_rounded_37 (by decide) (fun c_2 => ?_) (fun c_2 => ?_)
      · have hw := hw.trans (if_pos c_2)
        refine lv_aload_n hx hb dc_X8_rounded_70 rfl (lv_at hl 0 rfl) ?_
        refine ky_cV1 (As := []) F (hE.at0) (mt_X8_behind l G (b0) (v0) ) kv_X8_49 ⟨⟨rfl, rfl⟩, by decide, by decide⟩ rfl hl.1 rfl (Nat.le_of_ble_eq_true rfl) ⟨Nat.zero_le _, Nat.zero_le _⟩ (va_recv hE.1 hI0 (ci := 4) (q0 := 0) rfl rfl) hI0 dc_X8_rounded_71 ?_
        refine lv_istore_n (lv' := [(2, .int (fn_X8_behind v0)), (0, .ref b0), (1, .int (a1))]) hx hb dc_X8_rounded_74 rfl hl (by decide) rfl (fun ls hl => ?_)
        refine lv_iload_n hx hb dc_X8_rounded_75 rfl (lv_at hl 2 rfl) ?_
        refine lv_if_ne (tgt := 100) hx hb dc_X8_rounded_76 (by decide) (fun c_3 => ?_) (fun c_3 => ?_)
        · have hw := hw.trans (if_neg c_3)
          refine lv_iconst (v := 0) hx hb dc_X8_rounded_100 (by decide) ?_
          refine lv_istore_n (lv' := [(3, .int ((0 : Int32))), (2, .int (fn_X8_behind v0)), (0, .ref b0), (1, .int (a1))]) hx hb dc_X8_rounded_101 rfl hl (by decide) rfl (fun ls hl => ?_)
          refine lv_aload_n hx hb dc_X8_rounded_102 rfl (lv_at hl 2 rfl) ?_
          refine ky_cV1 (As := []) F (hE.at0) (mt_X8_whole l G (b0) (v0) ) kv_X8_42 ⟨⟨rfl, rfl⟩, by decide, by decide⟩ rfl hl.1 rfl (Nat.le_of_ble_eq_true rfl) ⟨Nat.zero_le _, Nat.zero_le _⟩ (va_recv hE.1 hI0 (ci := 4) (q0 := 0) rfl rfl) hI0 dc_X8_rounded_103 ?_
          refine lv_iload_n hx hb dc_X8_rounded_106 rfl (lv_at hl 0 rfl) ?_
          refine lv_if_eq (tgt := 114) hx hb dc_X8_rounded_107 (by decide) (fun _ => ?_) (fun c_4 => absurd c_4 (by decide))
          refine lv_iconst (v := 0) hx hb dc_X8_rounded_114 (by decide) ?_
          refine lv_i2l (v := ((0 : Int32)).toInt64) hx hb dc_X8_rounded_115 rfl ?_
          refine lv_ladd hx hb dc_X8_rounded_116 ?_
          refine lv_lstore (lv' := [(4, .long ((fn_X8_whole v0) + (((0 : Int32)).toInt64))), (3, .int ((0 : Int32))), (2, .int (fn_X8_behind v0)), (0, .ref b0), (1, .int (a1))]) hx hb dc_X8_rounded_117 hl (by decide) rfl (fun ls hl => ?_)
          refine lv_aload_n hx hb dc_X8_rounded_119 rfl (lv_at hl 3 rfl) ?_
          refine va_get (D := G.1) (ci := 4) (v := .int (v0.1)) (C := RX8) (T := TX8) (N := 2) hx hb hts ki_X8 hown hE.1 hI0 0 rfl rfl 0 (by decide) (hts _ kw_6_10) (fun _ h9 => h9) rfl dc_X8_rounded_120 ?_
          refine lv_if_ne (tgt := 131) hx hb dc_X8_rounded_123 (by decide) (fun c_5 => ?_) (fun c_5 => ?_)
          · have hw := hw.trans (if_neg c_5)
            refine lv_lload hx hb dc_X8_rounded_131 (lv_at hl 0 rfl) ?_
            refine lv_lneg hx hb dc_X8_rounded_133 ?_
            exact W.lret hx hb hr (fun t ht hW => ⟨congrArg (fun z => Outcome.returned (some (Value.long z))) hw.symm, ht⟩) ky_nil dc_X8_rounded_134
          · have hw := hw.trans (if_pos c_5)
            refine lv_lload hx hb dc_X8_rounded_126 (lv_at hl 0 rfl) ?_
            refine lv_goto (tgt := 134) hx hb dc_X8_rounded_128 (by decide) ?_
            exact W.lret hx hb hr (fun t ht hW => ⟨congrArg (fun z => Outcome.returned (some (Value.long z))) hw.symm, ht⟩) ky_nil dc_X8_rounded_134
        · have hw := hw.trans (if_pos c_3)
          refine lv_iload_n hx hb dc_X8_rounded_79 rfl (lv_at hl 0 rfl) ?_
          refine lv_iconst (v := 3) hx hb dc_X8_rounded_80 (by decide) ?_
          refine lv_icmp_eq (tgt := 96) hx hb dc_X8_rounded_81 (by decide) (fun c_4 => ?_) (fun c_4 => ?_)
          · have hw := hw.trans (if_pos c_4)
            refine lv_iconst (v := 1) hx hb dc_X8_rounded_96 (by decide) ?_
            refine lv_goto (tgt := 101) hx hb dc_X8_rounded_97 (by decide) ?_
            refine lv_istore_n (lv' := [(3, .int ((1 : Int32))), (2, .int (fn_X8_behind v0)), (0, .ref b0), (1, .int (a1))]) hx hb dc_X8_rounded_101 rfl hl (by decide) rfl (fun ls hl => ?_)
            refine lv_aload_n hx hb dc_X8_rounded_102 rfl (lv_at hl 2 rfl) ?_
            refine ky_cV1 (As := []) F (hE.at0) (mt_X8_whole l G (b0) (v0) ) kv_X8_42 ⟨⟨rfl, rfl⟩, by decide, by decide⟩ rfl hl.1 rfl (Nat.le_of_ble_eq_true rfl) ⟨Nat.zero_le _, Nat.zero_le _⟩ (va_recv hE.1 hI0 (ci := 4) (q0 := 0) rfl rfl) hI0 dc_X8_rounded_103 ?_
            refine lv_iload_n hx hb dc_X8_rounded_106 rfl (lv_at hl 0 rfl) ?_
            refine lv_if_eq (tgt := 114) hx hb dc_X8_rounded_107 (by decide) (fun c_5 => absurd c_5 (by decide)) (fun _ => ?_)
            refine lv_iconst (v := 1) hx hb dc_X8_rounded_110 (by decide) ?_
            refine lv_goto (tgt := 115) hx hb dc_X8_rounded_111 (by decide) ?_
            refine lv_i2l (v := ((1 : Int32)).toInt64) hx hb dc_X8_rounded_115 rfl ?_
            refine lv_ladd hx hb dc_X8_rounded_116 ?_
            refine lv_lstore (lv' := [(4, .long ((fn_X8_whole v0) + (((1 : Int32)).toInt64))), (3, .int ((1 : Int32))), (2, .int (fn_X8_behind v0)), (0, .ref b0), (1, .int (a1))]) hx hb dc_X8_rounded_117 hl (by decide) rfl (fun ls hl => ?_)
            refine lv_aload_n hx hb dc_X8_rounded_119 rfl (lv_at hl 3 rfl) ?_
            refine va_get (D := G.1) (ci := 4) (v := .int (v0.1)) (C := RX8) (T := TX8) (N := 2) hx hb hts ki_X8 hown hE.1 hI0 0 rfl rfl 0 (by decide) (hts _ kw_6_10) (fun _ h9 => h9) rfl dc_X8_rounded_120 ?_
            refine lv_if_ne (tgt := 131) hx hb dc_X8_rounded_123 (by decide) (fun c_6 => ?_) (fun c_6 => ?_)
            · have hw := hw.trans (if_neg c_6)
              refine lv_lload hx hb dc_X8_rounded_131 (lv_at hl 0 rfl) ?_
              refine lv_lneg hx hb dc_X8_rounded_133 ?_
              exact W.lret hx hb hr (fun t ht hW => ⟨congrArg (fun z => Outcome.returned (some (Value.long z))) hw.symm, ht⟩) ky_nil dc_X8_rounded_134
            · have hw := hw.trans (if_pos c_6)
              refine lv_lload hx hb dc_X8_rounded_126 (lv_at hl 0 rfl) ?_
              refine lv_goto (tgt := 134) hx hb dc_X8_rounded_128 (by decide) ?_
              exact W.lret hx hb hr (fun t ht hW => ⟨congrArg (fun z => Outcome.returned (some (Value.long z))) hw.symm, ht⟩) ky_nil dc_X8_rounded_134
          · have hw := hw.trans (if_neg c_4)
            refine lv_iload_n hx hb dc_X8_rounded_84 rfl (lv_at hl 0 rfl) ?_
            refine lv_iconst (v := 2) hx hb dc_X8_rounded_85 (by decide) ?_
            refine lv_icmp_ne (tgt := 100) hx hb dc_X8_rounded_86 (by decide) (fun c_5 => ?_) (fun c_5 => ?_)
            · have hw := hw.trans (if_neg c_5)
              refine lv_iconst (v := 0) hx hb dc_X8_rounded_100 (by decide) ?_
              refine lv_istore_n (lv' := [(3, .int ((0 : Int32))), (2, .int (fn_X8_behind v0)), (0, .ref b0), (1, .int (a1))]) hx hb dc_X8_rounded_101 rfl hl (by decide) rfl (fun ls hl => ?_)
              refine lv_aload_n hx hb dc_X8_rounded_102 rfl (lv_at hl 2 rfl) ?_
              refine ky_cV1 (As := []) F (hE.at0) (mt_X8_whole l G (b0) (v0) ) kv_X8_42 ⟨⟨rfl, rfl⟩, by decide, by decide⟩ rfl hl.1 rfl (Nat.le_of_ble_eq_true rfl) ⟨Nat.zero_le _, Nat.zero_le _⟩ (va_recv hE.1 hI0 (ci := 4) (q0 := 0) rfl rfl) hI0 dc_X8_rounded_103 ?_
              refine lv_iload_n hx hb dc_X8_rounded_106 rfl (lv_at hl 0 rfl) ?_
              refine lv_if_eq (tgt := 114) hx hb dc_X8_rounded_107 (by decide) (fun _ => ?_) (fun c_6 => absurd c_6 (by decide))
              refine lv_iconst (v := 0) hx hb dc_X8_rounded_114 (by decide) ?_
              refine lv_i2l (v := ((0 : Int32)).toInt64) hx hb dc_X8_rounded_115 rfl ?_
              refine lv_ladd hx hb dc_X8_rounded_116 ?_
              refine lv_lstore (lv' := [(4, .long ((fn_X8_whole v0) + (((0 : Int32)).toInt64))), (3, .int ((0 : Int32))), (2, .int (fn_X8_behind v0)), (0, .ref b0), (1, .int (a1))]) hx hb dc_X8_rounded_117 hl (by decide) rfl (fun ls hl => ?_)
              refine lv_aload_n hx hb dc_X8_rounded_119 rfl (lv_at hl 3 rfl) ?_
              refine va_get (D := G.1) (ci := 4) (v := .int (v0.1)) (C := RX8) (T := TX8) (N := 2) hx hb hts ki_X8 hown hE.1 hI0 0 rfl rfl 0 (by decide) (hts _ kw_6_10) (fun _ h9 => h9) rfl dc_X8_rounded_120 ?_
              refine lv_if_ne (tgt := 131) hx hb dc_X8_rounded_123 (by decide) (fun c_7 => ?_) (fun c_7 => ?_)
              · have hw := hw.trans (if_neg c_7)
                refine lv_lload hx hb dc_X8_rounded_131 (lv_at hl 0 rfl) ?_
                refine lv_lneg hx hb dc_X8_rounded_133 ?_
                exact W.lret hx hb hr (fun t ht hW => ⟨congrArg (fun z => Outcome.returned (some (Value.long z))) hw.symm, ht⟩) ky_nil dc_X8_rounded_134
              · have hw := hw.trans (if_pos c_7)
                refine lv_lload hx hb dc_X8_rounded_126 (lv_at hl 0 rfl) ?_
                refine lv_goto (tgt := 134) hx hb dc_X8_rounded_128 (by decide) ?_
                exact W.lret hx hb hr (fun t ht hW => ⟨congrArg (fun z => Outcome.returned (some (Value.long z))) hw.symm, ht⟩) ky_nil dc_X8_rounded_134
            · have hw := hw.trans (if_pos c_5)
              refine lv_aload_n hx hb dc_X8_rounded_89 rfl (lv_at hl 1 rfl) ?_
              refine va_get (D := G.1) (ci := 4) (v := .int (v0.1)) (C := RX8) (T := TX8) (N := 2) hx hb hts ki_X8 hown hE.1 hI0 0 rfl rfl 0 (by decide) (hts _ kw_6_10) (fun _ h9 => h9) rfl dc_X8_rounded_90 ?_
              refine lv_if_ne (tgt := 100) hx hb dc_X8_rounded_93 (by decide) (fun c_6 => ?_) (fun c_6 => ?_)
              · have hw := hw.trans (if_neg c_6)
                refine lv_iconst (v := 0) hx hb dc_X8_rounded_100 (by decide) ?_
                refine lv_istore_n (lv' := [(3, .int ((0 : Int32))), (2, .int (fn_X8_behind v0)), (0, .ref b0), (1, .int (a1))]) hx hb dc_X8_rounded_101 rfl hl (by decide) rfl (fun ls hl => ?_)
                refine lv_aload_n hx hb dc_X8_rounded_102 rfl (lv_at hl 2 rfl) ?_
                refine ky_cV1 (As := []) F (hE.at0) (mt_X8_whole l G (b0) (v0) ) kv_X8_42 ⟨⟨rfl, rfl⟩, by decide, by decide⟩ rfl hl.1 rfl (Nat.le_of_ble_eq_true rfl) ⟨Nat.zero_le _, Nat.zero_le _⟩ (va_recv hE.1 hI0 (ci := 4) (q0 := 0) rfl rfl) hI0 dc_X8_rounded_103 ?_
                refine lv_iload_n hx hb dc_X8_rounded_106 rfl (lv_at hl 0 rfl) ?_
                refine lv_if_eq (tgt := 114) hx hb dc_X8_rounded_107 (by decide) (fun _ => ?_) (fun c_7 => absurd c_7 (by decide))
                refine lv_iconst (v := 0) hx hb dc_X8_rounded_114 (by decide) ?_
                refine lv_i2l (v := ((0 : Int32)).toInt64) hx hb dc_X8_rounded_115 rfl ?_
                refine lv_ladd hx hb dc_X8_rounded_116 ?_
                refine lv_lstore (lv' := [(4, .long ((fn_X8_whole v0) + (((0 : Int32)).toInt64))), (3, .int ((0 : Int32))), (2, .int (fn_X8_behind v0)), (0, .ref b0), (1, .int (a1))]) hx hb dc_X8_rounded_117 hl (by decide) rfl (fun ls hl => ?_)
                refine lv_aload_n hx hb dc_X8_rounded_119 rfl (lv_at hl 3 rfl) ?_
                refine va_get (D := G.1) (ci := 4) (v := .int (v0.1)) (C := RX8) (T := TX8) (N := 2) hx hb hts ki_X8 hown hE.1 hI0 0 rfl rfl 0 (by decide) (hts _ kw_6_10) (fun _ h9 => h9) rfl dc_X8_rounded_120 ?_
                refine lv_if_ne (tgt := 131) hx hb dc_X8_rounded_123 (by decide) (fun c_8 => ?_) (fun c_8 => ?_)
                · have hw := hw.trans (if_neg c_8)
                  refine lv_lload hx hb dc_X8_rounded_131 (lv_at hl 0 rfl) ?_
                  refine lv_lneg hx hb dc_X8_rounded_133 ?_
                  exact W.lret hx hb hr (fun t ht hW => ⟨congrArg (fun z => Outcome.returned (some (Value.long z))) hw.symm, ht⟩) ky_nil dc_X8_rounded_134
                · have hw := hw.trans (if_pos c_8)
                  refine lv_lload hx hb dc_X8_rounded_126 (lv_at hl 0 rfl) ?_
                  refine lv_goto (tgt := 134) hx hb dc_X8_rounded_128 (by decide) ?_
                  exact W.lret hx hb hr (fun t ht hW => ⟨congrArg (fun z => Outcome.returned (some (Value.long z))) hw.symm, ht⟩) ky_nil dc_X8_rounded_134
              · have hw := hw.trans (if_pos c_6)
                refine lv_iconst (v := 1) hx hb dc_X8_rounded_96 (by decide) ?_
                refine lv_goto (tgt := 101) hx hb dc_X8_rounded_97 (by decide) ?_
                refine lv_istore_n (lv' := [(3, .int ((1 : Int32))), (2, .int (fn_X8_behind v0)), (0, .ref b0), (1, .int (a1))]) hx hb dc_X8_rounded_101 rfl hl (by decide) rfl (fun ls hl => ?_)
                refine lv_aload_n hx hb dc_X8_rounded_102 rfl (lv_at hl 2 rfl) ?_
                refine ky_cV1 (As := []) F (hE.at0) (mt_X8_whole l G (b0) (v0) ) kv_X8_42 ⟨⟨rfl, rfl⟩, by decide, by decide⟩ rfl hl.1 rfl (Nat.le_of_ble_eq_true rfl) ⟨Nat.zero_le _, Nat.zero_le _⟩ (va_recv hE.1 hI0 (ci := 4) (q0 := 0) rfl rfl) hI0 dc_X8_rounded_103 ?_
                refine lv_iload_n hx hb dc_X8_rounded_106 rfl (lv_at hl 0 rfl) ?_
                refine lv_if_eq (tgt := 114) hx hb dc_X8_rounded_107 (by decide) (fun c_7 => absurd c_7 (by decide)) (fun _ => ?_)
                refine lv_iconst (v := 1) hx hb dc_X8_rounded_110 (by decide) ?_
                refine lv_goto (tgt := 115) hx hb dc_X8_rounded_111 (by decide) ?_
                refine lv_i2l (v := ((1 : Int32)).toInt64) hx hb dc_X8_rounded_115 rfl ?_
                refine lv_ladd hx hb dc_X8_rounded_116 ?_
                refine lv_lstore (lv' := [(4, .long ((fn_X8_whole v0) + (((1 : Int32)).toInt64))), (3, .int ((1 : Int32))), (2, .int (fn_X8_behind v0)), (0, .ref b0), (1, .int (a1))]) hx hb dc_X8_rounded_117 hl (by decide) rfl (fun ls hl => ?_)
                refine lv_aload_n hx hb dc_X8_rounded_119 rfl (lv_at hl 3 rfl) ?_
                refine va_get (D := G.1) (ci := 4) (v := .int (v0.1)) (C := RX8) (T := TX8) (N := 2) hx hb hts ki_X8 hown hE.1 hI0 0 rfl rfl 0 (by decide) (hts _ kw_6_10) (fun _ h9 => h9) rfl dc_X8_rounded_120 ?_
                refine lv_if_ne (tgt := 131) hx hb dc_X8_rounded_123 (by decide) (fun c_8 => ?_) (fun c_8 => ?_)
                · have hw := hw.trans (if_neg c_8)
                  refine lv_lload hx hb dc_X8_rounded_131 (lv_at hl 0 rfl) ?_
                  refine lv_lneg hx hb dc_X8_rounded_133 ?_
                  exact W.lret hx hb hr (fun t ht hW => ⟨congrArg (fun z => Outcome.returned (some (Value.long z))) hw.symm, ht⟩) ky_nil dc_X8_rounded_134
                · have hw := hw.trans (if_pos c_8)
                  refine lv_lload hx hb dc_X8_rounded_126 (lv_at hl 0 rfl) ?_
                  refine lv_goto (tgt := 134) hx hb dc_X8_rounded_128 (by decide) ?_
                  exact W.lret hx hb hr (fun t ht hW => ⟨congrArg (fun z => Outcome.returned (some (Value.long z))) hw.symm, ht⟩) ky_nil dc_X8_rounded_134
      · have hw := hw.trans (if_neg c_2)
        refine lv_aload_n hx hb dc_X8_rounded_40 rfl (lv_at hl 0 rfl) ?_
        refine va_get (D := G.1) (ci := 4) (v := .int (v0.1)) (C := RX8) (T := TX8) (N := 2) hx hb hts ki_X8 hown hE.1 hI0 0 rfl rfl 0 (by decide) (hts _ kw_6_10) (fun _ h9 => h9) rfl dc_X8_rounded_41 ?_
        refine lv_if_ne (tgt := 59) hx hb dc_X8_rounded_44 (by decide) (fun c_3 => ?_) (fun c_3 => ?_)
        · have hw := hw.trans (if_neg c_3)
          refine lv_aload_n hx hb dc_X8_rounded_59 rfl (lv_at hl 0 rfl) ?_
          refine ky_cV1 (As := []) F (hE.at0) (mt_X8_many l G (b0) (v0) ) kv_X8_39 ⟨⟨rfl, rfl⟩, by decide, by decide⟩ rfl hl.1 rfl (Nat.le_of_ble_eq_true rfl) ⟨Nat.zero_le _, Nat.zero_le _⟩ (va_recv hE.1 hI0 (ci := 4) (q0 := 0) rfl rfl) hI0 dc_X8_rounded_60 ?_
          refine lv_aload_n hx hb dc_X8_rounded_63 rfl (lv_at hl 0 rfl) ?_
          refine ky_cV1 (As := []) F (hE.at0) (mt_X8_power l G (b0) (v0) ) kv_X8_36 ⟨⟨rfl, rfl⟩, by decide, by decide⟩ rfl hl.1 rfl (Nat.le_of_ble_eq_true rfl) ⟨Nat.zero_le _, Nat.zero_le _⟩ (va_recv hE.1 hI0 (ci := 4) (q0 := 0) rfl rfl) hI0 dc_X8_rounded_64 ?_
          refine lv_lshl (v := jlshl (fn_X8_many v0) (fn_X8_power v0)) hx hb dc_X8_rounded_67 rfl ?_
          refine lv_lneg hx hb dc_X8_rounded_68 ?_
          exact W.lret hx hb hr (fun t ht hW => ⟨congrArg (fun z => Outcome.returned (some (Value.long z))) hw.symm, ht⟩) ky_nil dc_X8_rounded_69
        · have hw := hw.trans (if_pos c_3)
          refine lv_aload_n hx hb dc_X8_rounded_47 rfl (lv_at hl 0 rfl) ?_
          refine ky_cV1 (As := []) F (hE.at0) (mt_X8_many l G (b0) (v0) ) kv_X8_39 ⟨⟨rfl, rfl⟩, by decide, by decide⟩ rfl hl.1 rfl (Nat.le_of_ble_eq_true rfl) ⟨Nat.zero_le _, Nat.zero_le _⟩ (va_recv hE.1 hI0 (ci := 4) (q0 := 0) rfl rfl) hI0 dc_X8_rounded_48 ?_
          refine lv_aload_n hx hb dc_X8_rounded_51 rfl (lv_at hl 0 rfl) ?_
          refine ky_cV1 (As := []) F (hE.at0) (mt_X8_power l G (b0) (v0) ) kv_X8_36 ⟨⟨rfl, rfl⟩, by decide, by decide⟩ rfl hl.1 rfl (Nat.le_of_ble_eq_true rfl) ⟨Nat.zero_le _, Nat.zero_le _⟩ (va_recv hE.1 hI0 (ci := 4) (q0 := 0) rfl rfl) hI0 dc_X8_rounded_52 ?_
          refine lv_lshl (v := jlshl (fn_X8_many v0) (fn_X8_power v0)) hx hb dc_X8_rounded_55 rfl ?_
          refine lv_goto (tgt := 69) hx hb dc_X8_rounded_56 (by decide) ?_
          exact W.lret hx hb hr (fun t ht hW => ⟨congrArg (fun z => Outcome.returned (some (Value.long z))) hw.symm, ht⟩) ky_nil dc_X8_rounded_69
    · have hw := hw.trans (if_neg c_1)
      refine lv_aload_n hx hb dc_X8_rounded_16 rfl (lv_at hl 0 rfl) ?_
      refine va_get (D := G.1) (ci := 4) (v := .int (v0.1)) (C := RX8) (T := TX8) (N := 2) hx hb hts ki_X8 hown hE.1 hI0 0 rfl rfl 0 (by decide) (hts _ kw_6_10) (fun _ h9 => h9) rfl dc_X8_rounded_17 ?_
      refine lv_if_ne (tgt := 29) hx hb dc_X8_rounded_20 (by decide) (fun c_2 => ?_) (fun c_2 => ?_)
      · have hw := hw.trans (if_neg c_2)
        refine lv_ldc2 (v := (-9223372036854775808)) hx hb hown (hts _ kw_7_107) dc_X8_rounded_29 ?_
        exact W.lret hx hb hr (fun t ht hW => ⟨congrArg (fun z => Outcome.returned (some (Value.long z))) hw.symm, ht⟩) ky_nil dc_X8_rounded_32
      · have hw := hw.trans (if_pos c_2)
        refine lv_ldc2 (v := 9223372036854775807) hx hb hown (hts _ kw_7_106) dc_X8_rounded_23 ?_
        refine lv_goto (tgt := 32) hx hb dc_X8_rounded_26 (by decide) ?_
        exact W.lret hx hb hr (fun t ht hW => ⟨congrArg (fun z => Outcome.returned (some (Value.long z))) hw.symm, ht⟩) ky_nil dc_X8_rounded_32
end
section
theorem ky_itp {G : ky_G} {a : Nat} {x : Int32} {y : Int64} {H : Heap} (h : va_P G.1 kcl [(a, .inr (4, [.int x, .long y]))] H) : ky_It G a (x, y) H := h
end
section
abbrev my_X8_init : MethodName := ⟨"ExactdoublesModel$Its", "<init>", "(IJ)V"⟩
abbrev my_X8_turned : MethodName := ⟨"ExactdoublesModel$Its", "turned", "()LExactdoublesModel$Its;"⟩
abbrev my_X8_up : MethodName := ⟨"ExactdoublesModel$Its", "up", "()LExactdoublesModel$Its;"⟩
abbrev my_X8_next : MethodName := ⟨"ExactdoublesModel$Its", "next", "(Z)LExactdoublesModel$Its;"⟩
abbrev my_X8_step : MethodName := ⟨"ExactdoublesModel$Its", "step", "()LExactdoublesModel$Its;"⟩
abbrev my_X8_times : MethodName := ⟨"ExactdoublesModel$Its", "times", "(J)LExactdoublesModel$Its;"⟩
abbrev my_X8_sign : MethodName := ⟨"ExactdoublesModel$Its", "sign", "()LExactdoublesModel$Its;"⟩
abbrev my_X8_taken : MethodName := ⟨"ExactdoublesModel$Its", "taken", "(I)LExactdoublesModel$Its;"⟩
theorem kw_1_37 : (Jvm.Cond.code ({ cls := "java/lang/Object", name := "<init>", desc := "()V" } : Jvm.MethodName) object_method_1_code (1 : Nat) (Option.none : Option Jvm.ClassFile.FieldType)) ∈ ky_B := ky_mem (kc_1 _ (List.mem_of_getElem? (i := 37) rfl)) (by decide +kernel)
theorem kw_6_8 : (Jvm.Cond.code ({ cls := "ExactdoublesModel$Its", name := "<init>", desc := "(IJ)V" } : Jvm.MethodName) prog_11_method_1_code (4 : Nat) (Option.none : Option Jvm.ClassFile.FieldType)) ∈ ky_B := ky_mem (kc_6 _ (List.mem_of_getElem? (i := 8) rfl)) (by decide +kernel)
theorem kw_6_207 : (Jvm.Cond.code ({ cls := "ExactdoublesModel$Its", name := "up", desc := "()LExactdoublesModel$Its;" } : Jvm.MethodName) prog_11_method_17_code (1 : Nat) (Option.some (Jvm.ClassFile.FieldType.object "ExactdoublesModel$Its"))) ∈ ky_B := ky_mem (kc_6 _ (List.mem_of_getElem? (i := 207) rfl)) (by decide +kernel)
theorem kB_6_9 : (tables_1_6[(9 : Nat)]? = some (Jvm.Cond.methodLink "ExactdoublesModel$Its" (3 : Nat) ({ cls := "java/lang/Object", name := "<init>", desc := "()V" } : Jvm.MethodName)) ∧ goodWord (Jvm.Cond.methodLink "ExactdoublesModel$Its" (3 : Nat) ({ cls := "java/lang/Object", name := "<init>", desc := "()V" } : Jvm.MethodName)) = true) ∧ (tables_1_1[(36 : Nat)]? = some (Jvm.Cond.instanceMethod ({ cls := "java/lang/Object", name := "<init>", desc := "()V" } : Jvm.MethodName)) ∧ goodWord (Jvm.Cond.instanceMethod ({ cls := "java/lang/Object", name := "<init>", desc := "()V" } : Jvm.MethodName)) = true) ∧ (tables_1_6[(5 : Nat)]? = some (Jvm.Cond.instantiable "ExactdoublesModel$Its" (2 : Nat)) ∧ goodWord (Jvm.Cond.instantiable "ExactdoublesModel$Its" (2 : Nat)) = true) ∧ (tables_1_6[(169 : Nat)]? = some (Jvm.Cond.classLink "ExactdoublesModel$Its" (10 : Nat) "ExactdoublesModel$Its") ∧ goodWord (Jvm.Cond.classLink "ExactdoublesModel$Its" (10 : Nat) "ExactdoublesModel$Its") = true) ∧ (tables_1_6[(171 : Nat)]? = some (Jvm.Cond.methodLink "ExactdoublesModel$Its" (33 : Nat) ({ cls := "ExactdoublesModel$Its", name := "<init>", desc := "(IJ)V" } : Jvm.MethodName)) ∧ goodWord (Jvm.Cond.methodLink "ExactdoublesModel$Its" (33 : Nat) ({ cls := "ExactdoublesModel$Its", name := "<init>", desc := "(IJ)V" } : Jvm.MethodName)) = true) ∧ (tables_1_6[(7 : Nat)]? = some (Jvm.Cond.instanceMethod ({ cls := "ExactdoublesModel$Its", name := "<init>", desc := "(IJ)V" } : Jvm.MethodName)) ∧ goodWord (Jvm.Cond.instanceMethod ({ cls := "ExactdoublesModel$Its", name := "<init>", desc := "(IJ)V" } : Jvm.MethodName)) = true) ∧ (tables_1_6[(217 : Nat)]? = some (Jvm.Cond.methodLink "ExactdoublesModel$Its" (92 : Nat) ({ cls := "ExactdoublesModel$Its", name := "up", desc := "()LExactdoublesModel$Its;" } : Jvm.MethodName)) ∧ goodWord (Jvm.Cond.methodLink "ExactdoublesModel$Its" (92 : Nat) ({ cls := "ExactdoublesModel$Its", name := "up", desc := "()LExactdoublesModel$Its;" } : Jvm.MethodName)) = true) ∧ (tables_1_6[(205 : Nat)]? = some (Jvm.Cond.instanceMethod ({ cls := "ExactdoublesModel$Its", name := "up", desc := "()LExactdoublesModel$Its;" } : Jvm.MethodName)) ∧ goodWord (Jvm.Cond.instanceMethod ({ cls := "ExactdoublesModel$Its", name := "up", desc := "()LExactdoublesModel$Its;" } : Jvm.MethodName)) = true) ∧ (tables_1_6[(206 : Nat)]? = some (Jvm.Cond.selects "ExactdoublesModel$Its" ({ cls := "ExactdoublesModel$Its", name := "up", desc := "()LExactdoublesModel$Its;" } : Jvm.MethodName) ({ cls := "ExactdoublesModel$Its", name := "up", desc := "()LExactdoublesModel$Its;" } : Jvm.MethodName)) ∧ goodWord (Jvm.Cond.selects "ExactdoublesModel$Its" ({ cls := "ExactdoublesModel$Its", name := "up", desc := "()LExactdoublesModel$Its;" } : Jvm.MethodName) ({ cls := "ExactdoublesModel$Its", name := "up", desc := "()LExactdoublesModel$Its;" } : Jvm.MethodName)) = true) ∧ (tables_1_6[(216 : Nat)]? = some (Jvm.Cond.methodLink "ExactdoublesModel$Its" (88 : Nat) ({ cls := "ExactdoublesModel$Its", name := "turned", desc := "()LExactdoublesModel$Its;" } : Jvm.MethodName)) ∧ goodWord (Jvm.Cond.methodLink "ExactdoublesModel$Its" (88 : Nat) ({ cls := "ExactdoublesModel$Its", name := "turned", desc := "()LExactdoublesModel$Its;" } : Jvm.MethodName)) = true) := by decide +kernel
theorem kw_6_9 : (Jvm.Cond.methodLink "ExactdoublesModel$Its" (3 : Nat) ({ cls := "java/lang/Object", name := "<init>", desc := "()V" } : Jvm.MethodName)) ∈ ky_B := ky_mem (kc_6 _ (List.mem_of_getElem? kB_6_9.1.1)) kB_6_9.1.2
theorem kw_1_36 : (Jvm.Cond.instanceMethod ({ cls := "java/lang/Object", name := "<init>", desc := "()V" } : Jvm.MethodName)) ∈ ky_B := ky_mem (kc_1 _ (List.mem_of_getElem? kB_6_9.2.1.1)) kB_6_9.2.1.2
theorem kw_6_5 : (Jvm.Cond.instantiable "ExactdoublesModel$Its" (2 : Nat)) ∈ ky_B := ky_mem (kc_6 _ (List.mem_of_getElem? kB_6_9.2.2.1.1)) kB_6_9.2.2.1.2
theorem kw_6_169 : (Jvm.Cond.classLink "ExactdoublesModel$Its" (10 : Nat) "ExactdoublesModel$Its") ∈ ky_B := ky_mem (kc_6 _ (List.mem_of_getElem? kB_6_9.2.2.2.1.1)) kB_6_9.2.2.2.1.2
theorem kw_6_171 : (Jvm.Cond.methodLink "ExactdoublesModel$Its" (33 : Nat) ({ cls := "ExactdoublesModel$Its", name := "<init>", desc := "(IJ)V" } : Jvm.MethodName)) ∈ ky_B := ky_mem (kc_6 _ (List.mem_of_getElem? kB_6_9.2.2.2.2.1.1)) kB_6_9.2.2.2.2.1.2
theorem kw_6_7 : (Jvm.Cond.instanceMethod ({ cls := "ExactdoublesModel$Its", name := "<init>", desc := "(IJ)V" } : Jvm.MethodName)) ∈ ky_B := ky_mem (kc_6 _ (List.mem_of_getElem? kB_6_9.2.2.2.2.2.1.1)) kB_6_9.2.2.2.2.2.1.2
theorem kw_6_217 : (Jvm.Cond.methodLink "ExactdoublesModel$Its" (92 : Nat) ({ cls := "ExactdoublesModel$Its", name := "up", desc := "()LExactdoublesModel$Its;" } : Jvm.MethodName)) ∈ ky_B := ky_mem (kc_6 _ (List.mem_of_getElem? kB_6_9.2.2.2.2.2.2.1.1)) kB_6_9.2.2.2.2.2.2.1.2
theorem kw_6_205 : (Jvm.Cond.instanceMethod ({ cls := "ExactdoublesModel$Its", name := "up", desc := "()LExactdoublesModel$Its;" } : Jvm.MethodName)) ∈ ky_B := ky_mem (kc_6 _ (List.mem_of_getElem? kB_6_9.2.2.2.2.2.2.2.1.1)) kB_6_9.2.2.2.2.2.2.2.1.2
theorem kw_6_206 : (Jvm.Cond.selects "ExactdoublesModel$Its" ({ cls := "ExactdoublesModel$Its", name := "up", desc := "()LExactdoublesModel$Its;" } : Jvm.MethodName) ({ cls := "ExactdoublesModel$Its", name := "up", desc := "()LExactdoublesModel$Its;" } : Jvm.MethodName)) ∈ ky_B := ky_mem (kc_6 _ (List.mem_of_getElem? kB_6_9.2.2.2.2.2.2.2.2.1.1)) kB_6_9.2.2.2.2.2.2.2.2.1.2
theorem kw_6_216 : (Jvm.Cond.methodLink "ExactdoublesModel$Its" (88 : Nat) ({ cls := "ExactdoublesModel$Its", name := "turned", desc := "()LExactdoublesModel$Its;" } : Jvm.MethodName)) ∈ ky_B := ky_mem (kc_6 _ (List.mem_of_getElem? kB_6_9.2.2.2.2.2.2.2.2.2.1)) kB_6_9.2.2.2.2.2.2.2.2.2.2
theorem kw_6_191 : (Jvm.Cond.code ({ cls := "ExactdoublesModel$Its", name := "turned", desc := "()LExactdoublesModel$Its;" } : Jvm.MethodName) prog_11_method_10_code (1 : Nat) (Option.some (Jvm.ClassFile.FieldType.object "ExactdoublesModel$Its"))) ∈ ky_B := ky_mem (kc_6 _ (List.mem_of_getElem? (i := 191) rfl)) (by decide +kernel)
theorem kw_6_111 : (Jvm.Cond.code ({ cls := "ExactdoublesModel", name := "nearest", desc := "(JJ)J" } : Jvm.MethodName) prog_10_method_1_code (15 : Nat) (Option.some Jvm.ClassFile.FieldType.long)) ∈ ky_B := ky_mem (kc_6 _ (List.mem_of_getElem? (i := 111) rfl)) (by decide +kernel)
theorem kB_6_189 : (tables_1_6[(189 : Nat)]? = some (Jvm.Cond.instanceMethod ({ cls := "ExactdoublesModel$Its", name := "turned", desc := "()LExactdoublesModel$Its;" } : Jvm.MethodName)) ∧ goodWord (Jvm.Cond.instanceMethod ({ cls := "ExactdoublesModel$Its", name := "turned", desc := "()LExactdoublesModel$Its;" } : Jvm.MethodName)) = true) ∧ (tables_1_6[(190 : Nat)]? = some (Jvm.Cond.selects "ExactdoublesModel$Its" ({ cls := "ExactdoublesModel$Its", name := "turned", desc := "()LExactdoublesModel$Its;" } : Jvm.MethodName) ({ cls := "ExactdoublesModel$Its", name := "turned", desc := "()LExactdoublesModel$Its;" } : Jvm.MethodName)) ∧ goodWord (Jvm.Cond.selects "ExactdoublesModel$Its" ({ cls := "ExactdoublesModel$Its", name := "turned", desc := "()LExactdoublesModel$Its;" } : Jvm.MethodName) ({ cls := "ExactdoublesModel$Its", name := "turned", desc := "()LExactdoublesModel$Its;" } : Jvm.MethodName)) = true) ∧ (tables_1_6[(226 : Nat)]? = some (Jvm.Cond.methodLink "ExactdoublesModel$Its" (95 : Nat) ({ cls := "java/lang/Math", name := "max", desc := "(II)I" } : Jvm.MethodName)) ∧ goodWord (Jvm.Cond.methodLink "ExactdoublesModel$Its" (95 : Nat) ({ cls := "java/lang/Math", name := "max", desc := "(II)I" } : Jvm.MethodName)) = true) ∧ (tables_1_6[(110 : Nat)]? = some (Jvm.Cond.static ({ cls := "ExactdoublesModel", name := "nearest", desc := "(JJ)J" } : Jvm.MethodName)) ∧ goodWord (Jvm.Cond.static ({ cls := "ExactdoublesModel", name := "nearest", desc := "(JJ)J" } : Jvm.MethodName)) = true) ∧ (tables_1_6[(168 : Nat)]? = some (Jvm.Cond.constantLong "ExactdoublesModel$Its" (74 : Nat) (2 : Int64)) ∧ goodWord (Jvm.Cond.constantLong "ExactdoublesModel$Its" (74 : Nat) (2 : Int64)) = true) := by decide +kernel
theorem kw_6_189 : (Jvm.Cond.instanceMethod ({ cls := "ExactdoublesModel$Its", name := "turned", desc := "()LExactdoublesModel$Its;" } : Jvm.MethodName)) ∈ ky_B := ky_mem (kc_6 _ (List.mem_of_getElem? kB_6_189.1.1)) kB_6_189.1.2
theorem kw_6_190 : (Jvm.Cond.selects "ExactdoublesModel$Its" ({ cls := "ExactdoublesModel$Its", name := "turned", desc := "()LExactdoublesModel$Its;" } : Jvm.MethodName) ({ cls := "ExactdoublesModel$Its", name := "turned", desc := "()LExactdoublesModel$Its;" } : Jvm.MethodName)) ∈ ky_B := ky_mem (kc_6 _ (List.mem_of_getElem? kB_6_189.2.1.1)) kB_6_189.2.1.2
theorem kw_6_226 : (Jvm.Cond.methodLink "ExactdoublesModel$Its" (95 : Nat) ({ cls := "java/lang/Math", name := "max", desc := "(II)I" } : Jvm.MethodName)) ∈ ky_B := ky_mem (kc_6 _ (List.mem_of_getElem? kB_6_189.2.2.1.1)) kB_6_189.2.2.1.2
theorem kw_6_110 : (Jvm.Cond.static ({ cls := "ExactdoublesModel", name := "nearest", desc := "(JJ)J" } : Jvm.MethodName)) ∈ ky_B := ky_mem (kc_6 _ (List.mem_of_getElem? kB_6_189.2.2.2.1.1)) kB_6_189.2.2.2.1.2
theorem kw_6_168 : (Jvm.Cond.constantLong "ExactdoublesModel$Its" (74 : Nat) (2 : Int64)) ∈ ky_B := ky_mem (kc_6 _ (List.mem_of_getElem? kB_6_189.2.2.2.2.1)) kB_6_189.2.2.2.2.2
theorem pd_17 : (parseMethodDescriptor "(IJ)V").map (fun d => d.parameters.length) = some 2 := by decide +kernel
theorem pd_18 : (parseMethodDescriptor "()LExactdoublesModel$Its;").map (fun d => d.parameters.length) = some 0 := by decide +kernel
theorem kI_X8_33 : ky_wI "ExactdoublesModel$Its" 33 my_X8_init prog_11_method_1_code 4 2 := ⟨kw_6_171, kw_6_7, kw_1_9, kw_6_8, rfl, by decide +kernel, by decide +kernel, pd_17⟩
theorem kv_X8_92 : ky_wV "ExactdoublesModel$Its" 92 my_X8_up prog_11_method_17_code 1 (Option.some (Jvm.ClassFile.FieldType.object "ExactdoublesModel$Its")) 0 := ⟨kw_6_217, kw_6_205, kw_6_206, kw_1_9, kw_6_207, by decide +kernel, by decide +kernel, pd_18⟩
theorem kv_X8_88 : ky_wV "ExactdoublesModel$Its" 88 my_X8_turned prog_11_method_10_code 1 (Option.some (Jvm.ClassFile.FieldType.object "ExactdoublesModel$Its")) 0 := ⟨kw_6_216, kw_6_189, kw_6_190, kw_1_9, kw_6_191, by decide +kernel, by decide +kernel, pd_18⟩
theorem kn_X8_84 : ky_wN "ExactdoublesModel$Its" 84 my_X9_nearest "ExactdoublesModel" prog_10_method_1_code 15 (Option.some Jvm.ClassFile.FieldType.long) 2 := ⟨kc_6 _ (List.mem_of_getElem? (i := 170) rfl), kw_6_110, kw_1_8, kw_6_111, by decide, by decide, by decide +kernel⟩
def dw_C_prog_11_method_1_code_0 : List UInt8 := [42, 183, 0, 3, 42, 27, 181, 0, 9, 42, 32, 181, 0, 15, 177]
theorem dw_h_prog_11_method_1_code_0 : (prog_11_method_1_code.data.toList.drop 0).take 72 = dw_C_prog_11_method_1_code_0 := by decide +kernel
theorem dw_b_X8_init_0 : dw_chk dw_C_prog_11_method_1_code_0 0 0 (.aload_n 0) 1 = true ∧ dw_chk dw_C_prog_11_method_1_code_0 1 1 (.invokespecial 3) 3 = true ∧ dw_chk dw_C_prog_11_method_1_code_0 4 4 (.aload_n 0) 1 = true ∧ dw_chk dw_C_prog_11_method_1_code_0 5 5 (.iload_n 1) 1 = true ∧ dw_chk dw_C_prog_11_method_1_code_0 6 6 (.putfield 9) 3 = true ∧ dw_chk dw_C_prog_11_method_1_code_0 9 9 (.aload_n 0) 1 = true ∧ dw_chk dw_C_prog_11_method_1_code_0 10 10 (.lload_n 2) 1 = true ∧ dw_chk dw_C_prog_11_method_1_code_0 11 11 (.putfield 15) 3 = true ∧ dw_chk dw_C_prog_11_method_1_code_0 14 14 (.return_) 1 = true := by decide +kernel
theorem dc_X8_init_0 : decode prog_11_method_1_code 0 = .ok (.aload_n 0, 1) := dw_row (j := 0) dw_h_prog_11_method_1_code_0 rfl dw_b_X8_init_0.1
theorem dc_X8_init_1 : decode prog_11_method_1_code 1 = .ok (.invokespecial 3, 3) := dw_row (j := 1) dw_h_prog_11_method_1_code_0 rfl dw_b_X8_init_0.2.1
theorem dc_X8_init_4 : decode prog_11_method_1_code 4 = .ok (.aload_n 0, 1) := dw_row (j := 4) dw_h_prog_11_method_1_code_0 rfl dw_b_X8_init_0.2.2.1
theorem dc_X8_init_5 : decode prog_11_method_1_code 5 = .ok (.iload_n 1, 1) := dw_row (j := 5) dw_h_prog_11_method_1_code_0 rfl dw_b_X8_init_0.2.2.2.1
theorem dc_X8_init_6 : decode prog_11_method_1_code 6 = .ok (.putfield 9, 3) := dw_row (j := 6) dw_h_prog_11_method_1_code_0 rfl dw_b_X8_init_0.2.2.2.2.1
theorem dc_X8_init_9 : decode prog_11_method_1_code 9 = .ok (.aload_n 0, 1) := dw_row (j := 9) dw_h_prog_11_method_1_code_0 rfl dw_b_X8_init_0.2.2.2.2.2.1
theorem dc_X8_init_10 : decode prog_11_method_1_code 10 = .ok (.lload_n 2, 1) := dw_row (j := 10) dw_h_prog_11_method_1_code_0 rfl dw_b_X8_init_0.2.2.2.2.2.2.1
theorem dc_X8_init_11 : decode prog_11_method_1_code 11 = .ok (.putfield 15, 3) := dw_row (j := 11) dw_h_prog_11_method_1_code_0 rfl dw_b_X8_init_0.2.2.2.2.2.2.2.1
theorem dc_X8_init_14 : decode prog_11_method_1_code 14 = .ok (.return_, 1) := dw_row (j := 14) dw_h_prog_11_method_1_code_0 rfl dw_b_X8_init_0.2.2.2.2.2.2.2.2
def dw_C_prog_11_method_10_code_0 : List UInt8 := [187, 0, 10, 89, 4, 42, 180, 0, 9, 100, 42, 180, 0, 15, 183, 0, 33, 176]
theorem dw_h_prog_11_method_10_code_0 : (prog_11_method_10_code.data.toList.drop 0).take 72 = dw_C_prog_11_method_10_code_0 := by decide +kernel
theorem dw_b_X8_turned_0 : dw_chk dw_C_prog_11_method_10_code_0 0 0 (.new 10) 3 = true ∧ dw_chk dw_C_prog_11_method_10_code_0 3 3 (.dup) 1 = true ∧ dw_chk dw_C_prog_11_method_10_code_0 4 4 (.iconst 1) 1 = true ∧ dw_chk dw_C_prog_11_method_10_code_0 5 5 (.aload_n 0) 1 = true ∧ dw_chk dw_C_prog_11_method_10_code_0 6 6 (.getfield 9) 3 = true ∧ dw_chk dw_C_prog_11_method_10_code_0 9 9 (.isub) 1 = true ∧ dw_chk dw_C_prog_11_method_10_code_0 10 10 (.aload_n 0) 1 = true ∧ dw_chk dw_C_prog_11_method_10_code_0 11 11 (.getfield 15) 3 = true ∧ dw_chk dw_C_prog_11_method_10_code_0 14 14 (.invokespecial 33) 3 = true ∧ dw_chk dw_C_prog_11_method_10_code_0 17 17 (.areturn) 1 = true := by decide +kernel
theorem dc_X8_turned_0 : decode prog_11_method_10_code 0 = .ok (.new 10, 3) := dw_row (j := 0) dw_h_prog_11_method_10_code_0 rfl dw_b_X8_turned_0.1
theorem dc_X8_turned_3 : decode prog_11_method_10_code 3 = .ok (.dup, 1) := dw_row (j := 3) dw_h_prog_11_method_10_code_0 rfl dw_b_X8_turned_0.2.1
theorem dc_X8_turned_4 : decode prog_11_method_10_code 4 = .ok (.iconst 1, 1) := dw_row (j := 4) dw_h_prog_11_method_10_code_0 rfl dw_b_X8_turned_0.2.2.1
theorem dc_X8_turned_5 : decode prog_11_method_10_code 5 = .ok (.aload_n 0, 1) := dw_row (j := 5) dw_h_prog_11_method_10_code_0 rfl dw_b_X8_turned_0.2.2.2.1
theorem dc_X8_turned_6 : decode prog_11_method_10_code 6 = .ok (.getfield 9, 3) := dw_row (j := 6) dw_h_prog_11_method_10_code_0 rfl dw_b_X8_turned_0.2.2.2.2.1
theorem dc_X8_turned_9 : decode prog_11_method_10_code 9 = .ok (.isub, 1) := dw_row (j := 9) dw_h_prog_11_method_10_code_0 rfl dw_b_X8_turned_0.2.2.2.2.2.1
theorem dc_X8_turned_10 : decode prog_11_method_10_code 10 = .ok (.aload_n 0, 1) := dw_row (j := 10) dw_h_prog_11_method_10_code_0 rfl dw_b_X8_turned_0.2.2.2.2.2.2.1
theorem dc_X8_turned_11 : decode prog_11_method_10_code 11 = .ok (.getfield 15, 3) := dw_row (j := 11) dw_h_prog_11_method_10_code_0 rfl dw_b_X8_turned_0.2.2.2.2.2.2.2.1
theorem dc_X8_turned_14 : decode prog_11_method_10_code 14 = .ok (.invokespecial 33, 3) := dw_row (j := 14) dw_h_prog_11_method_10_code_0 rfl dw_b_X8_turned_0.2.2.2.2.2.2.2.2.1
theorem dc_X8_turned_17 : decode prog_11_method_10_code 17 = .ok (.areturn, 1) := dw_row (j := 17) dw_h_prog_11_method_10_code_0 rfl dw_b_X8_turned_0.2.2.2.2.2.2.2.2.2
def dw_C_prog_11_method_17_code_0 : List UInt8 := [42, 180, 0, 9, 154, 0, 29, 42, 182, 0, 45, 153, 0, 7, 42, 167, 0, 17, 187, 0, 10, 89, 3, 42, 180, 0, 15, 10, 97, 183, 0, 33, 176, 42, 180, 0, 15, 9, 148, 154, 0, 15, 187, 0, 10, 89, 3, 10, 183, 0, 33, 167, 0, 17, 187, 0, 10, 89, 4, 42, 180, 0, 15, 10, 101, 183, 0, 33, 176]
theorem dw_h_prog_11_method_17_code_0 : (prog_11_method_17_code.data.toList.drop 0).take 72 = dw_C_prog_11_method_17_code_0 := by decide +kernel
theorem dw_b_X8_up_0 : dw_chk dw_C_prog_11_method_17_code_0 0 0 (.aload_n 0) 1 = true ∧ dw_chk dw_C_prog_11_method_17_code_0 1 1 (.getfield 9) 3 = true ∧ dw_chk dw_C_prog_11_method_17_code_0 4 4 (.ifCond .ne 29) 3 = true ∧ dw_chk dw_C_prog_11_method_17_code_0 33 33 (.aload_n 0) 1 = true ∧ dw_chk dw_C_prog_11_method_17_code_0 34 34 (.getfield 15) 3 = true ∧ dw_chk dw_C_prog_11_method_17_code_0 37 37 (.lconst 0) 1 = true ∧ dw_chk dw_C_prog_11_method_17_code_0 38 38 (.lcmp) 1 = true ∧ dw_chk dw_C_prog_11_method_17_code_0 39 39 (.ifCond .ne 15) 3 = true ∧ dw_chk dw_C_prog_11_method_17_code_0 54 54 (.new 10) 3 = true ∧ dw_chk dw_C_prog_11_method_17_code_0 57 57 (.dup) 1 = true ∧ dw_chk dw_C_prog_11_method_17_code_0 58 58 (.iconst 1) 1 = true ∧ dw_chk dw_C_prog_11_method_17_code_0 59 59 (.aload_n 0) 1 = true ∧ dw_chk dw_C_prog_11_method_17_code_0 60 60 (.getfield 15) 3 = true ∧ dw_chk dw_C_prog_11_method_17_code_0 63 63 (.lconst 1) 1 = true ∧ dw_chk dw_C_prog_11_method_17_code_0 42 42 (.new 10) 3 = true ∧ dw_chk dw_C_prog_11_method_17_code_0 45 45 (.dup) 1 = true ∧ dw_chk dw_C_prog_11_method_17_code_0 46 46 (.iconst 0) 1 = true ∧ dw_chk dw_C_prog_11_method_17_code_0 47 47 (.lconst 1) 1 = true ∧ dw_chk dw_C_prog_11_method_17_code_0 48 48 (.invokespecial 33) 3 = true ∧ dw_chk dw_C_prog_11_method_17_code_0 51 51 (.goto 17) 3 = true ∧ dw_chk dw_C_prog_11_method_17_code_0 7 7 (.aload_n 0) 1 = true ∧ dw_chk dw_C_prog_11_method_17_code_0 8 8 (.invokevirtual 45) 3 = true ∧ dw_chk dw_C_prog_11_method_17_code_0 11 11 (.ifCond .eq 7) 3 = true ∧ dw_chk dw_C_prog_11_method_17_code_0 18 18 (.new 10) 3 = true ∧ dw_chk dw_C_prog_11_method_17_code_0 21 21 (.dup) 1 = true ∧ dw_chk dw_C_prog_11_method_17_code_0 22 22 (.iconst 0) 1 = true ∧ dw_chk dw_C_prog_11_method_17_code_0 23 23 (.aload_n 0) 1 = true ∧ dw_chk dw_C_prog_11_method_17_code_0 24 24 (.getfield 15) 3 = true ∧ dw_chk dw_C_prog_11_method_17_code_0 27 27 (.lconst 1) 1 = true ∧ dw_chk dw_C_prog_11_method_17_code_0 28 28 (.ladd) 1 = true ∧ dw_chk dw_C_prog_11_method_17_code_0 29 29 (.invokespecial 33) 3 = true ∧ dw_chk dw_C_prog_11_method_17_code_0 32 32 (.areturn) 1 = true ∧ dw_chk dw_C_prog_11_method_17_code_0 14 14 (.aload_n 0) 1 = true ∧ dw_chk dw_C_prog_11_method_17_code_0 15 15 (.goto 17) 3 = true := by decide +kernel
theorem dc_X8_up_0 : decode prog_11_method_17_code 0 = .ok (.aload_n 0, 1) := dw_row (j := 0) dw_h_prog_11_method_17_code_0 rfl dw_b_X8_up_0.1
theorem dc_X8_up_1 : decode prog_11_method_17_code 1 = .ok (.getfield 9, 3) := dw_row (j := 1) dw_h_prog_11_method_17_code_0 rfl dw_b_X8_up_0.2.1
theorem dc_X8_up_4 : decode prog_11_method_17_code 4 = .ok (.ifCond .ne 29, 3) := dw_row (j := 4) dw_h_prog_11_method_17_code_0 rfl dw_b_X8_up_0.2.2.1
theorem dc_X8_up_33 : decode prog_11_method_17_code 33 = .ok (.aload_n 0, 1) := dw_row (j := 33) dw_h_prog_11_method_17_code_0 rfl dw_b_X8_up_0.2.2.2.1
theorem dc_X8_up_34 : decode prog_11_method_17_code 34 = .ok (.getfield 15, 3) := dw_row (j := 34) dw_h_prog_11_method_17_code_0 rfl dw_b_X8_up_0.2.2.2.2.1
theorem dc_X8_up_37 : decode prog_11_method_17_code 37 = .ok (.lconst 0, 1) := dw_row (j := 37) dw_h_prog_11_method_17_code_0 rfl dw_b_X8_up_0.2.2.2.2.2.1
theorem dc_X8_up_38 : decode prog_11_method_17_code 38 = .ok (.lcmp, 1) := dw_row (j := 38) dw_h_prog_11_method_17_code_0 rfl dw_b_X8_up_0.2.2.2.2.2.2.1
theorem dc_X8_up_39 : decode prog_11_method_17_code 39 = .ok (.ifCond .ne 15, 3) := dw_row (j := 39) dw_h_prog_11_method_17_code_0 rfl dw_b_X8_up_0.2.2.2.2.2.2.2.1
theorem dc_X8_up_54 : decode prog_11_method_17_code 54 = .ok (.new 10, 3) := dw_row (j := 54) dw_h_prog_11_method_17_code_0 rfl dw_b_X8_up_0.2.2.2.2.2.2.2.2.1
theorem dc_X8_up_57 : decode prog_11_method_17_code 57 = .ok (.dup, 1) := dw_row (j := 57) dw_h_prog_11_method_17_code_0 rfl dw_b_X8_up_0.2.2.2.2.2.2.2.2.2.1
theorem dc_X8_up_58 : decode prog_11_method_17_code 58 = .ok (.iconst 1, 1) := dw_row (j := 58) dw_h_prog_11_method_17_code_0 rfl dw_b_X8_up_0.2.2.2.2.2.2.2.2.2.2.1
theorem dc_X8_up_59 : decode prog_11_method_17_code 59 = .ok (.aload_n 0, 1) := dw_row (j := 59) dw_h_prog_11_method_17_code_0 rfl dw_b_X8_up_0.2.2.2.2.2.2.2.2.2.2.2.1
theorem dc_X8_up_60 : decode prog_11_method_17_code 60 = .ok (.getfield 15, 3) := dw_row (j := 60) dw_h_prog_11_method_17_code_0 rfl dw_b_X8_up_0.2.2.2.2.2.2.2.2.2.2.2.2.1
theorem dc_X8_up_63 : decode prog_11_method_17_code 63 = .ok (.lconst 1, 1) := dw_row (j := 63) dw_h_prog_11_method_17_code_0 rfl dw_b_X8_up_0.2.2.2.2.2.2.2.2.2.2.2.2.2.1
theorem dc_X8_up_42 : decode prog_11_method_17_code 42 = .ok (.new 10, 3) := dw_row (j := 42) dw_h_prog_11_method_17_code_0 rfl dw_b_X8_up_0.2.2.2.2.2.2.2.2.2.2.2.2.2.2.1
theorem dc_X8_up_45 : decode prog_11_method_17_code 45 = .ok (.dup, 1) := dw_row (j := 45) dw_h_prog_11_method_17_code_0 rfl dw_b_X8_up_0.2.2.2.2.2.2.2.2.2.2.2.2.2.2.2.1
theorem dc_X8_up_46 : decode prog_11_method_17_code 46 = .ok (.iconst 0, 1) := dw_row (j := 46) dw_h_prog_11_method_17_code_0 rfl dw_b_X8_up_0.2.2.2.2.2.2.2.2.2.2.2.2.2.2.2.2.1
theorem dc_X8_up_47 : decode prog_11_method_17_code 47 = .ok (.lconst 1, 1) := dw_row (j := 47) dw_h_prog_11_method_17_code_0 rfl dw_b_X8_up_0.2.2.2.2.2.2.2.2.2.2.2.2.2.2.2.2.2.1
theorem dc_X8_up_48 : decode prog_11_method_17_code 48 = .ok (.invokespecial 33, 3) := dw_row (j := 48) dw_h_prog_11_method_17_code_0 rfl dw_b_X8_up_0.2.2.2.2.2.2.2.2.2.2.2.2.2.2.2.2.2.2.1
theorem dc_X8_up_51 : decode prog_11_method_17_code 51 = .ok (.goto 17, 3) := dw_row (j := 51) dw_h_prog_11_method_17_code_0 rfl dw_b_X8_up_0.2.2.2.2.2.2.2.2.2.2.2.2.2.2.2.2.2.2.2.1
theorem dc_X8_up_7 : decode prog_11_method_17_code 7 = .ok (.aload_n 0, 1) := dw_row (j := 7) dw_h_prog_11_method_17_code_0 rfl dw_b_X8_up_0.2.2.2.2.2.2.2.2.2.2.2.2.2.2.2.2.2.2.2.2.1
theorem dc_X8_up_8 : decode prog_11_method_17_code 8 = .ok (.invokevirtual 45, 3) := dw_row (j := 8) dw_h_prog_11_method_17_code_0 rfl dw_b_X8_up_0.2.2.2.2.2.2.2.2.2.2.2.2.2.2.2.2.2.2.2.2.2.1
theorem dc_X8_up_11 : decode prog_11_method_17_code 11 = .ok (.ifCond .eq 7, 3) := dw_row (j := 11) dw_h_prog_11_method_17_code_0 rfl dw_b_X8_up_0.2.2.2.2.2.2.2.2.2.2.2.2.2.2.2.2.2.2.2.2.2.2.1
theorem dc_X8_up_18 : decode prog_11_method_17_code 18 = .ok (.new 10, 3) := dw_row (j := 18) dw_h_prog_11_method_17_code_0 rfl dw_b_X8_up_0.2.2.2.2.2.2.2.2.2.2.2.2.2.2.2.2.2.2.2.2.2.2.2.1
theorem dc_X8_up_21 : decode prog_11_method_17_code 21 = .ok (.dup, 1) := dw_row (j := 21) dw_h_prog_11_method_17_code_0 rfl dw_b_X8_up_0.2.2.2.2.2.2.2.2.2.2.2.2.2.2.2.2.2.2.2.2.2.2.2.2.1
theorem dc_X8_up_22 : decode prog_11_method_17_code 22 = .ok (.iconst 0, 1) := dw_row (j := 22) dw_h_prog_11_method_17_code_0 rfl dw_b_X8_up_0.2.2.2.2.2.2.2.2.2.2.2.2.2.2.2.2.2.2.2.2.2.2.2.2.2.1
theorem dc_X8_up_23 : decode prog_11_method_17_code 23 = .ok (.aload_n 0, 1) := dw_row (j := 23) dw_h_prog_11_method_17_code_0 rfl dw_b_X8_up_0.2.2.2.2.2.2.2.2.2.2.2.2.2.2.2.2.2.2.2.2.2.2.2.2.2.2.1
theorem dc_X8_up_24 : decode prog_11_method_17_code 24 = .ok (.getfield 15, 3) := dw_row (j := 24) dw_h_prog_11_method_17_code_0 rfl dw_b_X8_up_0.2.2.2.2.2.2.2.2.2.2.2.2.2.2.2.2.2.2.2.2.2.2.2.2.2.2.2.1
theorem dc_X8_up_27 : decode prog_11_method_17_code 27 = .ok (.lconst 1, 1) := dw_row (j := 27) dw_h_prog_11_method_17_code_0 rfl dw_b_X8_up_0.2.2.2.2.2.2.2.2.2.2.2.2.2.2.2.2.2.2.2.2.2.2.2.2.2.2.2.2.1
theorem dc_X8_up_28 : decode prog_11_method_17_code 28 = .ok (.ladd, 1) := dw_row (j := 28) dw_h_prog_11_method_17_code_0 rfl dw_b_X8_up_0.2.2.2.2.2.2.2.2.2.2.2.2.2.2.2.2.2.2.2.2.2.2.2.2.2.2.2.2.2.1
theorem dc_X8_up_29 : decode prog_11_method_17_code 29 = .ok (.invokespecial 33, 3) := dw_row (j := 29) dw_h_prog_11_method_17_code_0 rfl dw_b_X8_up_0.2.2.2.2.2.2.2.2.2.2.2.2.2.2.2.2.2.2.2.2.2.2.2.2.2.2.2.2.2.2.1
theorem dc_X8_up_32 : decode prog_11_method_17_code 32 = .ok (.areturn, 1) := dw_row (j := 32) dw_h_prog_11_method_17_code_0 rfl dw_b_X8_up_0.2.2.2.2.2.2.2.2.2.2.2.2.2.2.2.2.2.2.2.2.2.2.2.2.2.2.2.2.2.2.2.1
theorem dc_X8_up_14 : decode prog_11_method_17_code 14 = .ok (.aload_n 0, 1) := dw_row (j := 14) dw_h_prog_11_method_17_code_0 rfl dw_b_X8_up_0.2.2.2.2.2.2.2.2.2.2.2.2.2.2.2.2.2.2.2.2.2.2.2.2.2.2.2.2.2.2.2.2.1
theorem dc_X8_up_15 : decode prog_11_method_17_code 15 = .ok (.goto 17, 3) := dw_row (j := 15) dw_h_prog_11_method_17_code_0 rfl dw_b_X8_up_0.2.2.2.2.2.2.2.2.2.2.2.2.2.2.2.2.2.2.2.2.2.2.2.2.2.2.2.2.2.2.2.2.2
def dw_C_prog_11_method_17_code_1 : List UInt8 := [101, 183, 0, 33, 176]
theorem dw_h_prog_11_method_17_code_1 : (prog_11_method_17_code.data.toList.drop 64).take 72 = dw_C_prog_11_method_17_code_1 := by decide +kernel
theorem dw_b_X8_up_64 : dw_chk dw_C_prog_11_method_17_code_1 64 0 (.lsub) 1 = true ∧ dw_chk dw_C_prog_11_method_17_code_1 65 1 (.invokespecial 33) 3 = true ∧ dw_chk dw_C_prog_11_method_17_code_1 68 4 (.areturn) 1 = true := by decide +kernel
theorem dc_X8_up_64 : decode prog_11_method_17_code 64 = .ok (.lsub, 1) := dw_row (j := 0) dw_h_prog_11_method_17_code_1 rfl dw_b_X8_up_64.1
theorem dc_X8_up_65 : decode prog_11_method_17_code 65 = .ok (.invokespecial 33, 3) := dw_row (j := 1) dw_h_prog_11_method_17_code_1 rfl dw_b_X8_up_64.2.1
theorem dc_X8_up_68 : decode prog_11_method_17_code 68 = .ok (.areturn, 1) := dw_row (j := 4) dw_h_prog_11_method_17_code_1 rfl dw_b_X8_up_64.2.2
def dw_C_prog_11_method_18_code_0 : List UInt8 := [27, 153, 0, 16, 42, 182, 0, 88, 182, 0, 92, 182, 0, 88, 167, 0, 7, 42, 182, 0, 92, 176]
theorem dw_h_prog_11_method_18_code_0 : (prog_11_method_18_code.data.toList.drop 0).take 72 = dw_C_prog_11_method_18_code_0 := by decide +kernel
theorem dw_b_X8_next_0 : dw_chk dw_C_prog_11_method_18_code_0 0 0 (.iload_n 1) 1 = true ∧ dw_chk dw_C_prog_11_method_18_code_0 1 1 (.ifCond .eq 16) 3 = true ∧ dw_chk dw_C_prog_11_method_18_code_0 17 17 (.aload_n 0) 1 = true ∧ dw_chk dw_C_prog_11_method_18_code_0 18 18 (.invokevirtual 92) 3 = true ∧ dw_chk dw_C_prog_11_method_18_code_0 21 21 (.areturn) 1 = true ∧ dw_chk dw_C_prog_11_method_18_code_0 4 4 (.aload_n 0) 1 = true ∧ dw_chk dw_C_prog_11_method_18_code_0 5 5 (.invokevirtual 88) 3 = true ∧ dw_chk dw_C_prog_11_method_18_code_0 8 8 (.invokevirtual 92) 3 = true ∧ dw_chk dw_C_prog_11_method_18_code_0 11 11 (.invokevirtual 88) 3 = true ∧ dw_chk dw_C_prog_11_method_18_code_0 14 14 (.goto 7) 3 = true := by decide +kernel
theorem dc_X8_next_0 : decode prog_11_method_18_code 0 = .ok (.iload_n 1, 1) := dw_row (j := 0) dw_h_prog_11_method_18_code_0 rfl dw_b_X8_next_0.1
theorem dc_X8_next_1 : decode prog_11_method_18_code 1 = .ok (.ifCond .eq 16, 3) := dw_row (j := 1) dw_h_prog_11_method_18_code_0 rfl dw_b_X8_next_0.2.1
theorem dc_X8_next_17 : decode prog_11_method_18_code 17 = .ok (.aload_n 0, 1) := dw_row (j := 17) dw_h_prog_11_method_18_code_0 rfl dw_b_X8_next_0.2.2.1
theorem dc_X8_next_18 : decode prog_11_method_18_code 18 = .ok (.invokevirtual 92, 3) := dw_row (j := 18) dw_h_prog_11_method_18_code_0 rfl dw_b_X8_next_0.2.2.2.1
theorem dc_X8_next_21 : decode prog_11_method_18_code 21 = .ok (.areturn, 1) := dw_row (j := 21) dw_h_prog_11_method_18_code_0 rfl dw_b_X8_next_0.2.2.2.2.1
theorem dc_X8_next_4 : decode prog_11_method_18_code 4 = .ok (.aload_n 0, 1) := dw_row (j := 4) dw_h_prog_11_method_18_code_0 rfl dw_b_X8_next_0.2.2.2.2.2.1
theorem dc_X8_next_5 : decode prog_11_method_18_code 5 = .ok (.invokevirtual 88, 3) := dw_row (j := 5) dw_h_prog_11_method_18_code_0 rfl dw_b_X8_next_0.2.2.2.2.2.2.1
theorem dc_X8_next_8 : decode prog_11_method_18_code 8 = .ok (.invokevirtual 92, 3) := dw_row (j := 8) dw_h_prog_11_method_18_code_0 rfl dw_b_X8_next_0.2.2.2.2.2.2.2.1
theorem dc_X8_next_11 : decode prog_11_method_18_code 11 = .ok (.invokevirtual 88, 3) := dw_row (j := 11) dw_h_prog_11_method_18_code_0 rfl dw_b_X8_next_0.2.2.2.2.2.2.2.2.1
theorem dc_X8_next_14 : decode prog_11_method_18_code 14 = .ok (.goto 7, 3) := dw_row (j := 14) dw_h_prog_11_method_18_code_0 rfl dw_b_X8_next_0.2.2.2.2.2.2.2.2.2
def dw_C_prog_11_method_19_code_0 : List UInt8 := [42, 182, 0, 45, 153, 0, 17, 187, 0, 10, 89, 3, 20, 0, 31, 183, 0, 33, 167, 0, 28, 187, 0, 10, 89, 3, 10, 4, 42, 182, 0, 21, 184, 0, 95, 17, 4, 51, 100, 133, 184, 0, 84, 183, 0, 33, 176]
theorem dw_h_prog_11_method_19_code_0 : (prog_11_method_19_code.data.toList.drop 0).take 72 = dw_C_prog_11_method_19_code_0 := by decide +kernel
theorem dw_b_X8_step_0 : dw_chk dw_C_prog_11_method_19_code_0 0 0 (.aload_n 0) 1 = true ∧ dw_chk dw_C_prog_11_method_19_code_0 1 1 (.invokevirtual 45) 3 = true ∧ dw_chk dw_C_prog_11_method_19_code_0 4 4 (.ifCond .eq 17) 3 = true ∧ dw_chk dw_C_prog_11_method_19_code_0 21 21 (.new 10) 3 = true ∧ dw_chk dw_C_prog_11_method_19_code_0 24 24 (.dup) 1 = true ∧ dw_chk dw_C_prog_11_method_19_code_0 25 25 (.iconst 0) 1 = true ∧ dw_chk dw_C_prog_11_method_19_code_0 26 26 (.lconst 1) 1 = true ∧ dw_chk dw_C_prog_11_method_19_code_0 27 27 (.iconst 1) 1 = true ∧ dw_chk dw_C_prog_11_method_19_code_0 28 28 (.aload_n 0) 1 = true ∧ dw_chk dw_C_prog_11_method_19_code_0 29 29 (.invokevirtual 21) 3 = true ∧ dw_chk dw_C_prog_11_method_19_code_0 32 32 (.invokestatic 95) 3 = true ∧ dw_chk dw_C_prog_11_method_19_code_0 35 35 (.sipush 1075) 3 = true ∧ dw_chk dw_C_prog_11_method_19_code_0 38 38 (.isub) 1 = true ∧ dw_chk dw_C_prog_11_method_19_code_0 39 39 (.i2l) 1 = true ∧ dw_chk dw_C_prog_11_method_19_code_0 40 40 (.invokestatic 84) 3 = true ∧ dw_chk dw_C_prog_11_method_19_code_0 43 43 (.invokespecial 33) 3 = true ∧ dw_chk dw_C_prog_11_method_19_code_0 46 46 (.areturn) 1 = true ∧ dw_chk dw_C_prog_11_method_19_code_0 7 7 (.new 10) 3 = true ∧ dw_chk dw_C_prog_11_method_19_code_0 10 10 (.dup) 1 = true ∧ dw_chk dw_C_prog_11_method_19_code_0 11 11 (.iconst 0) 1 = true ∧ dw_chk dw_C_prog_11_method_19_code_0 12 12 (.ldc2_w 31) 3 = true ∧ dw_chk dw_C_prog_11_method_19_code_0 15 15 (.invokespecial 33) 3 = true ∧ dw_chk dw_C_prog_11_method_19_code_0 18 18 (.goto 28) 3 = true := by decide +kernel
theorem dc_X8_step_0 : decode prog_11_method_19_code 0 = .ok (.aload_n 0, 1) := dw_row (j := 0) dw_h_prog_11_method_19_code_0 rfl dw_b_X8_step_0.1
theorem dc_X8_step_1 : decode prog_11_method_19_code 1 = .ok (.invokevirtual 45, 3) := dw_row (j := 1) dw_h_prog_11_method_19_code_0 rfl dw_b_X8_step_0.2.1
theorem dc_X8_step_4 : decode prog_11_method_19_code 4 = .ok (.ifCond .eq 17, 3) := dw_row (j := 4) dw_h_prog_11_method_19_code_0 rfl dw_b_X8_step_0.2.2.1
theorem dc_X8_step_21 : decode prog_11_method_19_code 21 = .ok (.new 10, 3) := dw_row (j := 21) dw_h_prog_11_method_19_code_0 rfl dw_b_X8_step_0.2.2.2.1
theorem dc_X8_step_24 : decode prog_11_method_19_code 24 = .ok (.dup, 1) := dw_row (j := 24) dw_h_prog_11_method_19_code_0 rfl dw_b_X8_step_0.2.2.2.2.1
theorem dc_X8_step_25 : decode prog_11_method_19_code 25 = .ok (.iconst 0, 1) := dw_row (j := 25) dw_h_prog_11_method_19_code_0 rfl dw_b_X8_step_0.2.2.2.2.2.1
theorem dc_X8_step_26 : decode prog_11_method_19_code 26 = .ok (.lconst 1, 1) := dw_row (j := 26) dw_h_prog_11_method_19_code_0 rfl dw_b_X8_step_0.2.2.2.2.2.2.1
theorem dc_X8_step_27 : decode prog_11_method_19_code 27 = .ok (.iconst 1, 1) := dw_row (j := 27) dw_h_prog_11_method_19_code_0 rfl dw_b_X8_step_0.2.2.2.2.2.2.2.1
theorem dc_X8_step_28 : decode prog_11_method_19_code 28 = .ok (.aload_n 0, 1) := dw_row (j := 28) dw_h_prog_11_method_19_code_0 rfl dw_b_X8_step_0.2.2.2.2.2.2.2.2.1
theorem dc_X8_step_29 : decode prog_11_method_19_code 29 = .ok (.invokevirtual 21, 3) := dw_row (j := 29) dw_h_prog_11_method_19_code_0 rfl dw_b_X8_step_0.2.2.2.2.2.2.2.2.2.1
theorem dc_X8_step_32 : decode prog_11_method_19_code 32 = .ok (.invokestatic 95, 3) := dw_row (j := 32) dw_h_prog_11_method_19_code_0 rfl dw_b_X8_step_0.2.2.2.2.2.2.2.2.2.2.1
theorem dc_X8_step_35 : decode prog_11_method_19_code 35 = .ok (.sipush 1075, 3) := dw_row (j := 35) dw_h_prog_11_method_19_code_0 rfl dw_b_X8_step_0.2.2.2.2.2.2.2.2.2.2.2.1
theorem dc_X8_step_38 : decode prog_11_method_19_code 38 = .ok (.isub, 1) := dw_row (j := 38) dw_h_prog_11_method_19_code_0 rfl dw_b_X8_step_0.2.2.2.2.2.2.2.2.2.2.2.2.1
theorem dc_X8_step_39 : decode prog_11_method_19_code 39 = .ok (.i2l, 1) := dw_row (j := 39) dw_h_prog_11_method_19_code_0 rfl dw_b_X8_step_0.2.2.2.2.2.2.2.2.2.2.2.2.2.1
theorem dc_X8_step_40 : decode prog_11_method_19_code 40 = .ok (.invokestatic 84, 3) := dw_row (j := 40) dw_h_prog_11_method_19_code_0 rfl dw_b_X8_step_0.2.2.2.2.2.2.2.2.2.2.2.2.2.2.1
theorem dc_X8_step_43 : decode prog_11_method_19_code 43 = .ok (.invokespecial 33, 3) := dw_row (j := 43) dw_h_prog_11_method_19_code_0 rfl dw_b_X8_step_0.2.2.2.2.2.2.2.2.2.2.2.2.2.2.2.1
theorem dc_X8_step_46 : decode prog_11_method_19_code 46 = .ok (.areturn, 1) := dw_row (j := 46) dw_h_prog_11_method_19_code_0 rfl dw_b_X8_step_0.2.2.2.2.2.2.2.2.2.2.2.2.2.2.2.2.1
theorem dc_X8_step_7 : decode prog_11_method_19_code 7 = .ok (.new 10, 3) := dw_row (j := 7) dw_h_prog_11_method_19_code_0 rfl dw_b_X8_step_0.2.2.2.2.2.2.2.2.2.2.2.2.2.2.2.2.2.1
theorem dc_X8_step_10 : decode prog_11_method_19_code 10 = .ok (.dup, 1) := dw_row (j := 10) dw_h_prog_11_method_19_code_0 rfl dw_b_X8_step_0.2.2.2.2.2.2.2.2.2.2.2.2.2.2.2.2.2.2.1
theorem dc_X8_step_11 : decode prog_11_method_19_code 11 = .ok (.iconst 0, 1) := dw_row (j := 11) dw_h_prog_11_method_19_code_0 rfl dw_b_X8_step_0.2.2.2.2.2.2.2.2.2.2.2.2.2.2.2.2.2.2.2.1
theorem dc_X8_step_12 : decode prog_11_method_19_code 12 = .ok (.ldc2_w 31, 3) := dw_row (j := 12) dw_h_prog_11_method_19_code_0 rfl dw_b_X8_step_0.2.2.2.2.2.2.2.2.2.2.2.2.2.2.2.2.2.2.2.2.1
theorem dc_X8_step_15 : decode prog_11_method_19_code 15 = .ok (.invokespecial 33, 3) := dw_row (j := 15) dw_h_prog_11_method_19_code_0 rfl dw_b_X8_step_0.2.2.2.2.2.2.2.2.2.2.2.2.2.2.2.2.2.2.2.2.2.1
theorem dc_X8_step_18 : decode prog_11_method_19_code 18 = .ok (.goto 28, 3) := dw_row (j := 18) dw_h_prog_11_method_19_code_0 rfl dw_b_X8_step_0.2.2.2.2.2.2.2.2.2.2.2.2.2.2.2.2.2.2.2.2.2.2
def dw_C_prog_11_method_21_code_0 : List UInt8 := [42, 180, 0, 15, 9, 148, 153, 0, 10, 42, 182, 0, 45, 153, 0, 7, 42, 167, 0, 28, 187, 0, 10, 89, 42, 180, 0, 9, 42, 182, 0, 39, 42, 182, 0, 36, 133, 31, 97, 184, 0, 84, 183, 0, 33, 176]
theorem dw_h_prog_11_method_21_code_0 : (prog_11_method_21_code.data.toList.drop 0).take 72 = dw_C_prog_11_method_21_code_0 := by decide +kernel
theorem dw_b_X8_times_0 : dw_chk dw_C_prog_11_method_21_code_0 0 0 (.aload_n 0) 1 = true ∧ dw_chk dw_C_prog_11_method_21_code_0 1 1 (.getfield 15) 3 = true ∧ dw_chk dw_C_prog_11_method_21_code_0 4 4 (.lconst 0) 1 = true ∧ dw_chk dw_C_prog_11_method_21_code_0 5 5 (.lcmp) 1 = true ∧ dw_chk dw_C_prog_11_method_21_code_0 6 6 (.ifCond .eq 10) 3 = true ∧ dw_chk dw_C_prog_11_method_21_code_0 16 16 (.aload_n 0) 1 = true ∧ dw_chk dw_C_prog_11_method_21_code_0 17 17 (.goto 28) 3 = true ∧ dw_chk dw_C_prog_11_method_21_code_0 45 45 (.areturn) 1 = true ∧ dw_chk dw_C_prog_11_method_21_code_0 9 9 (.aload_n 0) 1 = true ∧ dw_chk dw_C_prog_11_method_21_code_0 10 10 (.invokevirtual 45) 3 = true ∧ dw_chk dw_C_prog_11_method_21_code_0 13 13 (.ifCond .eq 7) 3 = true ∧ dw_chk dw_C_prog_11_method_21_code_0 20 20 (.new 10) 3 = true ∧ dw_chk dw_C_prog_11_method_21_code_0 23 23 (.dup) 1 = true ∧ dw_chk dw_C_prog_11_method_21_code_0 24 24 (.aload_n 0) 1 = true ∧ dw_chk dw_C_prog_11_method_21_code_0 25 25 (.getfield 9) 3 = true ∧ dw_chk dw_C_prog_11_method_21_code_0 28 28 (.aload_n 0) 1 = true ∧ dw_chk dw_C_prog_11_method_21_code_0 29 29 (.invokevirtual 39) 3 = true ∧ dw_chk dw_C_prog_11_method_21_code_0 32 32 (.aload_n 0) 1 = true ∧ dw_chk dw_C_prog_11_method_21_code_0 33 33 (.invokevirtual 36) 3 = true ∧ dw_chk dw_C_prog_11_method_21_code_0 36 36 (.i2l) 1 = true ∧ dw_chk dw_C_prog_11_method_21_code_0 37 37 (.lload_n 1) 1 = true ∧ dw_chk dw_C_prog_11_method_21_code_0 38 38 (.ladd) 1 = true ∧ dw_chk dw_C_prog_11_method_21_code_0 39 39 (.invokestatic 84) 3 = true ∧ dw_chk dw_C_prog_11_method_21_code_0 42 42 (.invokespecial 33) 3 = true := by decide +kernel
theorem dc_X8_times_0 : decode prog_11_method_21_code 0 = .ok (.aload_n 0, 1) := dw_row (j := 0) dw_h_prog_11_method_21_code_0 rfl dw_b_X8_times_0.1
theorem dc_X8_times_1 : decode prog_11_method_21_code 1 = .ok (.getfield 15, 3) := dw_row (j := 1) dw_h_prog_11_method_21_code_0 rfl dw_b_X8_times_0.2.1
theorem dc_X8_times_4 : decode prog_11_method_21_code 4 = .ok (.lconst 0, 1) := dw_row (j := 4) dw_h_prog_11_method_21_code_0 rfl dw_b_X8_times_0.2.2.1
theorem dc_X8_times_5 : decode prog_11_method_21_code 5 = .ok (.lcmp, 1) := dw_row (j := 5) dw_h_prog_11_method_21_code_0 rfl dw_b_X8_times_0.2.2.2.1
theorem dc_X8_times_6 : decode prog_11_method_21_code 6 = .ok (.ifCond .eq 10, 3) := dw_row (j := 6) dw_h_prog_11_method_21_code_0 rfl dw_b_X8_times_0.2.2.2.2.1
theorem dc_X8_times_16 : decode prog_11_method_21_code 16 = .ok (.aload_n 0, 1) := dw_row (j := 16) dw_h_prog_11_method_21_code_0 rfl dw_b_X8_times_0.2.2.2.2.2.1
theorem dc_X8_times_17 : decode prog_11_method_21_code 17 = .ok (.goto 28, 3) := dw_row (j := 17) dw_h_prog_11_method_21_code_0 rfl dw_b_X8_times_0.2.2.2.2.2.2.1
theorem dc_X8_times_45 : decode prog_11_method_21_code 45 = .ok (.areturn, 1) := dw_row (j := 45) dw_h_prog_11_method_21_code_0 rfl dw_b_X8_times_0.2.2.2.2.2.2.2.1
theorem dc_X8_times_9 : decode prog_11_method_21_code 9 = .ok (.aload_n 0, 1) := dw_row (j := 9) dw_h_prog_11_method_21_code_0 rfl dw_b_X8_times_0.2.2.2.2.2.2.2.2.1
theorem dc_X8_times_10 : decode prog_11_method_21_code 10 = .ok (.invokevirtual 45, 3) := dw_row (j := 10) dw_h_prog_11_method_21_code_0 rfl dw_b_X8_times_0.2.2.2.2.2.2.2.2.2.1
theorem dc_X8_times_13 : decode prog_11_method_21_code 13 = .ok (.ifCond .eq 7, 3) := dw_row (j := 13) dw_h_prog_11_method_21_code_0 rfl dw_b_X8_times_0.2.2.2.2.2.2.2.2.2.2.1
theorem dc_X8_times_20 : decode prog_11_method_21_code 20 = .ok (.new 10, 3) := dw_row (j := 20) dw_h_prog_11_method_21_code_0 rfl dw_b_X8_times_0.2.2.2.2.2.2.2.2.2.2.2.1
theorem dc_X8_times_23 : decode prog_11_method_21_code 23 = .ok (.dup, 1) := dw_row (j := 23) dw_h_prog_11_method_21_code_0 rfl dw_b_X8_times_0.2.2.2.2.2.2.2.2.2.2.2.2.1
theorem dc_X8_times_24 : decode prog_11_method_21_code 24 = .ok (.aload_n 0, 1) := dw_row (j := 24) dw_h_prog_11_method_21_code_0 rfl dw_b_X8_times_0.2.2.2.2.2.2.2.2.2.2.2.2.2.1
theorem dc_X8_times_25 : decode prog_11_method_21_code 25 = .ok (.getfield 9, 3) := dw_row (j := 25) dw_h_prog_11_method_21_code_0 rfl dw_b_X8_times_0.2.2.2.2.2.2.2.2.2.2.2.2.2.2.1
theorem dc_X8_times_28 : decode prog_11_method_21_code 28 = .ok (.aload_n 0, 1) := dw_row (j := 28) dw_h_prog_11_method_21_code_0 rfl dw_b_X8_times_0.2.2.2.2.2.2.2.2.2.2.2.2.2.2.2.1
theorem dc_X8_times_29 : decode prog_11_method_21_code 29 = .ok (.invokevirtual 39, 3) := dw_row (j := 29) dw_h_prog_11_method_21_code_0 rfl dw_b_X8_times_0.2.2.2.2.2.2.2.2.2.2.2.2.2.2.2.2.1
theorem dc_X8_times_32 : decode prog_11_method_21_code 32 = .ok (.aload_n 0, 1) := dw_row (j := 32) dw_h_prog_11_method_21_code_0 rfl dw_b_X8_times_0.2.2.2.2.2.2.2.2.2.2.2.2.2.2.2.2.2.1
theorem dc_X8_times_33 : decode prog_11_method_21_code 33 = .ok (.invokevirtual 36, 3) := dw_row (j := 33) dw_h_prog_11_method_21_code_0 rfl dw_b_X8_times_0.2.2.2.2.2.2.2.2.2.2.2.2.2.2.2.2.2.2.1
theorem dc_X8_times_36 : decode prog_11_method_21_code 36 = .ok (.i2l, 1) := dw_row (j := 36) dw_h_prog_11_method_21_code_0 rfl dw_b_X8_times_0.2.2.2.2.2.2.2.2.2.2.2.2.2.2.2.2.2.2.2.1
theorem dc_X8_times_37 : decode prog_11_method_21_code 37 = .ok (.lload_n 1, 1) := dw_row (j := 37) dw_h_prog_11_method_21_code_0 rfl dw_b_X8_times_0.2.2.2.2.2.2.2.2.2.2.2.2.2.2.2.2.2.2.2.2.1
theorem dc_X8_times_38 : decode prog_11_method_21_code 38 = .ok (.ladd, 1) := dw_row (j := 38) dw_h_prog_11_method_21_code_0 rfl dw_b_X8_times_0.2.2.2.2.2.2.2.2.2.2.2.2.2.2.2.2.2.2.2.2.2.1
theorem dc_X8_times_39 : decode prog_11_method_21_code 39 = .ok (.invokestatic 84, 3) := dw_row (j := 39) dw_h_prog_11_method_21_code_0 rfl dw_b_X8_times_0.2.2.2.2.2.2.2.2.2.2.2.2.2.2.2.2.2.2.2.2.2.2.1
theorem dc_X8_times_42 : decode prog_11_method_21_code 42 = .ok (.invokespecial 33, 3) := dw_row (j := 42) dw_h_prog_11_method_21_code_0 rfl dw_b_X8_times_0.2.2.2.2.2.2.2.2.2.2.2.2.2.2.2.2.2.2.2.2.2.2.2
def dw_C_prog_11_method_22_code_0 : List UInt8 := [42, 180, 0, 15, 9, 148, 154, 0, 7, 42, 167, 0, 19, 187, 0, 10, 89, 42, 180, 0, 9, 10, 9, 184, 0, 84, 183, 0, 33, 176]
theorem dw_h_prog_11_method_22_code_0 : (prog_11_method_22_code.data.toList.drop 0).take 72 = dw_C_prog_11_method_22_code_0 := by decide +kernel
theorem dw_b_X8_sign_0 : dw_chk dw_C_prog_11_method_22_code_0 0 0 (.aload_n 0) 1 = true ∧ dw_chk dw_C_prog_11_method_22_code_0 1 1 (.getfield 15) 3 = true ∧ dw_chk dw_C_prog_11_method_22_code_0 4 4 (.lconst 0) 1 = true ∧ dw_chk dw_C_prog_11_method_22_code_0 5 5 (.lcmp) 1 = true ∧ dw_chk dw_C_prog_11_method_22_code_0 6 6 (.ifCond .ne 7) 3 = true ∧ dw_chk dw_C_prog_11_method_22_code_0 13 13 (.new 10) 3 = true ∧ dw_chk dw_C_prog_11_method_22_code_0 16 16 (.dup) 1 = true ∧ dw_chk dw_C_prog_11_method_22_code_0 17 17 (.aload_n 0) 1 = true ∧ dw_chk dw_C_prog_11_method_22_code_0 18 18 (.getfield 9) 3 = true ∧ dw_chk dw_C_prog_11_method_22_code_0 21 21 (.lconst 1) 1 = true ∧ dw_chk dw_C_prog_11_method_22_code_0 22 22 (.lconst 0) 1 = true ∧ dw_chk dw_C_prog_11_method_22_code_0 23 23 (.invokestatic 84) 3 = true ∧ dw_chk dw_C_prog_11_method_22_code_0 26 26 (.invokespecial 33) 3 = true ∧ dw_chk dw_C_prog_11_method_22_code_0 29 29 (.areturn) 1 = true ∧ dw_chk dw_C_prog_11_method_22_code_0 9 9 (.aload_n 0) 1 = true ∧ dw_chk dw_C_prog_11_method_22_code_0 10 10 (.goto 19) 3 = true := by decide +kernel
theorem dc_X8_sign_0 : decode prog_11_method_22_code 0 = .ok (.aload_n 0, 1) := dw_row (j := 0) dw_h_prog_11_method_22_code_0 rfl dw_b_X8_sign_0.1
theorem dc_X8_sign_1 : decode prog_11_method_22_code 1 = .ok (.getfield 15, 3) := dw_row (j := 1) dw_h_prog_11_method_22_code_0 rfl dw_b_X8_sign_0.2.1
theorem dc_X8_sign_4 : decode prog_11_method_22_code 4 = .ok (.lconst 0, 1) := dw_row (j := 4) dw_h_prog_11_method_22_code_0 rfl dw_b_X8_sign_0.2.2.1
theorem dc_X8_sign_5 : decode prog_11_method_22_code 5 = .ok (.lcmp, 1) := dw_row (j := 5) dw_h_prog_11_method_22_code_0 rfl dw_b_X8_sign_0.2.2.2.1
theorem dc_X8_sign_6 : decode prog_11_method_22_code 6 = .ok (.ifCond .ne 7, 3) := dw_row (j := 6) dw_h_prog_11_method_22_code_0 rfl dw_b_X8_sign_0.2.2.2.2.1
theorem dc_X8_sign_13 : decode prog_11_method_22_code 13 = .ok (.new 10, 3) := dw_row (j := 13) dw_h_prog_11_method_22_code_0 rfl dw_b_X8_sign_0.2.2.2.2.2.1
theorem dc_X8_sign_16 : decode prog_11_method_22_code 16 = .ok (.dup, 1) := dw_row (j := 16) dw_h_prog_11_method_22_code_0 rfl dw_b_X8_sign_0.2.2.2.2.2.2.1
theorem dc_X8_sign_17 : decode prog_11_method_22_code 17 = .ok (.aload_n 0, 1) := dw_row (j := 17) dw_h_prog_11_method_22_code_0 rfl dw_b_X8_sign_0.2.2.2.2.2.2.2.1
theorem dc_X8_sign_18 : decode prog_11_method_22_code 18 = .ok (.getfield 9, 3) := dw_row (j := 18) dw_h_prog_11_method_22_code_0 rfl dw_b_X8_sign_0.2.2.2.2.2.2.2.2.1
theorem dc_X8_sign_21 : decode prog_11_method_22_code 21 = .ok (.lconst 1, 1) := dw_row (j := 21) dw_h_prog_11_method_22_code_0 rfl dw_b_X8_sign_0.2.2.2.2.2.2.2.2.2.1
theorem dc_X8_sign_22 : decode prog_11_method_22_code 22 = .ok (.lconst 0, 1) := dw_row (j := 22) dw_h_prog_11_method_22_code_0 rfl dw_b_X8_sign_0.2.2.2.2.2.2.2.2.2.2.1
theorem dc_X8_sign_23 : decode prog_11_method_22_code 23 = .ok (.invokestatic 84, 3) := dw_row (j := 23) dw_h_prog_11_method_22_code_0 rfl dw_b_X8_sign_0.2.2.2.2.2.2.2.2.2.2.2.1
theorem dc_X8_sign_26 : decode prog_11_method_22_code 26 = .ok (.invokespecial 33, 3) := dw_row (j := 26) dw_h_prog_11_method_22_code_0 rfl dw_b_X8_sign_0.2.2.2.2.2.2.2.2.2.2.2.2.1
theorem dc_X8_sign_29 : decode prog_11_method_22_code 29 = .ok (.areturn, 1) := dw_row (j := 29) dw_h_prog_11_method_22_code_0 rfl dw_b_X8_sign_0.2.2.2.2.2.2.2.2.2.2.2.2.2.1
theorem dc_X8_sign_9 : decode prog_11_method_22_code 9 = .ok (.aload_n 0, 1) := dw_row (j := 9) dw_h_prog_11_method_22_code_0 rfl dw_b_X8_sign_0.2.2.2.2.2.2.2.2.2.2.2.2.2.2.1
theorem dc_X8_sign_10 : decode prog_11_method_22_code 10 = .ok (.goto 19, 3) := dw_row (j := 10) dw_h_prog_11_method_22_code_0 rfl dw_b_X8_sign_0.2.2.2.2.2.2.2.2.2.2.2.2.2.2.2
def dw_C_prog_11_method_16_code_0 : List UInt8 := [42, 182, 0, 45, 154, 0, 10, 42, 182, 0, 36, 155, 0, 5, 42, 176, 42, 182, 0, 49, 61, 27, 5, 160, 0, 34, 28, 6, 159, 0, 21, 28, 5, 160, 0, 20, 42, 182, 0, 42, 20, 0, 74, 113, 10, 148, 154, 0, 7, 4, 167, 0, 41, 3, 167, 0, 37, 28, 158, 0, 32, 27, 4, 160, 0, 7, 4, 167, 0, 4, 3, 42]
theorem dw_h_prog_11_method_16_code_0 : (prog_11_method_16_code.data.toList.drop 0).take 72 = dw_C_prog_11_method_16_code_0 := by decide +kernel
theorem dw_b_X8_taken_0 : dw_chk dw_C_prog_11_method_16_code_0 0 0 (.aload_n 0) 1 = true ∧ dw_chk dw_C_prog_11_method_16_code_0 1 1 (.invokevirtual 45) 3 = true ∧ dw_chk dw_C_prog_11_method_16_code_0 4 4 (.ifCond .ne 10) 3 = true ∧ dw_chk dw_C_prog_11_method_16_code_0 14 14 (.aload_n 0) 1 = true ∧ dw_chk dw_C_prog_11_method_16_code_0 15 15 (.areturn) 1 = true ∧ dw_chk dw_C_prog_11_method_16_code_0 7 7 (.aload_n 0) 1 = true ∧ dw_chk dw_C_prog_11_method_16_code_0 8 8 (.invokevirtual 36) 3 = true ∧ dw_chk dw_C_prog_11_method_16_code_0 11 11 (.ifCond .lt 5) 3 = true ∧ dw_chk dw_C_prog_11_method_16_code_0 16 16 (.aload_n 0) 1 = true ∧ dw_chk dw_C_prog_11_method_16_code_0 17 17 (.invokevirtual 49) 3 = true ∧ dw_chk dw_C_prog_11_method_16_code_0 20 20 (.istore_n 2) 1 = true ∧ dw_chk dw_C_prog_11_method_16_code_0 21 21 (.iload_n 1) 1 = true ∧ dw_chk dw_C_prog_11_method_16_code_0 22 22 (.iconst 2) 1 = true ∧ dw_chk dw_C_prog_11_method_16_code_0 23 23 (.if_icmp .ne 34) 3 = true ∧ dw_chk dw_C_prog_11_method_16_code_0 57 57 (.iload_n 2) 1 = true ∧ dw_chk dw_C_prog_11_method_16_code_0 58 58 (.ifCond .le 32) 3 = true ∧ dw_chk dw_C_prog_11_method_16_code_0 61 61 (.iload_n 1) 1 = true ∧ dw_chk dw_C_prog_11_method_16_code_0 62 62 (.iconst 1) 1 = true ∧ dw_chk dw_C_prog_11_method_16_code_0 63 63 (.if_icmp .ne 7) 3 = true ∧ dw_chk dw_C_prog_11_method_16_code_0 26 26 (.iload_n 2) 1 = true ∧ dw_chk dw_C_prog_11_method_16_code_0 27 27 (.iconst 3) 1 = true ∧ dw_chk dw_C_prog_11_method_16_code_0 28 28 (.if_icmp .eq 21) 3 = true ∧ dw_chk dw_C_prog_11_method_16_code_0 49 49 (.iconst 1) 1 = true ∧ dw_chk dw_C_prog_11_method_16_code_0 50 50 (.goto 41) 3 = true ∧ dw_chk dw_C_prog_11_method_16_code_0 31 31 (.iload_n 2) 1 = true ∧ dw_chk dw_C_prog_11_method_16_code_0 32 32 (.iconst 2) 1 = true ∧ dw_chk dw_C_prog_11_method_16_code_0 33 33 (.if_icmp .ne 20) 3 = true ∧ dw_chk dw_C_prog_11_method_16_code_0 53 53 (.iconst 0) 1 = true ∧ dw_chk dw_C_prog_11_method_16_code_0 54 54 (.goto 37) 3 = true ∧ dw_chk dw_C_prog_11_method_16_code_0 36 36 (.aload_n 0) 1 = true ∧ dw_chk dw_C_prog_11_method_16_code_0 37 37 (.invokevirtual 42) 3 = true ∧ dw_chk dw_C_prog_11_method_16_code_0 40 40 (.ldc2_w 74) 3 = true ∧ dw_chk dw_C_prog_11_method_16_code_0 43 43 (.lrem) 1 = true ∧ dw_chk dw_C_prog_11_method_16_code_0 44 44 (.lconst 1) 1 = true ∧ dw_chk dw_C_prog_11_method_16_code_0 45 45 (.lcmp) 1 = true ∧ dw_chk dw_C_prog_11_method_16_code_0 46 46 (.ifCond .ne 7) 3 = true := by decide +kernel
theorem dc_X8_taken_0 : decode prog_11_method_16_code 0 = .ok (.aload_n 0, 1) := dw_row (j := 0) dw_h_prog_11_method_16_code_0 rfl dw_b_X8_taken_0.1
theorem dc_X8_taken_1 : decode prog_11_method_16_code 1 = .ok (.invokevirtual 45, 3) := dw_row (j := 1) dw_h_prog_11_method_16_code_0 rfl dw_b_X8_taken_0.2.1
theorem dc_X8_taken_4 : decode prog_11_method_16_code 4 = .ok (.ifCond .ne 10, 3) := dw_row (j := 4) dw_h_prog_11_method_16_code_0 rfl dw_b_X8_taken_0.2.2.1
theorem dc_X8_taken_14 : decode prog_11_method_16_code 14 = .ok (.aload_n 0, 1) := dw_row (j := 14) dw_h_prog_11_method_16_code_0 rfl dw_b_X8_taken_0.2.2.2.1
theorem dc_X8_taken_15 : decode prog_11_method_16_code 15 = .ok (.areturn, 1) := dw_row (j := 15) dw_h_prog_11_method_16_code_0 rfl dw_b_X8_taken_0.2.2.2.2.1
theorem dc_X8_taken_7 : decode prog_11_method_16_code 7 = .ok (.aload_n 0, 1) := dw_row (j := 7) dw_h_prog_11_method_16_code_0 rfl dw_b_X8_taken_0.2.2.2.2.2.1
theorem dc_X8_taken_8 : decode prog_11_method_16_code 8 = .ok (.invokevirtual 36, 3) := dw_row (j := 8) dw_h_prog_11_method_16_code_0 rfl dw_b_X8_taken_0.2.2.2.2.2.2.1
theorem dc_X8_taken_11 : decode prog_11_method_16_code 11 = .ok (.ifCond .lt 5, 3) := dw_row (j := 11) dw_h_prog_11_method_16_code_0 rfl dw_b_X8_taken_0.2.2.2.2.2.2.2.1
theorem dc_X8_taken_16 : decode prog_11_method_16_code 16 = .ok (.aload_n 0, 1) := dw_row (j := 16) dw_h_prog_11_method_16_code_0 rfl dw_b_X8_taken_0.2.2.2.2.2.2.2.2.1
theorem dc_X8_taken_17 : decode prog_11_method_16_code 17 = .ok (.invokevirtual 49, 3) := dw_row (j := 17) dw_h_prog_11_method_16_code_0 rfl dw_b_X8_taken_0.2.2.2.2.2.2.2.2.2.1
theorem dc_X8_taken_20 : decode prog_11_method_16_code 20 = .ok (.istore_n 2, 1) := dw_row (j := 20) dw_h_prog_11_method_16_code_0 rfl dw_b_X8_taken_0.2.2.2.2.2.2.2.2.2.2.1
theorem dc_X8_taken_21 : decode prog_11_method_16_code 21 = .ok (.iload_n 1, 1) := dw_row (j := 21) dw_h_prog_11_method_16_code_0 rfl dw_b_X8_taken_0.2.2.2.2.2.2.2.2.2.2.2.1
theorem dc_X8_taken_22 : decode prog_11_method_16_code 22 = .ok (.iconst 2, 1) := dw_row (j := 22) dw_h_prog_11_method_16_code_0 rfl dw_b_X8_taken_0.2.2.2.2.2.2.2.2.2.2.2.2.1
theorem dc_X8_taken_23 : decode prog_11_method_16_code 23 = .ok (.if_icmp .ne 34, 3) := dw_row (j := 23) dw_h_prog_11_method_16_code_0 rfl dw_b_X8_taken_0.2.2.2.2.2.2.2.2.2.2.2.2.2.1
theorem dc_X8_taken_57 : decode prog_11_method_16_code 57 = .ok (.iload_n 2, 1) := dw_row (j := 57) dw_h_prog_11_method_16_code_0 rfl dw_b_X8_taken_0.2.2.2.2.2.2.2.2.2.2.2.2.2.2.1
theorem dc_X8_taken_58 : decode prog_11_method_16_code 58 = .ok (.ifCond .le 32, 3) := dw_row (j := 58) dw_h_prog_11_method_16_code_0 rfl dw_b_X8_taken_0.2.2.2.2.2.2.2.2.2.2.2.2.2.2.2.1
theorem dc_X8_taken_61 : decode prog_11_method_16_code 61 = .ok (.iload_n 1, 1) := dw_row (j := 61) dw_h_prog_11_method_16_code_0 rfl dw_b_X8_taken_0.2.2.2.2.2.2.2.2.2.2.2.2.2.2.2.2.1
theorem dc_X8_taken_62 : decode prog_11_method_16_code 62 = .ok (.iconst 1, 1) := dw_row (j := 62) dw_h_prog_11_method_16_code_0 rfl dw_b_X8_taken_0.2.2.2.2.2.2.2.2.2.2.2.2.2.2.2.2.2.1
theorem dc_X8_taken_63 : decode prog_11_method_16_code 63 = .ok (.if_icmp .ne 7, 3) := dw_row (j := 63) dw_h_prog_11_method_16_code_0 rfl dw_b_X8_taken_0.2.2.2.2.2.2.2.2.2.2.2.2.2.2.2.2.2.2.1
theorem dc_X8_taken_26 : decode prog_11_method_16_code 26 = .ok (.iload_n 2, 1) := dw_row (j := 26) dw_h_prog_11_method_16_code_0 rfl dw_b_X8_taken_0.2.2.2.2.2.2.2.2.2.2.2.2.2.2.2.2.2.2.2.1
theorem dc_X8_taken_27 : decode prog_11_method_16_code 27 = .ok (.iconst 3, 1) := dw_row (j := 27) dw_h_prog_11_method_16_code_0 rfl dw_b_X8_taken_0.2.2.2.2.2.2.2.2.2.2.2.2.2.2.2.2.2.2.2.2.1
theorem dc_X8_taken_28 : decode prog_11_method_16_code 28 = .ok (.if_icmp .eq 21, 3) := dw_row (j := 28) dw_h_prog_11_method_16_code_0 rfl dw_b_X8_taken_0.2.2.2.2.2.2.2.2.2.2.2.2.2.2.2.2.2.2.2.2.2.1
theorem dc_X8_taken_49 : decode prog_11_method_16_code 49 = .ok (.iconst 1, 1) := dw_row (j := 49) dw_h_prog_11_method_16_code_0 rfl dw_b_X8_taken_0.2.2.2.2.2.2.2.2.2.2.2.2.2.2.2.2.2.2.2.2.2.2.1
theorem dc_X8_taken_50 : decode prog_11_method_16_code 50 = .ok (.goto 41, 3) := dw_row (j := 50) dw_h_prog_11_method_16_code_0 rfl dw_b_X8_taken_0.2.2.2.2.2.2.2.2.2.2.2.2.2.2.2.2.2.2.2.2.2.2.2.1
theorem dc_X8_taken_31 : decode prog_11_method_16_code 31 = .ok (.iload_n 2, 1) := dw_row (j := 31) dw_h_prog_11_method_16_code_0 rfl dw_b_X8_taken_0.2.2.2.2.2.2.2.2.2.2.2.2.2.2.2.2.2.2.2.2.2.2.2.2.1
theorem dc_X8_taken_32 : decode prog_11_method_16_code 32 = .ok (.iconst 2, 1) := dw_row (j := 32) dw_h_prog_11_method_16_code_0 rfl dw_b_X8_taken_0.2.2.2.2.2.2.2.2.2.2.2.2.2.2.2.2.2.2.2.2.2.2.2.2.2.1
theorem dc_X8_taken_33 : decode prog_11_method_16_code 33 = .ok (.if_icmp .ne 20, 3) := dw_row (j := 33) dw_h_prog_11_method_16_code_0 rfl dw_b_X8_taken_0.2.2.2.2.2.2.2.2.2.2.2.2.2.2.2.2.2.2.2.2.2.2.2.2.2.2.1
theorem dc_X8_taken_53 : decode prog_11_method_16_code 53 = .ok (.iconst 0, 1) := dw_row (j := 53) dw_h_prog_11_method_16_code_0 rfl dw_b_X8_taken_0.2.2.2.2.2.2.2.2.2.2.2.2.2.2.2.2.2.2.2.2.2.2.2.2.2.2.2.1
theorem dc_X8_taken_54 : decode prog_11_method_16_code 54 = .ok (.goto 37, 3) := dw_row (j := 54) dw_h_prog_11_method_16_code_0 rfl dw_b_X8_taken_0.2.2.2.2.2.2.2.2.2.2.2.2.2.2.2.2.2.2.2.2.2.2.2.2.2.2.2.2.1
theorem dc_X8_taken_36 : decode prog_11_method_16_code 36 = .ok (.aload_n 0, 1) := dw_row (j := 36) dw_h_prog_11_method_16_code_0 rfl dw_b_X8_taken_0.2.2.2.2.2.2.2.2.2.2.2.2.2.2.2.2.2.2.2.2.2.2.2.2.2.2.2.2.2.1
theorem dc_X8_taken_37 : decode prog_11_method_16_code 37 = .ok (.invokevirtual 42, 3) := dw_row (j := 37) dw_h_prog_11_method_16_code_0 rfl dw_b_X8_taken_0.2.2.2.2.2.2.2.2.2.2.2.2.2.2.2.2.2.2.2.2.2.2.2.2.2.2.2.2.2.2.1
theorem dc_X8_taken_40 : decode prog_11_method_16_code 40 = .ok (.ldc2_w 74, 3) := dw_row (j := 40) dw_h_prog_11_method_16_code_0 rfl dw_b_X8_taken_0.2.2.2.2.2.2.2.2.2.2.2.2.2.2.2.2.2.2.2.2.2.2.2.2.2.2.2.2.2.2.2.1
theorem dc_X8_taken_43 : decode prog_11_method_16_code 43 = .ok (.lrem, 1) := dw_row (j := 43) dw_h_prog_11_method_16_code_0 rfl dw_b_X8_taken_0.2.2.2.2.2.2.2.2.2.2.2.2.2.2.2.2.2.2.2.2.2.2.2.2.2.2.2.2.2.2.2.2.1
theorem dc_X8_taken_44 : decode prog_11_method_16_code 44 = .ok (.lconst 1, 1) := dw_row (j := 44) dw_h_prog_11_method_16_code_0 rfl dw_b_X8_taken_0.2.2.2.2.2.2.2.2.2.2.2.2.2.2.2.2.2.2.2.2.2.2.2.2.2.2.2.2.2.2.2.2.2.1
theorem dc_X8_taken_45 : decode prog_11_method_16_code 45 = .ok (.lcmp, 1) := dw_row (j := 45) dw_h_prog_11_method_16_code_0 rfl dw_b_X8_taken_0.2.2.2.2.2.2.2.2.2.2.2.2.2.2.2.2.2.2.2.2.2.2.2.2.2.2.2.2.2.2.2.2.2.2.1
theorem dc_X8_taken_46 : decode prog_11_method_16_code 46 = .ok (.ifCond .ne 7, 3) := dw_row (j := 46) dw_h_prog_11_method_16_code_0 rfl dw_b_X8_taken_0.2.2.2.2.2.2.2.2.2.2.2.2.2.2.2.2.2.2.2.2.2.2.2.2.2.2.2.2.2.2.2.2.2.2.2
def dw_C_prog_11_method_16_code_1 : List UInt8 := [0, 7, 4, 167, 0, 4, 3, 42, 180, 0, 9, 154, 0, 7, 4, 167, 0, 4, 3, 160, 0, 7, 4, 167, 0, 4, 3, 62, 187, 0, 10, 89, 42, 180, 0, 9, 42, 182, 0, 42, 29, 153, 0, 7, 4, 167, 0, 4, 3, 133, 97, 9, 184, 0, 84, 183, 0, 33, 176]
theorem dw_h_prog_11_method_16_code_1 : (prog_11_method_16_code.data.toList.drop 64).take 72 = dw_C_prog_11_method_16_code_1 := by decide +kernel
theorem dw_b_X8_taken_90 : dw_chk dw_C_prog_11_method_16_code_1 90 26 (.iconst 0) 1 = true ∧ dw_chk dw_C_prog_11_method_16_code_1 91 27 (.istore_n 3) 1 = true ∧ dw_chk dw_C_prog_11_method_16_code_1 92 28 (.new 10) 3 = true ∧ dw_chk dw_C_prog_11_method_16_code_1 95 31 (.dup) 1 = true ∧ dw_chk dw_C_prog_11_method_16_code_1 96 32 (.aload_n 0) 1 = true ∧ dw_chk dw_C_prog_11_method_16_code_1 97 33 (.getfield 9) 3 = true ∧ dw_chk dw_C_prog_11_method_16_code_1 100 36 (.aload_n 0) 1 = true ∧ dw_chk dw_C_prog_11_method_16_code_1 101 37 (.invokevirtual 42) 3 = true ∧ dw_chk dw_C_prog_11_method_16_code_1 104 40 (.iload_n 3) 1 = true ∧ dw_chk dw_C_prog_11_method_16_code_1 105 41 (.ifCond .eq 7) 3 = true ∧ dw_chk dw_C_prog_11_method_16_code_1 112 48 (.iconst 0) 1 = true ∧ dw_chk dw_C_prog_11_method_16_code_1 113 49 (.i2l) 1 = true ∧ dw_chk dw_C_prog_11_method_16_code_1 114 50 (.ladd) 1 = true ∧ dw_chk dw_C_prog_11_method_16_code_1 115 51 (.lconst 0) 1 = true ∧ dw_chk dw_C_prog_11_method_16_code_1 116 52 (.invokestatic 84) 3 = true ∧ dw_chk dw_C_prog_11_method_16_code_1 119 55 (.invokespecial 33) 3 = true ∧ dw_chk dw_C_prog_11_method_16_code_1 122 58 (.areturn) 1 = true ∧ dw_chk dw_C_prog_11_method_16_code_1 70 6 (.iconst 0) 1 = true ∧ dw_chk dw_C_prog_11_method_16_code_1 71 7 (.aload_n 0) 1 = true ∧ dw_chk dw_C_prog_11_method_16_code_1 72 8 (.getfield 9) 3 = true ∧ dw_chk dw_C_prog_11_method_16_code_1 75 11 (.ifCond .ne 7) 3 = true ∧ dw_chk dw_C_prog_11_method_16_code_1 82 18 (.iconst 0) 1 = true ∧ dw_chk dw_C_prog_11_method_16_code_1 83 19 (.if_icmp .ne 7) 3 = true ∧ dw_chk dw_C_prog_11_method_16_code_1 86 22 (.iconst 1) 1 = true ∧ dw_chk dw_C_prog_11_method_16_code_1 87 23 (.goto 4) 3 = true ∧ dw_chk dw_C_prog_11_method_16_code_1 108 44 (.iconst 1) 1 = true ∧ dw_chk dw_C_prog_11_method_16_code_1 109 45 (.goto 4) 3 = true ∧ dw_chk dw_C_prog_11_method_16_code_1 78 14 (.iconst 1) 1 = true ∧ dw_chk dw_C_prog_11_method_16_code_1 79 15 (.goto 4) 3 = true ∧ dw_chk dw_C_prog_11_method_16_code_1 66 2 (.iconst 1) 1 = true ∧ dw_chk dw_C_prog_11_method_16_code_1 67 3 (.goto 4) 3 = true := by decide +kernel
theorem dc_X8_taken_90 : decode prog_11_method_16_code 90 = .ok (.iconst 0, 1) := dw_row (j := 26) dw_h_prog_11_method_16_code_1 rfl dw_b_X8_taken_90.1
theorem dc_X8_taken_91 : decode prog_11_method_16_code 91 = .ok (.istore_n 3, 1) := dw_row (j := 27) dw_h_prog_11_method_16_code_1 rfl dw_b_X8_taken_90.2.1
theorem dc_X8_taken_92 : decode prog_11_method_16_code 92 = .ok (.new 10, 3) := dw_row (j := 28) dw_h_prog_11_method_16_code_1 rfl dw_b_X8_taken_90.2.2.1
theorem dc_X8_taken_95 : decode prog_11_method_16_code 95 = .ok (.dup, 1) := dw_row (j := 31) dw_h_prog_11_method_16_code_1 rfl dw_b_X8_taken_90.2.2.2.1
theorem dc_X8_taken_96 : decode prog_11_method_16_code 96 = .ok (.aload_n 0, 1) := dw_row (j := 32) dw_h_prog_11_method_16_code_1 rfl dw_b_X8_taken_90.2.2.2.2.1
theorem dc_X8_taken_97 : decode prog_11_method_16_code 97 = .ok (.getfield 9, 3) := dw_row (j := 33) dw_h_prog_11_method_16_code_1 rfl dw_b_X8_taken_90.2.2.2.2.2.1
theorem dc_X8_taken_100 : decode prog_11_method_16_code 100 = .ok (.aload_n 0, 1) := dw_row (j := 36) dw_h_prog_11_method_16_code_1 rfl dw_b_X8_taken_90.2.2.2.2.2.2.1
theorem dc_X8_taken_101 : decode prog_11_method_16_code 101 = .ok (.invokevirtual 42, 3) := dw_row (j := 37) dw_h_prog_11_method_16_code_1 rfl dw_b_X8_taken_90.2.2.2.2.2.2.2.1
theorem dc_X8_taken_104 : decode prog_11_method_16_code 104 = .ok (.iload_n 3, 1) := dw_row (j := 40) dw_h_prog_11_method_16_code_1 rfl dw_b_X8_taken_90.2.2.2.2.2.2.2.2.1
theorem dc_X8_taken_105 : decode prog_11_method_16_code 105 = .ok (.ifCond .eq 7, 3) := dw_row (j := 41) dw_h_prog_11_method_16_code_1 rfl dw_b_X8_taken_90.2.2.2.2.2.2.2.2.2.1
theorem dc_X8_taken_112 : decode prog_11_method_16_code 112 = .ok (.iconst 0, 1) := dw_row (j := 48) dw_h_prog_11_method_16_code_1 rfl dw_b_X8_taken_90.2.2.2.2.2.2.2.2.2.2.1
theorem dc_X8_taken_113 : decode prog_11_method_16_code 113 = .ok (.i2l, 1) := dw_row (j := 49) dw_h_prog_11_method_16_code_1 rfl dw_b_X8_taken_90.2.2.2.2.2.2.2.2.2.2.2.1
theorem dc_X8_taken_114 : decode prog_11_method_16_code 114 = .ok (.ladd, 1) := dw_row (j := 50) dw_h_prog_11_method_16_code_1 rfl dw_b_X8_taken_90.2.2.2.2.2.2.2.2.2.2.2.2.1
theorem dc_X8_taken_115 : decode prog_11_method_16_code 115 = .ok (.lconst 0, 1) := dw_row (j := 51) dw_h_prog_11_method_16_code_1 rfl dw_b_X8_taken_90.2.2.2.2.2.2.2.2.2.2.2.2.2.1
theorem dc_X8_taken_116 : decode prog_11_method_16_code 116 = .ok (.invokestatic 84, 3) := dw_row (j := 52) dw_h_prog_11_method_16_code_1 rfl dw_b_X8_taken_90.2.2.2.2.2.2.2.2.2.2.2.2.2.2.1
theorem dc_X8_taken_119 : decode prog_11_method_16_code 119 = .ok (.invokespecial 33, 3) := dw_row (j := 55) dw_h_prog_11_method_16_code_1 rfl dw_b_X8_taken_90.2.2.2.2.2.2.2.2.2.2.2.2.2.2.2.1
theorem dc_X8_taken_122 : decode prog_11_method_16_code 122 = .ok (.areturn, 1) := dw_row (j := 58) dw_h_prog_11_method_16_code_1 rfl dw_b_X8_taken_90.2.2.2.2.2.2.2.2.2.2.2.2.2.2.2.2.1
theorem dc_X8_taken_70 : decode prog_11_method_16_code 70 = .ok (.iconst 0, 1) := dw_row (j := 6) dw_h_prog_11_method_16_code_1 rfl dw_b_X8_taken_90.2.2.2.2.2.2.2.2.2.2.2.2.2.2.2.2.2.1
theorem dc_X8_taken_71 : decode prog_11_method_16_code 71 = .ok (.aload_n 0, 1) := dw_row (j := 7) dw_h_prog_11_method_16_code_1 rfl dw_b_X8_taken_90.2.2.2.2.2.2.2.2.2.2.2.2.2.2.2.2.2.2.1
theorem dc_X8_taken_72 : decode prog_11_method_16_code 72 = .ok (.getfield 9, 3) := dw_row (j := 8) dw_h_prog_11_method_16_code_1 rfl dw_b_X8_taken_90.2.2.2.2.2.2.2.2.2.2.2.2.2.2.2.2.2.2.2.1
theorem dc_X8_taken_75 : decode prog_11_method_16_code 75 = .ok (.ifCond .ne 7, 3) := dw_row (j := 11) dw_h_prog_11_method_16_code_1 rfl dw_b_X8_taken_90.2.2.2.2.2.2.2.2.2.2.2.2.2.2.2.2.2.2.2.2.1
theorem dc_X8_taken_82 : decode prog_11_method_16_code 82 = .ok (.iconst 0, 1) := dw_row (j := 18) dw_h_prog_11_method_16_code_1 rfl dw_b_X8_taken_90.2.2.2.2.2.2.2.2.2.2.2.2.2.2.2.2.2.2.2.2.2.1
theorem dc_X8_taken_83 : decode prog_11_method_16_code 83 = .ok (.if_icmp .ne 7, 3) := dw_row (j := 19) dw_h_prog_11_method_16_code_1 rfl dw_b_X8_taken_90.2.2.2.2.2.2.2.2.2.2.2.2.2.2.2.2.2.2.2.2.2.2.1
theorem dc_X8_taken_86 : decode prog_11_method_16_code 86 = .ok (.iconst 1, 1) := dw_row (j := 22) dw_h_prog_11_method_16_code_1 rfl dw_b_X8_taken_90.2.2.2.2.2.2.2.2.2.2.2.2.2.2.2.2.2.2.2.2.2.2.2.1
theorem dc_X8_taken_87 : decode prog_11_method_16_code 87 = .ok (.goto 4, 3) := dw_row (j := 23) dw_h_prog_11_method_16_code_1 rfl dw_b_X8_taken_90.2.2.2.2.2.2.2.2.2.2.2.2.2.2.2.2.2.2.2.2.2.2.2.2.1
theorem dc_X8_taken_108 : decode prog_11_method_16_code 108 = .ok (.iconst 1, 1) := dw_row (j := 44) dw_h_prog_11_method_16_code_1 rfl dw_b_X8_taken_90.2.2.2.2.2.2.2.2.2.2.2.2.2.2.2.2.2.2.2.2.2.2.2.2.2.1
theorem dc_X8_taken_109 : decode prog_11_method_16_code 109 = .ok (.goto 4, 3) := dw_row (j := 45) dw_h_prog_11_method_16_code_1 rfl dw_b_X8_taken_90.2.2.2.2.2.2.2.2.2.2.2.2.2.2.2.2.2.2.2.2.2.2.2.2.2.2.1
theorem dc_X8_taken_78 : decode prog_11_method_16_code 78 = .ok (.iconst 1, 1) := dw_row (j := 14) dw_h_prog_11_method_16_code_1 rfl dw_b_X8_taken_90.2.2.2.2.2.2.2.2.2.2.2.2.2.2.2.2.2.2.2.2.2.2.2.2.2.2.2.1
theorem dc_X8_taken_79 : decode prog_11_method_16_code 79 = .ok (.goto 4, 3) := dw_row (j := 15) dw_h_prog_11_method_16_code_1 rfl dw_b_X8_taken_90.2.2.2.2.2.2.2.2.2.2.2.2.2.2.2.2.2.2.2.2.2.2.2.2.2.2.2.2.1
theorem dc_X8_taken_66 : decode prog_11_method_16_code 66 = .ok (.iconst 1, 1) := dw_row (j := 2) dw_h_prog_11_method_16_code_1 rfl dw_b_X8_taken_90.2.2.2.2.2.2.2.2.2.2.2.2.2.2.2.2.2.2.2.2.2.2.2.2.2.2.2.2.2.1
theorem dc_X8_taken_67 : decode prog_11_method_16_code 67 = .ok (.goto 4, 3) := dw_row (j := 3) dw_h_prog_11_method_16_code_1 rfl dw_b_X8_taken_90.2.2.2.2.2.2.2.2.2.2.2.2.2.2.2.2.2.2.2.2.2.2.2.2.2.2.2.2.2.2
end
