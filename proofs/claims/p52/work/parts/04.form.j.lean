section
def fn_X0_sizeIn (a0 : Int64) : Int64 :=
  (a0) &&& ((9223372036854775807 : Int64))
set_option linter.constructorNameAsVariable false in
set_option maxHeartbeats 4000000 in
set_option maxRecDepth 100000 in
theorem mt_X0_sizeIn (l : Launch) (a0 : Int64) : Met l my_X0_sizeIn (.code my_X0_sizeIn prog_2_method_5_code 2 (some .long) :: ky_B) { frames := 0, cells := 0, slots := 0, locals := 0 } (ky_P0 [.long (a0)]) (ky_Q0 (some (.long (fn_X0_sizeIn a0)))) 0 0 (fun _ => False) := by
  refine ky_start0 (by decide) (Nat.le_of_ble_eq_true rfl) (fun p e s m below meth c F ls hl => ?_)
  obtain ⟨hx, hb, hml, hown, hr, hlocks, hts⟩ := id F
  have hl : lv_has ls 2 [(0, .long (a0))] := hl
  have hw : fn_X0_sizeIn a0 = _ := fn_X0_sizeIn.eq_1 a0
  refine lv_lload_n hx hb dc_X0_sizeIn_0 rfl (lv_at hl 0 rfl) ?_
  refine lv_ldc2 (v := 9223372036854775807) hx hb hown (hts _ kw_1_138) dc_X0_sizeIn_1 ?_
  refine lv_land hx hb dc_X0_sizeIn_4 ?_
  exact W.lret hx hb hr (fun t ht hW => ⟨congrArg (fun z => Outcome.returned (some (Value.long z))) hw.symm, ht⟩) ky_nil dc_X0_sizeIn_5
def fn_X0_withSide (a0 : Int64) (a1 : Int32) : Int64 :=
  if (a1) = (0 : Int32) then (a0) else ((a0) ||| ((-9223372036854775808 : Int64)))
set_option linter.constructorNameAsVariable false in
set_option maxHeartbeats 4000000 in
set_option maxRecDepth 100000 in
theorem mt_X0_withSide (l : Launch) (a0 : Int64) (a1 : Int32) : Met l my_X0_withSide (.code my_X0_withSide prog_2_method_2_code 3 (some .long) :: ky_B) { frames := 0, cells := 0, slots := 0, locals := 0 } (ky_P0 [.long (a0), .int (a1)]) (ky_Q0 (some (.long (fn_X0_withSide a0 a1)))) 0 0 (fun _ => False) := by
  refine ky_start0 (by decide) (Nat.le_of_ble_eq_true rfl) (fun p e s m below meth c F ls hl => ?_)
  obtain ⟨hx, hb, hml, hown, hr, hlocks, hts⟩ := id F
  have hl : lv_has ls 3 [(0, .long (a0)), (2, .int (a1))] := hl
  have hw : fn_X0_withSide a0 a1 = _ := fn_X0_withSide.eq_1 a0 a1
  refine lv_iload_n hx hb dc_X0_withSide_0 rfl (lv_at hl 1 rfl) ?_
  refine lv_if_eq (tgt := 12) hx hb dc_X0_withSide_1 (by decide) (fun c_0 => ?_) (fun c_0 => ?_)
  · have hw := hw.trans (if_pos c_0)
    refine lv_lload_n hx hb dc_X0_withSide_12 rfl (lv_at hl 0 rfl) ?_
    exact W.lret hx hb hr (fun t ht hW => ⟨congrArg (fun z => Outcome.returned (some (Value.long z))) hw.symm, ht⟩) ky_nil dc_X0_withSide_13
  · have hw := hw.trans (if_neg c_0)
    refine lv_lload_n hx hb dc_X0_withSide_4 rfl (lv_at hl 0 rfl) ?_
    refine lv_ldc2 (v := (-9223372036854775808)) hx hb hown (hts _ kw_3_123) dc_X0_withSide_5 ?_
    refine lv_lor hx hb dc_X0_withSide_8 ?_
    refine lv_goto (tgt := 13) hx hb dc_X0_withSide_9 (by decide) ?_
    exact W.lret hx hb hr (fun t ht hW => ⟨congrArg (fun z => Outcome.returned (some (Value.long z))) hw.symm, ht⟩) ky_nil dc_X0_withSide_13
def fn_X0_joined (a0 : Int64) (a1 : Int64) : Int64 :=
  (fn_X0_sizeIn (a0)) ||| ((a1) &&& ((-9223372036854775808 : Int64)))
set_option linter.constructorNameAsVariable false in
set_option maxHeartbeats 4000000 in
set_option maxRecDepth 100000 in
theorem mt_X0_joined (l : Launch) (a0 : Int64) (a1 : Int64) : Met l my_X0_joined (.code my_X0_joined prog_2_method_3_code 4 (some .long) :: ky_B) { frames := 1, cells := 0, slots := 0, locals := 21 } (ky_P0 [.long (a0), .long (a1)]) (ky_Q0 (some (.long (fn_X0_joined a0 a1)))) 0 0 (fun _ => False) := by
  refine ky_start0 (by decide) (Nat.le_of_ble_eq_true rfl) (fun p e s m below meth c F ls hl => ?_)
  obtain ⟨hx, hb, hml, hown, hr, hlocks, hts⟩ := id F
  have hl : lv_has ls 4 [(0, .long (a0)), (2, .long (a1))] := hl
  have hw : fn_X0_joined a0 a1 = _ := fn_X0_joined.eq_1 a0 a1
  refine lv_lload_n hx hb dc_X0_joined_0 rfl (lv_at hl 0 rfl) ?_
  refine ky_cS0 (As := [.long (a0)]) F (mt_X0_sizeIn l (a0)) ks_X0_11 ⟨⟨rfl, rfl⟩, by decide, by decide⟩ rfl hl.1 rfl (Nat.le_of_ble_eq_true rfl) ⟨Nat.zero_le _, Nat.zero_le _⟩ dc_X0_joined_1 ?_
  refine lv_lload_n hx hb dc_X0_joined_4 rfl (lv_at hl 1 rfl) ?_
  refine lv_ldc2 (v := (-9223372036854775808)) hx hb hown (hts _ kw_3_123) dc_X0_joined_5 ?_
  refine lv_land hx hb dc_X0_joined_8 ?_
  refine lv_lor hx hb dc_X0_joined_9 ?_
  exact W.lret hx hb hr (fun t ht hW => ⟨congrArg (fun z => Outcome.returned (some (Value.long z))) hw.symm, ht⟩) ky_nil dc_X0_joined_10
def fn_X0_turned (a0 : Int64) : Int64 :=
  (a0) ^^^ ((-9223372036854775808 : Int64))
set_option linter.constructorNameAsVariable false in
set_option maxHeartbeats 4000000 in
set_option maxRecDepth 100000 in
theorem mt_X0_turned (l : Launch) (a0 : Int64) : Met l my_X0_turned (.code my_X0_turned prog_2_method_4_code 2 (some .long) :: ky_B) { frames := 0, cells := 0, slots := 0, locals := 0 } (ky_P0 [.long (a0)]) (ky_Q0 (some (.long (fn_X0_turned a0)))) 0 0 (fun _ => False) := by
  refine ky_start0 (by decide) (Nat.le_of_ble_eq_true rfl) (fun p e s m below meth c F ls hl => ?_)
  obtain ⟨hx, hb, hml, hown, hr, hlocks, hts⟩ := id F
  have hl : lv_has ls 2 [(0, .long (a0))] := hl
  have hw : fn_X0_turned a0 = _ := fn_X0_turned.eq_1 a0
  refine lv_lload_n hx hb dc_X0_turned_0 rfl (lv_at hl 0 rfl) ?_
  refine lv_ldc2 (v := (-9223372036854775808)) hx hb hown (hts _ kw_3_123) dc_X0_turned_1 ?_
  refine lv_lxor hx hb dc_X0_turned_4 ?_
  exact W.lret hx hb hr (fun t ht hW => ⟨congrArg (fun z => Outcome.returned (some (Value.long z))) hw.symm, ht⟩) ky_nil dc_X0_turned_5
def fn_X0_isDownOne (a0 : Int64) : Int32 :=
  if (0 : Int32) ≤ (lg_cmp (a0) ((0 : Int64))) then ((0 : Int32)) else ((1 : Int32))
set_option linter.constructorNameAsVariable false in
set_option maxHeartbeats 4000000 in
set_option maxRecDepth 100000 in
theorem mt_X0_isDownOne (l : Launch) (a0 : Int64) : Met l my_X0_isDownOne (.code my_X0_isDownOne prog_2_method_6_code 2 (some .boolean) :: ky_B) { frames := 0, cells := 0, slots := 0, locals := 0 } (ky_P0 [.long (a0)]) (ky_Q0 (some (.int (fn_X0_isDownOne a0)))) 0 0 (fun _ => False) := by
  refine ky_start0 (by decide) (Nat.le_of_ble_eq_true rfl) (fun p e s m below meth c F ls hl => ?_)
  obtain ⟨hx, hb, hml, hown, hr, hlocks, hts⟩ := id F
  have hl : lv_has ls 2 [(0, .long (a0))] := hl
  have hw : fn_X0_isDownOne a0 = _ := fn_X0_isDownOne.eq_1 a0
  refine lv_lload_n hx hb dc_X0_isDownOne_0 rfl (lv_at hl 0 rfl) ?_
  refine lv_lconst (v := 0) hx hb dc_X0_isDownOne_1 (by decide) ?_
  refine W.lcmp hx hb dc_X0_isDownOne_2 ?_
  refine lv_if_ge (tgt := 10) hx hb dc_X0_isDownOne_3 (by decide) (fun c_0 => ?_) (fun c_0 => ?_)
  · have hw := hw.trans (if_pos c_0)
    refine lv_iconst (v := 0) hx hb dc_X0_isDownOne_10 (by decide) ?_
    exact W.zret hx hb hr (by decide) (fun t ht hW => ⟨congrArg (fun z => Outcome.returned (some (Value.int z))) hw.symm, ht⟩) ky_nil dc_X0_isDownOne_11
  · have hw := hw.trans (if_neg c_0)
    refine lv_iconst (v := 1) hx hb dc_X0_isDownOne_6 (by decide) ?_
    refine lv_goto (tgt := 11) hx hb dc_X0_isDownOne_7 (by decide) ?_
    exact W.zret hx hb hr (by decide) (fun t ht hW => ⟨congrArg (fun z => Outcome.returned (some (Value.int z))) hw.symm, ht⟩) ky_nil dc_X0_isDownOne_11
theorem fz_X0_isDownOne (a0 : Int64) : fn_X0_isDownOne a0 = 0 ∨ fn_X0_isDownOne a0 = 1 := by
  unfold fn_X0_isDownOne
  repeat' split
  all_goals first | exact Or.inl rfl | exact Or.inr rfl
def fn_X0_highIn (a0 : Int64) : Int32 :=
  ((jlushr (a0) ((52 : Int32))).toInt32) &&& ((2047 : Int32))
set_option linter.constructorNameAsVariable false in
set_option maxHeartbeats 4000000 in
set_option maxRecDepth 100000 in
theorem mt_X0_highIn (l : Launch) (a0 : Int64) : Met l my_X0_highIn (.code my_X0_highIn prog_2_method_7_code 2 (some .int) :: ky_B) { frames := 0, cells := 0, slots := 0, locals := 0 } (ky_P0 [.long (a0)]) (ky_Q0 (some (.int (fn_X0_highIn a0)))) 0 0 (fun _ => False) := by
  refine ky_start0 (by decide) (Nat.le_of_ble_eq_true rfl) (fun p e s m below meth c F ls hl => ?_)
  obtain ⟨hx, hb, hml, hown, hr, hlocks, hts⟩ := id F
  have hl : lv_has ls 2 [(0, .long (a0))] := hl
  have hw : fn_X0_highIn a0 = _ := fn_X0_highIn.eq_1 a0
  refine lv_lload_n hx hb dc_X0_highIn_0 rfl (lv_at hl 0 rfl) ?_
  refine lv_bipush (v := 52) hx hb dc_X0_highIn_1 (by decide) ?_
  refine lv_lushr (v := jlushr (a0) ((52 : Int32))) hx hb dc_X0_highIn_3 rfl ?_
  refine lv_l2i (v := (jlushr (a0) ((52 : Int32))).toInt32) hx hb dc_X0_highIn_4 rfl ?_
  refine lv_sipush (v := 2047) hx hb dc_X0_highIn_5 (by decide) ?_
  refine lv_iand hx hb dc_X0_highIn_8 ?_
  exact W.iret hx hb hr (fun t ht hW => ⟨congrArg (fun z => Outcome.returned (some (Value.int z))) hw.symm, ht⟩) ky_nil dc_X0_highIn_9
def fn_X0_lowIn (a0 : Int64) : Int64 :=
  (a0) &&& ((4503599627370495 : Int64))
set_option linter.constructorNameAsVariable false in
set_option maxHeartbeats 4000000 in
set_option maxRecDepth 100000 in
theorem mt_X0_lowIn (l : Launch) (a0 : Int64) : Met l my_X0_lowIn (.code my_X0_lowIn prog_2_method_8_code 2 (some .long) :: ky_B) { frames := 0, cells := 0, slots := 0, locals := 0 } (ky_P0 [.long (a0)]) (ky_Q0 (some (.long (fn_X0_lowIn a0)))) 0 0 (fun _ => False) := by
  refine ky_start0 (by decide) (Nat.le_of_ble_eq_true rfl) (fun p e s m below meth c F ls hl => ?_)
  obtain ⟨hx, hb, hml, hown, hr, hlocks, hts⟩ := id F
  have hl : lv_has ls 2 [(0, .long (a0))] := hl
  have hw : fn_X0_lowIn a0 = _ := fn_X0_lowIn.eq_1 a0
  refine lv_lload_n hx hb dc_X0_lowIn_0 rfl (lv_at hl 0 rfl) ?_
  refine lv_ldc2 (v := 4503599627370495) hx hb hown (hts _ kw_3_47) dc_X0_lowIn_1 ?_
  refine lv_land hx hb dc_X0_lowIn_4 ?_
  exact W.lret hx hb hr (fun t ht hW => ⟨congrArg (fun z => Outcome.returned (some (Value.long z))) hw.symm, ht⟩) ky_nil dc_X0_lowIn_5
def fn_X0_digitsIn (a0 : Int64) (a1 : Int32) : Int32 :=
  if (a1) = 0 then (if (fn_X0_isDownOne (a0)) = (0 : Int32) then ((0 : Int32)) else ((1 : Int32))) else (if (a1) = 1 then (fn_X0_highIn (a0)) else (if (a1) = 2 then ((jlushr (fn_X0_lowIn (a0)) ((32 : Int32))).toInt32) else ((fn_X0_lowIn (a0)).toInt32)))
set_option linter.constructorNameAsVariable false in
set_option maxHeartbeats 4000000 in
set_option maxRecDepth 100000 in
theorem mt_X0_digitsIn (l : Launch) (a0 : Int64) (a1 : Int32) : Met l my_X0_digitsIn (.code my_X0_digitsIn prog_2_method_9_code 3 (some .int) :: ky_B) { frames := 1, cells := 0, slots := 0, locals := 21 } (ky_P0 [.long (a0), .int (a1)]) (ky_Q0 (some (.int (fn_X0_digitsIn a0 a1)))) 0 0 (fun _ => False) := by
  refine ky_start0 (by decide) (Nat.le_of_ble_eq_true rfl) (fun p e s m below meth c F ls hl => ?_)
  obtain ⟨hx, hb, hml, hown, hr, hlocks, hts⟩ := id F
  have hl : lv_has ls 3 [(0, .long (a0)), (2, .int (a1))] := hl
  have hw : fn_X0_digitsIn a0 a1 = _ := fn_X0_digitsIn.eq_1 a0 a1
  refine lv_iload_n hx hb dc_X0_digitsIn_0 rfl (lv_at hl 1 rfl) ?_
  by_cases c_0 : (a1) = 0
  · have hw := hw.trans (if_pos c_0)
    refine lv_tableIn (off := 27) (tgt := 28) hx hb dc_X0_digitsIn_1 (by rw [c_0]; decide) (by rw [c_0]; decide) (by rw [c_0]; rfl) (by decide) ?_
    refine lv_lload_n hx hb dc_X0_digitsIn_28 rfl (lv_at hl 0 rfl) ?_
    refine ky_cS0 (As := [.long (a0)]) F (mt_X0_isDownOne l (a0)) ks_X0_19 ⟨⟨rfl, rfl⟩, by decide, by decide⟩ rfl hl.1 rfl (Nat.le_of_ble_eq_true rfl) ⟨Nat.zero_le _, Nat.zero_le _⟩ dc_X0_digitsIn_29 ?_
    refine lv_if_eq (tgt := 39) hx hb dc_X0_digitsIn_32 (by decide) (fun c_1 => ?_) (fun c_1 => ?_)
    · have hw := hw.trans (if_pos c_1)
      refine lv_iconst (v := 0) hx hb dc_X0_digitsIn_39 (by decide) ?_
      exact W.iret hx hb hr (fun t ht hW => ⟨congrArg (fun z => Outcome.returned (some (Value.int z))) hw.symm, ht⟩) ky_nil dc_X0_digitsIn_40
    · have hw := hw.trans (if_neg c_1)
      refine lv_iconst (v := 1) hx hb dc_X0_digitsIn_35 (by decide) ?_
      refine lv_goto (tgt := 40) hx hb dc_X0_digitsIn_36 (by decide) ?_
      exact W.iret hx hb hr (fun t ht hW => ⟨congrArg (fun z => Outcome.returned (some (Value.int z))) hw.symm, ht⟩) ky_nil dc_X0_digitsIn_40
  have hw := hw.trans (if_neg c_0)
  by_cases c_1 : (a1) = 1
  · have hw := hw.trans (if_pos c_1)
    refine lv_tableIn (off := 40) (tgt := 41) hx hb dc_X0_digitsIn_1 (by rw [c_1]; decide) (by rw [c_1]; decide) (by rw [c_1]; rfl) (by decide) ?_
    refine lv_lload_n hx hb dc_X0_digitsIn_41 rfl (lv_at hl 0 rfl) ?_
    refine ky_cS0 (As := [.long (a0)]) F (mt_X0_highIn l (a0)) ks_X0_23 ⟨⟨rfl, rfl⟩, by decide, by decide⟩ rfl hl.1 rfl (Nat.le_of_ble_eq_true rfl) ⟨Nat.zero_le _, Nat.zero_le _⟩ dc_X0_digitsIn_42 ?_
    exact W.iret hx hb hr (fun t ht hW => ⟨congrArg (fun z => Outcome.returned (some (Value.int z))) hw.symm, ht⟩) ky_nil dc_X0_digitsIn_45
  have hw := hw.trans (if_neg c_1)
  by_cases c_2 : (a1) = 2
  · have hw := hw.trans (if_pos c_2)
    refine lv_tableIn (off := 45) (tgt := 46) hx hb dc_X0_digitsIn_1 (by rw [c_2]; decide) (by rw [c_2]; decide) (by rw [c_2]; rfl) (by decide) ?_
    refine lv_lload_n hx hb dc_X0_digitsIn_46 rfl (lv_at hl 0 rfl) ?_
    refine ky_cS0 (As := [.long (a0)]) F (mt_X0_lowIn l (a0)) ks_X0_27 ⟨⟨rfl, rfl⟩, by decide, by decide⟩ rfl hl.1 rfl (Nat.le_of_ble_eq_true rfl) ⟨Nat.zero_le _, Nat.zero_le _⟩ dc_X0_digitsIn_47 ?_
    refine lv_bipush (v := 32) hx hb dc_X0_digitsIn_50 (by decide) ?_
    refine lv_lushr (v := jlushr (fn_X0_lowIn (a0)) ((32 : Int32))) hx hb dc_X0_digitsIn_52 rfl ?_
    refine lv_l2i (v := (jlushr (fn_X0_lowIn (a0)) ((32 : Int32))).toInt32) hx hb dc_X0_digitsIn_53 rfl ?_
    exact W.iret hx hb hr (fun t ht hW => ⟨congrArg (fun z => Outcome.returned (some (Value.int z))) hw.symm, ht⟩) ky_nil dc_X0_digitsIn_54
  have hw := hw.trans (if_neg c_2)
  refine lv_tableOut (tgt := 55) hx hb dc_X0_digitsIn_1 (ky_out3 c_0 c_1 c_2) (by decide) ?_
  refine lv_lload_n hx hb dc_X0_digitsIn_55 rfl (lv_at hl 0 rfl) ?_
  refine ky_cS0 (As := [.long (a0)]) F (mt_X0_lowIn l (a0)) ks_X0_27 ⟨⟨rfl, rfl⟩, by decide, by decide⟩ rfl hl.1 rfl (Nat.le_of_ble_eq_true rfl) ⟨Nat.zero_le _, Nat.zero_le _⟩ dc_X0_digitsIn_56 ?_
  refine lv_l2i (v := (fn_X0_lowIn (a0)).toInt32) hx hb dc_X0_digitsIn_59 rfl ?_
  exact W.iret hx hb hr (fun t ht hW => ⟨congrArg (fun z => Outcome.returned (some (Value.int z))) hw.symm, ht⟩) ky_nil dc_X0_digitsIn_60
def fn_X0_exponentIn (a0 : Int64) : Int32 :=
  (fn_X0_highIn (a0)) - ((1023 : Int32))
set_option linter.constructorNameAsVariable false in
set_option maxHeartbeats 4000000 in
set_option maxRecDepth 100000 in
theorem mt_X0_exponentIn (l : Launch) (a0 : Int64) : Met l my_X0_exponentIn (.code my_X0_exponentIn prog_2_method_10_code 2 (some .int) :: ky_B) { frames := 1, cells := 0, slots := 0, locals := 21 } (ky_P0 [.long (a0)]) (ky_Q0 (some (.int (fn_X0_exponentIn a0)))) 0 0 (fun _ => False) := by
  refine ky_start0 (by decide) (Nat.le_of_ble_eq_true rfl) (fun p e s m below meth c F ls hl => ?_)
  obtain ⟨hx, hb, hml, hown, hr, hlocks, hts⟩ := id F
  have hl : lv_has ls 2 [(0, .long (a0))] := hl
  have hw : fn_X0_exponentIn a0 = _ := fn_X0_exponentIn.eq_1 a0
  refine lv_lload_n hx hb dc_X0_exponentIn_0 rfl (lv_at hl 0 rfl) ?_
  refine ky_cS0 (As := [.long (a0)]) F (mt_X0_highIn l (a0)) ks_X0_23 ⟨⟨rfl, rfl⟩, by decide, by decide⟩ rfl hl.1 rfl (Nat.le_of_ble_eq_true rfl) ⟨Nat.zero_le _, Nat.zero_le _⟩ dc_X0_exponentIn_1 ?_
  refine lv_sipush (v := 1023) hx hb dc_X0_exponentIn_4 (by decide) ?_
  refine lv_isub hx hb dc_X0_exponentIn_7 ?_
  exact W.iret hx hb hr (fun t ht hW => ⟨congrArg (fun z => Outcome.returned (some (Value.int z))) hw.symm, ht⟩) ky_nil dc_X0_exponentIn_8
def fn_X0_isNumber (a0 : Int64) : Int32 :=
  if (0 : Int32) < (lg_cmp (fn_X0_sizeIn (a0)) ((9218868437227405312 : Int64))) then ((0 : Int32)) else ((1 : Int32))
set_option linter.constructorNameAsVariable false in
set_option maxHeartbeats 4000000 in
set_option maxRecDepth 100000 in
theorem mt_X0_isNumber (l : Launch) (a0 : Int64) : Met l my_X0_isNumber (.code my_X0_isNumber prog_2_method_11_code 2 (some .boolean) :: ky_B) { frames := 1, cells := 0, slots := 0, locals := 21 } (ky_P0 [.long (a0)]) (ky_Q0 (some (.int (fn_X0_isNumber a0)))) 0 0 (fun _ => False) := by
  refine ky_start0 (by decide) (Nat.le_of_ble_eq_true rfl) (fun p e s m below meth c F ls hl => ?_)
  obtain ⟨hx, hb, hml, hown, hr, hlocks, hts⟩ := id F
  have hl : lv_has ls 2 [(0, .long (a0))] := hl
  have hw : fn_X0_isNumber a0 = _ := fn_X0_isNumber.eq_1 a0
  refine lv_lload_n hx hb dc_X0_isNumber_0 rfl (lv_at hl 0 rfl) ?_
  refine ky_cS0 (As := [.long (a0)]) F (mt_X0_sizeIn l (a0)) ks_X0_11 ⟨⟨rfl, rfl⟩, by decide, by decide⟩ rfl hl.1 rfl (Nat.le_of_ble_eq_true rfl) ⟨Nat.zero_le _, Nat.zero_le _⟩ dc_X0_isNumber_1 ?_
  refine lv_ldc2 (v := 9218868437227405312) hx hb hown (hts _ kw_3_37) dc_X0_isNumber_4 ?_
  refine W.lcmp hx hb dc_X0_isNumber_7 ?_
  refine lv_if_gt (tgt := 15) hx hb dc_X0_isNumber_8 (by decide) (fun c_0 => ?_) (fun c_0 => ?_)
  · have hw := hw.trans (if_pos c_0)
    refine lv_iconst (v := 0) hx hb dc_X0_isNumber_15 (by decide) ?_
    exact W.zret hx hb hr (by decide) (fun t ht hW => ⟨congrArg (fun z => Outcome.returned (some (Value.int z))) hw.symm, ht⟩) ky_nil dc_X0_isNumber_16
  · have hw := hw.trans (if_neg c_0)
    refine lv_iconst (v := 1) hx hb dc_X0_isNumber_11 (by decide) ?_
    refine lv_goto (tgt := 16) hx hb dc_X0_isNumber_12 (by decide) ?_
    exact W.zret hx hb hr (by decide) (fun t ht hW => ⟨congrArg (fun z => Outcome.returned (some (Value.int z))) hw.symm, ht⟩) ky_nil dc_X0_isNumber_16
theorem fz_X0_isNumber (a0 : Int64) : fn_X0_isNumber a0 = 0 ∨ fn_X0_isNumber a0 = 1 := by
  unfold fn_X0_isNumber
  repeat' split
  all_goals first | exact Or.inl rfl | exact Or.inr rfl
def fn_X0_isEndlessOne (a0 : Int64) : Int32 :=
  if (lg_cmp (fn_X0_sizeIn (a0)) ((9218868437227405312 : Int64))) = (0 : Int32) then ((1 : Int32)) else ((0 : Int32))
set_option linter.constructorNameAsVariable false in
set_option maxHeartbeats 4000000 in
set_option maxRecDepth 100000 in
theorem mt_X0_isEndlessOne (l : Launch) (a0 : Int64) : Met l my_X0_isEndlessOne (.code my_X0_isEndlessOne prog_2_method_12_code 2 (some .boolean) :: ky_B) { frames := 1, cells := 0, slots := 0, locals := 21 } (ky_P0 [.long (a0)]) (ky_Q0 (some (.int (fn_X0_isEndlessOne a0)))) 0 0 (fun _ => False) := by
  refine ky_start0 (by decide) (Nat.le_of_ble_eq_true rfl) (fun p e s m below meth c F ls hl => ?_)
  obtain ⟨hx, hb, hml, hown, hr, hlocks, hts⟩ := id F
  have hl : lv_has ls 2 [(0, .long (a0))] := hl
  have hw : fn_X0_isEndlessOne a0 = _ := fn_X0_isEndlessOne.eq_1 a0
  refine lv_lload_n hx hb dc_X0_isEndlessOne_0 rfl (lv_at hl 0 rfl) ?_
  refine ky_cS0 (As := [.long (a0)]) F (mt_X0_sizeIn l (a0)) ks_X0_11 ⟨⟨rfl, rfl⟩, by decide, by decide⟩ rfl hl.1 rfl (Nat.le_of_ble_eq_true rfl) ⟨Nat.zero_le _, Nat.zero_le _⟩ dc_X0_isEndlessOne_1 ?_
  refine lv_ldc2 (v := 9218868437227405312) hx hb hown (hts _ kw_3_37) dc_X0_isEndlessOne_4 ?_
  refine W.lcmp hx hb dc_X0_isEndlessOne_7 ?_
  refine lv_if_ne (tgt := 15) hx hb dc_X0_isEndlessOne_8 (by decide) (fun c_0 => ?_) (fun c_0 => ?_)
  · have hw := hw.trans (if_neg c_0)
    refine lv_iconst (v := 0) hx hb dc_X0_isEndlessOne_15 (by decide) ?_
    exact W.zret hx hb hr (by decide) (fun t ht hW => ⟨congrArg (fun z => Outcome.returned (some (Value.int z))) hw.symm, ht⟩) ky_nil dc_X0_isEndlessOne_16
  · have hw := hw.trans (if_pos c_0)
    refine lv_iconst (v := 1) hx hb dc_X0_isEndlessOne_11 (by decide) ?_
    refine lv_goto (tgt := 16) hx hb dc_X0_isEndlessOne_12 (by decide) ?_
    exact W.zret hx hb hr (by decide) (fun t ht hW => ⟨congrArg (fun z => Outcome.returned (some (Value.int z))) hw.symm, ht⟩) ky_nil dc_X0_isEndlessOne_16
theorem fz_X0_isEndlessOne (a0 : Int64) : fn_X0_isEndlessOne a0 = 0 ∨ fn_X0_isEndlessOne a0 = 1 := by
  unfold fn_X0_isEndlessOne
  repeat' split
  all_goals first | exact Or.inl rfl | exact Or.inr rfl
def fn_X0_factorIn (a0 : Int64) : Int64 :=
  if (fn_X0_highIn (a0)) = (0 : Int32) then (fn_X0_lowIn (a0)) else ((fn_X0_lowIn (a0)) + ((4503599627370496 : Int64)))
set_option linter.constructorNameAsVariable false in
set_option maxHeartbeats 4000000 in
set_option maxRecDepth 100000 in
theorem mt_X0_factorIn (l : Launch) (a0 : Int64) : Met l my_X0_factorIn (.code my_X0_factorIn prog_2_method_19_code 2 (some .long) :: ky_B) { frames := 1, cells := 0, slots := 0, locals := 21 } (ky_P0 [.long (a0)]) (ky_Q0 (some (.long (fn_X0_factorIn a0)))) 0 0 (fun _ => False) := by
  refine ky_start0 (by decide) (Nat.le_of_ble_eq_true rfl) (fun p e s m below meth c F ls hl => ?_)
  obtain ⟨hx, hb, hml, hown, hr, hlocks, hts⟩ := id F
  have hl : lv_has ls 2 [(0, .long (a0))] := hl
  have hw : fn_X0_factorIn a0 = _ := fn_X0_factorIn.eq_1 a0
  refine lv_lload_n hx hb dc_X0_factorIn_0 rfl (lv_at hl 0 rfl) ?_
  refine ky_cS0 (As := [.long (a0)]) F (mt_X0_highIn l (a0)) ks_X0_23 ⟨⟨rfl, rfl⟩, by decide, by decide⟩ rfl hl.1 rfl (Nat.le_of_ble_eq_true rfl) ⟨Nat.zero_le _, Nat.zero_le _⟩ dc_X0_factorIn_1 ?_
  refine lv_if_ne (tgt := 14) hx hb dc_X0_factorIn_4 (by decide) (fun c_0 => ?_) (fun c_0 => ?_)
  · have hw := hw.trans (if_neg c_0)
    refine lv_lload_n hx hb dc_X0_factorIn_14 rfl (lv_at hl 0 rfl) ?_
    refine ky_cS0 (As := [.long (a0)]) F (mt_X0_lowIn l (a0)) ks_X0_27 ⟨⟨rfl, rfl⟩, by decide, by decide⟩ rfl hl.1 rfl (Nat.le_of_ble_eq_true rfl) ⟨Nat.zero_le _, Nat.zero_le _⟩ dc_X0_factorIn_15 ?_
    refine lv_ldc2 (v := 4503599627370496) hx hb hown (hts _ kw_3_48) dc_X0_factorIn_18 ?_
    refine lv_ladd hx hb dc_X0_factorIn_21 ?_
    exact W.lret hx hb hr (fun t ht hW => ⟨congrArg (fun z => Outcome.returned (some (Value.long z))) hw.symm, ht⟩) ky_nil dc_X0_factorIn_22
  · have hw := hw.trans (if_pos c_0)
    refine lv_lload_n hx hb dc_X0_factorIn_7 rfl (lv_at hl 0 rfl) ?_
    refine ky_cS0 (As := [.long (a0)]) F (mt_X0_lowIn l (a0)) ks_X0_27 ⟨⟨rfl, rfl⟩, by decide, by decide⟩ rfl hl.1 rfl (Nat.le_of_ble_eq_true rfl) ⟨Nat.zero_le _, Nat.zero_le _⟩ dc_X0_factorIn_8 ?_
    refine lv_goto (tgt := 22) hx hb dc_X0_factorIn_11 (by decide) ?_
    exact W.lret hx hb hr (fun t ht hW => ⟨congrArg (fun z => Outcome.returned (some (Value.long z))) hw.symm, ht⟩) ky_nil dc_X0_factorIn_22
def fn_X0_powerIn (a0 : Int64) : Int32 :=
  ((jimax (fn_X0_highIn (a0)) ((1 : Int32))) + ((-1074 : Int32))) - ((1 : Int32))
set_option linter.constructorNameAsVariable false in
set_option maxHeartbeats 4000000 in
set_option maxRecDepth 100000 in
theorem mt_X0_powerIn (l : Launch) (a0 : Int64) : Met l my_X0_powerIn (.code my_X0_powerIn prog_2_method_20_code 2 (some .int) :: ky_B) { frames := 1, cells := 0, slots := 0, locals := 21 } (ky_P0 [.long (a0)]) (ky_Q0 (some (.int (fn_X0_powerIn a0)))) 0 0 (fun _ => False) := by
  refine ky_start0 (by decide) (Nat.le_of_ble_eq_true rfl) (fun p e s m below meth c F ls hl => ?_)
  obtain ⟨hx, hb, hml, hown, hr, hlocks, hts⟩ := id F
  have hl : lv_has ls 2 [(0, .long (a0))] := hl
  have hw : fn_X0_powerIn a0 = _ := fn_X0_powerIn.eq_1 a0
  refine lv_lload_n hx hb dc_X0_powerIn_0 rfl (lv_at hl 0 rfl) ?_
  refine ky_cS0 (As := [.long (a0)]) F (mt_X0_highIn l (a0)) ks_X0_23 ⟨⟨rfl, rfl⟩, by decide, by decide⟩ rfl hl.1 rfl (Nat.le_of_ble_eq_true rfl) ⟨Nat.zero_le _, Nat.zero_le _⟩ dc_X0_powerIn_1 ?_
  refine lv_iconst (v := 1) hx hb dc_X0_powerIn_4 (by decide) ?_
  refine ky_imax F ⟨kw_3_52, kw_1_185, kw_1_16, kw_1_186⟩ hl.1 (Nat.le_of_ble_eq_true rfl) (Nat.le_of_ble_eq_true rfl) ⟨Nat.zero_le _, Nat.zero_le _⟩ dc_X0_powerIn_5 ?_
  refine lv_sipush (v := (-1074)) hx hb dc_X0_powerIn_8 (by decide) ?_
  refine lv_iadd hx hb dc_X0_powerIn_11 ?_
  refine lv_iconst (v := 1) hx hb dc_X0_powerIn_12 (by decide) ?_
  refine lv_isub hx hb dc_X0_powerIn_13 ?_
  exact W.iret hx hb hr (fun t ht hW => ⟨congrArg (fun z => Outcome.returned (some (Value.int z))) hw.symm, ht⟩) ky_nil dc_X0_powerIn_14
def fn_X0_behindIn (a0 : Int64) : Int32 :=
  jimax ((0 : Int32)) (jimin ((60 : Int32)) (((1075 : Int32)) - (fn_X0_highIn (a0))))
set_option linter.constructorNameAsVariable false in
set_option maxHeartbeats 4000000 in
set_option maxRecDepth 100000 in
theorem mt_X0_behindIn (l : Launch) (a0 : Int64) : Met l my_X0_behindIn (.code my_X0_behindIn prog_2_method_21_code 2 (some .int) :: ky_B) { frames := 1, cells := 0, slots := 0, locals := 21 } (ky_P0 [.long (a0)]) (ky_Q0 (some (.int (fn_X0_behindIn a0)))) 0 0 (fun _ => False) := by
  refine ky_start0 (by decide) (Nat.le_of_ble_eq_true rfl) (fun p e s m below meth c F ls hl => ?_)
  obtain ⟨hx, hb, hml, hown, hr, hlocks, hts⟩ := id F
  have hl : lv_has ls 2 [(0, .long (a0))] := hl
  have hw : fn_X0_behindIn a0 = _ := fn_X0_behindIn.eq_1 a0
  refine lv_iconst (v := 0) hx hb dc_X0_behindIn_0 (by decide) ?_
  refine lv_bipush (v := 60) hx hb dc_X0_behindIn_1 (by decide) ?_
  refine lv_sipush (v := 1075) hx hb dc_X0_behindIn_3 (by decide) ?_
  refine lv_lload_n hx hb dc_X0_behindIn_6 rfl (lv_at hl 0 rfl) ?_
  refine ky_cS0 (As := [.long (a0)]) F (mt_X0_highIn l (a0)) ks_X0_23 ⟨⟨rfl, rfl⟩, by decide, by decide⟩ rfl hl.1 rfl (Nat.le_of_ble_eq_true rfl) ⟨Nat.zero_le _, Nat.zero_le _⟩ dc_X0_behindIn_7 ?_
  refine lv_isub hx hb dc_X0_behindIn_10 ?_
  refine ky_imin F ⟨kw_3_103, kw_1_203, kw_1_16, kw_1_204⟩ hl.1 (Nat.le_of_ble_eq_true rfl) (Nat.le_of_ble_eq_true rfl) ⟨Nat.zero_le _, Nat.zero_le _⟩ dc_X0_behindIn_11 ?_
  refine ky_imax F ⟨kw_3_52, kw_1_185, kw_1_16, kw_1_186⟩ hl.1 (Nat.le_of_ble_eq_true rfl) (Nat.le_of_ble_eq_true rfl) ⟨Nat.zero_le _, Nat.zero_le _⟩ dc_X0_behindIn_14 ?_
  exact W.iret hx hb hr (fun t ht hW => ⟨congrArg (fun z => Outcome.returned (some (Value.int z))) hw.symm, ht⟩) ky_nil dc_X0_behindIn_17
def fn_X0_aheadIn (a0 : Int64) : Int64 :=
  jlushr (fn_X0_factorIn (a0)) (fn_X0_behindIn (a0))
set_option linter.constructorNameAsVariable false in
set_option maxHeartbeats 4000000 in
set_option maxRecDepth 100000 in
theorem mt_X0_aheadIn (l : Launch) (a0 : Int64) : Met l my_X0_aheadIn (.code my_X0_aheadIn prog_2_method_22_code 2 (some .long) :: ky_B) { frames := 2, cells := 0, slots := 0, locals := 42 } (ky_P0 [.long (a0)]) (ky_Q0 (some (.long (fn_X0_aheadIn a0)))) 0 0 (fun _ => False) := by
  refine ky_start0 (by decide) (Nat.le_of_ble_eq_true rfl) (fun p e s m below meth c F ls hl => ?_)
  obtain ⟨hx, hb, hml, hown, hr, hlocks, hts⟩ := id F
  have hl : lv_has ls 2 [(0, .long (a0))] := hl
  have hw : fn_X0_aheadIn a0 = _ := fn_X0_aheadIn.eq_1 a0
  refine lv_lload_n hx hb dc_X0_aheadIn_0 rfl (lv_at hl 0 rfl) ?_
  refine ky_cS0 (As := [.long (a0)]) F (mt_X0_factorIn l (a0)) ks_X0_54 ⟨⟨rfl, rfl⟩, by decide, by decide⟩ rfl hl.1 rfl (Nat.le_of_ble_eq_true rfl) ⟨Nat.zero_le _, Nat.zero_le _⟩ dc_X0_aheadIn_1 ?_
  refine lv_lload_n hx hb dc_X0_aheadIn_4 rfl (lv_at hl 0 rfl) ?_
  refine ky_cS0 (As := [.long (a0)]) F (mt_X0_behindIn l (a0)) ks_X0_57 ⟨⟨rfl, rfl⟩, by decide, by decide⟩ rfl hl.1 rfl (Nat.le_of_ble_eq_true rfl) ⟨Nat.zero_le _, Nat.zero_le _⟩ dc_X0_aheadIn_5 ?_
  refine lv_lushr (v := jlushr (fn_X0_factorIn (a0)) (fn_X0_behindIn (a0))) hx hb dc_X0_aheadIn_8 rfl ?_
  exact W.lret hx hb hr (fun t ht hW => ⟨congrArg (fun z => Outcome.returned (some (Value.long z))) hw.symm, ht⟩) ky_nil dc_X0_aheadIn_9
def fn_X0_restIn (a0 : Int64) : Int64 :=
  (fn_X0_factorIn (a0)) &&& ((jlshl ((1 : Int64)) (fn_X0_behindIn (a0))) - ((1 : Int64)))
set_option linter.constructorNameAsVariable false in
set_option maxHeartbeats 4000000 in
set_option maxRecDepth 100000 in
theorem mt_X0_restIn (l : Launch) (a0 : Int64) : Met l my_X0_restIn (.code my_X0_restIn prog_2_method_23_code 2 (some .long) :: ky_B) { frames := 2, cells := 0, slots := 0, locals := 42 } (ky_P0 [.long (a0)]) (ky_Q0 (some (.long (fn_X0_restIn a0)))) 0 0 (fun _ => False) := by
  refine ky_start0 (by decide) (Nat.le_of_ble_eq_true rfl) (fun p e s m below meth c F ls hl => ?_)
  obtain ⟨hx, hb, hml, hown, hr, hlocks, hts⟩ := id F
  have hl : lv_has ls 2 [(0, .long (a0))] := hl
  have hw : fn_X0_restIn a0 = _ := fn_X0_restIn.eq_1 a0
  refine lv_lload_n hx hb dc_X0_restIn_0 rfl (lv_at hl 0 rfl) ?_
  refine ky_cS0 (As := [.long (a0)]) F (mt_X0_factorIn l (a0)) ks_X0_54 ⟨⟨rfl, rfl⟩, by decide, by decide⟩ rfl hl.1 rfl (Nat.le_of_ble_eq_true rfl) ⟨Nat.zero_le _, Nat.zero_le _⟩ dc_X0_restIn_1 ?_
  refine lv_lconst (v := 1) hx hb dc_X0_restIn_4 (by decide) ?_
  refine lv_lload_n hx hb dc_X0_restIn_5 rfl (lv_at hl 0 rfl) ?_
  refine ky_cS0 (As := [.long (a0)]) F (mt_X0_behindIn l (a0)) ks_X0_57 ⟨⟨rfl, rfl⟩, by decide, by decide⟩ rfl hl.1 rfl (Nat.le_of_ble_eq_true rfl) ⟨Nat.zero_le _, Nat.zero_le _⟩ dc_X0_restIn_6 ?_
  refine lv_lshl (v := jlshl ((1 : Int64)) (fn_X0_behindIn (a0))) hx hb dc_X0_restIn_9 rfl ?_
  refine lv_lconst (v := 1) hx hb dc_X0_restIn_10 (by decide) ?_
  refine lv_lsub hx hb dc_X0_restIn_11 ?_
  refine lv_land hx hb dc_X0_restIn_12 ?_
  exact W.lret hx hb hr (fun t ht hW => ⟨congrArg (fun z => Outcome.returned (some (Value.long z))) hw.symm, ht⟩) ky_nil dc_X0_restIn_13
def fn_X0_isWholeOne (a0 : Int64) : Int32 :=
  if (lg_cmp (fn_X0_restIn (a0)) ((0 : Int64))) = (0 : Int32) then (if (fn_X0_isEndlessOne (a0)) = (0 : Int32) then ((1 : Int32)) else ((0 : Int32))) else ((0 : Int32))
set_option linter.constructorNameAsVariable false in
set_option maxHeartbeats 4000000 in
set_option maxRecDepth 100000 in
theorem mt_X0_isWholeOne (l : Launch) (a0 : Int64) : Met l my_X0_isWholeOne (.code my_X0_isWholeOne prog_2_method_13_code 2 (some .boolean) :: ky_B) { frames := 3, cells := 0, slots := 0, locals := 63 } (ky_P0 [.long (a0)]) (ky_Q0 (some (.int (fn_X0_isWholeOne a0)))) 0 0 (fun _ => False) := by
  refine ky_start0 (by decide) (Nat.le_of_ble_eq_true rfl) (fun p e s m below meth c F ls hl => ?_)
  obtain ⟨hx, hb, hml, hown, hr, hlocks, hts⟩ := id F
  have hl : lv_has ls 2 [(0, .long (a0))] := hl
  have hw : fn_X0_isWholeOne a0 = _ := fn_X0_isWholeOne.eq_1 a0
  refine lv_lload_n hx hb dc_X0_isWholeOne_0 rfl (lv_at hl 0 rfl) ?_
  refine ky_cS0 (As := [.long (a0)]) F (mt_X0_restIn l (a0)) ks_X0_32 ⟨⟨rfl, rfl⟩, by decide, by decide⟩ rfl hl.1 rfl (Nat.le_of_ble_eq_true rfl) ⟨Nat.zero_le _, Nat.zero_le _⟩ dc_X0_isWholeOne_1 ?_
  refine lv_lconst (v := 0) hx hb dc_X0_isWholeOne_4 (by decide) ?_
  refine W.lcmp hx hb dc_X0_isWholeOne_5 ?_
  refine lv_if_ne (tgt := 20) hx hb dc_X0_isWholeOne_6 (by decide) (fun c_0 => ?_) (fun c_0 => ?_)
  · have hw := hw.trans (if_neg c_0)
    refine lv_iconst (v := 0) hx hb dc_X0_isWholeOne_20 (by decide) ?_
    exact W.zret hx hb hr (by decide) (fun t ht hW => ⟨congrArg (fun z => Outcome.returned (some (Value.int z))) hw.symm, ht⟩) ky_nil dc_X0_isWholeOne_21
  · have hw := hw.trans (if_pos c_0)
    refine lv_lload_n hx hb dc_X0_isWholeOne_9 rfl (lv_at hl 0 rfl) ?_
    refine ky_cS0 (As := [.long (a0)]) F (mt_X0_isEndlessOne l (a0)) ks_X0_35 ⟨⟨rfl, rfl⟩, by decide, by decide⟩ rfl hl.1 rfl (Nat.le_of_ble_eq_true rfl) ⟨Nat.zero_le _, Nat.zero_le _⟩ dc_X0_isWholeOne_10 ?_
    refine lv_if_ne (tgt := 20) hx hb dc_X0_isWholeOne_13 (by decide) (fun c_1 => ?_) (fun c_1 => ?_)
    · have hw := hw.trans (if_neg c_1)
      refine lv_iconst (v := 0) hx hb dc_X0_isWholeOne_20 (by decide) ?_
      exact W.zret hx hb hr (by decide) (fun t ht hW => ⟨congrArg (fun z => Outcome.returned (some (Value.int z))) hw.symm, ht⟩) ky_nil dc_X0_isWholeOne_21
    · have hw := hw.trans (if_pos c_1)
      refine lv_iconst (v := 1) hx hb dc_X0_isWholeOne_16 (by decide) ?_
      refine lv_goto (tgt := 21) hx hb dc_X0_isWholeOne_17 (by decide) ?_
      exact W.zret hx hb hr (by decide) (fun t ht hW => ⟨congrArg (fun z => Outcome.returned (some (Value.int z))) hw.symm, ht⟩) ky_nil dc_X0_isWholeOne_21
theorem fz_X0_isWholeOne (a0 : Int64) : fn_X0_isWholeOne a0 = 0 ∨ fn_X0_isWholeOne a0 = 1 := by
  unfold fn_X0_isWholeOne
  repeat' split
  all_goals first | exact Or.inl rfl | exact Or.inr rfl
def fn_X0_kindIn (a0 : Int64) : Int32 :=
  if (lg_cmp (fn_X0_sizeIn (a0)) ((0 : Int64))) = (0 : Int32) then ((0 : Int32)) else (if (fn_X0_highIn (a0)) = (0 : Int32) then ((1 : Int32)) else (if (fn_X0_isEndlessOne (a0)) = (0 : Int32) then (if (lg_cmp (fn_X0_restIn (a0)) ((0 : Int64))) = (0 : Int32) then ((3 : Int32)) else ((2 : Int32))) else ((4 : Int32))))
set_option linter.constructorNameAsVariable false in
set_option maxHeartbeats 4000000 in
set_option maxRecDepth 100000 in
theorem mt_X0_kindIn (l : Launch) (a0 : Int64) : Met l my_X0_kindIn (.code my_X0_kindIn prog_2_method_14_code 2 (some .int) :: ky_B) { frames := 3, cells := 0, slots := 0, locals := 63 } (ky_P0 [.long (a0)]) (ky_Q0 (some (.int (fn_X0_kindIn a0)))) 0 0 (fun _ => False) := by
  refine ky_start0 (by decide) (Nat.le_of_ble_eq_true rfl) (fun p e s m below meth c F ls hl => ?_)
  obtain ⟨hx, hb, hml, hown, hr, hlocks, hts⟩ := id F
  have hl : lv_has ls 2 [(0, .long (a0))] := hl
  have hw : fn_X0_kindIn a0 = _ := fn_X0_kindIn.eq_1 a0
  refine lv_lload_n hx hb dc_X0_kindIn_0 rfl (lv_at hl 0 rfl) ?_
  refine ky_cS0 (As := [.long (a0)]) F (mt_X0_sizeIn l (a0)) ks_X0_11 ⟨⟨rfl, rfl⟩, by decide, by decide⟩ rfl hl.1 rfl (Nat.le_of_ble_eq_true rfl) ⟨Nat.zero_le _, Nat.zero_le _⟩ dc_X0_kindIn_1 ?_
  refine lv_lconst (v := 0) hx hb dc_X0_kindIn_4 (by decide) ?_
  refine W.lcmp hx hb dc_X0_kindIn_5 ?_
  refine lv_if_ne (tgt := 11) hx hb dc_X0_kindIn_6 (by decide) (fun c_0 => ?_) (fun c_0 => ?_)
  · have hw := hw.trans (if_neg c_0)
    refine lv_lload_n hx hb dc_X0_kindIn_11 rfl (lv_at hl 0 rfl) ?_
    refine ky_cS0 (As := [.long (a0)]) F (mt_X0_highIn l (a0)) ks_X0_23 ⟨⟨rfl, rfl⟩, by decide, by decide⟩ rfl hl.1 rfl (Nat.le_of_ble_eq_true rfl) ⟨Nat.zero_le _, Nat.zero_le _⟩ dc_X0_kindIn_12 ?_
    refine lv_if_ne (tgt := 20) hx hb dc_X0_kindIn_15 (by decide) (fun c_1 => ?_) (fun c_1 => ?_)
    · have hw := hw.trans (if_neg c_1)
      refine lv_lload_n hx hb dc_X0_kindIn_20 rfl (lv_at hl 0 rfl) ?_
      refine ky_cS0 (As := [.long (a0)]) F (mt_X0_isEndlessOne l (a0)) ks_X0_35 ⟨⟨rfl, rfl⟩, by decide, by decide⟩ rfl hl.1 rfl (Nat.le_of_ble_eq_true rfl) ⟨Nat.zero_le _, Nat.zero_le _⟩ dc_X0_kindIn_21 ?_
      refine lv_if_eq (tgt := 29) hx hb dc_X0_kindIn_24 (by decide) (fun c_2 => ?_) (fun c_2 => ?_)
      · have hw := hw.trans (if_pos c_2)
        refine lv_lload_n hx hb dc_X0_kindIn_29 rfl (lv_at hl 0 rfl) ?_
        refine ky_cS0 (As := [.long (a0)]) F (mt_X0_restIn l (a0)) ks_X0_32 ⟨⟨rfl, rfl⟩, by decide, by decide⟩ rfl hl.1 rfl (Nat.le_of_ble_eq_true rfl) ⟨Nat.zero_le _, Nat.zero_le _⟩ dc_X0_kindIn_30 ?_
        refine lv_lconst (v := 0) hx hb dc_X0_kindIn_33 (by decide) ?_
        refine W.lcmp hx hb dc_X0_kindIn_34 ?_
        refine lv_if_ne (tgt := 42) hx hb dc_X0_kindIn_35 (by decide) (fun c_3 => ?_) (fun c_3 => ?_)
        · have hw := hw.trans (if_neg c_3)
          refine lv_iconst (v := 2) hx hb dc_X0_kindIn_42 (by decide) ?_
          exact W.iret hx hb hr (fun t ht hW => ⟨congrArg (fun z => Outcome.returned (some (Value.int z))) hw.symm, ht⟩) ky_nil dc_X0_kindIn_43
        · have hw := hw.trans (if_pos c_3)
          refine lv_iconst (v := 3) hx hb dc_X0_kindIn_38 (by decide) ?_
          refine lv_goto (tgt := 43) hx hb dc_X0_kindIn_39 (by decide) ?_
          exact W.iret hx hb hr (fun t ht hW => ⟨congrArg (fun z => Outcome.returned (some (Value.int z))) hw.symm, ht⟩) ky_nil dc_X0_kindIn_43
      · have hw := hw.trans (if_neg c_2)
        refine lv_iconst (v := 4) hx hb dc_X0_kindIn_27 (by decide) ?_
        exact W.iret hx hb hr (fun t ht hW => ⟨congrArg (fun z => Outcome.returned (some (Value.int z))) hw.symm, ht⟩) ky_nil dc_X0_kindIn_28
    · have hw := hw.trans (if_pos c_1)
      refine lv_iconst (v := 1) hx hb dc_X0_kindIn_18 (by decide) ?_
      exact W.iret hx hb hr (fun t ht hW => ⟨congrArg (fun z => Outcome.returned (some (Value.int z))) hw.symm, ht⟩) ky_nil dc_X0_kindIn_19
  · have hw := hw.trans (if_pos c_0)
    refine lv_iconst (v := 0) hx hb dc_X0_kindIn_9 (by decide) ?_
    exact W.iret hx hb hr (fun t ht hW => ⟨congrArg (fun z => Outcome.returned (some (Value.int z))) hw.symm, ht⟩) ky_nil dc_X0_kindIn_10
def fn_X0_rungIn (a0 : Int64) : Int64 :=
  if (fn_X0_isDownOne (a0)) = (0 : Int32) then (fn_X0_sizeIn (a0)) else (-(fn_X0_sizeIn (a0)))
set_option linter.constructorNameAsVariable false in
set_option maxHeartbeats 4000000 in
set_option maxRecDepth 100000 in
theorem mt_X0_rungIn (l : Launch) (a0 : Int64) : Met l my_X0_rungIn (.code my_X0_rungIn prog_2_method_15_code 2 (some .long) :: ky_B) { frames := 1, cells := 0, slots := 0, locals := 21 } (ky_P0 [.long (a0)]) (ky_Q0 (some (.long (fn_X0_rungIn a0)))) 0 0 (fun _ => False) := by
  refine ky_start0 (by decide) (Nat.le_of_ble_eq_true rfl) (fun p e s m below meth c F ls hl => ?_)
  obtain ⟨hx, hb, hml, hown, hr, hlocks, hts⟩ := id F
  have hl : lv_has ls 2 [(0, .long (a0))] := hl
  have hw : fn_X0_rungIn a0 = _ := fn_X0_rungIn.eq_1 a0
  refine lv_lload_n hx hb dc_X0_rungIn_0 rfl (lv_at hl 0 rfl) ?_
  refine ky_cS0 (As := [.long (a0)]) F (mt_X0_isDownOne l (a0)) ks_X0_19 ⟨⟨rfl, rfl⟩, by decide, by decide⟩ rfl hl.1 rfl (Nat.le_of_ble_eq_true rfl) ⟨Nat.zero_le _, Nat.zero_le _⟩ dc_X0_rungIn_1 ?_
  refine lv_if_eq (tgt := 15) hx hb dc_X0_rungIn_4 (by decide) (fun c_0 => ?_) (fun c_0 => ?_)
  · have hw := hw.trans (if_pos c_0)
    refine lv_lload_n hx hb dc_X0_rungIn_15 rfl (lv_at hl 0 rfl) ?_
    refine ky_cS0 (As := [.long (a0)]) F (mt_X0_sizeIn l (a0)) ks_X0_11 ⟨⟨rfl, rfl⟩, by decide, by decide⟩ rfl hl.1 rfl (Nat.le_of_ble_eq_true rfl) ⟨Nat.zero_le _, Nat.zero_le _⟩ dc_X0_rungIn_16 ?_
    exact W.lret hx hb hr (fun t ht hW => ⟨congrArg (fun z => Outcome.returned (some (Value.long z))) hw.symm, ht⟩) ky_nil dc_X0_rungIn_19
  · have hw := hw.trans (if_neg c_0)
    refine lv_lload_n hx hb dc_X0_rungIn_7 rfl (lv_at hl 0 rfl) ?_
    refine ky_cS0 (As := [.long (a0)]) F (mt_X0_sizeIn l (a0)) ks_X0_11 ⟨⟨rfl, rfl⟩, by decide, by decide⟩ rfl hl.1 rfl (Nat.le_of_ble_eq_true rfl) ⟨Nat.zero_le _, Nat.zero_le _⟩ dc_X0_rungIn_8 ?_
    refine lv_lneg hx hb dc_X0_rungIn_11 ?_
    refine lv_goto (tgt := 19) hx hb dc_X0_rungIn_12 (by decide) ?_
    exact W.lret hx hb hr (fun t ht hW => ⟨congrArg (fun z => Outcome.returned (some (Value.long z))) hw.symm, ht⟩) ky_nil dc_X0_rungIn_19
def fn_X0_rankIn (a0 : Int64) : Int64 :=
  if (fn_X0_isDownOne (a0)) = (0 : Int32) then (fn_X0_sizeIn (a0)) else (((-1 : Int64)) - (fn_X0_sizeIn (a0)))
set_option linter.constructorNameAsVariable false in
set_option maxHeartbeats 4000000 in
set_option maxRecDepth 100000 in
theorem mt_X0_rankIn (l : Launch) (a0 : Int64) : Met l my_X0_rankIn (.code my_X0_rankIn prog_2_method_16_code 2 (some .long) :: ky_B) { frames := 1, cells := 0, slots := 0, locals := 21 } (ky_P0 [.long (a0)]) (ky_Q0 (some (.long (fn_X0_rankIn a0)))) 0 0 (fun _ => False) := by
  refine ky_start0 (by decide) (Nat.le_of_ble_eq_true rfl) (fun p e s m below meth c F ls hl => ?_)
  obtain ⟨hx, hb, hml, hown, hr, hlocks, hts⟩ := id F
  have hl : lv_has ls 2 [(0, .long (a0))] := hl
  have hw : fn_X0_rankIn a0 = _ := fn_X0_rankIn.eq_1 a0
  refine lv_lload_n hx hb dc_X0_rankIn_0 rfl (lv_at hl 0 rfl) ?_
  refine ky_cS0 (As := [.long (a0)]) F (mt_X0_isDownOne l (a0)) ks_X0_19 ⟨⟨rfl, rfl⟩, by decide, by decide⟩ rfl hl.1 rfl (Nat.le_of_ble_eq_true rfl) ⟨Nat.zero_le _, Nat.zero_le _⟩ dc_X0_rankIn_1 ?_
  refine lv_if_eq (tgt := 18) hx hb dc_X0_rankIn_4 (by decide) (fun c_0 => ?_) (fun c_0 => ?_)
  · have hw := hw.trans (if_pos c_0)
    refine lv_lload_n hx hb dc_X0_rankIn_18 rfl (lv_at hl 0 rfl) ?_
    refine ky_cS0 (As := [.long (a0)]) F (mt_X0_sizeIn l (a0)) ks_X0_11 ⟨⟨rfl, rfl⟩, by decide, by decide⟩ rfl hl.1 rfl (Nat.le_of_ble_eq_true rfl) ⟨Nat.zero_le _, Nat.zero_le _⟩ dc_X0_rankIn_19 ?_
    exact W.lret hx hb hr (fun t ht hW => ⟨congrArg (fun z => Outcome.returned (some (Value.long z))) hw.symm, ht⟩) ky_nil dc_X0_rankIn_22
  · have hw := hw.trans (if_neg c_0)
    refine lv_ldc2 (v := (-1)) hx hb hown (hts _ kw_1_134) dc_X0_rankIn_7 ?_
    refine lv_lload_n hx hb dc_X0_rankIn_10 rfl (lv_at hl 0 rfl) ?_
    refine ky_cS0 (As := [.long (a0)]) F (mt_X0_sizeIn l (a0)) ks_X0_11 ⟨⟨rfl, rfl⟩, by decide, by decide⟩ rfl hl.1 rfl (Nat.le_of_ble_eq_true rfl) ⟨Nat.zero_le _, Nat.zero_le _⟩ dc_X0_rankIn_11 ?_
    refine lv_lsub hx hb dc_X0_rankIn_14 ?_
    refine lv_goto (tgt := 22) hx hb dc_X0_rankIn_15 (by decide) ?_
    exact W.lret hx hb hr (fun t ht hW => ⟨congrArg (fun z => Outcome.returned (some (Value.long z))) hw.symm, ht⟩) ky_nil dc_X0_rankIn_22
def fn_X0_lastOf (a0 : Int64) (a1 : Int64) : Int64 :=
  if (lg_cmp (fn_X0_rankIn (a0)) (fn_X0_rankIn (a1))) < (0 : Int32) then (a1) else (a0)
set_option linter.constructorNameAsVariable false in
set_option maxHeartbeats 4000000 in
set_option maxRecDepth 100000 in
theorem mt_X0_lastOf (l : Launch) (a0 : Int64) (a1 : Int64) : Met l my_X0_lastOf (.code my_X0_lastOf prog_2_method_17_code 4 (some .long) :: ky_B) { frames := 2, cells := 0, slots := 0, locals := 42 } (ky_P0 [.long (a0), .long (a1)]) (ky_Q0 (some (.long (fn_X0_lastOf a0 a1)))) 0 0 (fun _ => False) := by
  refine ky_start0 (by decide) (Nat.le_of_ble_eq_true rfl) (fun p e s m below meth c F ls hl => ?_)
  obtain ⟨hx, hb, hml, hown, hr, hlocks, hts⟩ := id F
  have hl : lv_has ls 4 [(0, .long (a0)), (2, .long (a1))] := hl
  have hw : fn_X0_lastOf a0 a1 = _ := fn_X0_lastOf.eq_1 a0 a1
  refine lv_lload_n hx hb dc_X0_lastOf_0 rfl (lv_at hl 0 rfl) ?_
  refine ky_cS0 (As := [.long (a0)]) F (mt_X0_rankIn l (a0)) ks_X0_40 ⟨⟨rfl, rfl⟩, by decide, by decide⟩ rfl hl.1 rfl (Nat.le_of_ble_eq_true rfl) ⟨Nat.zero_le _, Nat.zero_le _⟩ dc_X0_lastOf_1 ?_
  refine lv_lload_n hx hb dc_X0_lastOf_4 rfl (lv_at hl 1 rfl) ?_
  refine ky_cS0 (As := [.long (a1)]) F (mt_X0_rankIn l (a1)) ks_X0_40 ⟨⟨rfl, rfl⟩, by decide, by decide⟩ rfl hl.1 rfl (Nat.le_of_ble_eq_true rfl) ⟨Nat.zero_le _, Nat.zero_le _⟩ dc_X0_lastOf_5 ?_
  refine W.lcmp hx hb dc_X0_lastOf_8 ?_
  refine lv_if_lt (tgt := 16) hx hb dc_X0_lastOf_9 (by decide) (fun c_0 => ?_) (fun c_0 => ?_)
  · have hw := hw.trans (if_pos c_0)
    refine lv_lload_n hx hb dc_X0_lastOf_16 rfl (lv_at hl 1 rfl) ?_
    exact W.lret hx hb hr (fun t ht hW => ⟨congrArg (fun z => Outcome.returned (some (Value.long z))) hw.symm, ht⟩) ky_nil dc_X0_lastOf_17
  · have hw := hw.trans (if_neg c_0)
    refine lv_lload_n hx hb dc_X0_lastOf_12 rfl (lv_at hl 0 rfl) ?_
    refine lv_goto (tgt := 17) hx hb dc_X0_lastOf_13 (by decide) ?_
    exact W.lret hx hb hr (fun t ht hW => ⟨congrArg (fun z => Outcome.returned (some (Value.long z))) hw.symm, ht⟩) ky_nil dc_X0_lastOf_17
def fn_X0_firstOf (a0 : Int64) (a1 : Int64) : Int64 :=
  if (0 : Int32) < (lg_cmp (fn_X0_rankIn (a0)) (fn_X0_rankIn (a1))) then (a1) else (a0)
set_option linter.constructorNameAsVariable false in
set_option maxHeartbeats 4000000 in
set_option maxRecDepth 100000 in
theorem mt_X0_firstOf (l : Launch) (a0 : Int64) (a1 : Int64) : Met l my_X0_firstOf (.code my_X0_firstOf prog_2_method_18_code 4 (some .long) :: ky_B) { frames := 2, cells := 0, slots := 0, locals := 42 } (ky_P0 [.long (a0), .long (a1)]) (ky_Q0 (some (.long (fn_X0_firstOf a0 a1)))) 0 0 (fun _ => False) := by
  refine ky_start0 (by decide) (Nat.le_of_ble_eq_true rfl) (fun p e s m below meth c F ls hl => ?_)
  obtain ⟨hx, hb, hml, hown, hr, hlocks, hts⟩ := id F
  have hl : lv_has ls 4 [(0, .long (a0)), (2, .long (a1))] := hl
  have hw : fn_X0_firstOf a0 a1 = _ := fn_X0_firstOf.eq_1 a0 a1
  refine lv_lload_n hx hb dc_X0_firstOf_0 rfl (lv_at hl 0 rfl) ?_
  refine ky_cS0 (As := [.long (a0)]) F (mt_X0_rankIn l (a0)) ks_X0_40 ⟨⟨rfl, rfl⟩, by decide, by decide⟩ rfl hl.1 rfl (Nat.le_of_ble_eq_true rfl) ⟨Nat.zero_le _, Nat.zero_le _⟩ dc_X0_firstOf_1 ?_
  refine lv_lload_n hx hb dc_X0_firstOf_4 rfl (lv_at hl 1 rfl) ?_
  refine ky_cS0 (As := [.long (a1)]) F (mt_X0_rankIn l (a1)) ks_X0_40 ⟨⟨rfl, rfl⟩, by decide, by decide⟩ rfl hl.1 rfl (Nat.le_of_ble_eq_true rfl) ⟨Nat.zero_le _, Nat.zero_le _⟩ dc_X0_firstOf_5 ?_
  refine W.lcmp hx hb dc_X0_firstOf_8 ?_
  refine lv_if_gt (tgt := 16) hx hb dc_X0_firstOf_9 (by decide) (fun c_0 => ?_) (fun c_0 => ?_)
  · have hw := hw.trans (if_pos c_0)
    refine lv_lload_n hx hb dc_X0_firstOf_16 rfl (lv_at hl 1 rfl) ?_
    exact W.lret hx hb hr (fun t ht hW => ⟨congrArg (fun z => Outcome.returned (some (Value.long z))) hw.symm, ht⟩) ky_nil dc_X0_firstOf_17
  · have hw := hw.trans (if_neg c_0)
    refine lv_lload_n hx hb dc_X0_firstOf_12 rfl (lv_at hl 0 rfl) ?_
    refine lv_goto (tgt := 17) hx hb dc_X0_firstOf_13 (by decide) ?_
    exact W.lret hx hb hr (fun t ht hW => ⟨congrArg (fun z => Outcome.returned (some (Value.long z))) hw.symm, ht⟩) ky_nil dc_X0_firstOf_17
end
section
def fn_X2_halvedOften (a0 : Int64) (a1 : Int32) : Int64 :=
  if (0 : Int32) < (lg_cmp ((a0) &&& ((jlshl ((1 : Int64)) (a1)) - ((1 : Int64)))) (jlshl ((1 : Int64)) ((a1) - ((1 : Int32))))) then ((jlushr (a0) (a1)) + ((1 : Int64))) else (if (lg_cmp ((a0) &&& ((jlshl ((1 : Int64)) (a1)) - ((1 : Int64)))) (jlshl ((1 : Int64)) ((a1) - ((1 : Int32))))) = (0 : Int32) then (if (lg_cmp ((jlushr (a0) (a1)) &&& ((1 : Int64))) ((1 : Int64))) = (0 : Int32) then ((jlushr (a0) (a1)) + ((1 : Int64))) else (jlushr (a0) (a1))) else (jlushr (a0) (a1)))
set_option linter.constructorNameAsVariable false in
set_option maxHeartbeats 4000000 in
set_option maxRecDepth 100000 in
theorem mt_X2_halvedOften (l : Launch) (a0 : Int64) (a1 : Int32) : Met l my_X2_halvedOften (.code my_X2_halvedOften prog_4_method_4_code 10 (some .long) :: ky_B) { frames := 0, cells := 0, slots := 0, locals := 0 } (ky_P0 [.long (a0), .int (a1)]) (ky_Q0 (some (.long (fn_X2_halvedOften a0 a1)))) 0 0 (fun _ => False) := by
  refine ky_start0 (by decide) (Nat.le_of_ble_eq_true rfl) (fun p e s m below meth c F ls hl => ?_)
  obtain ⟨hx, hb, hml, hown, hr, hlocks, hts⟩ := id F
  have hl : lv_has ls 10 [(0, .long (a0)), (2, .int (a1))] := hl
  have hw : fn_X2_halvedOften a0 a1 = _ := fn_X2_halvedOften.eq_1 a0 a1
  refine lv_lload_n hx hb dc_X2_halvedOften_0 rfl (lv_at hl 0 rfl) ?_
  refine lv_iload_n hx hb dc_X2_halvedOften_1 rfl (lv_at hl 1 rfl) ?_
  refine lv_lushr (v := jlushr (a0) (a1)) hx hb dc_X2_halvedOften_2 rfl ?_
  refine lv_lstore_n (lv' := [(3, .long (jlushr (a0) (a1))), (0, .long (a0)), (2, .int (a1))]) hx hb dc_X2_halvedOften_3 rfl hl (by decide) rfl (fun ls hl => ?_)
  refine lv_lload_n hx hb dc_X2_halvedOften_4 rfl (lv_at hl 1 rfl) ?_
  refine lv_lconst (v := 1) hx hb dc_X2_halvedOften_5 (by decide) ?_
  refine lv_iload_n hx hb dc_X2_halvedOften_6 rfl (lv_at hl 2 rfl) ?_
  refine lv_lshl (v := jlshl ((1 : Int64)) (a1)) hx hb dc_X2_halvedOften_7 rfl ?_
  refine lv_lconst (v := 1) hx hb dc_X2_halvedOften_8 (by decide) ?_
  refine lv_lsub hx hb dc_X2_halvedOften_9 ?_
  refine lv_land hx hb dc_X2_halvedOften_10 ?_
  refine lv_lstore (lv' := [(5, .long ((a0) &&& ((jlshl ((1 : Int64)) (a1)) - ((1 : Int64))))), (3, .long (jlushr (a0) (a1))), (0, .long (a0)), (2, .int (a1))]) hx hb dc_X2_halvedOften_11 hl (by decide) rfl (fun ls hl => ?_)
  refine lv_lconst (v := 1) hx hb dc_X2_halvedOften_13 (by decide) ?_
  refine lv_iload_n hx hb dc_X2_halvedOften_14 rfl (lv_at hl 3 rfl) ?_
  refine lv_iconst (v := 1) hx hb dc_X2_halvedOften_15 (by decide) ?_
  refine lv_isub hx hb dc_X2_halvedOften_16 ?_
  refine lv_lshl (v := jlshl ((1 : Int64)) ((a1) - ((1 : Int32)))) hx hb dc_X2_halvedOften_17 rfl ?_
  refine lv_lstore (lv' := [(7, .long (jlshl ((1 : Int64)) ((a1) - ((1 : Int32))))), (5, .long ((a0) &&& ((jlshl ((1 : Int64)) (a1)) - ((1 : Int64))))), (3, .long (jlushr (a0) (a1))), (0, .long (a0)), (2, .int (a1))]) hx hb dc_X2_halvedOften_18 hl (by decide) rfl (fun ls hl => ?_)
  refine lv_lload hx hb dc_X2_halvedOften_20 (lv_at hl 1 rfl) ?_
  refine lv_lload hx hb dc_X2_halvedOften_22 (lv_at hl 0 rfl) ?_
  refine W.lcmp hx hb dc_X2_halvedOften_24 ?_
  refine lv_if_gt (tgt := 44) hx hb dc_X2_halvedOften_25 (by decide) (fun c_0 => ?_) (fun c_0 => ?_)
  · have hw := hw.trans (if_pos c_0)
    refine lv_iconst (v := 1) hx hb dc_X2_halvedOften_44 (by decide) ?_
    refine lv_goto (tgt := 49) hx hb dc_X2_halvedOften_45 (by decide) ?_
    refine lv_istore (lv' := [(9, .int ((1 : Int32))), (7, .long (jlshl ((1 : Int64)) ((a1) - ((1 : Int32))))), (5, .long ((a0) &&& ((jlshl ((1 : Int64)) (a1)) - ((1 : Int64))))), (3, .long (jlushr (a0) (a1))), (0, .long (a0)), (2, .int (a1))]) hx hb dc_X2_halvedOften_49 hl (by decide) rfl (fun ls hl => ?_)
    refine lv_iload hx hb dc_X2_halvedOften_51 (lv_at hl 0 rfl) ?_
    refine lv_if_eq (tgt := 62) hx hb dc_X2_halvedOften_53 (by decide) (fun c_1 => absurd c_1 (by decide)) (fun _ => ?_)
    refine lv_lload_n hx hb dc_X2_halvedOften_56 rfl (lv_at hl 3 rfl) ?_
    refine lv_lconst (v := 1) hx hb dc_X2_halvedOften_57 (by decide) ?_
    refine lv_ladd hx hb dc_X2_halvedOften_58 ?_
    refine lv_goto (tgt := 63) hx hb dc_X2_halvedOften_59 (by decide) ?_
    exact W.lret hx hb hr (fun t ht hW => ⟨congrArg (fun z => Outcome.returned (some (Value.long z))) hw.symm, ht⟩) ky_nil dc_X2_halvedOften_63
  · have hw := hw.trans (if_neg c_0)
    refine lv_lload hx hb dc_X2_halvedOften_28 (lv_at hl 1 rfl) ?_
    refine lv_lload hx hb dc_X2_halvedOften_30 (lv_at hl 0 rfl) ?_
    refine W.lcmp hx hb dc_X2_halvedOften_32 ?_
    refine lv_if_ne (tgt := 48) hx hb dc_X2_halvedOften_33 (by decide) (fun c_1 => ?_) (fun c_1 => ?_)
    · have hw := hw.trans (if_neg c_1)
      refine lv_iconst (v := 0) hx hb dc_X2_halvedOften_48 (by decide) ?_
      refine lv_istore (lv' := [(9, .int ((0 : Int32))), (7, .long (jlshl ((1 : Int64)) ((a1) - ((1 : Int32))))), (5, .long ((a0) &&& ((jlshl ((1 : Int64)) (a1)) - ((1 : Int64))))), (3, .long (jlushr (a0) (a1))), (0, .long (a0)), (2, .int (a1))]) hx hb dc_X2_halvedOften_49 hl (by decide) rfl (fun ls hl => ?_)
      refine lv_iload hx hb dc_X2_halvedOften_51 (lv_at hl 0 rfl) ?_
      refine lv_if_eq (tgt := 62) hx hb dc_X2_halvedOften_53 (by decide) (fun _ => ?_) (fun c_2 => absurd c_2 (by decide))
      refine lv_lload_n hx hb dc_X2_halvedOften_62 rfl (lv_at hl 3 rfl) ?_
      exact W.lret hx hb hr (fun t ht hW => ⟨congrArg (fun z => Outcome.returned (some (Value.long z))) hw.symm, ht⟩) ky_nil dc_X2_halvedOften_63
    · have hw := hw.trans (if_pos c_1)
      refine lv_lload_n hx hb dc_X2_halvedOften_36 rfl (lv_at hl 2 rfl) ?_
      refine lv_lconst (v := 1) hx hb dc_X2_halvedOften_37 (by decide) ?_
      refine lv_land hx hb dc_X2_halvedOften_38 ?_
      refine lv_lconst (v := 1) hx hb dc_X2_halvedOften_39 (by decide) ?_
      refine W.lcmp hx hb dc_X2_halvedOften_40 ?_
      refine lv_if_ne (tgt := 48) hx hb dc_X2_halvedOften_41 (by decide) (fun c_2 => ?_) (fun c_2 => ?_)
      · have hw := hw.trans (if_neg c_2)
        refine lv_iconst (v := 0) hx hb dc_X2_halvedOften_48 (by decide) ?_
        refine lv_istore (lv' := [(9, .int ((0 : Int32))), (7, .long (jlshl ((1 : Int64)) ((a1) - ((1 : Int32))))), (5, .long ((a0) &&& ((jlshl ((1 : Int64)) (a1)) - ((1 : Int64))))), (3, .long (jlushr (a0) (a1))), (0, .long (a0)), (2, .int (a1))]) hx hb dc_X2_halvedOften_49 hl (by decide) rfl (fun ls hl => ?_)
        refine lv_iload hx hb dc_X2_halvedOften_51 (lv_at hl 0 rfl) ?_
        refine lv_if_eq (tgt := 62) hx hb dc_X2_halvedOften_53 (by decide) (fun _ => ?_) (fun c_3 => absurd c_3 (by decide))
        refine lv_lload_n hx hb dc_X2_halvedOften_62 rfl (lv_at hl 3 rfl) ?_
        exact W.lret hx hb hr (fun t ht hW => ⟨congrArg (fun z => Outcome.returned (some (Value.long z))) hw.symm, ht⟩) ky_nil dc_X2_halvedOften_63
      · have hw := hw.trans (if_pos c_2)
        refine lv_iconst (v := 1) hx hb dc_X2_halvedOften_44 (by decide) ?_
        refine lv_goto (tgt := 49) hx hb dc_X2_halvedOften_45 (by decide) ?_
        refine lv_istore (lv' := [(9, .int ((1 : Int32))), (7, .long (jlshl ((1 : Int64)) ((a1) - ((1 : Int32))))), (5, .long ((a0) &&& ((jlshl ((1 : Int64)) (a1)) - ((1 : Int64))))), (3, .long (jlushr (a0) (a1))), (0, .long (a0)), (2, .int (a1))]) hx hb dc_X2_halvedOften_49 hl (by decide) rfl (fun ls hl => ?_)
        refine lv_iload hx hb dc_X2_halvedOften_51 (lv_at hl 0 rfl) ?_
        refine lv_if_eq (tgt := 62) hx hb dc_X2_halvedOften_53 (by decide) (fun c_3 => absurd c_3 (by decide)) (fun _ => ?_)
        refine lv_lload_n hx hb dc_X2_halvedOften_56 rfl (lv_at hl 3 rfl) ?_
        refine lv_lconst (v := 1) hx hb dc_X2_halvedOften_57 (by decide) ?_
        refine lv_ladd hx hb dc_X2_halvedOften_58 ?_
        refine lv_goto (tgt := 63) hx hb dc_X2_halvedOften_59 (by decide) ?_
        exact W.lret hx hb hr (fun t ht hW => ⟨congrArg (fun z => Outcome.returned (some (Value.long z))) hw.symm, ht⟩) ky_nil dc_X2_halvedOften_63
def fn_X2_nearestTo_L23 : Nat → Int64 → Int32 → Int32 → Int64
  | 0, _, _, _ => 0
  | n + 1, v3, v5, v6 => if (v6) ≤ (0 : Int32) then (if ((1 : Int32)) ≤ (v5) then (if (v5) < ((2047 : Int32)) then ((jlshl ((v5).toInt64) ((52 : Int32))) + ((v3) - ((4503599627370496 : Int64)))) else ((9218868437227405312 : Int64))) else (fn_X2_halvedOften (v3) (jimin ((60 : Int32)) (((1 : Int32)) - (v5))))) else (if (lg_cmp (jlushr (v3) (((53 : Int32)) - (v6))) ((0 : Int64))) = (0 : Int32) then (fn_X2_nearestTo_L23 n (jlshl (v3) (v6)) ((v5) - (v6)) ((v6) >>> (((1 : Int32)) &&& 31))) else (fn_X2_nearestTo_L23 n (v3) (v5) ((v6) >>> (((1 : Int32)) &&& 31))))
def fk_X2_nearestTo_L23 : Nat → Int64 → Int32 → Int32 → Prop
  | 0, _, _, _ => False
  | n + 1, v3, v5, v6 => (((v6) ≤ (0 : Int32)) → (((((1 : Int32)) ≤ (v5)) → ((((v5) < ((2047 : Int32))) → (True)) ∧ (¬ ((v5) < ((2047 : Int32))) → (True)))) ∧ (¬ (((1 : Int32)) ≤ (v5)) → (True)))) ∧ (¬ ((v6) ≤ (0 : Int32)) → ((((lg_cmp (jlushr (v3) (((53 : Int32)) - (v6))) ((0 : Int64))) = (0 : Int32)) → (fk_X2_nearestTo_L23 n (jlshl (v3) (v6)) ((v5) - (v6)) ((v6) >>> (((1 : Int32)) &&& 31)))) ∧ (¬ ((lg_cmp (jlushr (v3) (((53 : Int32)) - (v6))) ((0 : Int64))) = (0 : Int32)) → (fk_X2_nearestTo_L23 n (v3) (v5) ((v6) >>> (((1 : Int32)) &&& 31))))))
set_option linter.constructorNameAsVariable false in
set_option maxHeartbeats 4000000 in
set_option maxRecDepth 100000 in
theorem ml_X2_nearestTo_L23 {p : Program} {l : Launch} {e : Env} {s : State} {m : MethodId} {args : Array Value} {below : List Frame} {meth : Method} {c : Code} (F : ky_F p s m meth c my_X2_nearestTo.cls prog_4_method_3_code 7 (some .long) args) : ∀ (n : Nat) (v3 : Int64) (v5 : Int32) (v6 : Int32), fk_X2_nearestTo_L23 n v3 v5 v6 → ∀ ls : Array Slot, lv_has ls 7 [(3, .long (v3)), (5, .int (v5)), (6, .int (v6))] → W p l e { frames := 1, cells := 0, slots := 0, locals := 29 } s m args below meth c s.heap [] 0 0 (MQ below (ky_Q0 (some (.long (fn_X2_nearestTo_L23 n v3 v5 v6)))) args s 0 0 (fun _ => False)) (F0 m 23 ls []) := by
  obtain ⟨hx, hb, hml, hown, hr, hlocks, hts⟩ := id F
  intro n
  induction n with
  | zero => intro v3 v5 v6 hk; exact False.elim hk
  | succ n ih =>
      intro v3 v5 v6 hk ls hl
      have hw : fn_X2_nearestTo_L23 (n + 1) v3 v5 v6 = (if (v6) ≤ (0 : Int32) then (if ((1 : Int32)) ≤ (v5) then (if (v5) < ((2047 : Int32)) then ((jlshl ((v5).toInt64) ((52 : Int32))) + ((v3) - ((4503599627370496 : Int64)))) else ((9218868437227405312 : Int64))) else (fn_X2_halvedOften (v3) (jimin ((60 : Int32)) (((1 : Int32)) - (v5))))) else (if (lg_cmp (jlushr (v3) (((53 : Int32)) - (v6))) ((0 : Int64))) = (0 : Int32) then (fn_X2_nearestTo_L23 n (jlshl (v3) (v6)) ((v5) - (v6)) ((v6) >>> (((1 : Int32)) &&& 31))) else (fn_X2_nearestTo_L23 n (v3) (v5) ((v6) >>> (((1 : Int32)) &&& 31))))) := rfl
      have hk : (((v6) ≤ (0 : Int32)) → (((((1 : Int32)) ≤ (v5)) → ((((v5) < ((2047 : Int32))) → (True)) ∧ (¬ ((v5) < ((2047 : Int32))) → (True)))) ∧ (¬ (((1 : Int32)) ≤ (v5)) → (True)))) ∧ (¬ ((v6) ≤ (0 : Int32)) → ((((lg_cmp (jlushr (v3) (((53 : Int32)) - (v6))) ((0 : Int64))) = (0 : Int32)) → (fk_X2_nearestTo_L23 n (jlshl (v3) (v6)) ((v5) - (v6)) ((v6) >>> (((1 : Int32)) &&& 31)))) ∧ (¬ ((lg_cmp (jlushr (v3) (((53 : Int32)) - (v6))) ((0 : Int64))) = (0 : Int32)) → (fk_X2_nearestTo_L23 n (v3) (v5) ((v6) >>> (((1 : Int32)) &&& 31)))))) := hk
      refine lv_iload hx hb dc_X2_nearestTo_23 (lv_at hl 2 rfl) ?_
      refine lv_if_le (tgt := 61) hx hb dc_X2_nearestTo_25 (by decide) (fun c_0 => ?_) (fun c_0 => ?_)
      · have hw := hw.trans (if_pos c_0)
        have hk := hk.1 c_0
        refine lv_iload hx hb dc_X2_nearestTo_61 (lv_at hl 1 rfl) ?_
        refine lv_iconst (v := 1) hx hb dc_X2_nearestTo_63 (by decide) ?_
        refine lv_icmp_ge (tgt := 81) hx hb dc_X2_nearestTo_64 (by decide) (fun c_1 => ?_) (fun c_1 => ?_)
        · have hw := hw.trans (if_pos c_1)
          have hk := hk.1 c_1
          refine lv_iload hx hb dc_X2_nearestTo_81 (lv_at hl 1 rfl) ?_
          refine lv_sipush (v := 2047) hx hb dc_X2_nearestTo_83 (by decide) ?_
          refine lv_icmp_lt (tgt := 93) hx hb dc_X2_nearestTo_86 (by decide) (fun c_2 => ?_) (fun c_2 => ?_)
          · have hw := hw.trans (if_pos c_2)
            have hk := hk.1 c_2
            refine lv_iload hx hb dc_X2_nearestTo_93 (lv_at hl 1 rfl) ?_
            refine lv_i2l (v := (v5).toInt64) hx hb dc_X2_nearestTo_95 rfl ?_
            refine lv_bipush (v := 52) hx hb dc_X2_nearestTo_96 (by decide) ?_
            refine lv_lshl (v := jlshl ((v5).toInt64) ((52 : Int32))) hx hb dc_X2_nearestTo_98 rfl ?_
            refine lv_lload_n hx hb dc_X2_nearestTo_99 rfl (lv_at hl 0 rfl) ?_
            refine lv_ldc2 (v := 4503599627370496) hx hb hown (hts _ kw_3_119) dc_X2_nearestTo_100 ?_
            refine lv_lsub hx hb dc_X2_nearestTo_103 ?_
            refine lv_ladd hx hb dc_X2_nearestTo_104 ?_
            exact W.lret hx hb hr (fun t ht hW => ⟨congrArg (fun z => Outcome.returned (some (Value.long z))) hw.symm, ht⟩) ky_nil dc_X2_nearestTo_105
          · have hw := hw.trans (if_neg c_2)
            have hk := hk.2 c_2
            refine lv_ldc2 (v := 9218868437227405312) hx hb hown (hts _ kw_3_118) dc_X2_nearestTo_89 ?_
            exact W.lret hx hb hr (fun t ht hW => ⟨congrArg (fun z => Outcome.returned (some (Value.long z))) hw.symm, ht⟩) ky_nil dc_X2_nearestTo_92
        · have hw := hw.trans (if_neg c_1)
          have hk := hk.2 c_1
          refine lv_lload_n hx hb dc_X2_nearestTo_67 rfl (lv_at hl 0 rfl) ?_
          refine lv_bipush (v := 60) hx hb dc_X2_nearestTo_68 (by decide) ?_
          refine lv_iconst (v := 1) hx hb dc_X2_nearestTo_70 (by decide) ?_
          refine lv_iload hx hb dc_X2_nearestTo_71 (lv_at hl 1 rfl) ?_
          refine lv_isub hx hb dc_X2_nearestTo_73 ?_
          refine ky_imin F ⟨kw_3_114, kw_1_203, kw_1_16, kw_1_204⟩ hl.1 (Nat.le_of_ble_eq_true rfl) (Nat.le_of_ble_eq_true rfl) ⟨Nat.zero_le _, Nat.zero_le _⟩ dc_X2_nearestTo_74 ?_
          refine ky_cS0 (As := [.long (v3), .int (jimin ((60 : Int32)) (((1 : Int32)) - (v5)))]) F (mt_X2_halvedOften l (v3) (jimin ((60 : Int32)) (((1 : Int32)) - (v5)))) ks_X2_43 ⟨⟨rfl, rfl⟩, by decide, by decide⟩ rfl hl.1 rfl (Nat.le_of_ble_eq_true rfl) ⟨Nat.zero_le _, Nat.zero_le _⟩ dc_X2_nearestTo_77 ?_
          exact W.lret hx hb hr (fun t ht hW => ⟨congrArg (fun z => Outcome.returned (some (Value.long z))) hw.symm, ht⟩) ky_nil dc_X2_nearestTo_80
      · have hw := hw.trans (if_neg c_0)
        have hk := hk.2 c_0
        refine lv_lload_n hx hb dc_X2_nearestTo_28 rfl (lv_at hl 0 rfl) ?_
        refine lv_bipush (v := 53) hx hb dc_X2_nearestTo_29 (by decide) ?_
        refine lv_iload hx hb dc_X2_nearestTo_31 (lv_at hl 2 rfl) ?_
        refine lv_isub hx hb dc_X2_nearestTo_33 ?_
        refine lv_lushr (v := jlushr (v3) (((53 : Int32)) - (v6))) hx hb dc_X2_nearestTo_34 rfl ?_
        refine lv_lconst (v := 0) hx hb dc_X2_nearestTo_35 (by decide) ?_
        refine W.lcmp hx hb dc_X2_nearestTo_36 ?_
        refine lv_if_ne (tgt := 52) hx hb dc_X2_nearestTo_37 (by decide) (fun c_1 => ?_) (fun c_1 => ?_)
        · have hw := hw.trans (if_neg c_1)
          have hk := hk.2 c_1
          refine lv_iload hx hb dc_X2_nearestTo_52 (lv_at hl 2 rfl) ?_
          refine lv_iconst (v := 1) hx hb dc_X2_nearestTo_54 (by decide) ?_
          refine lv_ishr hx hb dc_X2_nearestTo_55 ?_
          refine lv_istore (lv' := [(6, .int ((v6) >>> (((1 : Int32)) &&& 31))), (3, .long (v3)), (5, .int (v5))]) hx hb dc_X2_nearestTo_56 hl (by decide) rfl (fun ls hl => ?_)
          refine lv_goto (tgt := 23) hx hb dc_X2_nearestTo_58 (by decide) ?_
          rw [hw]
          exact ih (v3) (v5) ((v6) >>> (((1 : Int32)) &&& 31)) hk _ (lv_sub hl [1, 2, 0] rfl)
        · have hw := hw.trans (if_pos c_1)
          have hk := hk.1 c_1
          refine lv_lload_n hx hb dc_X2_nearestTo_40 rfl (lv_at hl 0 rfl) ?_
          refine lv_iload hx hb dc_X2_nearestTo_41 (lv_at hl 2 rfl) ?_
          refine lv_lshl (v := jlshl (v3) (v6)) hx hb dc_X2_nearestTo_43 rfl ?_
          refine lv_lstore_n (lv' := [(3, .long (jlshl (v3) (v6))), (5, .int (v5)), (6, .int (v6))]) hx hb dc_X2_nearestTo_44 rfl hl (by decide) rfl (fun ls hl => ?_)
          refine lv_iload hx hb dc_X2_nearestTo_45 (lv_at hl 1 rfl) ?_
          refine lv_iload hx hb dc_X2_nearestTo_47 (lv_at hl 2 rfl) ?_
          refine lv_isub hx hb dc_X2_nearestTo_49 ?_
          refine lv_istore (lv' := [(5, .int ((v5) - (v6))), (3, .long (jlshl (v3) (v6))), (6, .int (v6))]) hx hb dc_X2_nearestTo_50 hl (by decide) rfl (fun ls hl => ?_)
          refine lv_iload hx hb dc_X2_nearestTo_52 (lv_at hl 2 rfl) ?_
          refine lv_iconst (v := 1) hx hb dc_X2_nearestTo_54 (by decide) ?_
          refine lv_ishr hx hb dc_X2_nearestTo_55 ?_
          refine lv_istore (lv' := [(6, .int ((v6) >>> (((1 : Int32)) &&& 31))), (5, .int ((v5) - (v6))), (3, .long (jlshl (v3) (v6)))]) hx hb dc_X2_nearestTo_56 hl (by decide) rfl (fun ls hl => ?_)
          refine lv_goto (tgt := 23) hx hb dc_X2_nearestTo_58 (by decide) ?_
          rw [hw]
          exact ih (jlshl (v3) (v6)) ((v5) - (v6)) ((v6) >>> (((1 : Int32)) &&& 31)) hk _ (lv_sub hl [2, 1, 0] rfl)
theorem ok_X2_nE (n : Nat) (v3 : Int64) (v5 : Int32) : fk_X2_nearestTo_L23 (n + 1) v3 v5 0 :=
  ⟨fun _ => ⟨fun _ => ⟨fun _ => trivial, fun _ => trivial⟩, fun _ => trivial⟩, fun h => absurd (by decide) h⟩
theorem ok_X2_nS {n : Nat} {s s' : Int32} (h : ¬ s ≤ 0) (hs : s >>> ((1 : Int32) &&& 31) = s') (k : ∀ v3 v5, fk_X2_nearestTo_L23 n v3 v5 s') (v3 : Int64) (v5 : Int32) : fk_X2_nearestTo_L23 (n + 1) v3 v5 s :=
  ⟨fun z => absurd z h, fun _ => ⟨fun _ => by rw [hs]; exact k _ _, fun _ => by rw [hs]; exact k _ _⟩⟩
theorem ok_X2_nearestTo : ∀ (v3 : Int64) (v5 : Int32), fk_X2_nearestTo_L23 7 v3 v5 32 :=
  ok_X2_nS (s' := 16) (by decide) (by decide) (ok_X2_nS (s' := 8) (by decide) (by decide) (ok_X2_nS (s' := 4) (by decide) (by decide) (ok_X2_nS (s' := 2) (by decide) (by decide) (ok_X2_nS (s' := 1) (by decide) (by decide) (ok_X2_nS (s' := 0) (by decide) (by decide) (ok_X2_nE 0))))))
def fn_X2_nearestTo (a0 : Int64) (a1 : Int32) : Int64 :=
  if (lg_cmp (a0) ((0 : Int64))) = (0 : Int32) then ((0 : Int64)) else (fn_X2_nearestTo_L23 (7) (a0) (((a1) - ((-1074 : Int32))) + ((1 : Int32))) ((32 : Int32)))
set_option linter.constructorNameAsVariable false in
set_option maxHeartbeats 4000000 in
set_option maxRecDepth 100000 in
theorem mt_X2_nearestTo (l : Launch) (a0 : Int64) (a1 : Int32) : Met l my_X2_nearestTo (.code my_X2_nearestTo prog_4_method_3_code 7 (some .long) :: ky_B) { frames := 1, cells := 0, slots := 0, locals := 29 } (ky_P0 [.long (a0), .int (a1)]) (ky_Q0 (some (.long (fn_X2_nearestTo a0 a1)))) 0 0 (fun _ => False) := by
  refine ky_start0 (by decide) (Nat.le_of_ble_eq_true rfl) (fun p e s m below meth c F ls hl => ?_)
  obtain ⟨hx, hb, hml, hown, hr, hlocks, hts⟩ := id F
  have hl : lv_has ls 7 [(0, .long (a0)), (2, .int (a1))] := hl
  have hw : fn_X2_nearestTo a0 a1 = _ := fn_X2_nearestTo.eq_1 a0 a1
  refine lv_lload_n hx hb dc_X2_nearestTo_0 rfl (lv_at hl 0 rfl) ?_
  refine lv_lconst (v := 0) hx hb dc_X2_nearestTo_1 (by decide) ?_
  refine W.lcmp hx hb dc_X2_nearestTo_2 ?_
  refine lv_if_ne (tgt := 8) hx hb dc_X2_nearestTo_3 (by decide) (fun c_0 => ?_) (fun c_0 => ?_)
  · have hw := hw.trans (if_neg c_0)
    refine lv_lload_n hx hb dc_X2_nearestTo_8 rfl (lv_at hl 0 rfl) ?_
    refine lv_lstore_n (lv' := [(3, .long (a0)), (0, .long (a0)), (2, .int (a1))]) hx hb dc_X2_nearestTo_9 rfl hl (by decide) rfl (fun ls hl => ?_)
    refine lv_iload_n hx hb dc_X2_nearestTo_10 rfl (lv_at hl 2 rfl) ?_
    refine lv_sipush (v := (-1074)) hx hb dc_X2_nearestTo_11 (by decide) ?_
    refine lv_isub hx hb dc_X2_nearestTo_14 ?_
    refine lv_iconst (v := 1) hx hb dc_X2_nearestTo_15 (by decide) ?_
    refine lv_iadd hx hb dc_X2_nearestTo_16 ?_
    refine lv_istore (lv' := [(5, .int (((a1) - ((-1074 : Int32))) + ((1 : Int32)))), (3, .long (a0)), (0, .long (a0)), (2, .int (a1))]) hx hb dc_X2_nearestTo_17 hl (by decide) rfl (fun ls hl => ?_)
    refine lv_bipush (v := 32) hx hb dc_X2_nearestTo_19 (by decide) ?_
    refine lv_istore (lv' := [(6, .int ((32 : Int32))), (5, .int (((a1) - ((-1074 : Int32))) + ((1 : Int32)))), (3, .long (a0)), (0, .long (a0)), (2, .int (a1))]) hx hb dc_X2_nearestTo_21 hl (by decide) rfl (fun ls hl => ?_)
    rw [hw]
    exact ml_X2_nearestTo_L23 F (7) (a0) (((a1) - ((-1074 : Int32))) + ((1 : Int32))) ((32 : Int32)) (ok_X2_nearestTo _ _) _ (lv_sub hl [2, 1, 0] rfl)
  · have hw := hw.trans (if_pos c_0)
    refine lv_lconst (v := 0) hx hb dc_X2_nearestTo_6 (by decide) ?_
    exact W.lret hx hb hr (fun t ht hW => ⟨congrArg (fun z => Outcome.returned (some (Value.long z))) hw.symm, ht⟩) ky_nil dc_X2_nearestTo_7
def fn_X2_timesPower (a0 : Int64) (a1 : Int32) : Int64 :=
  if (lg_cmp (fn_X0_sizeIn (a0)) ((0 : Int64))) = (0 : Int32) then (a0) else (if (fn_X0_isEndlessOne (a0)) = (0 : Int32) then (fn_X0_joined (fn_X2_nearestTo (fn_X0_factorIn (a0)) ((fn_X0_powerIn (a0)) + (jimax ((-2200 : Int32)) (jimin ((2200 : Int32)) (a1))))) (a0)) else (a0))
set_option linter.constructorNameAsVariable false in
set_option maxHeartbeats 4000000 in
set_option maxRecDepth 100000 in
theorem mt_X2_timesPower (l : Launch) (a0 : Int64) (a1 : Int32) : Met l my_X2_timesPower (.code my_X2_timesPower prog_4_method_2_code 4 (some .long) :: ky_B) { frames := 2, cells := 0, slots := 0, locals := 55 } (ky_P0 [.long (a0), .int (a1)]) (ky_Q0 (some (.long (fn_X2_timesPower a0 a1)))) 0 0 (fun _ => False) := by
  refine ky_start0 (by decide) (Nat.le_of_ble_eq_true rfl) (fun p e s m below meth c F ls hl => ?_)
  obtain ⟨hx, hb, hml, hown, hr, hlocks, hts⟩ := id F
  have hl : lv_has ls 4 [(0, .long (a0)), (2, .int (a1))] := hl
  have hw : fn_X2_timesPower a0 a1 = _ := fn_X2_timesPower.eq_1 a0 a1
  refine lv_lload_n hx hb dc_X2_timesPower_0 rfl (lv_at hl 0 rfl) ?_
  refine ky_cS0 (As := [.long (a0)]) F (mt_X0_sizeIn l (a0)) ks_X2_7 ⟨⟨rfl, rfl⟩, by decide, by decide⟩ rfl hl.1 rfl (Nat.le_of_ble_eq_true rfl) ⟨Nat.zero_le _, Nat.zero_le _⟩ dc_X2_timesPower_1 ?_
  refine lv_lconst (v := 0) hx hb dc_X2_timesPower_4 (by decide) ?_
  refine W.lcmp hx hb dc_X2_timesPower_5 ?_
  refine lv_if_eq (tgt := 16) hx hb dc_X2_timesPower_6 (by decide) (fun c_0 => ?_) (fun c_0 => ?_)
  · have hw := hw.trans (if_pos c_0)
    refine lv_lload_n hx hb dc_X2_timesPower_16 rfl (lv_at hl 0 rfl) ?_
    exact W.lret hx hb hr (fun t ht hW => ⟨congrArg (fun z => Outcome.returned (some (Value.long z))) hw.symm, ht⟩) ky_nil dc_X2_timesPower_17
  · have hw := hw.trans (if_neg c_0)
    refine lv_lload_n hx hb dc_X2_timesPower_9 rfl (lv_at hl 0 rfl) ?_
    refine ky_cS0 (As := [.long (a0)]) F (mt_X0_isEndlessOne l (a0)) ks_X2_13 ⟨⟨rfl, rfl⟩, by decide, by decide⟩ rfl hl.1 rfl (Nat.le_of_ble_eq_true rfl) ⟨Nat.zero_le _, Nat.zero_le _⟩ dc_X2_timesPower_10 ?_
    refine lv_if_eq (tgt := 18) hx hb dc_X2_timesPower_13 (by decide) (fun c_1 => ?_) (fun c_1 => ?_)
    · have hw := hw.trans (if_pos c_1)
      refine lv_sipush (v := (-2200)) hx hb dc_X2_timesPower_18 (by decide) ?_
      refine lv_sipush (v := 2200) hx hb dc_X2_timesPower_21 (by decide) ?_
      refine lv_iload_n hx hb dc_X2_timesPower_24 rfl (lv_at hl 1 rfl) ?_
      refine ky_imin F ⟨kw_3_114, kw_1_203, kw_1_16, kw_1_204⟩ hl.1 (Nat.le_of_ble_eq_true rfl) (Nat.le_of_ble_eq_true rfl) ⟨Nat.zero_le _, Nat.zero_le _⟩ dc_X2_timesPower_25 ?_
      refine ky_imax F ⟨kw_3_186, kw_1_185, kw_1_16, kw_1_186⟩ hl.1 (Nat.le_of_ble_eq_true rfl) (Nat.le_of_ble_eq_true rfl) ⟨Nat.zero_le _, Nat.zero_le _⟩ dc_X2_timesPower_28 ?_
      refine lv_istore_n (lv' := [(3, .int (jimax ((-2200 : Int32)) (jimin ((2200 : Int32)) (a1)))), (0, .long (a0)), (2, .int (a1))]) hx hb dc_X2_timesPower_31 rfl hl (by decide) rfl (fun ls hl => ?_)
      refine lv_lload_n hx hb dc_X2_timesPower_32 rfl (lv_at hl 1 rfl) ?_
      refine ky_cS0 (As := [.long (a0)]) F (mt_X0_factorIn l (a0)) ks_X2_28 ⟨⟨rfl, rfl⟩, by decide, by decide⟩ rfl hl.1 rfl (Nat.le_of_ble_eq_true rfl) ⟨Nat.zero_le _, Nat.zero_le _⟩ dc_X2_timesPower_33 ?_
      refine lv_lload_n hx hb dc_X2_timesPower_36 rfl (lv_at hl 1 rfl) ?_
      refine ky_cS0 (As := [.long (a0)]) F (mt_X0_powerIn l (a0)) ks_X2_31 ⟨⟨rfl, rfl⟩, by decide, by decide⟩ rfl hl.1 rfl (Nat.le_of_ble_eq_true rfl) ⟨Nat.zero_le _, Nat.zero_le _⟩ dc_X2_timesPower_37 ?_
      refine lv_iload_n hx hb dc_X2_timesPower_40 rfl (lv_at hl 0 rfl) ?_
      refine lv_iadd hx hb dc_X2_timesPower_41 ?_
      refine ky_cS0 (As := [.long (fn_X0_factorIn (a0)), .int ((fn_X0_powerIn (a0)) + (jimax ((-2200 : Int32)) (jimin ((2200 : Int32)) (a1))))]) F (mt_X2_nearestTo l (fn_X0_factorIn (a0)) ((fn_X0_powerIn (a0)) + (jimax ((-2200 : Int32)) (jimin ((2200 : Int32)) (a1))))) ks_X2_35 ⟨⟨rfl, rfl⟩, by decide, by decide⟩ rfl hl.1 rfl (Nat.le_of_ble_eq_true rfl) ⟨Nat.zero_le _, Nat.zero_le _⟩ dc_X2_timesPower_42 ?_
      refine lv_lload_n hx hb dc_X2_timesPower_45 rfl (lv_at hl 1 rfl) ?_
      refine ky_cS0 (As := [.long (fn_X2_nearestTo (fn_X0_factorIn (a0)) ((fn_X0_powerIn (a0)) + (jimax ((-2200 : Int32)) (jimin ((2200 : Int32)) (a1))))), .long (a0)]) F (mt_X0_joined l (fn_X2_nearestTo (fn_X0_factorIn (a0)) ((fn_X0_powerIn (a0)) + (jimax ((-2200 : Int32)) (jimin ((2200 : Int32)) (a1))))) (a0)) ks_X2_39 ⟨⟨rfl, rfl⟩, by decide, by decide⟩ rfl hl.1 rfl (Nat.le_of_ble_eq_true rfl) ⟨Nat.zero_le _, Nat.zero_le _⟩ dc_X2_timesPower_46 ?_
      exact W.lret hx hb hr (fun t ht hW => ⟨congrArg (fun z => Outcome.returned (some (Value.long z))) hw.symm, ht⟩) ky_nil dc_X2_timesPower_49
    · have hw := hw.trans (if_neg c_1)
      refine lv_lload_n hx hb dc_X2_timesPower_16 rfl (lv_at hl 0 rfl) ?_
      exact W.lret hx hb hr (fun t ht hW => ⟨congrArg (fun z => Outcome.returned (some (Value.long z))) hw.symm, ht⟩) ky_nil dc_X2_timesPower_17
end
section
def fn_X4_wholeLike (a0 : Int64) (a1 : Int64) : Int64 :=
  fn_X0_joined (fn_X2_nearestTo (a1) ((0 : Int32))) (a0)
set_option linter.constructorNameAsVariable false in
set_option maxHeartbeats 4000000 in
set_option maxRecDepth 100000 in
theorem mt_X4_wholeLike (l : Launch) (a0 : Int64) (a1 : Int64) : Met l my_X4_wholeLike (.code my_X4_wholeLike prog_6_method_5_code 4 (some .long) :: ky_B) { frames := 2, cells := 0, slots := 0, locals := 55 } (ky_P0 [.long (a0), .long (a1)]) (ky_Q0 (some (.long (fn_X4_wholeLike a0 a1)))) 0 0 (fun _ => False) := by
  refine ky_start0 (by decide) (Nat.le_of_ble_eq_true rfl) (fun p e s m below meth c F ls hl => ?_)
  obtain ⟨hx, hb, hml, hown, hr, hlocks, hts⟩ := id F
  have hl : lv_has ls 4 [(0, .long (a0)), (2, .long (a1))] := hl
  have hw : fn_X4_wholeLike a0 a1 = _ := fn_X4_wholeLike.eq_1 a0 a1
  refine lv_lload_n hx hb dc_X4_wholeLike_0 rfl (lv_at hl 1 rfl) ?_
  refine lv_iconst (v := 0) hx hb dc_X4_wholeLike_1 (by decide) ?_
  refine ky_cS0 (As := [.long (a1), .int ((0 : Int32))]) F (mt_X2_nearestTo l (a1) ((0 : Int32))) ks_X4_39 ⟨⟨rfl, rfl⟩, by decide, by decide⟩ rfl hl.1 rfl (Nat.le_of_ble_eq_true rfl) ⟨Nat.zero_le _, Nat.zero_le _⟩ dc_X4_wholeLike_2 ?_
  refine lv_lload_n hx hb dc_X4_wholeLike_5 rfl (lv_at hl 0 rfl) ?_
  refine ky_cS0 (As := [.long (fn_X2_nearestTo (a1) ((0 : Int32))), .long (a0)]) F (mt_X0_joined l (fn_X2_nearestTo (a1) ((0 : Int32))) (a0)) ks_X4_42 ⟨⟨rfl, rfl⟩, by decide, by decide⟩ rfl hl.1 rfl (Nat.le_of_ble_eq_true rfl) ⟨Nat.zero_le _, Nat.zero_le _⟩ dc_X4_wholeLike_6 ?_
  exact W.lret hx hb hr (fun t ht hW => ⟨congrArg (fun z => Outcome.returned (some (Value.long z))) hw.symm, ht⟩) ky_nil dc_X4_wholeLike_9
def fn_X4_floorFrom (a0 : Int64) : Int64 :=
  if (lg_cmp (fn_X0_restIn (a0)) ((0 : Int64))) = (0 : Int32) then (a0) else (if (fn_X0_isDownOne (a0)) = (0 : Int32) then (fn_X4_wholeLike (a0) ((fn_X0_aheadIn (a0)) + (((0 : Int32)).toInt64))) else (fn_X4_wholeLike (a0) ((fn_X0_aheadIn (a0)) + (((1 : Int32)).toInt64))))
set_option linter.constructorNameAsVariable false in
set_option maxHeartbeats 4000000 in
set_option maxRecDepth 100000 in
theorem mt_X4_floorFrom (l : Launch) (a0 : Int64) : Met l my_X4_floorFrom (.code my_X4_floorFrom prog_6_method_2_code 2 (some .long) :: ky_B) { frames := 3, cells := 0, slots := 0, locals := 78 } (ky_P0 [.long (a0)]) (ky_Q0 (some (.long (fn_X4_floorFrom a0)))) 0 0 (fun _ => False) := by
  refine ky_start0 (by decide) (Nat.le_of_ble_eq_true rfl) (fun p e s m below meth c F ls hl => ?_)
  obtain ⟨hx, hb, hml, hown, hr, hlocks, hts⟩ := id F
  have hl : lv_has ls 2 [(0, .long (a0))] := hl
  have hw : fn_X4_floorFrom a0 = _ := fn_X4_floorFrom.eq_1 a0
  refine lv_lload_n hx hb dc_X4_floorFrom_0 rfl (lv_at hl 0 rfl) ?_
  refine ky_cS0 (As := [.long (a0)]) F (mt_X0_restIn l (a0)) ks_X4_7 ⟨⟨rfl, rfl⟩, by decide, by decide⟩ rfl hl.1 rfl (Nat.le_of_ble_eq_true rfl) ⟨Nat.zero_le _, Nat.zero_le _⟩ dc_X4_floorFrom_1 ?_
  refine lv_lconst (v := 0) hx hb dc_X4_floorFrom_4 (by decide) ?_
  refine W.lcmp hx hb dc_X4_floorFrom_5 ?_
  refine lv_if_ne (tgt := 11) hx hb dc_X4_floorFrom_6 (by decide) (fun c_0 => ?_) (fun c_0 => ?_)
  · have hw := hw.trans (if_neg c_0)
    refine lv_lload_n hx hb dc_X4_floorFrom_11 rfl (lv_at hl 0 rfl) ?_
    refine lv_lload_n hx hb dc_X4_floorFrom_12 rfl (lv_at hl 0 rfl) ?_
    refine ky_cS0 (As := [.long (a0)]) F (mt_X0_aheadIn l (a0)) ks_X4_13 ⟨⟨rfl, rfl⟩, by decide, by decide⟩ rfl hl.1 rfl (Nat.le_of_ble_eq_true rfl) ⟨Nat.zero_le _, Nat.zero_le _⟩ dc_X4_floorFrom_13 ?_
    refine lv_lload_n hx hb dc_X4_floorFrom_16 rfl (lv_at hl 0 rfl) ?_
    refine ky_cS0 (As := [.long (a0)]) F (mt_X0_isDownOne l (a0)) ks_X4_16 ⟨⟨rfl, rfl⟩, by decide, by decide⟩ rfl hl.1 rfl (Nat.le_of_ble_eq_true rfl) ⟨Nat.zero_le _, Nat.zero_le _⟩ dc_X4_floorFrom_17 ?_
    refine lv_if_eq (tgt := 27) hx hb dc_X4_floorFrom_20 (by decide) (fun c_1 => ?_) (fun c_1 => ?_)
    · have hw := hw.trans (if_pos c_1)
      refine lv_iconst (v := 0) hx hb dc_X4_floorFrom_27 (by decide) ?_
      refine lv_i2l (v := ((0 : Int32)).toInt64) hx hb dc_X4_floorFrom_28 rfl ?_
      refine lv_ladd hx hb dc_X4_floorFrom_29 ?_
      refine ky_cS0 (As := [.long (a0), .long ((fn_X0_aheadIn (a0)) + (((0 : Int32)).toInt64))]) F (mt_X4_wholeLike l (a0) ((fn_X0_aheadIn (a0)) + (((0 : Int32)).toInt64))) ks_X4_20 ⟨⟨rfl, rfl⟩, by decide, by decide⟩ rfl hl.1 rfl (Nat.le_of_ble_eq_true rfl) ⟨Nat.zero_le _, Nat.zero_le _⟩ dc_X4_floorFrom_30 ?_
      exact W.lret hx hb hr (fun t ht hW => ⟨congrArg (fun z => Outcome.returned (some (Value.long z))) hw.symm, ht⟩) ky_nil dc_X4_floorFrom_33
    · have hw := hw.trans (if_neg c_1)
      refine lv_iconst (v := 1) hx hb dc_X4_floorFrom_23 (by decide) ?_
      refine lv_goto (tgt := 28) hx hb dc_X4_floorFrom_24 (by decide) ?_
      refine lv_i2l (v := ((1 : Int32)).toInt64) hx hb dc_X4_floorFrom_28 rfl ?_
      refine lv_ladd hx hb dc_X4_floorFrom_29 ?_
      refine ky_cS0 (As := [.long (a0), .long ((fn_X0_aheadIn (a0)) + (((1 : Int32)).toInt64))]) F (mt_X4_wholeLike l (a0) ((fn_X0_aheadIn (a0)) + (((1 : Int32)).toInt64))) ks_X4_20 ⟨⟨rfl, rfl⟩, by decide, by decide⟩ rfl hl.1 rfl (Nat.le_of_ble_eq_true rfl) ⟨Nat.zero_le _, Nat.zero_le _⟩ dc_X4_floorFrom_30 ?_
      exact W.lret hx hb hr (fun t ht hW => ⟨congrArg (fun z => Outcome.returned (some (Value.long z))) hw.symm, ht⟩) ky_nil dc_X4_floorFrom_33
  · have hw := hw.trans (if_pos c_0)
    refine lv_lload_n hx hb dc_X4_floorFrom_9 rfl (lv_at hl 0 rfl) ?_
    exact W.lret hx hb hr (fun t ht hW => ⟨congrArg (fun z => Outcome.returned (some (Value.long z))) hw.symm, ht⟩) ky_nil dc_X4_floorFrom_10
def fn_X4_ceilFrom (a0 : Int64) : Int64 :=
  if (lg_cmp (fn_X0_restIn (a0)) ((0 : Int64))) = (0 : Int32) then (a0) else (if (fn_X0_isDownOne (a0)) = (0 : Int32) then (fn_X4_wholeLike (a0) ((fn_X0_aheadIn (a0)) + (((1 : Int32)).toInt64))) else (fn_X4_wholeLike (a0) ((fn_X0_aheadIn (a0)) + (((0 : Int32)).toInt64))))
set_option linter.constructorNameAsVariable false in
set_option maxHeartbeats 4000000 in
set_option maxRecDepth 100000 in
theorem mt_X4_ceilFrom (l : Launch) (a0 : Int64) : Met l my_X4_ceilFrom (.code my_X4_ceilFrom prog_6_method_3_code 2 (some .long) :: ky_B) { frames := 3, cells := 0, slots := 0, locals := 78 } (ky_P0 [.long (a0)]) (ky_Q0 (some (.long (fn_X4_ceilFrom a0)))) 0 0 (fun _ => False) := by
  refine ky_start0 (by decide) (Nat.le_of_ble_eq_true rfl) (fun p e s m below meth c F ls hl => ?_)
  obtain ⟨hx, hb, hml, hown, hr, hlocks, hts⟩ := id F
  have hl : lv_has ls 2 [(0, .long (a0))] := hl
  have hw : fn_X4_ceilFrom a0 = _ := fn_X4_ceilFrom.eq_1 a0
  refine lv_lload_n hx hb dc_X4_ceilFrom_0 rfl (lv_at hl 0 rfl) ?_
  refine ky_cS0 (As := [.long (a0)]) F (mt_X0_restIn l (a0)) ks_X4_7 ⟨⟨rfl, rfl⟩, by decide, by decide⟩ rfl hl.1 rfl (Nat.le_of_ble_eq_true rfl) ⟨Nat.zero_le _, Nat.zero_le _⟩ dc_X4_ceilFrom_1 ?_
  refine lv_lconst (v := 0) hx hb dc_X4_ceilFrom_4 (by decide) ?_
  refine W.lcmp hx hb dc_X4_ceilFrom_5 ?_
  refine lv_if_ne (tgt := 11) hx hb dc_X4_ceilFrom_6 (by decide) (fun c_0 => ?_) (fun c_0 => ?_)
  · have hw := hw.trans (if_neg c_0)
    refine lv_lload_n hx hb dc_X4_ceilFrom_11 rfl (lv_at hl 0 rfl) ?_
    refine lv_lload_n hx hb dc_X4_ceilFrom_12 rfl (lv_at hl 0 rfl) ?_
    refine ky_cS0 (As := [.long (a0)]) F (mt_X0_aheadIn l (a0)) ks_X4_13 ⟨⟨rfl, rfl⟩, by decide, by decide⟩ rfl hl.1 rfl (Nat.le_of_ble_eq_true rfl) ⟨Nat.zero_le _, Nat.zero_le _⟩ dc_X4_ceilFrom_13 ?_
    refine lv_lload_n hx hb dc_X4_ceilFrom_16 rfl (lv_at hl 0 rfl) ?_
    refine ky_cS0 (As := [.long (a0)]) F (mt_X0_isDownOne l (a0)) ks_X4_16 ⟨⟨rfl, rfl⟩, by decide, by decide⟩ rfl hl.1 rfl (Nat.le_of_ble_eq_true rfl) ⟨Nat.zero_le _, Nat.zero_le _⟩ dc_X4_ceilFrom_17 ?_
    refine lv_if_eq (tgt := 27) hx hb dc_X4_ceilFrom_20 (by decide) (fun c_1 => ?_) (fun c_1 => ?_)
    · have hw := hw.trans (if_pos c_1)
      refine lv_iconst (v := 1) hx hb dc_X4_ceilFrom_27 (by decide) ?_
      refine lv_i2l (v := ((1 : Int32)).toInt64) hx hb dc_X4_ceilFrom_28 rfl ?_
      refine lv_ladd hx hb dc_X4_ceilFrom_29 ?_
      refine ky_cS0 (As := [.long (a0), .long ((fn_X0_aheadIn (a0)) + (((1 : Int32)).toInt64))]) F (mt_X4_wholeLike l (a0) ((fn_X0_aheadIn (a0)) + (((1 : Int32)).toInt64))) ks_X4_20 ⟨⟨rfl, rfl⟩, by decide, by decide⟩ rfl hl.1 rfl (Nat.le_of_ble_eq_true rfl) ⟨Nat.zero_le _, Nat.zero_le _⟩ dc_X4_ceilFrom_30 ?_
      exact W.lret hx hb hr (fun t ht hW => ⟨congrArg (fun z => Outcome.returned (some (Value.long z))) hw.symm, ht⟩) ky_nil dc_X4_ceilFrom_33
    · have hw := hw.trans (if_neg c_1)
      refine lv_iconst (v := 0) hx hb dc_X4_ceilFrom_23 (by decide) ?_
      refine lv_goto (tgt := 28) hx hb dc_X4_ceilFrom_24 (by decide) ?_
      refine lv_i2l (v := ((0 : Int32)).toInt64) hx hb dc_X4_ceilFrom_28 rfl ?_
      refine lv_ladd hx hb dc_X4_ceilFrom_29 ?_
      refine ky_cS0 (As := [.long (a0), .long ((fn_X0_aheadIn (a0)) + (((0 : Int32)).toInt64))]) F (mt_X4_wholeLike l (a0) ((fn_X0_aheadIn (a0)) + (((0 : Int32)).toInt64))) ks_X4_20 ⟨⟨rfl, rfl⟩, by decide, by decide⟩ rfl hl.1 rfl (Nat.le_of_ble_eq_true rfl) ⟨Nat.zero_le _, Nat.zero_le _⟩ dc_X4_ceilFrom_30 ?_
      exact W.lret hx hb hr (fun t ht hW => ⟨congrArg (fun z => Outcome.returned (some (Value.long z))) hw.symm, ht⟩) ky_nil dc_X4_ceilFrom_33
  · have hw := hw.trans (if_pos c_0)
    refine lv_lload_n hx hb dc_X4_ceilFrom_9 rfl (lv_at hl 0 rfl) ?_
    exact W.lret hx hb hr (fun t ht hW => ⟨congrArg (fun z => Outcome.returned (some (Value.long z))) hw.symm, ht⟩) ky_nil dc_X4_ceilFrom_10
def fn_X4_rintFrom (a0 : Int64) : Int64 :=
  if (lg_cmp (fn_X0_restIn (a0)) ((0 : Int64))) = (0 : Int32) then (a0) else (fn_X4_wholeLike (a0) (fn_X2_halvedOften (fn_X0_factorIn (a0)) (fn_X0_behindIn (a0))))
set_option linter.constructorNameAsVariable false in
set_option maxHeartbeats 4000000 in
set_option maxRecDepth 100000 in
theorem mt_X4_rintFrom (l : Launch) (a0 : Int64) : Met l my_X4_rintFrom (.code my_X4_rintFrom prog_6_method_4_code 2 (some .long) :: ky_B) { frames := 3, cells := 0, slots := 0, locals := 78 } (ky_P0 [.long (a0)]) (ky_Q0 (some (.long (fn_X4_rintFrom a0)))) 0 0 (fun _ => False) := by
  refine ky_start0 (by decide) (Nat.le_of_ble_eq_true rfl) (fun p e s m below meth c F ls hl => ?_)
  obtain ⟨hx, hb, hml, hown, hr, hlocks, hts⟩ := id F
  have hl : lv_has ls 2 [(0, .long (a0))] := hl
  have hw : fn_X4_rintFrom a0 = _ := fn_X4_rintFrom.eq_1 a0
  refine lv_lload_n hx hb dc_X4_rintFrom_0 rfl (lv_at hl 0 rfl) ?_
  refine ky_cS0 (As := [.long (a0)]) F (mt_X0_restIn l (a0)) ks_X4_7 ⟨⟨rfl, rfl⟩, by decide, by decide⟩ rfl hl.1 rfl (Nat.le_of_ble_eq_true rfl) ⟨Nat.zero_le _, Nat.zero_le _⟩ dc_X4_rintFrom_1 ?_
  refine lv_lconst (v := 0) hx hb dc_X4_rintFrom_4 (by decide) ?_
  refine W.lcmp hx hb dc_X4_rintFrom_5 ?_
  refine lv_if_ne (tgt := 11) hx hb dc_X4_rintFrom_6 (by decide) (fun c_0 => ?_) (fun c_0 => ?_)
  · have hw := hw.trans (if_neg c_0)
    refine lv_lload_n hx hb dc_X4_rintFrom_11 rfl (lv_at hl 0 rfl) ?_
    refine lv_lload_n hx hb dc_X4_rintFrom_12 rfl (lv_at hl 0 rfl) ?_
    refine ky_cS0 (As := [.long (a0)]) F (mt_X0_factorIn l (a0)) ks_X4_26 ⟨⟨rfl, rfl⟩, by decide, by decide⟩ rfl hl.1 rfl (Nat.le_of_ble_eq_true rfl) ⟨Nat.zero_le _, Nat.zero_le _⟩ dc_X4_rintFrom_13 ?_
    refine lv_lload_n hx hb dc_X4_rintFrom_16 rfl (lv_at hl 0 rfl) ?_
    refine ky_cS0 (As := [.long (a0)]) F (mt_X0_behindIn l (a0)) ks_X4_29 ⟨⟨rfl, rfl⟩, by decide, by decide⟩ rfl hl.1 rfl (Nat.le_of_ble_eq_true rfl) ⟨Nat.zero_le _, Nat.zero_le _⟩ dc_X4_rintFrom_17 ?_
    refine ky_cS0 (As := [.long (fn_X0_factorIn (a0)), .int (fn_X0_behindIn (a0))]) F (mt_X2_halvedOften l (fn_X0_factorIn (a0)) (fn_X0_behindIn (a0))) ks_X4_33 ⟨⟨rfl, rfl⟩, by decide, by decide⟩ rfl hl.1 rfl (Nat.le_of_ble_eq_true rfl) ⟨Nat.zero_le _, Nat.zero_le _⟩ dc_X4_rintFrom_20 ?_
    refine ky_cS0 (As := [.long (a0), .long (fn_X2_halvedOften (fn_X0_factorIn (a0)) (fn_X0_behindIn (a0)))]) F (mt_X4_wholeLike l (a0) (fn_X2_halvedOften (fn_X0_factorIn (a0)) (fn_X0_behindIn (a0)))) ks_X4_20 ⟨⟨rfl, rfl⟩, by decide, by decide⟩ rfl hl.1 rfl (Nat.le_of_ble_eq_true rfl) ⟨Nat.zero_le _, Nat.zero_le _⟩ dc_X4_rintFrom_23 ?_
    exact W.lret hx hb hr (fun t ht hW => ⟨congrArg (fun z => Outcome.returned (some (Value.long z))) hw.symm, ht⟩) ky_nil dc_X4_rintFrom_26
  · have hw := hw.trans (if_pos c_0)
    refine lv_lload_n hx hb dc_X4_rintFrom_9 rfl (lv_at hl 0 rfl) ?_
    exact W.lret hx hb hr (fun t ht hW => ⟨congrArg (fun z => Outcome.returned (some (Value.long z))) hw.symm, ht⟩) ky_nil dc_X4_rintFrom_10
def fn_X4_signFrom (a0 : Int64) : Int64 :=
  if (lg_cmp (fn_X0_sizeIn (a0)) ((0 : Int64))) = (0 : Int32) then (a0) else (fn_X0_joined ((4607182418800017408 : Int64)) (a0))
set_option linter.constructorNameAsVariable false in
set_option maxHeartbeats 4000000 in
set_option maxRecDepth 100000 in
theorem mt_X4_signFrom (l : Launch) (a0 : Int64) : Met l my_X4_signFrom (.code my_X4_signFrom prog_6_method_6_code 2 (some .long) :: ky_B) { frames := 2, cells := 0, slots := 0, locals := 44 } (ky_P0 [.long (a0)]) (ky_Q0 (some (.long (fn_X4_signFrom a0)))) 0 0 (fun _ => False) := by
  refine ky_start0 (by decide) (Nat.le_of_ble_eq_true rfl) (fun p e s m below meth c F ls hl => ?_)
  obtain ⟨hx, hb, hml, hown, hr, hlocks, hts⟩ := id F
  have hl : lv_has ls 2 [(0, .long (a0))] := hl
  have hw : fn_X4_signFrom a0 = _ := fn_X4_signFrom.eq_1 a0
  refine lv_lload_n hx hb dc_X4_signFrom_0 rfl (lv_at hl 0 rfl) ?_
  refine ky_cS0 (As := [.long (a0)]) F (mt_X0_sizeIn l (a0)) ks_X4_45 ⟨⟨rfl, rfl⟩, by decide, by decide⟩ rfl hl.1 rfl (Nat.le_of_ble_eq_true rfl) ⟨Nat.zero_le _, Nat.zero_le _⟩ dc_X4_signFrom_1 ?_
  refine lv_lconst (v := 0) hx hb dc_X4_signFrom_4 (by decide) ?_
  refine W.lcmp hx hb dc_X4_signFrom_5 ?_
  refine lv_if_ne (tgt := 13) hx hb dc_X4_signFrom_6 (by decide) (fun c_0 => ?_) (fun c_0 => ?_)
  · have hw := hw.trans (if_neg c_0)
    refine lv_ldc2 (v := 4607182418800017408) hx hb hown (hts _ kw_3_180) dc_X4_signFrom_13 ?_
    refine lv_lload_n hx hb dc_X4_signFrom_16 rfl (lv_at hl 0 rfl) ?_
    refine ky_cS0 (As := [.long ((4607182418800017408 : Int64)), .long (a0)]) F (mt_X0_joined l ((4607182418800017408 : Int64)) (a0)) ks_X4_42 ⟨⟨rfl, rfl⟩, by decide, by decide⟩ rfl hl.1 rfl (Nat.le_of_ble_eq_true rfl) ⟨Nat.zero_le _, Nat.zero_le _⟩ dc_X4_signFrom_17 ?_
    exact W.lret hx hb hr (fun t ht hW => ⟨congrArg (fun z => Outcome.returned (some (Value.long z))) hw.symm, ht⟩) ky_nil dc_X4_signFrom_20
  · have hw := hw.trans (if_pos c_0)
    refine lv_lload_n hx hb dc_X4_signFrom_9 rfl (lv_at hl 0 rfl) ?_
    refine lv_goto (tgt := 20) hx hb dc_X4_signFrom_10 (by decide) ?_
    exact W.lret hx hb hr (fun t ht hW => ⟨congrArg (fun z => Outcome.returned (some (Value.long z))) hw.symm, ht⟩) ky_nil dc_X4_signFrom_20
def fn_X4_upFrom (a0 : Int64) : Int64 :=
  if (lg_cmp (a0) ((9218868437227405312 : Int64))) = (0 : Int32) then (a0) else (if (lg_cmp (fn_X0_sizeIn (a0)) ((0 : Int64))) = (0 : Int32) then ((1 : Int64)) else (if (fn_X0_isDownOne (a0)) = (0 : Int32) then ((a0) + ((1 : Int64))) else ((a0) - ((1 : Int64)))))
set_option linter.constructorNameAsVariable false in
set_option maxHeartbeats 4000000 in
set_option maxRecDepth 100000 in
theorem mt_X4_upFrom (l : Launch) (a0 : Int64) : Met l my_X4_upFrom (.code my_X4_upFrom prog_6_method_7_code 2 (some .long) :: ky_B) { frames := 1, cells := 0, slots := 0, locals := 21 } (ky_P0 [.long (a0)]) (ky_Q0 (some (.long (fn_X4_upFrom a0)))) 0 0 (fun _ => False) := by
  refine ky_start0 (by decide) (Nat.le_of_ble_eq_true rfl) (fun p e s m below meth c F ls hl => ?_)
  obtain ⟨hx, hb, hml, hown, hr, hlocks, hts⟩ := id F
  have hl : lv_has ls 2 [(0, .long (a0))] := hl
  have hw : fn_X4_upFrom a0 = _ := fn_X4_upFrom.eq_1 a0
  refine lv_lload_n hx hb dc_X4_upFrom_0 rfl (lv_at hl 0 rfl) ?_
  refine lv_ldc2 (v := 9218868437227405312) hx hb hown (hts _ kw_3_151) dc_X4_upFrom_1 ?_
  refine W.lcmp hx hb dc_X4_upFrom_4 ?_
  refine lv_if_ne (tgt := 10) hx hb dc_X4_upFrom_5 (by decide) (fun c_0 => ?_) (fun c_0 => ?_)
  · have hw := hw.trans (if_neg c_0)
    refine lv_lload_n hx hb dc_X4_upFrom_10 rfl (lv_at hl 0 rfl) ?_
    refine ky_cS0 (As := [.long (a0)]) F (mt_X0_sizeIn l (a0)) ks_X4_45 ⟨⟨rfl, rfl⟩, by decide, by decide⟩ rfl hl.1 rfl (Nat.le_of_ble_eq_true rfl) ⟨Nat.zero_le _, Nat.zero_le _⟩ dc_X4_upFrom_11 ?_
    refine lv_lconst (v := 0) hx hb dc_X4_upFrom_14 (by decide) ?_
    refine W.lcmp hx hb dc_X4_upFrom_15 ?_
    refine lv_if_ne (tgt := 21) hx hb dc_X4_upFrom_16 (by decide) (fun c_1 => ?_) (fun c_1 => ?_)
    · have hw := hw.trans (if_neg c_1)
      refine lv_lload_n hx hb dc_X4_upFrom_21 rfl (lv_at hl 0 rfl) ?_
      refine ky_cS0 (As := [.long (a0)]) F (mt_X0_isDownOne l (a0)) ks_X4_16 ⟨⟨rfl, rfl⟩, by decide, by decide⟩ rfl hl.1 rfl (Nat.le_of_ble_eq_true rfl) ⟨Nat.zero_le _, Nat.zero_le _⟩ dc_X4_upFrom_22 ?_
      refine lv_if_eq (tgt := 34) hx hb dc_X4_upFrom_25 (by decide) (fun c_2 => ?_) (fun c_2 => ?_)
      · have hw := hw.trans (if_pos c_2)
        refine lv_lload_n hx hb dc_X4_upFrom_34 rfl (lv_at hl 0 rfl) ?_
        refine lv_lconst (v := 1) hx hb dc_X4_upFrom_35 (by decide) ?_
        refine lv_ladd hx hb dc_X4_upFrom_36 ?_
        exact W.lret hx hb hr (fun t ht hW => ⟨congrArg (fun z => Outcome.returned (some (Value.long z))) hw.symm, ht⟩) ky_nil dc_X4_upFrom_37
      · have hw := hw.trans (if_neg c_2)
        refine lv_lload_n hx hb dc_X4_upFrom_28 rfl (lv_at hl 0 rfl) ?_
        refine lv_lconst (v := 1) hx hb dc_X4_upFrom_29 (by decide) ?_
        refine lv_lsub hx hb dc_X4_upFrom_30 ?_
        refine lv_goto (tgt := 37) hx hb dc_X4_upFrom_31 (by decide) ?_
        exact W.lret hx hb hr (fun t ht hW => ⟨congrArg (fun z => Outcome.returned (some (Value.long z))) hw.symm, ht⟩) ky_nil dc_X4_upFrom_37
    · have hw := hw.trans (if_pos c_1)
      refine lv_lconst (v := 1) hx hb dc_X4_upFrom_19 (by decide) ?_
      exact W.lret hx hb hr (fun t ht hW => ⟨congrArg (fun z => Outcome.returned (some (Value.long z))) hw.symm, ht⟩) ky_nil dc_X4_upFrom_20
  · have hw := hw.trans (if_pos c_0)
    refine lv_lload_n hx hb dc_X4_upFrom_8 rfl (lv_at hl 0 rfl) ?_
    exact W.lret hx hb hr (fun t ht hW => ⟨congrArg (fun z => Outcome.returned (some (Value.long z))) hw.symm, ht⟩) ky_nil dc_X4_upFrom_9
def fn_X4_downFrom (a0 : Int64) : Int64 :=
  if (lg_cmp (a0) ((-4503599627370496 : Int64))) = (0 : Int32) then (a0) else (if (lg_cmp (fn_X0_sizeIn (a0)) ((0 : Int64))) = (0 : Int32) then ((-9223372036854775807 : Int64)) else (if (fn_X0_isDownOne (a0)) = (0 : Int32) then ((a0) - ((1 : Int64))) else ((a0) + ((1 : Int64)))))
set_option linter.constructorNameAsVariable false in
set_option maxHeartbeats 4000000 in
set_option maxRecDepth 100000 in
theorem mt_X4_downFrom (l : Launch) (a0 : Int64) : Met l my_X4_downFrom (.code my_X4_downFrom prog_6_method_8_code 2 (some .long) :: ky_B) { frames := 1, cells := 0, slots := 0, locals := 21 } (ky_P0 [.long (a0)]) (ky_Q0 (some (.long (fn_X4_downFrom a0)))) 0 0 (fun _ => False) := by
  refine ky_start0 (by decide) (Nat.le_of_ble_eq_true rfl) (fun p e s m below meth c F ls hl => ?_)
  obtain ⟨hx, hb, hml, hown, hr, hlocks, hts⟩ := id F
  have hl : lv_has ls 2 [(0, .long (a0))] := hl
  have hw : fn_X4_downFrom a0 = _ := fn_X4_downFrom.eq_1 a0
  refine lv_lload_n hx hb dc_X4_downFrom_0 rfl (lv_at hl 0 rfl) ?_
  refine lv_ldc2 (v := (-4503599627370496)) hx hb hown (hts _ kw_3_156) dc_X4_downFrom_1 ?_
  refine W.lcmp hx hb dc_X4_downFrom_4 ?_
  refine lv_if_ne (tgt := 10) hx hb dc_X4_downFrom_5 (by decide) (fun c_0 => ?_) (fun c_0 => ?_)
  · have hw := hw.trans (if_neg c_0)
    refine lv_lload_n hx hb dc_X4_downFrom_10 rfl (lv_at hl 0 rfl) ?_
    refine ky_cS0 (As := [.long (a0)]) F (mt_X0_sizeIn l (a0)) ks_X4_45 ⟨⟨rfl, rfl⟩, by decide, by decide⟩ rfl hl.1 rfl (Nat.le_of_ble_eq_true rfl) ⟨Nat.zero_le _, Nat.zero_le _⟩ dc_X4_downFrom_11 ?_
    refine lv_lconst (v := 0) hx hb dc_X4_downFrom_14 (by decide) ?_
    refine W.lcmp hx hb dc_X4_downFrom_15 ?_
    refine lv_if_ne (tgt := 23) hx hb dc_X4_downFrom_16 (by decide) (fun c_1 => ?_) (fun c_1 => ?_)
    · have hw := hw.trans (if_neg c_1)
      refine lv_lload_n hx hb dc_X4_downFrom_23 rfl (lv_at hl 0 rfl) ?_
      refine ky_cS0 (As := [.long (a0)]) F (mt_X0_isDownOne l (a0)) ks_X4_16 ⟨⟨rfl, rfl⟩, by decide, by decide⟩ rfl hl.1 rfl (Nat.le_of_ble_eq_true rfl) ⟨Nat.zero_le _, Nat.zero_le _⟩ dc_X4_downFrom_24 ?_
      refine lv_if_eq (tgt := 36) hx hb dc_X4_downFrom_27 (by decide) (fun c_2 => ?_) (fun c_2 => ?_)
      · have hw := hw.trans (if_pos c_2)
        refine lv_lload_n hx hb dc_X4_downFrom_36 rfl (lv_at hl 0 rfl) ?_
        refine lv_lconst (v := 1) hx hb dc_X4_downFrom_37 (by decide) ?_
        refine lv_lsub hx hb dc_X4_downFrom_38 ?_
        exact W.lret hx hb hr (fun t ht hW => ⟨congrArg (fun z => Outcome.returned (some (Value.long z))) hw.symm, ht⟩) ky_nil dc_X4_downFrom_39
      · have hw := hw.trans (if_neg c_2)
        refine lv_lload_n hx hb dc_X4_downFrom_30 rfl (lv_at hl 0 rfl) ?_
        refine lv_lconst (v := 1) hx hb dc_X4_downFrom_31 (by decide) ?_
        refine lv_ladd hx hb dc_X4_downFrom_32 ?_
        refine lv_goto (tgt := 39) hx hb dc_X4_downFrom_33 (by decide) ?_
        exact W.lret hx hb hr (fun t ht hW => ⟨congrArg (fun z => Outcome.returned (some (Value.long z))) hw.symm, ht⟩) ky_nil dc_X4_downFrom_39
    · have hw := hw.trans (if_pos c_1)
      refine lv_ldc2 (v := (-9223372036854775807)) hx hb hown (hts _ kw_3_157) dc_X4_downFrom_19 ?_
      exact W.lret hx hb hr (fun t ht hW => ⟨congrArg (fun z => Outcome.returned (some (Value.long z))) hw.symm, ht⟩) ky_nil dc_X4_downFrom_22
  · have hw := hw.trans (if_pos c_0)
    refine lv_lload_n hx hb dc_X4_downFrom_8 rfl (lv_at hl 0 rfl) ?_
    exact W.lret hx hb hr (fun t ht hW => ⟨congrArg (fun z => Outcome.returned (some (Value.long z))) hw.symm, ht⟩) ky_nil dc_X4_downFrom_9
def fn_X4_stepFrom (a0 : Int64) : Int64 :=
  if (fn_X0_isEndlessOne (a0)) = (0 : Int32) then (fn_X2_nearestTo ((1 : Int64)) (fn_X0_powerIn (a0))) else ((9218868437227405312 : Int64))
set_option linter.constructorNameAsVariable false in
set_option maxHeartbeats 4000000 in
set_option maxRecDepth 100000 in
theorem mt_X4_stepFrom (l : Launch) (a0 : Int64) : Met l my_X4_stepFrom (.code my_X4_stepFrom prog_6_method_10_code 2 (some .long) :: ky_B) { frames := 2, cells := 0, slots := 0, locals := 55 } (ky_P0 [.long (a0)]) (ky_Q0 (some (.long (fn_X4_stepFrom a0)))) 0 0 (fun _ => False) := by
  refine ky_start0 (by decide) (Nat.le_of_ble_eq_true rfl) (fun p e s m below meth c F ls hl => ?_)
  obtain ⟨hx, hb, hml, hown, hr, hlocks, hts⟩ := id F
  have hl : lv_has ls 2 [(0, .long (a0))] := hl
  have hw : fn_X4_stepFrom a0 = _ := fn_X4_stepFrom.eq_1 a0
  refine lv_lload_n hx hb dc_X4_stepFrom_0 rfl (lv_at hl 0 rfl) ?_
  refine ky_cS0 (As := [.long (a0)]) F (mt_X0_isEndlessOne l (a0)) ks_X4_62 ⟨⟨rfl, rfl⟩, by decide, by decide⟩ rfl hl.1 rfl (Nat.le_of_ble_eq_true rfl) ⟨Nat.zero_le _, Nat.zero_le _⟩ dc_X4_stepFrom_1 ?_
  refine lv_if_eq (tgt := 11) hx hb dc_X4_stepFrom_4 (by decide) (fun c_0 => ?_) (fun c_0 => ?_)
  · have hw := hw.trans (if_pos c_0)
    refine lv_lconst (v := 1) hx hb dc_X4_stepFrom_11 (by decide) ?_
    refine lv_lload_n hx hb dc_X4_stepFrom_12 rfl (lv_at hl 0 rfl) ?_
    refine ky_cS0 (As := [.long (a0)]) F (mt_X0_powerIn l (a0)) ks_X4_65 ⟨⟨rfl, rfl⟩, by decide, by decide⟩ rfl hl.1 rfl (Nat.le_of_ble_eq_true rfl) ⟨Nat.zero_le _, Nat.zero_le _⟩ dc_X4_stepFrom_13 ?_
    refine ky_cS0 (As := [.long ((1 : Int64)), .int (fn_X0_powerIn (a0))]) F (mt_X2_nearestTo l ((1 : Int64)) (fn_X0_powerIn (a0))) ks_X4_39 ⟨⟨rfl, rfl⟩, by decide, by decide⟩ rfl hl.1 rfl (Nat.le_of_ble_eq_true rfl) ⟨Nat.zero_le _, Nat.zero_le _⟩ dc_X4_stepFrom_16 ?_
    exact W.lret hx hb hr (fun t ht hW => ⟨congrArg (fun z => Outcome.returned (some (Value.long z))) hw.symm, ht⟩) ky_nil dc_X4_stepFrom_19
  · have hw := hw.trans (if_neg c_0)
    refine lv_ldc2 (v := 9218868437227405312) hx hb hown (hts _ kw_3_151) dc_X4_stepFrom_7 ?_
    exact W.lret hx hb hr (fun t ht hW => ⟨congrArg (fun z => Outcome.returned (some (Value.long z))) hw.symm, ht⟩) ky_nil dc_X4_stepFrom_10
def fn_X4_walkFrom_L25 : Nat → Int32 → Int64 → Int32 → Int64
  | 0, _, _, _ => 0
  | n + 1, u2, v3, v5 => if (v5) ≤ (u2) then (v3) else (fn_X4_walkFrom_L25 n (u2) (fn_X4_downFrom (v3)) ((v5) + (-1)))
def fk_X4_walkFrom_L25 : Nat → Int32 → Int64 → Int32 → Prop
  | 0, _, _, _ => False
  | n + 1, u2, v3, v5 => (((v5) ≤ (u2)) → (True)) ∧ (¬ ((v5) ≤ (u2)) → (fk_X4_walkFrom_L25 n (u2) (fn_X4_downFrom (v3)) ((v5) + (-1))))
set_option linter.constructorNameAsVariable false in
set_option maxHeartbeats 4000000 in
set_option maxRecDepth 100000 in
theorem ml_X4_walkFrom_L25 {p : Program} {l : Launch} {e : Env} {s : State} {m : MethodId} {args : Array Value} {below : List Frame} {meth : Method} {c : Code} (F : ky_F p s m meth c my_X4_walkFrom.cls prog_6_method_9_code 6 (some .long) args) : ∀ (n : Nat) (u2 : Int32) (v3 : Int64) (v5 : Int32), fk_X4_walkFrom_L25 n u2 v3 v5 → ∀ ls : Array Slot, lv_has ls 6 [(2, .int (u2)), (3, .long (v3)), (5, .int (v5))] → W p l e { frames := 2, cells := 0, slots := 0, locals := 42 } s m args below meth c s.heap [] 0 0 (MQ below (ky_Q0 (some (.long (fn_X4_walkFrom_L25 n u2 v3 v5)))) args s 0 0 (fun _ => False)) (F0 m 25 ls []) := by
  obtain ⟨hx, hb, hml, hown, hr, hlocks, hts⟩ := id F
  intro n
  induction n with
  | zero => intro u2 v3 v5 hk; exact False.elim hk
  | succ n ih =>
      intro u2 v3 v5 hk ls hl
      have hw : fn_X4_walkFrom_L25 (n + 1) u2 v3 v5 = (if (v5) ≤ (u2) then (v3) else (fn_X4_walkFrom_L25 n (u2) (fn_X4_downFrom (v3)) ((v5) + (-1)))) := rfl
      have hk : (((v5) ≤ (u2)) → (True)) ∧ (¬ ((v5) ≤ (u2)) → (fk_X4_walkFrom_L25 n (u2) (fn_X4_downFrom (v3)) ((v5) + (-1)))) := hk
      refine lv_iload hx hb dc_X4_walkFrom_25 (lv_at hl 2 rfl) ?_
      refine lv_iload_n hx hb dc_X4_walkFrom_27 rfl (lv_at hl 0 rfl) ?_
      refine lv_icmp_le (tgt := 42) hx hb dc_X4_walkFrom_28 (by decide) (fun c_0 => ?_) (fun c_0 => ?_)
      · have hw := hw.trans (if_pos c_0)
        have hk := hk.1 c_0
        refine lv_lload_n hx hb dc_X4_walkFrom_42 rfl (lv_at hl 1 rfl) ?_
        exact W.lret hx hb hr (fun t ht hW => ⟨congrArg (fun z => Outcome.returned (some (Value.long z))) hw.symm, ht⟩) ky_nil dc_X4_walkFrom_43
      · have hw := hw.trans (if_neg c_0)
        have hk := hk.2 c_0
        refine lv_lload_n hx hb dc_X4_walkFrom_31 rfl (lv_at hl 1 rfl) ?_
        refine ky_cS0 (As := [.long (v3)]) F (mt_X4_downFrom l (v3)) ks_X4_59 ⟨⟨rfl, rfl⟩, by decide, by decide⟩ rfl hl.1 rfl (Nat.le_of_ble_eq_true rfl) ⟨Nat.zero_le _, Nat.zero_le _⟩ dc_X4_walkFrom_32 ?_
        refine lv_lstore_n (lv' := [(3, .long (fn_X4_downFrom (v3))), (2, .int (u2)), (5, .int (v5))]) hx hb dc_X4_walkFrom_35 rfl hl (by decide) rfl (fun ls hl => ?_)
        refine lv_iinc (v := (v5) + (-1)) (lv' := [(5, .int ((v5) + (-1))), (3, .long (fn_X4_downFrom (v3))), (2, .int (u2))]) hx hb dc_X4_walkFrom_36 hl (k := 2) rfl rfl (by decide) rfl (fun ls hl => ?_)
        refine lv_goto (tgt := 25) hx hb dc_X4_walkFrom_39 (by decide) ?_
        rw [hw]
        exact ih (u2) (fn_X4_downFrom (v3)) ((v5) + (-1)) hk _ (lv_sub hl [2, 1, 0] rfl)
theorem ok_X4_w25' (u2 : Int32) : ∀ (n : Nat) (v3 : Int64) (v5 : Int32), v5.toInt - u2.toInt ≤ n → fk_X4_walkFrom_L25 (n + 1) u2 v3 v5 := by
  intro n
  induction n with
  | zero =>
      intro v3 v5 h
      exact ⟨fun _ => trivial, fun z => absurd (Int32.le_iff_toInt_le.mpr (by omega)) z⟩
  | succ n ih =>
      intro v3 v5 h
      refine ⟨fun _ => trivial, fun c => ?_⟩
      · have c : ¬ v5.toInt ≤ u2.toInt := fun z => c (Int32.le_iff_toInt_le.mpr z)
        have r1 := fb_rng u2
        have r2 := fb_rng v5
        refine ih _ _ ?_
        rw [fb_addI (by show _ ≤ _ + (-1 : Int); omega) (by show _ + (-1 : Int) < _; omega)]
        show _ + (-1 : Int) - _ ≤ _
        omega
theorem ok_X4_w25 (u2 : Int32) (v3 : Int64) : fk_X4_walkFrom_L25 ((-u2.toInt).toNat + 1) u2 v3 0 := ok_X4_w25' u2 _ v3 0 (by show (0 : Int) - _ ≤ _; omega)
def fn_X4_walkFrom_L5 : Nat → Int32 → Int64 → Int32 → Int64
  | 0, _, _, _ => 0
  | n + 1, u2, v3, v5 => if (u2) ≤ (v5) then (fn_X4_walkFrom_L25 ((-(u2).toInt).toNat + 1) (u2) (v3) ((0 : Int32))) else (fn_X4_walkFrom_L5 n (u2) (fn_X4_upFrom (v3)) ((v5) + 1))
def fk_X4_walkFrom_L5 : Nat → Int32 → Int64 → Int32 → Prop
  | 0, _, _, _ => False
  | n + 1, u2, v3, v5 => (((u2) ≤ (v5)) → (True)) ∧ (¬ ((u2) ≤ (v5)) → (fk_X4_walkFrom_L5 n (u2) (fn_X4_upFrom (v3)) ((v5) + 1)))
set_option linter.constructorNameAsVariable false in
set_option maxHeartbeats 4000000 in
set_option maxRecDepth 100000 in
theorem ml_X4_walkFrom_L5 {p : Program} {l : Launch} {e : Env} {s : State} {m : MethodId} {args : Array Value} {below : List Frame} {meth : Method} {c : Code} (F : ky_F p s m meth c my_X4_walkFrom.cls prog_6_method_9_code 6 (some .long) args) : ∀ (n : Nat) (u2 : Int32) (v3 : Int64) (v5 : Int32), fk_X4_walkFrom_L5 n u2 v3 v5 → ∀ ls : Array Slot, lv_has ls 6 [(2, .int (u2)), (3, .long (v3)), (5, .int (v5))] → W p l e { frames := 2, cells := 0, slots := 0, locals := 42 } s m args below meth c s.heap [] 0 0 (MQ below (ky_Q0 (some (.long (fn_X4_walkFrom_L5 n u2 v3 v5)))) args s 0 0 (fun _ => False)) (F0 m 5 ls []) := by
  obtain ⟨hx, hb, hml, hown, hr, hlocks, hts⟩ := id F
  intro n
  induction n with
  | zero => intro u2 v3 v5 hk; exact False.elim hk
  | succ n ih =>
      intro u2 v3 v5 hk ls hl
      have hw : fn_X4_walkFrom_L5 (n + 1) u2 v3 v5 = (if (u2) ≤ (v5) then (fn_X4_walkFrom_L25 ((-(u2).toInt).toNat + 1) (u2) (v3) ((0 : Int32))) else (fn_X4_walkFrom_L5 n (u2) (fn_X4_upFrom (v3)) ((v5) + 1))) := rfl
      have hk : (((u2) ≤ (v5)) → (True)) ∧ (¬ ((u2) ≤ (v5)) → (fk_X4_walkFrom_L5 n (u2) (fn_X4_upFrom (v3)) ((v5) + 1))) := hk
      refine lv_iload hx hb dc_X4_walkFrom_5 (lv_at hl 2 rfl) ?_
      refine lv_iload_n hx hb dc_X4_walkFrom_7 rfl (lv_at hl 0 rfl) ?_
      refine lv_icmp_ge (tgt := 22) hx hb dc_X4_walkFrom_8 (by decide) (fun c_0 => ?_) (fun c_0 => ?_)
      · have hw := hw.trans (if_pos c_0)
        have hk := hk.1 c_0
        refine lv_iconst (v := 0) hx hb dc_X4_walkFrom_22 (by decide) ?_
        refine lv_istore (lv' := [(5, .int ((0 : Int32))), (2, .int (u2)), (3, .long (v3))]) hx hb dc_X4_walkFrom_23 hl (by decide) rfl (fun ls hl => ?_)
        rw [hw]
        exact ml_X4_walkFrom_L25 F ((-(u2).toInt).toNat + 1) (u2) (v3) ((0 : Int32)) (ok_X4_w25 _ _) _ (lv_sub hl [1, 2, 0] rfl)
      · have hw := hw.trans (if_neg c_0)
        have hk := hk.2 c_0
        refine lv_lload_n hx hb dc_X4_walkFrom_11 rfl (lv_at hl 1 rfl) ?_
        refine ky_cS0 (As := [.long (v3)]) F (mt_X4_upFrom l (v3)) ks_X4_56 ⟨⟨rfl, rfl⟩, by decide, by decide⟩ rfl hl.1 rfl (Nat.le_of_ble_eq_true rfl) ⟨Nat.zero_le _, Nat.zero_le _⟩ dc_X4_walkFrom_12 ?_
        refine lv_lstore_n (lv' := [(3, .long (fn_X4_upFrom (v3))), (2, .int (u2)), (5, .int (v5))]) hx hb dc_X4_walkFrom_15 rfl hl (by decide) rfl (fun ls hl => ?_)
        refine lv_iinc (v := (v5) + 1) (lv' := [(5, .int ((v5) + 1)), (3, .long (fn_X4_upFrom (v3))), (2, .int (u2))]) hx hb dc_X4_walkFrom_16 hl (k := 2) rfl rfl (by decide) rfl (fun ls hl => ?_)
        refine lv_goto (tgt := 5) hx hb dc_X4_walkFrom_19 (by decide) ?_
        rw [hw]
        exact ih (u2) (fn_X4_upFrom (v3)) ((v5) + 1) hk _ (lv_sub hl [2, 1, 0] rfl)
theorem ok_X4_w5' (u2 : Int32) : ∀ (n : Nat) (v3 : Int64) (v5 : Int32), u2.toInt - v5.toInt ≤ n → fk_X4_walkFrom_L5 (n + 1) u2 v3 v5 := by
  intro n
  induction n with
  | zero =>
      intro v3 v5 h
      exact ⟨fun _ => trivial, fun z => absurd (Int32.le_iff_toInt_le.mpr (by omega)) z⟩
  | succ n ih =>
      intro v3 v5 h
      refine ⟨fun _ => trivial, fun c => ?_⟩
      · have c : ¬ u2.toInt ≤ v5.toInt := fun z => c (Int32.le_iff_toInt_le.mpr z)
        have r1 := fb_rng u2
        have r2 := fb_rng v5
        refine ih _ _ ?_
        rw [fb_addI (by show _ ≤ _ + (1 : Int); omega) (by show _ + (1 : Int) < _; omega)]
        show _ - (_ + (1 : Int)) ≤ _
        omega
theorem ok_X4_w5 (u2 : Int32) (v3 : Int64) : fk_X4_walkFrom_L5 (u2.toInt.toNat + 1) u2 v3 0 := ok_X4_w5' u2 _ v3 0 (by show _ - (0 : Int) ≤ _; omega)
def fn_X4_walkFrom (a0 : Int64) (a1 : Int32) : Int64 :=
  fn_X4_walkFrom_L5 ((a1).toInt.toNat + 1) (a1) (a0) ((0 : Int32))
set_option linter.constructorNameAsVariable false in
set_option maxHeartbeats 4000000 in
set_option maxRecDepth 100000 in
theorem mt_X4_walkFrom (l : Launch) (a0 : Int64) (a1 : Int32) : Met l my_X4_walkFrom (.code my_X4_walkFrom prog_6_method_9_code 6 (some .long) :: ky_B) { frames := 2, cells := 0, slots := 0, locals := 42 } (ky_P0 [.long (a0), .int (a1)]) (ky_Q0 (some (.long (fn_X4_walkFrom a0 a1)))) 0 0 (fun _ => False) := by
  refine ky_start0 (by decide) (Nat.le_of_ble_eq_true rfl) (fun p e s m below meth c F ls hl => ?_)
  obtain ⟨hx, hb, hml, hown, hr, hlocks, hts⟩ := id F
  have hl : lv_has ls 6 [(0, .long (a0)), (2, .int (a1))] := hl
  have hw : fn_X4_walkFrom a0 a1 = _ := fn_X4_walkFrom.eq_1 a0 a1
  refine lv_lload_n hx hb dc_X4_walkFrom_0 rfl (lv_at hl 0 rfl) ?_
  refine lv_lstore_n (lv' := [(3, .long (a0)), (0, .long (a0)), (2, .int (a1))]) hx hb dc_X4_walkFrom_1 rfl hl (by decide) rfl (fun ls hl => ?_)
  refine lv_iconst (v := 0) hx hb dc_X4_walkFrom_2 (by decide) ?_
  refine lv_istore (lv' := [(5, .int ((0 : Int32))), (3, .long (a0)), (0, .long (a0)), (2, .int (a1))]) hx hb dc_X4_walkFrom_3 hl (by decide) rfl (fun ls hl => ?_)
  rw [hw]
  exact ml_X4_walkFrom_L5 F ((a1).toInt.toNat + 1) (a1) (a0) ((0 : Int32)) (ok_X4_w5 _ _) _ (lv_sub hl [3, 1, 0] rfl)
end
section
def fn_X5_cutFrom (a0 : Int64) : Int64 :=
  if (fn_X0_powerIn (a0)) < ((11 : Int32)) then (if (fn_X0_powerIn (a0)) ≤ (0 : Int32) then (if (fn_X0_isDownOne (a0)) = (0 : Int32) then (jlushr (fn_X0_factorIn (a0)) (fn_X0_behindIn (a0))) else (-(jlushr (fn_X0_factorIn (a0)) (fn_X0_behindIn (a0))))) else (if (fn_X0_isDownOne (a0)) = (0 : Int32) then (jlshl (fn_X0_factorIn (a0)) (fn_X0_powerIn (a0))) else (-(jlshl (fn_X0_factorIn (a0)) (fn_X0_powerIn (a0)))))) else (if (fn_X0_isDownOne (a0)) = (0 : Int32) then ((9223372036854775807 : Int64)) else ((-9223372036854775808 : Int64)))
set_option linter.constructorNameAsVariable false in
set_option maxHeartbeats 4000000 in
set_option maxRecDepth 100000 in
theorem mt_X5_cutFrom (l : Launch) (a0 : Int64) : Met l my_X5_cutFrom (.code my_X5_cutFrom prog_7_method_2_code 7 (some .long) :: ky_B) { frames := 2, cells := 0, slots := 0, locals := 42 } (ky_P0 [.long (a0)]) (ky_Q0 (some (.long (fn_X5_cutFrom a0)))) 0 0 (fun _ => False) := by
  refine ky_start0 (by decide) (Nat.le_of_ble_eq_true rfl) (fun p e s m below meth c F ls hl => ?_)
  obtain ⟨hx, hb, hml, hown, hr, hlocks, hts⟩ := id F
  have hl : lv_has ls 7 [(0, .long (a0))] := hl
  have hw : fn_X5_cutFrom a0 = _ := fn_X5_cutFrom.eq_1 a0
  refine lv_lload_n hx hb dc_X5_cutFrom_0 rfl (lv_at hl 0 rfl) ?_
  refine ky_cS0 (As := [.long (a0)]) F (mt_X0_powerIn l (a0)) ks_X5_7 ⟨⟨rfl, rfl⟩, by decide, by decide⟩ rfl hl.1 rfl (Nat.le_of_ble_eq_true rfl) ⟨Nat.zero_le _, Nat.zero_le _⟩ dc_X5_cutFrom_1 ?_
  refine lv_istore_n (lv' := [(2, .int (fn_X0_powerIn (a0))), (0, .long (a0))]) hx hb dc_X5_cutFrom_4 rfl hl (by decide) rfl (fun ls hl => ?_)
  refine lv_iload_n hx hb dc_X5_cutFrom_5 rfl (lv_at hl 0 rfl) ?_
  refine lv_bipush (v := 11) hx hb dc_X5_cutFrom_6 (by decide) ?_
  refine lv_icmp_lt (tgt := 28) hx hb dc_X5_cutFrom_8 (by decide) (fun c_0 => ?_) (fun c_0 => ?_)
  · have hw := hw.trans (if_pos c_0)
    refine lv_lload_n hx hb dc_X5_cutFrom_28 rfl (lv_at hl 1 rfl) ?_
    refine ky_cS0 (As := [.long (a0)]) F (mt_X0_factorIn l (a0)) ks_X5_23 ⟨⟨rfl, rfl⟩, by decide, by decide⟩ rfl hl.1 rfl (Nat.le_of_ble_eq_true rfl) ⟨Nat.zero_le _, Nat.zero_le _⟩ dc_X5_cutFrom_29 ?_
    refine lv_lstore_n (lv' := [(3, .long (fn_X0_factorIn (a0))), (2, .int (fn_X0_powerIn (a0))), (0, .long (a0))]) hx hb dc_X5_cutFrom_32 rfl hl (by decide) rfl (fun ls hl => ?_)
    refine lv_iload_n hx hb dc_X5_cutFrom_33 rfl (lv_at hl 1 rfl) ?_
    refine lv_if_le (tgt := 43) hx hb dc_X5_cutFrom_34 (by decide) (fun c_1 => ?_) (fun c_1 => ?_)
    · have hw := hw.trans (if_pos c_1)
      refine lv_lload_n hx hb dc_X5_cutFrom_43 rfl (lv_at hl 0 rfl) ?_
      refine lv_lload_n hx hb dc_X5_cutFrom_44 rfl (lv_at hl 2 rfl) ?_
      refine ky_cS0 (As := [.long (a0)]) F (mt_X0_behindIn l (a0)) ks_X5_27 ⟨⟨rfl, rfl⟩, by decide, by decide⟩ rfl hl.1 rfl (Nat.le_of_ble_eq_true rfl) ⟨Nat.zero_le _, Nat.zero_le _⟩ dc_X5_cutFrom_45 ?_
      refine lv_lushr (v := jlushr (fn_X0_factorIn (a0)) (fn_X0_behindIn (a0))) hx hb dc_X5_cutFrom_48 rfl ?_
      refine lv_lstore (lv' := [(5, .long (jlushr (fn_X0_factorIn (a0)) (fn_X0_behindIn (a0)))), (3, .long (fn_X0_factorIn (a0))), (2, .int (fn_X0_powerIn (a0))), (0, .long (a0))]) hx hb dc_X5_cutFrom_49 hl (by decide) rfl (fun ls hl => ?_)
      refine lv_lload_n hx hb dc_X5_cutFrom_51 rfl (lv_at hl 3 rfl) ?_
      refine ky_cS0 (As := [.long (a0)]) F (mt_X0_isDownOne l (a0)) ks_X5_15 ⟨⟨rfl, rfl⟩, by decide, by decide⟩ rfl hl.1 rfl (Nat.le_of_ble_eq_true rfl) ⟨Nat.zero_le _, Nat.zero_le _⟩ dc_X5_cutFrom_52 ?_
      refine lv_if_eq (tgt := 64) hx hb dc_X5_cutFrom_55 (by decide) (fun c_2 => ?_) (fun c_2 => ?_)
      · have hw := hw.trans (if_pos c_2)
        refine lv_lload hx hb dc_X5_cutFrom_64 (lv_at hl 0 rfl) ?_
        exact W.lret hx hb hr (fun t ht hW => ⟨congrArg (fun z => Outcome.returned (some (Value.long z))) hw.symm, ht⟩) ky_nil dc_X5_cutFrom_66
      · have hw := hw.trans (if_neg c_2)
        refine lv_lload hx hb dc_X5_cutFrom_58 (lv_at hl 0 rfl) ?_
        refine lv_lneg hx hb dc_X5_cutFrom_60 ?_
        refine lv_goto (tgt := 66) hx hb dc_X5_cutFrom_61 (by decide) ?_
        exact W.lret hx hb hr (fun t ht hW => ⟨congrArg (fun z => Outcome.returned (some (Value.long z))) hw.symm, ht⟩) ky_nil dc_X5_cutFrom_66
    · have hw := hw.trans (if_neg c_1)
      refine lv_lload_n hx hb dc_X5_cutFrom_37 rfl (lv_at hl 0 rfl) ?_
      refine lv_iload_n hx hb dc_X5_cutFrom_38 rfl (lv_at hl 1 rfl) ?_
      refine lv_lshl (v := jlshl (fn_X0_factorIn (a0)) (fn_X0_powerIn (a0))) hx hb dc_X5_cutFrom_39 rfl ?_
      refine lv_goto (tgt := 49) hx hb dc_X5_cutFrom_40 (by decide) ?_
      refine lv_lstore (lv' := [(5, .long (jlshl (fn_X0_factorIn (a0)) (fn_X0_powerIn (a0)))), (3, .long (fn_X0_factorIn (a0))), (2, .int (fn_X0_powerIn (a0))), (0, .long (a0))]) hx hb dc_X5_cutFrom_49 hl (by decide) rfl (fun ls hl => ?_)
      refine lv_lload_n hx hb dc_X5_cutFrom_51 rfl (lv_at hl 3 rfl) ?_
      refine ky_cS0 (As := [.long (a0)]) F (mt_X0_isDownOne l (a0)) ks_X5_15 ⟨⟨rfl, rfl⟩, by decide, by decide⟩ rfl hl.1 rfl (Nat.le_of_ble_eq_true rfl) ⟨Nat.zero_le _, Nat.zero_le _⟩ dc_X5_cutFrom_52 ?_
      refine lv_if_eq (tgt := 64) hx hb dc_X5_cutFrom_55 (by decide) (fun c_2 => ?_) (fun c_2 => ?_)
      · have hw := hw.trans (if_pos c_2)
        refine lv_lload hx hb dc_X5_cutFrom_64 (lv_at hl 0 rfl) ?_
        exact W.lret hx hb hr (fun t ht hW => ⟨congrArg (fun z => Outcome.returned (some (Value.long z))) hw.symm, ht⟩) ky_nil dc_X5_cutFrom_66
      · have hw := hw.trans (if_neg c_2)
        refine lv_lload hx hb dc_X5_cutFrom_58 (lv_at hl 0 rfl) ?_
        refine lv_lneg hx hb dc_X5_cutFrom_60 ?_
        refine lv_goto (tgt := 66) hx hb dc_X5_cutFrom_61 (by decide) ?_
        exact W.lret hx hb hr (fun t ht hW => ⟨congrArg (fun z => Outcome.returned (some (Value.long z))) hw.symm, ht⟩) ky_nil dc_X5_cutFrom_66
  · have hw := hw.trans (if_neg c_0)
    refine lv_lload_n hx hb dc_X5_cutFrom_11 rfl (lv_at hl 1 rfl) ?_
    refine ky_cS0 (As := [.long (a0)]) F (mt_X0_isDownOne l (a0)) ks_X5_15 ⟨⟨rfl, rfl⟩, by decide, by decide⟩ rfl hl.1 rfl (Nat.le_of_ble_eq_true rfl) ⟨Nat.zero_le _, Nat.zero_le _⟩ dc_X5_cutFrom_12 ?_
    refine lv_if_eq (tgt := 24) hx hb dc_X5_cutFrom_15 (by decide) (fun c_1 => ?_) (fun c_1 => ?_)
    · have hw := hw.trans (if_pos c_1)
      refine lv_ldc2 (v := 9223372036854775807) hx hb hown (hts _ kw_3_201) dc_X5_cutFrom_24 ?_
      exact W.lret hx hb hr (fun t ht hW => ⟨congrArg (fun z => Outcome.returned (some (Value.long z))) hw.symm, ht⟩) ky_nil dc_X5_cutFrom_27
    · have hw := hw.trans (if_neg c_1)
      refine lv_ldc2 (v := (-9223372036854775808)) hx hb hown (hts _ kw_3_200) dc_X5_cutFrom_18 ?_
      refine lv_goto (tgt := 27) hx hb dc_X5_cutFrom_21 (by decide) ?_
      exact W.lret hx hb hr (fun t ht hW => ⟨congrArg (fun z => Outcome.returned (some (Value.long z))) hw.symm, ht⟩) ky_nil dc_X5_cutFrom_27
def fn_X5_roundFrom (a0 : Int64) : Int64 :=
  if (fn_X0_behindIn (a0)) = (0 : Int32) then (fn_X5_cutFrom (a0)) else (if (fn_X0_isDownOne (a0)) = (0 : Int32) then (if (lg_cmp (fn_X0_restIn (a0)) (jlshl ((1 : Int64)) ((fn_X0_behindIn (a0)) - ((1 : Int32))))) < (0 : Int32) then (fn_X5_cutFrom (a0)) else ((fn_X5_cutFrom (a0)) + ((1 : Int64)))) else (if (lg_cmp (fn_X0_restIn (a0)) (jlshl ((1 : Int64)) ((fn_X0_behindIn (a0)) - ((1 : Int32))))) ≤ (0 : Int32) then (fn_X5_cutFrom (a0)) else ((fn_X5_cutFrom (a0)) - ((1 : Int64)))))
set_option linter.constructorNameAsVariable false in
set_option maxHeartbeats 4000000 in
set_option maxRecDepth 100000 in
theorem mt_X5_roundFrom (l : Launch) (a0 : Int64) : Met l my_X5_roundFrom (.code my_X5_roundFrom prog_7_method_3_code 7 (some .long) :: ky_B) { frames := 3, cells := 0, slots := 0, locals := 68 } (ky_P0 [.long (a0)]) (ky_Q0 (some (.long (fn_X5_roundFrom a0)))) 0 0 (fun _ => False) := by
  refine ky_start0 (by decide) (Nat.le_of_ble_eq_true rfl) (fun p e s m below meth c F ls hl => ?_)
  obtain ⟨hx, hb, hml, hown, hr, hlocks, hts⟩ := id F
  have hl : lv_has ls 7 [(0, .long (a0))] := hl
  have hw : fn_X5_roundFrom a0 = _ := fn_X5_roundFrom.eq_1 a0
  refine lv_lload_n hx hb dc_X5_roundFrom_0 rfl (lv_at hl 0 rfl) ?_
  refine ky_cS0 (As := [.long (a0)]) F (mt_X0_behindIn l (a0)) ks_X5_27 ⟨⟨rfl, rfl⟩, by decide, by decide⟩ rfl hl.1 rfl (Nat.le_of_ble_eq_true rfl) ⟨Nat.zero_le _, Nat.zero_le _⟩ dc_X5_roundFrom_1 ?_
  refine lv_istore_n (lv' := [(2, .int (fn_X0_behindIn (a0))), (0, .long (a0))]) hx hb dc_X5_roundFrom_4 rfl hl (by decide) rfl (fun ls hl => ?_)
  refine lv_iload_n hx hb dc_X5_roundFrom_5 rfl (lv_at hl 0 rfl) ?_
  refine lv_if_ne (tgt := 14) hx hb dc_X5_roundFrom_6 (by decide) (fun c_0 => ?_) (fun c_0 => ?_)
  · have hw := hw.trans (if_neg c_0)
    refine lv_lload_n hx hb dc_X5_roundFrom_14 rfl (lv_at hl 1 rfl) ?_
    refine ky_cS0 (As := [.long (a0)]) F (mt_X0_restIn l (a0)) ks_X5_33 ⟨⟨rfl, rfl⟩, by decide, by decide⟩ rfl hl.1 rfl (Nat.le_of_ble_eq_true rfl) ⟨Nat.zero_le _, Nat.zero_le _⟩ dc_X5_roundFrom_15 ?_
    refine lv_lstore_n (lv' := [(3, .long (fn_X0_restIn (a0))), (2, .int (fn_X0_behindIn (a0))), (0, .long (a0))]) hx hb dc_X5_roundFrom_18 rfl hl (by decide) rfl (fun ls hl => ?_)
    refine lv_lconst (v := 1) hx hb dc_X5_roundFrom_19 (by decide) ?_
    refine lv_iload_n hx hb dc_X5_roundFrom_20 rfl (lv_at hl 1 rfl) ?_
    refine lv_iconst (v := 1) hx hb dc_X5_roundFrom_21 (by decide) ?_
    refine lv_isub hx hb dc_X5_roundFrom_22 ?_
    refine lv_lshl (v := jlshl ((1 : Int64)) ((fn_X0_behindIn (a0)) - ((1 : Int32)))) hx hb dc_X5_roundFrom_23 rfl ?_
    refine lv_lstore (lv' := [(5, .long (jlshl ((1 : Int64)) ((fn_X0_behindIn (a0)) - ((1 : Int32))))), (3, .long (fn_X0_restIn (a0))), (2, .int (fn_X0_behindIn (a0))), (0, .long (a0))]) hx hb dc_X5_roundFrom_24 hl (by decide) rfl (fun ls hl => ?_)
    refine lv_lload_n hx hb dc_X5_roundFrom_26 rfl (lv_at hl 3 rfl) ?_
    refine ky_cS0 (As := [.long (a0)]) F (mt_X0_isDownOne l (a0)) ks_X5_15 ⟨⟨rfl, rfl⟩, by decide, by decide⟩ rfl hl.1 rfl (Nat.le_of_ble_eq_true rfl) ⟨Nat.zero_le _, Nat.zero_le _⟩ dc_X5_roundFrom_27 ?_
    refine lv_if_eq (tgt := 54) hx hb dc_X5_roundFrom_30 (by decide) (fun c_1 => ?_) (fun c_1 => ?_)
    · have hw := hw.trans (if_pos c_1)
      refine lv_lload_n hx hb dc_X5_roundFrom_54 rfl (lv_at hl 1 rfl) ?_
      refine lv_lload hx hb dc_X5_roundFrom_55 (lv_at hl 0 rfl) ?_
      refine W.lcmp hx hb dc_X5_roundFrom_57 ?_
      refine lv_if_lt (tgt := 70) hx hb dc_X5_roundFrom_58 (by decide) (fun c_2 => ?_) (fun c_2 => ?_)
      · have hw := hw.trans (if_pos c_2)
        refine lv_lload_n hx hb dc_X5_roundFrom_70 rfl (lv_at hl 3 rfl) ?_
        refine ky_cS0 (As := [.long (a0)]) F (mt_X5_cutFrom l (a0)) ks_X5_30 ⟨⟨rfl, rfl⟩, by decide, by decide⟩ rfl hl.1 rfl (Nat.le_of_ble_eq_true rfl) ⟨Nat.zero_le _, Nat.zero_le _⟩ dc_X5_roundFrom_71 ?_
        exact W.lret hx hb hr (fun t ht hW => ⟨congrArg (fun z => Outcome.returned (some (Value.long z))) hw.symm, ht⟩) ky_nil dc_X5_roundFrom_74
      · have hw := hw.trans (if_neg c_2)
        refine lv_lload_n hx hb dc_X5_roundFrom_61 rfl (lv_at hl 3 rfl) ?_
        refine ky_cS0 (As := [.long (a0)]) F (mt_X5_cutFrom l (a0)) ks_X5_30 ⟨⟨rfl, rfl⟩, by decide, by decide⟩ rfl hl.1 rfl (Nat.le_of_ble_eq_true rfl) ⟨Nat.zero_le _, Nat.zero_le _⟩ dc_X5_roundFrom_62 ?_
        refine lv_lconst (v := 1) hx hb dc_X5_roundFrom_65 (by decide) ?_
        refine lv_ladd hx hb dc_X5_roundFrom_66 ?_
        refine lv_goto (tgt := 74) hx hb dc_X5_roundFrom_67 (by decide) ?_
        exact W.lret hx hb hr (fun t ht hW => ⟨congrArg (fun z => Outcome.returned (some (Value.long z))) hw.symm, ht⟩) ky_nil dc_X5_roundFrom_74
    · have hw := hw.trans (if_neg c_1)
      refine lv_lload_n hx hb dc_X5_roundFrom_33 rfl (lv_at hl 1 rfl) ?_
      refine lv_lload hx hb dc_X5_roundFrom_34 (lv_at hl 0 rfl) ?_
      refine W.lcmp hx hb dc_X5_roundFrom_36 ?_
      refine lv_if_le (tgt := 49) hx hb dc_X5_roundFrom_37 (by decide) (fun c_2 => ?_) (fun c_2 => ?_)
      · have hw := hw.trans (if_pos c_2)
        refine lv_lload_n hx hb dc_X5_roundFrom_49 rfl (lv_at hl 3 rfl) ?_
        refine ky_cS0 (As := [.long (a0)]) F (mt_X5_cutFrom l (a0)) ks_X5_30 ⟨⟨rfl, rfl⟩, by decide, by decide⟩ rfl hl.1 rfl (Nat.le_of_ble_eq_true rfl) ⟨Nat.zero_le _, Nat.zero_le _⟩ dc_X5_roundFrom_50 ?_
        exact W.lret hx hb hr (fun t ht hW => ⟨congrArg (fun z => Outcome.returned (some (Value.long z))) hw.symm, ht⟩) ky_nil dc_X5_roundFrom_53
      · have hw := hw.trans (if_neg c_2)
        refine lv_lload_n hx hb dc_X5_roundFrom_40 rfl (lv_at hl 3 rfl) ?_
        refine ky_cS0 (As := [.long (a0)]) F (mt_X5_cutFrom l (a0)) ks_X5_30 ⟨⟨rfl, rfl⟩, by decide, by decide⟩ rfl hl.1 rfl (Nat.le_of_ble_eq_true rfl) ⟨Nat.zero_le _, Nat.zero_le _⟩ dc_X5_roundFrom_41 ?_
        refine lv_lconst (v := 1) hx hb dc_X5_roundFrom_44 (by decide) ?_
        refine lv_lsub hx hb dc_X5_roundFrom_45 ?_
        refine lv_goto (tgt := 53) hx hb dc_X5_roundFrom_46 (by decide) ?_
        exact W.lret hx hb hr (fun t ht hW => ⟨congrArg (fun z => Outcome.returned (some (Value.long z))) hw.symm, ht⟩) ky_nil dc_X5_roundFrom_53
  · have hw := hw.trans (if_pos c_0)
    refine lv_lload_n hx hb dc_X5_roundFrom_9 rfl (lv_at hl 1 rfl) ?_
    refine ky_cS0 (As := [.long (a0)]) F (mt_X5_cutFrom l (a0)) ks_X5_30 ⟨⟨rfl, rfl⟩, by decide, by decide⟩ rfl hl.1 rfl (Nat.le_of_ble_eq_true rfl) ⟨Nat.zero_le _, Nat.zero_le _⟩ dc_X5_roundFrom_10 ?_
    exact W.lret hx hb hr (fun t ht hW => ⟨congrArg (fun z => Outcome.returned (some (Value.long z))) hw.symm, ht⟩) ky_nil dc_X5_roundFrom_13
def fn_X5_shortFrom (a0 : Int64) : Int32 :=
  (jlmax ((-2147483648 : Int64)) (jlmin ((2147483647 : Int64)) (fn_X5_cutFrom (a0)))).toInt32
set_option linter.constructorNameAsVariable false in
set_option maxHeartbeats 4000000 in
set_option maxRecDepth 100000 in
theorem mt_X5_shortFrom (l : Launch) (a0 : Int64) : Met l my_X5_shortFrom (.code my_X5_shortFrom prog_7_method_4_code 2 (some .int) :: ky_B) { frames := 3, cells := 0, slots := 0, locals := 68 } (ky_P0 [.long (a0)]) (ky_Q0 (some (.int (fn_X5_shortFrom a0)))) 0 0 (fun _ => False) := by
  refine ky_start0 (by decide) (Nat.le_of_ble_eq_true rfl) (fun p e s m below meth c F ls hl => ?_)
  obtain ⟨hx, hb, hml, hown, hr, hlocks, hts⟩ := id F
  have hl : lv_has ls 2 [(0, .long (a0))] := hl
  have hw : fn_X5_shortFrom a0 = _ := fn_X5_shortFrom.eq_1 a0
  refine lv_ldc2 (v := (-2147483648)) hx hb hown (hts _ kw_4_29) dc_X5_shortFrom_0 ?_
  refine lv_ldc2 (v := 2147483647) hx hb hown (hts _ kw_4_30) dc_X5_shortFrom_3 ?_
  refine lv_lload_n hx hb dc_X5_shortFrom_6 rfl (lv_at hl 0 rfl) ?_
  refine ky_cS0 (As := [.long (a0)]) F (mt_X5_cutFrom l (a0)) ks_X5_30 ⟨⟨rfl, rfl⟩, by decide, by decide⟩ rfl hl.1 rfl (Nat.le_of_ble_eq_true rfl) ⟨Nat.zero_le _, Nat.zero_le _⟩ dc_X5_shortFrom_7 ?_
  refine ky_lmin F ⟨kw_4_31, kw_4_32, kw_1_16, kw_4_33⟩ hl.1 (Nat.le_of_ble_eq_true rfl) (Nat.le_of_ble_eq_true rfl) ⟨Nat.zero_le _, Nat.zero_le _⟩ dc_X5_shortFrom_10 ?_
  refine ky_lmax F ⟨kw_4_34, kw_4_35, kw_1_16, kw_4_36⟩ hl.1 (Nat.le_of_ble_eq_true rfl) (Nat.le_of_ble_eq_true rfl) ⟨Nat.zero_le _, Nat.zero_le _⟩ dc_X5_shortFrom_13 ?_
  refine lv_l2i (v := (jlmax ((-2147483648 : Int64)) (jlmin ((2147483647 : Int64)) (fn_X5_cutFrom (a0)))).toInt32) hx hb dc_X5_shortFrom_16 rfl ?_
  exact W.iret hx hb hr (fun t ht hW => ⟨congrArg (fun z => Outcome.returned (some (Value.int z))) hw.symm, ht⟩) ky_nil dc_X5_shortFrom_17
end
