def fn_X0_sizeIn (a0 : Int64) : Int64 :=
  (a0) &&& ((9223372036854775807 : Int64))
set_option linter.constructorNameAsVariable false in
set_option maxHeartbeats 4000000 in
set_option maxRecDepth 100000 in
theorem mt_X0_sizeIn (l : Launch) (a0 : Int64) : Met l my_X0_sizeIn (.code my_X0_sizeIn prog_2_method_5_code 2 (some .long) :: ky_B) { frames := 0, cells := 0, slots := 0, locals := 0 } (ky_P0 [.long (a0)]) (ky_Q0 (some (.long (fn_X0_sizeIn a0)))) 0 0 (fun _ => False) := by
  refine ky_start0 (by decide) (Nat.le_of_ble_eq_true rfl) (fun p e s m below meth c F ls hl => ?_)
  obtain ⟨hx, hb, hml, hown, hr, hlocks, hts⟩ := id F
  have hl : lv_has ls 2 [(0, .long (a0))] := hl
  have hw : fn_X0_sizeIn a0 = _ := fn_X0_sizeIn.eq_1 a0
  refine lv_lload_n hx hb dc_X0_sizeIn_0 rfl (lv_at hl 0 rfl) ?_
  refine lv_ldc2 (v := 9223372036854775807) hx hb hown (hts _ kw_1_138) dc_X0_sizeIn_1 ?_
  refine lv_land hx hb dc_X0_sizeIn_4 ?_
  exact W.lret hx hb hr (fun t ht hW => ⟨congrArg (fun z => Outcome.returned (some (Value.long z))) hw.symm, ht⟩) ky_nil dc_X0_sizeIn_5
def fn_X0_withSide (a0 : Int64) (a1 : Int32) : Int64 :=
  if (a1) = (0 : Int32) then (a0) else ((a0) ||| ((-9223372036854775808 : Int64)))
set_option linter.constructorNameAsVariable false in
set_option maxHeartbeats 4000000 in
set_option maxRecDepth 100000 in
theorem mt_X0_withSide (l : Launch) (a0 : Int64) (a1 : Int32) : Met l my_X0_withSide (.code my_X0_withSide prog_2_method_2_code 3 (some .long) :: ky_B) { frames := 0, cells := 0, slots := 0, locals := 0 } (ky_P0 [.long (a0), .int (a1)]) (ky_Q0 (some (.long (fn_X0_withSide a0 a1)))) 0 0 (fun _ => False) := by
  refine ky_start0 (by decide) (Nat.le_of_ble_eq_true rfl) (fun p e s m below meth c F ls hl => ?_)
  obtain ⟨hx, hb, hml, hown, hr, hlocks, hts⟩ := id F
  have hl : lv_has ls 3 [(0, .long (a0)), (2, .int (a1))] := hl
  have hw : fn_X0_withSide a0 a1 = _ := fn_X0_withSide.eq_1 a0 a1
  refine lv_iload_n hx hb dc_X0_withSide_0 rfl (lv_at hl 1 rfl) ?_
  refine lv_if_eq (tgt := 12) hx hb dc_X0_withSide_1 (by decide) (fun c_0 => ?_) (fun c_0 => ?_)
  · have hw := hw.trans (if_pos c_0)
    refine lv_lload_n hx hb dc_X0_withSide_12 rfl (lv_at hl 0 rfl) ?_
    exact W.lret hx hb hr (fun t ht hW => ⟨congrArg (fun z => Outcome.returned (some (Value.long z))) hw.symm, ht⟩) ky_nil dc_X0_withSide_13
  · have hw := hw.trans (if_neg c_0)
    refine lv_lload_n hx hb dc_X0_withSide_4 rfl (lv_at hl 0 rfl) ?_
    refine lv_ldc2 (v := (-9223372036854775808)) hx hb hown (hts _ kw_3_123) dc_X0_withSide_5 ?_
    refine lv_lor hx hb dc_X0_withSide_8 ?_
    refine lv_goto (tgt := 13) hx hb dc_X0_withSide_9 (by decide) ?_
    exact W.lret hx hb hr (fun t ht hW => ⟨congrArg (fun z => Outcome.returned (some (Value.long z))) hw.symm, ht⟩) ky_nil dc_X0_withSide_13
def fn_X0_joined (a0 : Int64) (a1 : Int64) : Int64 :=
  (fn_X0_sizeIn (a0)) ||| ((a1) &&& ((-9223372036854775808 : Int64)))
set_option linter.constructorNameAsVariable false in
set_option maxHeartbeats 4000000 in
set_option maxRecDepth 100000 in
theorem mt_X0_joined (l : Launch) (a0 : Int64) (a1 : Int64) : Met l my_X0_joined (.code my_X0_joined prog_2_method_3_code 4 (some .long) :: ky_B) { frames := 1, cells := 0, slots := 0, locals := 21 } (ky_P0 [.long (a0), .long (a1)]) (ky_Q0 (some (.long (fn_X0_joined a0 a1)))) 0 0 (fun _ => False) := by
  refine ky_start0 (by decide) (Nat.le_of_ble_eq_true rfl) (fun p e s m below meth c F ls hl => ?_)
  obtain ⟨hx, hb, hml, hown, hr, hlocks, hts⟩ := id F
  have hl : lv_has ls 4 [(0, .long (a0)), (2, .long (a1))] := hl
  have hw : fn_X0_joined a0 a1 = _ := fn_X0_joined.eq_1 a0 a1
  refine lv_lload_n hx hb dc_X0_joined_0 rfl (lv_at hl 0 rfl) ?_
  refine ky_cS0 (As := [.long (a0)]) F (mt_X0_sizeIn l (a0)) ks_X0_11 ⟨⟨rfl, rfl⟩, by decide, by decide⟩ rfl hl.1 rfl (Nat.le_of_ble_eq_true rfl) ⟨Nat.zero_le _, Nat.zero_le _⟩ dc_X0_joined_1 ?_
  refine lv_lload_n hx hb dc_X0_joined_4 rfl (lv_at hl 1 rfl) ?_
  refine lv_ldc2 (v := (-9223372036854775808)) hx hb hown (hts _ kw_3_123) dc_X0_joined_5 ?_
  refine lv_land hx hb dc_X0_joined_8 ?_
  refine lv_lor hx hb dc_X0_joined_9 ?_
  exact W.lret hx hb hr (fun t ht hW => ⟨congrArg (fun z => Outcome.returned (some (Value.long z))) hw.symm, ht⟩) ky_nil dc_X0_joined_10
def fn_X0_turned (a0 : Int64) : Int64 :=
  (a0) ^^^ ((-9223372036854775808 : Int64))
set_option linter.constructorNameAsVariable false in
set_option maxHeartbeats 4000000 in
set_option maxRecDepth 100000 in
theorem mt_X0_turned (l : Launch) (a0 : Int64) : Met l my_X0_turned (.code my_X0_turned prog_2_method_4_code 2 (some .long) :: ky_B) { frames := 0, cells := 0, slots := 0, locals := 0 } (ky_P0 [.long (a0)]) (ky_Q0 (some (.long (fn_X0_turned a0)))) 0 0 (fun _ => False) := by
  refine ky_start0 (by decide) (Nat.le_of_ble_eq_true rfl) (fun p e s m below meth c F ls hl => ?_)
  obtain ⟨hx, hb, hml, hown, hr, hlocks, hts⟩ := id F
  have hl : lv_has ls 2 [(0, .long (a0))] := hl
  have hw : fn_X0_turned a0 = _ := fn_X0_turned.eq_1 a0
  refine lv_lload_n hx hb dc_X0_turned_0 rfl (lv_at hl 0 rfl) ?_
  refine lv_ldc2 (v := (-9223372036854775808)) hx hb hown (hts _ kw_3_123) dc_X0_turned_1 ?_
  refine lv_lxor hx hb dc_X0_turned_4 ?_
  exact W.lret hx hb hr (fun t ht hW => ⟨congrArg (fun z => Outcome.returned (some (Value.long z))) hw.symm, ht⟩) ky_nil dc_X0_turned_5
def fn_X0_isDownOne (a0 : Int64) : Int32 :=
  if (0 : Int32) ≤ (lg_cmp (a0) ((0 : Int64))) then ((0 : Int32)) else ((1 : Int32))
set_option linter.constructorNameAsVariable false in
set_option maxHeartbeats 4000000 in
set_option maxRecDepth 100000 in
theorem mt_X0_isDownOne (l : Launch) (a0 : Int64) : Met l my_X0_isDownOne (.code my_X0_isDownOne prog_2_method_6_code 2 (some .boolean) :: ky_B) { frames := 0, cells := 0, slots := 0, locals := 0 } (ky_P0 [.long (a0)]) (ky_Q0 (some (.int (fn_X0_isDownOne a0)))) 0 0 (fun _ => False) := by
  refine ky_start0 (by decide) (Nat.le_of_ble_eq_true rfl) (fun p e s m below meth c F ls hl => ?_)
  obtain ⟨hx, hb, hml, hown, hr, hlocks, hts⟩ := id F
  have hl : lv_has ls 2 [(0, .long (a0))] := hl
  have hw : fn_X0_isDownOne a0 = _ := fn_X0_isDownOne.eq_1 a0
  refine lv_lload_n hx hb dc_X0_isDownOne_0 rfl (lv_at hl 0 rfl) ?_
  refine lv_lconst (v := 0) hx hb dc_X0_isDownOne_1 (by decide) ?_
  refine W.lcmp hx hb dc_X0_isDownOne_2 ?_
  refine lv_if_ge (tgt := 10) hx hb dc_X0_isDownOne_3 (by decide) (fun c_0 => ?_) (fun c_0 => ?_)
  · have hw := hw.trans (if_pos c_0)
    refine lv_iconst (v := 0) hx hb dc_X0_isDownOne_10 (by decide) ?_
    exact W.zret hx hb hr (by decide) (fun t ht hW => ⟨congrArg (fun z => Outcome.returned (some (Value.int z))) hw.symm, ht⟩) ky_nil dc_X0_isDownOne_11
  · have hw := hw.trans (if_neg c_0)
    refine lv_iconst (v := 1) hx hb dc_X0_isDownOne_6 (by decide) ?_
    refine lv_goto (tgt := 11) hx hb dc_X0_isDownOne_7 (by decide) ?_
    exact W.zret hx hb hr (by decide) (fun t ht hW => ⟨congrArg (fun z => Outcome.returned (some (Value.int z))) hw.symm, ht⟩) ky_nil dc_X0_isDownOne_11
theorem fz_X0_isDownOne (a0 : Int64) : fn_X0_isDownOne a0 = 0 ∨ fn_X0_isDownOne a0 = 1 := by
  unfold fn_X0_isDownOne
  repeat' split
  all_goals first | exact Or.inl rfl | exact Or.inr rfl
def fn_X0_highIn (a0 : Int64) : Int32 :=
  ((jlushr (a0) ((52 : Int32))).toInt32) &&& ((2047 : Int32))
set_option linter.constructorNameAsVariable false in
set_option maxHeartbeats 4000000 in
set_option maxRecDepth 100000 in
theorem mt_X0_highIn (l : Launch) (a0 : Int64) : Met l my_X0_highIn (.code my_X0_highIn prog_2_method_7_code 2 (some .int) :: ky_B) { frames := 0, cells := 0, slots := 0, locals := 0 } (ky_P0 [.long (a0)]) (ky_Q0 (some (.int (fn_X0_highIn a0)))) 0 0 (fun _ => False) := by
  refine ky_start0 (by decide) (Nat.le_of_ble_eq_true rfl) (fun p e s m below meth c F ls hl => ?_)
  obtain ⟨hx, hb, hml, hown, hr, hlocks, hts⟩ := id F
  have hl : lv_has ls 2 [(0, .long (a0))] := hl
  have hw : fn_X0_highIn a0 = _ := fn_X0_highIn.eq_1 a0
  refine lv_lload_n hx hb dc_X0_highIn_0 rfl (lv_at hl 0 rfl) ?_
  refine lv_bipush (v := 52) hx hb dc_X0_highIn_1 (by decide) ?_
  refine lv_lushr (v := jlushr (a0) ((52 : Int32))) hx hb dc_X0_highIn_3 rfl ?_
  refine lv_l2i (v := (jlushr (a0) ((52 : Int32))).toInt32) hx hb dc_X0_highIn_4 rfl ?_
  refine lv_sipush (v := 2047) hx hb dc_X0_highIn_5 (by decide) ?_
  refine lv_iand hx hb dc_X0_highIn_8 ?_
  exact W.iret hx hb hr (fun t ht hW => ⟨congrArg (fun z => Outcome.returned (some (Value.int z))) hw.symm, ht⟩) ky_nil dc_X0_highIn_9
def fn_X0_lowIn (a0 : Int64) : Int64 :=
  (a0) &&& ((4503599627370495 : Int64))
set_option linter.constructorNameAsVariable false in
set_option maxHeartbeats 4000000 in
set_option maxRecDepth 100000 in
theorem mt_X0_lowIn (l : Launch) (a0 : Int64) : Met l my_X0_lowIn (.code my_X0_lowIn prog_2_method_8_code 2 (some .long) :: ky_B) { frames := 0, cells := 0, slots := 0, locals := 0 } (ky_P0 [.long (a0)]) (ky_Q0 (some (.long (fn_X0_lowIn a0)))) 0 0 (fun _ => False) := by
  refine ky_start0 (by decide) (Nat.le_of_ble_eq_true rfl) (fun p e s m below meth c F ls hl => ?_)
  obtain ⟨hx, hb, hml, hown, hr, hlocks, hts⟩ := id F
  have hl : lv_has ls 2 [(0, .long (a0))] := hl
  have hw : fn_X0_lowIn a0 = _ := fn_X0_lowIn.eq_1 a0
  refine lv_lload_n hx hb dc_X0_lowIn_0 rfl (lv_at hl 0 rfl) ?_
  refine lv_ldc2 (v := 4503599627370495) hx hb hown (hts _ kw_3_47) dc_X0_lowIn_1 ?_
  refine lv_land hx hb dc_X0_lowIn_4 ?_
  exact W.lret hx hb hr (fun t ht hW => ⟨congrArg (fun z => Outcome.returned (some (Value.long z))) hw.symm, ht⟩) ky_nil dc_X0_lowIn_5
def fn_X0_digitsIn (a0 : Int64) (a1 : Int32) : Int32 :=
  if (a1) = 0 then (if (fn_X0_isDownOne (a0)) = (0 : Int32) then ((0 : Int32)) else ((1 : Int32))) else (if (a1) = 1 then (fn_X0_highIn (a0)) else (if (a1) = 2 then ((jlushr (fn_X0_lowIn (a0)) ((32 : Int32))).toInt32) else ((fn_X0_lowIn (a0)).toInt32)))
set_option linter.constructorNameAsVariable false in
set_option maxHeartbeats 4000000 in
set_option maxRecDepth 100000 in
theorem mt_X0_digitsIn (l : Launch) (a0 : Int64) (a1 : Int32) : Met l my_X0_digitsIn (.code my_X0_digitsIn prog_2_method_9_code 3 (some .int) :: ky_B) { frames := 1, cells := 0, slots := 0, locals := 21 } (ky_P0 [.long (a0), .int (a1)]) (ky_Q0 (some (.int (fn_X0_digitsIn a0 a1)))) 0 0 (fun _ => False) := by
  refine ky_start0 (by decide) (Nat.le_of_ble_eq_true rfl) (fun p e s m below meth c F ls hl => ?_)
  obtain ⟨hx, hb, hml, hown, hr, hlocks, hts⟩ := id F
  have hl : lv_has ls 3 [(0, .long (a0)), (2, .int (a1))] := hl
  have hw : fn_X0_digitsIn a0 a1 = _ := fn_X0_digitsIn.eq_1 a0 a1
  refine lv_iload_n hx hb dc_X0_digitsIn_0 rfl (lv_at hl 1 rfl) ?_
  by_cases c_0 : (a1) = 0
  · have hw := hw.trans (if_pos c_0)
    refine lv_tableIn (off := 27) (tgt := 28) hx hb dc_X0_digitsIn_1 (by rw [c_0]; decide) (by rw [c_0]; decide) (by rw [c_0]; rfl) (by decide) ?_
    refine lv_lload_n hx hb dc_X0_digitsIn_28 rfl (lv_at hl 0 rfl) ?_
    refine ky_cS0 (As := [.long (a0)]) F (mt_X0_isDownOne l (a0)) ks_X0_19 ⟨⟨rfl, rfl⟩, by decide, by decide⟩ rfl hl.1 rfl (Nat.le_of_ble_eq_true rfl) ⟨Nat.zero_le _, Nat.zero_le _⟩ dc_X0_digitsIn_29 ?_
    refine lv_if_eq (tgt := 39) hx hb dc_X0_digitsIn_32 (by decide) (fun c_1 => ?_) (fun c_1 => ?_)
    · have hw := hw.trans (if_pos c_1)
      refine lv_iconst (v := 0) hx hb dc_X0_digitsIn_39 (by decide) ?_
      exact W.iret hx hb hr (fun t ht hW => ⟨congrArg (fun z => Outcome.returned (some (Value.int z))) hw.symm, ht⟩) ky_nil dc_X0_digitsIn_40
    · have hw := hw.trans (if_neg c_1)
      refine lv_iconst (v := 1) hx hb dc_X0_digitsIn_35 (by decide) ?_
      refine lv_goto (tgt := 40) hx hb dc_X0_digitsIn_36 (by decide) ?_
      exact W.iret hx hb hr (fun t ht hW => ⟨congrArg (fun z => Outcome.returned (some (Value.int z))) hw.symm, ht⟩) ky_nil dc_X0_digitsIn_40
  have hw := hw.trans (if_neg c_0)
  by_cases c_1 : (a1) = 1
  · have hw := hw.trans (if_pos c_1)
    refine lv_tableIn (off := 40) (tgt := 41) hx hb dc_X0_digitsIn_1 (by rw [c_1]; decide) (by rw [c_1]; decide) (by rw [c_1]; rfl) (by decide) ?_
    refine lv_lload_n hx hb dc_X0_digitsIn_41 rfl (lv_at hl 0 rfl) ?_
    refine ky_cS0 (As := [.long (a0)]) F (mt_X0_highIn l (a0)) ks_X0_23 ⟨⟨rfl, rfl⟩, by decide, by decide⟩ rfl hl.1 rfl (Nat.le_of_ble_eq_true rfl) ⟨Nat.zero_le _, Nat.zero_le _⟩ dc_X0_digitsIn_42 ?_
    exact W.iret hx hb hr (fun t ht hW => ⟨congrArg (fun z => Outcome.returned (some (Value.int z))) hw.symm, ht⟩) ky_nil dc_X0_digitsIn_45
  have hw := hw.trans (if_neg c_1)
  by_cases c_2 : (a1) = 2
  · have hw := hw.trans (if_pos c_2)
    refine lv_tableIn (off := 45) (tgt := 46) hx hb dc_X0_digitsIn_1 (by rw [c_2]; decide) (by rw [c_2]; decide) (by rw [c_2]; rfl) (by decide) ?_
    refine lv_lload_n hx hb dc_X0_digitsIn_46 rfl (lv_at hl 0 rfl) ?_
    refine ky_cS0 (As := [.long (a0)]) F (mt_X0_lowIn l (a0)) ks_X0_27 ⟨⟨rfl, rfl⟩, by decide, by decide⟩ rfl hl.1 rfl (Nat.le_of_ble_eq_true rfl) ⟨Nat.zero_le _, Nat.zero_le _⟩ dc_X0_digitsIn_47 ?_
    refine lv_bipush (v := 32) hx hb dc_X0_digitsIn_50 (by decide) ?_
    refine lv_lushr (v := jlushr (fn_X0_lowIn (a0)) ((32 : Int32))) hx hb dc_X0_digitsIn_52 rfl ?_
    refine lv_l2i (v := (jlushr (fn_X0_lowIn (a0)) ((32 : Int32))).toInt32) hx hb dc_X0_digitsIn_53 rfl ?_
    exact W.iret hx hb hr (fun t ht hW => ⟨congrArg (fun z => Outcome.returned (some (Value.int z))) hw.symm, ht⟩) ky_nil dc_X0_digitsIn_54
  have hw := hw.trans (if_neg c_2)
  refine lv_tableOut (tgt := 55) hx hb dc_X0_digitsIn_1 (ky_out3 c_0 c_1 c_2) (by decide) ?_
  refine lv_lload_n hx hb dc_X0_digitsIn_55 rfl (lv_at hl 0 rfl) ?_
  refine ky_cS0 (As := [.long (a0)]) F (mt_X0_lowIn l (a0)) ks_X0_27 ⟨⟨rfl, rfl⟩, by decide, by decide⟩ rfl hl.1 rfl (Nat.le_of_ble_eq_true rfl) ⟨Nat.zero_le _, Nat.zero_le _⟩ dc_X0_digitsIn_56 ?_
  refine lv_l2i (v := (fn_X0_lowIn (a0)).toInt32) hx hb dc_X0_digitsIn_59 rfl ?_
  exact W.iret hx hb hr (fun t ht hW => ⟨congrArg (fun z => Outcome.returned (some (Value.int z))) hw.symm, ht⟩) ky_nil dc_X0_digitsIn_60
def fn_X0_exponentIn (a0 : Int64) : Int32 :=
  (fn_X0_highIn (a0)) - ((1023 : Int32))
set_option linter.constructorNameAsVariable false in
set_option maxHeartbeats 4000000 in
set_option maxRecDepth 100000 in
theorem mt_X0_exponentIn (l : Launch) (a0 : Int64) : Met l my_X0_exponentIn (.code my_X0_exponentIn prog_2_method_10_code 2 (some .int) :: ky_B) { frames := 1, cells := 0, slots := 0, locals := 21 } (ky_P0 [.long (a0)]) (ky_Q0 (some (.int (fn_X0_exponentIn a0)))) 0 0 (fun _ => False) := by
  refine ky_start0 (by decide) (Nat.le_of_ble_eq_true rfl) (fun p e s m below meth c F ls hl => ?_)
  obtain ⟨hx, hb, hml, hown, hr, hlocks, hts⟩ := id F
  have hl : lv_has ls 2 [(0, .long (a0))] := hl
  have hw : fn_X0_exponentIn a0 = _ := fn_X0_exponentIn.eq_1 a0
  refine lv_lload_n hx hb dc_X0_exponentIn_0 rfl (lv_at hl 0 rfl) ?_
  refine ky_cS0 (As := [.long (a0)]) F (mt_X0_highIn l (a0)) ks_X0_23 ⟨⟨rfl, rfl⟩, by decide, by decide⟩ rfl hl.1 rfl (Nat.le_of_ble_eq_true rfl) ⟨Nat.zero_le _, Nat.zero_le _⟩ dc_X0_exponentIn_1 ?_
  refine lv_sipush (v := 1023) hx hb dc_X0_exponentIn_4 (by decide) ?_
  refine lv_isub hx hb dc_X0_exponentIn_7 ?_
  exact W.iret hx hb hr (fun t ht hW => ⟨congrArg (fun z => Outcome.returned (some (Value.int z))) hw.symm, ht⟩) ky_nil dc_X0_exponentIn_8
def fn_X0_isNumber (a0 : Int64) : Int32 :=
  if (0 : Int32) < (lg_cmp (fn_X0_sizeIn (a0)) ((9218868437227405312 : Int64))) then ((0 : Int32)) else ((1 : Int32))
set_option linter.constructorNameAsVariable false in
set_option maxHeartbeats 4000000 in
set_option maxRecDepth 100000 in
theorem mt_X0_isNumber (l : Launch) (a0 : Int64) : Met l my_X0_isNumber (.code my_X0_isNumber prog_2_method_11_code 2 (some .boolean) :: ky_B) { frames := 1, cells := 0, slots := 0, locals := 21 } (ky_P0 [.long (a0)]) (ky_Q0 (some (.int (fn_X0_isNumber a0)))) 0 0 (fun _ => False) := by
  refine ky_start0 (by decide) (Nat.le_of_ble_eq_true rfl) (fun p e s m below meth c F ls hl => ?_)
  obtain ⟨hx, hb, hml, hown, hr, hlocks, hts⟩ := id F
  have hl : lv_has ls 2 [(0, .long (a0))] := hl
  have hw : fn_X0_isNumber a0 = _ := fn_X0_isNumber.eq_1 a0
  refine lv_lload_n hx hb dc_X0_isNumber_0 rfl (lv_at hl 0 rfl) ?_
  refine ky_cS0 (As := [.long (a0)]) F (mt_X0_sizeIn l (a0)) ks_X0_11 ⟨⟨rfl, rfl⟩, by decide, by decide⟩ rfl hl.1 rfl (Nat.le_of_ble_eq_true rfl) ⟨Nat.zero_le _, Nat.zero_le _⟩ dc_X0_isNumber_1 ?_
  refine lv_ldc2 (v := 9218868437227405312) hx hb hown (hts _ kw_3_37) dc_X0_isNumber_4 ?_
  refine W.lcmp hx hb dc_X0_isNumber_7 ?_
  refine lv_if_gt (tgt := 15) hx hb dc_X0_isNumber_8 (by decide) (fun c_0 => ?_) (fun c_0 => ?_)
  · have hw := hw.trans (if_pos c_0)
    refine lv_iconst (v := 0) hx hb dc_X0_isNumber_15 (by decide) ?_
    exact W.zret hx hb hr (by decide) (fun t ht hW => ⟨congrArg (fun z => Outcome.returned (some (Value.int z))) hw.symm, ht⟩) ky_nil dc_X0_isNumber_16
  · have hw := hw.trans (if_neg c_0)
    refine lv_iconst (v := 1) hx hb dc_X0_isNumber_11 (by decide) ?_
    refine lv_goto (tgt := 16) hx hb dc_X0_isNumber_12 (by decide) ?_
    exact W.zret hx hb hr (by decide) (fun t ht hW => ⟨congrArg (fun z => Outcome.returned (some (Value.int z))) hw.symm, ht⟩) ky_nil dc_X0_isNumber_16
theorem fz_X0_isNumber (a0 : Int64) : fn_X0_isNumber a0 = 0 ∨ fn_X0_isNumber a0 = 1 := by
  unfold fn_X0_isNumber
  repeat' split
  all_goals first | exact Or.inl rfl | exact Or.inr rfl
def fn_X0_isEndlessOne (a0 : Int64) : Int32 :=
  if (lg_cmp (fn_X0_sizeIn (a0)) ((9218868437227405312 : Int64))) = (0 : Int32) then ((1 : Int32)) else ((0 : Int32))
set_option linter.constructorNameAsVariable false in
set_option maxHeartbeats 4000000 in
set_option maxRecDepth 100000 in
theorem mt_X0_isEndlessOne (l : Launch) (a0 : Int64) : Met l my_X0_isEndlessOne (.code my_X0_isEndlessOne prog_2_method_12_code 2 (some .boolean) :: ky_B) { frames := 1, cells := 0, slots := 0, locals := 21 } (ky_P0 [.long (a0)]) (ky_Q0 (some (.int (fn_X0_isEndlessOne a0)))) 0 0 (fun _ => False) := by
  refine ky_start0 (by decide) (Nat.le_of_ble_eq_true rfl) (fun p e s m below meth c F ls hl => ?_)
  obtain ⟨hx, hb, hml, hown, hr, hlocks, hts⟩ := id F
  have hl : lv_has ls 2 [(0, .long (a0))] := hl
  have hw : fn_X0_isEndlessOne a0 = _ := fn_X0_isEndlessOne.eq_1 a0
  refine lv_lload_n hx hb dc_X0_isEndlessOne_0 rfl (lv_at hl 0 rfl) ?_
  refine ky_cS0 (As := [.long (a0)]) F (mt_X0_sizeIn l (a0)) ks_X0_11 ⟨⟨rfl, rfl⟩, by decide, by decide⟩ rfl hl.1 rfl (Nat.le_of_ble_eq_true rfl) ⟨Nat.zero_le _, Nat.zero_le _⟩ dc_X0_isEndlessOne_1 ?_
  refine lv_ldc2 (v := 9218868437227405312) hx hb hown (hts _ kw_3_37) dc_X0_isEndlessOne_4 ?_
  refine W.lcmp hx hb dc_X0_isEndlessOne_7 ?_
  refine lv_if_ne (tgt := 15) hx hb dc_X0_isEndlessOne_8 (by decide) (fun c_0 => ?_) (fun c_0 => ?_)
  · have hw := hw.trans (if_neg c_0)
    refine lv_iconst (v := 0) hx hb dc_X0_isEndlessOne_15 (by decide) ?_
    exact W.zret hx hb hr (by decide) (fun t ht hW => ⟨congrArg (fun z => Outcome.returned (some (Value.int z))) hw.symm, ht⟩) ky_nil dc_X0_isEndlessOne_16
  · have hw := hw.trans (if_pos c_0)
    refine lv_iconst (v := 1) hx hb dc_X0_isEndlessOne_11 (by decide) ?_
    refine lv_goto (tgt := 16) hx hb dc_X0_isEndlessOne_12 (by decide) ?_
    exact W.zret hx hb hr (by decide) (fun t ht hW => ⟨congrArg (fun z => Outcome.returned (some (Value.int z))) hw.symm, ht⟩) ky_nil dc_X0_isEndlessOne_16
theorem fz_X0_isEndlessOne (a0 : Int64) : fn_X0_isEndlessOne a0 = 0 ∨ fn_X0_isEndlessOne a0 = 1 := by
  unfold fn_X0_isEndlessOne
  repeat' split
  all_goals first | exact Or.inl rfl | exact Or.inr rfl
def fn_X0_factorIn (a0 : Int64) : Int64 :=
  if (fn_X0_highIn (a0)) = (0 : Int32) then (fn_X0_lowIn (a0)) else ((fn_X0_lowIn (a0)) + ((4503599627370496 : Int64)))
set_option linter.constructorNameAsVariable false in
set_option maxHeartbeats 4000000 in
set_option maxRecDepth 100000 in
theorem mt_X0_factorIn (l : Launch) (a0 : Int64) : Met l my_X0_factorIn (.code my_X0_factorIn prog_2_method_19_code 2 (some .long) :: ky_B) { frames := 1, cells := 0, slots := 0, locals := 21 } (ky_P0 [.long (a0)]) (ky_Q0 (some (.long (fn_X0_factorIn a0)))) 0 0 (fun _ => False) := by
  refine ky_start0 (by decide) (Nat.le_of_ble_eq_true rfl) (fun p e s m below meth c F ls hl => ?_)
  obtain ⟨hx, hb, hml, hown, hr, hlocks, hts⟩ := id F
  have hl : lv_has ls 2 [(0, .long (a0))] := hl
  have hw : fn_X0_factorIn a0 = _ := fn_X0_factorIn.eq_1 a0
  refine lv_lload_n hx hb dc_X0_factorIn_0 rfl (lv_at hl 0 rfl) ?_
  refine ky_cS0 (As := [.long (a0)]) F (mt_X0_highIn l (a0)) ks_X0_23 ⟨⟨rfl, rfl⟩, by decide, by decide⟩ rfl hl.1 rfl (Nat.le_of_ble_eq_true rfl) ⟨Nat.zero_le _, Nat.zero_le _⟩ dc_X0_factorIn_1 ?_
  refine lv_if_ne (tgt := 14) hx hb dc_X0_factorIn_4 (by decide) (fun c_0 => ?_) (fun c_0 => ?_)
  · have hw := hw.trans (if_neg c_0)
    refine lv_lload_n hx hb dc_X0_factorIn_14 rfl (lv_at hl 0 rfl) ?_
    refine ky_cS0 (As := [.long (a0)]) F (mt_X0_lowIn l (a0)) ks_X0_27 ⟨⟨rfl, rfl⟩, by decide, by decide⟩ rfl hl.1 rfl (Nat.le_of_ble_eq_true rfl) ⟨Nat.zero_le _, Nat.zero_le _⟩ dc_X0_factorIn_15 ?_
    refine lv_ldc2 (v := 4503599627370496) hx hb hown (hts _ kw_3_48) dc_X0_factorIn_18 ?_
    refine lv_ladd hx hb dc_X0_factorIn_21 ?_
    exact W.lret hx hb hr (fun t ht hW => ⟨congrArg (fun z => Outcome.returned (some (Value.long z))) hw.symm, ht⟩) ky_nil dc_X0_factorIn_22
  · have hw := hw.trans (if_pos c_0)
    refine lv_lload_n hx hb dc_X0_factorIn_7 rfl (lv_at hl 0 rfl) ?_
    refine ky_cS0 (As := [.long (a0)]) F (mt_X0_lowIn l (a0)) ks_X0_27 ⟨⟨rfl, rfl⟩, by decide, by decide⟩ rfl hl.1 rfl (Nat.le_of_ble_eq_true rfl) ⟨Nat.zero_le _, Nat.zero_le _⟩ dc_X0_factorIn_8 ?_
    refine lv_goto (tgt := 22) hx hb dc_X0_factorIn_11 (by decide) ?_
    exact W.lret hx hb hr (fun t ht hW => ⟨congrArg (fun z => Outcome.returned (some (Value.long z))) hw.symm, ht⟩) ky_nil dc_X0_factorIn_22
def fn_X0_powerIn (a0 : Int64) : Int32 :=
  ((jimax (fn_X0_highIn (a0)) ((1 : Int32))) + ((-1074 : Int32))) - ((1 : Int32))
set_option linter.constructorNameAsVariable false in
set_option maxHeartbeats 4000000 in
set_option maxRecDepth 100000 in
theorem mt_X0_powerIn (l : Launch) (a0 : Int64) : Met l my_X0_powerIn (.code my_X0_powerIn prog_2_method_20_code 2 (some .int) :: ky_B) { frames := 1, cells := 0, slots := 0, locals := 21 } (ky_P0 [.long (a0)]) (ky_Q0 (some (.int (fn_X0_powerIn a0)))) 0 0 (fun _ => False) := by
  refine ky_start0 (by decide) (Nat.le_of_ble_eq_true rfl) (fun p e s m below meth c F ls hl => ?_)
  obtain ⟨hx, hb, hml, hown, hr, hlocks, hts⟩ := id F
  have hl : lv_has ls 2 [(0, .long (a0))] := hl
  have hw : fn_X0_powerIn a0 = _ := fn_X0_powerIn.eq_1 a0
  refine lv_lload_n hx hb dc_X0_powerIn_0 rfl (lv_at hl 0 rfl) ?_
  refine ky_cS0 (As := [.long (a0)]) F (mt_X0_highIn l (a0)) ks_X0_23 ⟨⟨rfl, rfl⟩, by decide, by decide⟩ rfl hl.1 rfl (Nat.le_of_ble_eq_true rfl) ⟨Nat.zero_le _, Nat.zero_le _⟩ dc_X0_powerIn_1 ?_
  refine lv_iconst (v := 1) hx hb dc_X0_powerIn_4 (by decide) ?_
  refine ky_imax F ⟨kw_3_52, kw_1_185, kw_1_16, kw_1_186⟩ hl.1 (Nat.le_of_ble_eq_true rfl) (Nat.le_of_ble_eq_true rfl) ⟨Nat.zero_le _, Nat.zero_le _⟩ dc_X0_powerIn_5 ?_
  refine lv_sipush (v := (-1074)) hx hb dc_X0_powerIn_8 (by decide) ?_
  refine lv_iadd hx hb dc_X0_powerIn_11 ?_
  refine lv_iconst (v := 1) hx hb dc_X0_powerIn_12 (by decide) ?_
  refine lv_isub hx hb dc_X0_powerIn_13 ?_
  exact W.iret hx hb hr (fun t ht hW => ⟨congrArg (fun z => Outcome.returned (some (Value.int z))) hw.symm, ht⟩) ky_nil dc_X0_powerIn_14
def fn_X0_behindIn (a0 : Int64) : Int32 :=
  jimax ((0 : Int32)) (jimin ((60 : Int32)) (((1075 : Int32)) - (fn_X0_highIn (a0))))
set_option linter.constructorNameAsVariable false in
set_option maxHeartbeats 4000000 in
set_option maxRecDepth 100000 in
theorem mt_X0_behindIn (l : Launch) (a0 : Int64) : Met l my_X0_behindIn (.code my_X0_behindIn prog_2_method_21_code 2 (some .int) :: ky_B) { frames := 1, cells := 0, slots := 0, locals := 21 } (ky_P0 [.long (a0)]) (ky_Q0 (some (.int (fn_X0_behindIn a0)))) 0 0 (fun _ => False) := by
  refine ky_start0 (by decide) (Nat.le_of_ble_eq_true rfl) (fun p e s m below meth c F ls hl => ?_)
  obtain ⟨hx, hb, hml, hown, hr, hlocks, hts⟩ := id F
  have hl : lv_has ls 2 [(0, .long (a0))] := hl
  have hw : fn_X0_behindIn a0 = _ := fn_X0_behindIn.eq_1 a0
  refine lv_iconst (v := 0) hx hb dc_X0_behindIn_0 (by decide) ?_
  refine lv_bipush (v := 60) hx hb dc_X0_behindIn_1 (by decide) ?_
  refine lv_sipush (v := 1075) hx hb dc_X0_behindIn_3 (by decide) ?_
  refine lv_lload_n hx hb dc_X0_behindIn_6 rfl (lv_at hl 0 rfl) ?_
  refine ky_cS0 (As := [.long (a0)]) F (mt_X0_highIn l (a0)) ks_X0_23 ⟨⟨rfl, rfl⟩, by decide, by decide⟩ rfl hl.1 rfl (Nat.le_of_ble_eq_true rfl) ⟨Nat.zero_le _, Nat.zero_le _⟩ dc_X0_behindIn_7 ?_
  refine lv_isub hx hb dc_X0_behindIn_10 ?_
  refine ky_imin F ⟨kw_3_103, kw_1_203, kw_1_16, kw_1_204⟩ hl.1 (Nat.le_of_ble_eq_true rfl) (Nat.le_of_ble_eq_true rfl) ⟨Nat.zero_le _, Nat.zero_le _⟩ dc_X0_behindIn_11 ?_
  refine ky_imax F ⟨kw_3_52, kw_1_185, kw_1_16, kw_1_186⟩ hl.1 (Nat.le_of_ble_eq_true rfl) (Nat.le_of_ble_eq_true rfl) ⟨Nat.zero_le _, Nat.zero_le _⟩ dc_X0_behindIn_14 ?_
  exact W.iret hx hb hr (fun t ht hW => ⟨congrArg (fun z => Outcome.returned (some (Value.int z))) hw.symm, ht⟩) ky_nil dc_X0_behindIn_17
def fn_X0_aheadIn (a0 : Int64) : Int64 :=
  jlushr (fn_X0_factorIn (a0)) (fn_X0_behindIn (a0))
set_option linter.constructorNameAsVariable false in
set_option maxHeartbeats 4000000 in
set_option maxRecDepth 100000 in
theorem mt_X0_aheadIn (l : Launch) (a0 : Int64) : Met l my_X0_aheadIn (.code my_X0_aheadIn prog_2_method_22_code 2 (some .long) :: ky_B) { frames := 2, cells := 0, slots := 0, locals := 42 } (ky_P0 [.long (a0)]) (ky_Q0 (some (.long (fn_X0_aheadIn a0)))) 0 0 (fun _ => False) := by
  refine ky_start0 (by decide) (Nat.le_of_ble_eq_true rfl) (fun p e s m below meth c F ls hl => ?_)
  obtain ⟨hx, hb, hml, hown, hr, hlocks, hts⟩ := id F
  have hl : lv_has ls 2 [(0, .long (a0))] := hl
  have hw : fn_X0_aheadIn a0 = _ := fn_X0_aheadIn.eq_1 a0
  refine lv_lload_n hx hb dc_X0_aheadIn_0 rfl (lv_at hl 0 rfl) ?_
  refine ky_cS0 (As := [.long (a0)]) F (mt_X0_factorIn l (a0)) ks_X0_54 ⟨⟨rfl, rfl⟩, by decide, by decide⟩ rfl hl.1 rfl (Nat.le_of_ble_eq_true rfl) ⟨Nat.zero_le _, Nat.zero_le _⟩ dc_X0_aheadIn_1 ?_
  refine lv_lload_n hx hb dc_X0_aheadIn_4 rfl (lv_at hl 0 rfl) ?_
  refine ky_cS0 (As := [.long (a0)]) F (mt_X0_behindIn l (a0)) ks_X0_57 ⟨⟨rfl, rfl⟩, by decide, by decide⟩ rfl hl.1 rfl (Nat.le_of_ble_eq_true rfl) ⟨Nat.zero_le _, Nat.zero_le _⟩ dc_X0_aheadIn_5 ?_
  refine lv_lushr (v := jlushr (fn_X0_factorIn (a0)) (fn_X0_behindIn (a0))) hx hb dc_X0_aheadIn_8 rfl ?_
  exact W.lret hx hb hr (fun t ht hW => ⟨congrArg (fun z => Outcome.returned (some (Value.long z))) hw.symm, ht⟩) ky_nil dc_X0_aheadIn_9
def fn_X0_restIn (a0 : Int64) : Int64 :=
  (fn_X0_factorIn (a0)) &&& ((jlshl ((1 : Int64)) (fn_X0_behindIn (a0))) - ((1 : Int64)))
set_option linter.constructorNameAsVariable false in
set_option maxHeartbeats 4000000 in
set_option maxRecDepth 100000 in
theorem mt_X0_restIn (l : Launch) (a0 : Int64) : Met l my_X0_restIn (.code my_X0_restIn prog_2_method_23_code 2 (some .long) :: ky_B) { frames := 2, cells := 0, slots := 0, locals := 42 } (ky_P0 [.long (a0)]) (ky_Q0 (some (.long (fn_X0_restIn a0)))) 0 0 (fun _ => False) := by
  refine ky_start0 (by decide) (Nat.le_of_ble_eq_true rfl) (fun p e s m below meth c F ls hl => ?_)
  obtain ⟨hx, hb, hml, hown, hr, hlocks, hts⟩ := id F
  have hl : lv_has ls 2 [(0, .long (a0))] := hl
  have hw : fn_X0_restIn a0 = _ := fn_X0_restIn.eq_1 a0
  refine lv_lload_n hx hb dc_X0_restIn_0 rfl (lv_at hl 0 rfl) ?_
  refine ky_cS0 (As := [.long (a0)]) F (mt_X0_factorIn l (a0)) ks_X0_54 ⟨⟨rfl, rfl⟩, by decide, by decide⟩ rfl hl.1 rfl (Nat.le_of_ble_eq_true rfl) ⟨Nat.zero_le _, Nat.zero_le _⟩ dc_X0_restIn_1 ?_
  refine lv_lconst (v := 1) hx hb dc_X0_restIn_4 (by decide) ?_
  refine lv_lload_n hx hb dc_X0_restIn_5 rfl (lv_at hl 0 rfl) ?_
  refine ky_cS0 (As := [.long (a0)]) F (mt_X0_behindIn l (a0)) ks_X0_57 ⟨⟨rfl, rfl⟩, by decide, by decide⟩ rfl hl.1 rfl (Nat.le_of_ble_eq_true rfl) ⟨Nat.zero_le _, Nat.zero_le _⟩ dc_X0_restIn_6 ?_
  refine lv_lshl (v := jlshl ((1 : Int64)) (fn_X0_behindIn (a0))) hx hb dc_X0_restIn_9 rfl ?_
  refine lv_lconst (v := 1) hx hb dc_X0_restIn_10 (by decide) ?_
  refine lv_lsub hx hb dc_X0_restIn_11 ?_
  refine lv_land hx hb dc_X0_restIn_12 ?_
  exact W.lret hx hb hr (fun t ht hW => ⟨congrArg (fun z => Outcome.returned (some (Value.long z))) hw.symm, ht⟩) ky_nil dc_X0_restIn_13
def fn_X0_isWholeOne (a0 : Int64) : Int32 :=
  if (lg_cmp (fn_X0_restIn (a0)) ((0 : Int64))) = (0 : Int32) then (if (fn_X0_isEndlessOne (a0)) = (0 : Int32) then ((1 : Int32)) else ((0 : Int32))) else ((0 : Int32))
set_option linter.constructorNameAsVariable false in
set_option maxHeartbeats 4000000 in
set_option maxRecDepth 100000 in
theorem mt_X0_isWholeOne (l : Launch) (a0 : Int64) : Met l my_X0_isWholeOne (.code my_X0_isWholeOne prog_2_method_13_code 2 (some .boolean) :: ky_B) { frames := 3, cells := 0, slots := 0, locals := 63 } (ky_P0 [.long (a0)]) (ky_Q0 (some (.int (fn_X0_isWholeOne a0)))) 0 0 (fun _ => False) := by
  refine ky_start0 (by decide) (Nat.le_of_ble_eq_true rfl) (fun p e s m below meth c F ls hl => ?_)
  obtain ⟨hx, hb, hml, hown, hr, hlocks, hts⟩ := id F
  have hl : lv_has ls 2 [(0, .long (a0))] := hl
  have hw : fn_X0_isWholeOne a0 = _ := fn_X0_isWholeOne.eq_1 a0
  refine lv_lload_n hx hb dc_X0_isWholeOne_0 rfl (lv_at hl 0 rfl) ?_
  refine ky_cS0 (As := [.long (a0)]) F (mt_X0_restIn l (a0)) ks_X0_32 ⟨⟨rfl, rfl⟩, by decide, by decide⟩ rfl hl.1 rfl (Nat.le_of_ble_eq_true rfl) ⟨Nat.zero_le _, Nat.zero_le _⟩ dc_X0_isWholeOne_1 ?_
  refine lv_lconst (v := 0) hx hb dc_X0_isWholeOne_4 (by decide) ?_
  refine W.lcmp hx hb dc_X0_isWholeOne_5 ?_
  refine lv_if_ne (tgt := 20) hx hb dc_X0_isWholeOne_6 (by decide) (fun c_0 => ?_) (fun c_0 => ?_)
  · have hw := hw.trans (if_neg c_0)
    refine lv_iconst (v := 0) hx hb dc_X0_isWholeOne_20 (by decide) ?_
    exact W.zret hx hb hr (by decide) (fun t ht hW => ⟨congrArg (fun z => Outcome.returned (some (Value.int z))) hw.symm, ht⟩) ky_nil dc_X0_isWholeOne_21
  · have hw := hw.trans (if_pos c_0)
    refine lv_lload_n hx hb dc_X0_isWholeOne_9 rfl (lv_at hl 0 rfl) ?_
    refine ky_cS0 (As := [.long (a0)]) F (mt_X0_isEndlessOne l (a0)) ks_X0_35 ⟨⟨rfl, rfl⟩, by decide, by decide⟩ rfl hl.1 rfl (Nat.le_of_ble_eq_true rfl) ⟨Nat.zero_le _, Nat.zero_le _⟩ dc_X0_isWholeOne_10 ?_
    refine lv_if_ne (tgt := 20) hx hb dc_X0_isWholeOne_13 (by decide) (fun c_1 => ?_) (fun c_1 => ?_)
    · have hw := hw.trans (if_neg c_1)
      refine lv_iconst (v := 0) hx hb dc_X0_isWholeOne_20 (by decide) ?_
      exact W.zret hx hb hr (by decide) (fun t ht hW => ⟨congrArg (fun z => Outcome.returned (some (Value.int z))) hw.symm, ht⟩) ky_nil dc_X0_isWholeOne_21
    · have hw := hw.trans (if_pos c_1)
      refine lv_iconst (v := 1) hx hb dc_X0_isWholeOne_16 (by decide) ?_
      refine lv_goto (tgt := 21) hx hb dc_X0_isWholeOne_17 (by decide) ?_
      exact W.zret hx hb hr (by decide) (fun t ht hW => ⟨congrArg (fun z => Outcome.returned (some (Value.int z))) hw.symm, ht⟩) ky_nil dc_X0_isWholeOne_21
theorem fz_X0_isWholeOne (a0 : Int64) : fn_X0_isWholeOne a0 = 0 ∨ fn_X0_isWholeOne a0 = 1 := by
  unfold fn_X0_isWholeOne
  repeat' split
  all_goals first | exact Or.inl rfl | exact Or.inr rfl
def fn_X0_kindIn (a0 : Int64) : Int32 :=
  if (lg_cmp (fn_X0_sizeIn (a0)) ((0 : Int64))) = (0 : Int32) then ((0 : Int32)) else (if (fn_X0_highIn (a0)) = (0 : Int32) then ((1 : Int32)) else (if (fn_X0_isEndlessOne (a0)) = (0 : Int32) then (if (lg_cmp (fn_X0_restIn (a0)) ((0 : Int64))) = (0 : Int32) then ((3 : Int32)) else ((2 : Int32))) else ((4 : Int32))))
set_option linter.constructorNameAsVariable false in
set_option maxHeartbeats 4000000 in
set_option maxRecDepth 100000 in
theorem mt_X0_kindIn (l : Launch) (a0 : Int64) : Met l my_X0_kindIn (.code my_X0_kindIn prog_2_method_14_code 2 (some .int) :: ky_B) { frames := 3, cells := 0, slots := 0, locals := 63 } (ky_P0 [.long (a0)]) (ky_Q0 (some (.int (fn_X0_kindIn a0)))) 0 0 (fun _ => False) := by
  refine ky_start0 (by decide) (Nat.le_of_ble_eq_true rfl) (fun p e s m below meth c F ls hl => ?_)
  obtain ⟨hx, hb, hml, hown, hr, hlocks, hts⟩ := id F
  have hl : lv_has ls 2 [(0, .long (a0))] := hl
  have hw : fn_X0_kindIn a0 = _ := fn_X0_kindIn.eq_1 a0
  refine lv_lload_n hx hb dc_X0_kindIn_0 rfl (lv_at hl 0 rfl) ?_
  refine ky_cS0 (As := [.long (a0)]) F (mt_X0_sizeIn l (a0)) ks_X0_11 ⟨⟨rfl, rfl⟩, by decide, by decide⟩ rfl hl.1 rfl (Nat.le_of_ble_eq_true rfl) ⟨Nat.zero_le _, Nat.zero_le _⟩ dc_X0_kindIn_1 ?_
  refine lv_lconst (v := 0) hx hb dc_X0_kindIn_4 (by decide) ?_
  refine W.lcmp hx hb dc_X0_kindIn_5 ?_
  refine lv_if_ne (tgt := 11) hx hb dc_X0_kindIn_6 (by decide) (fun c_0 => ?_) (fun c_0 => ?_)
  · have hw := hw.trans (if_neg c_0)
    refine lv_lload_n hx hb dc_X0_kindIn_11 rfl (lv_at hl 0 rfl) ?_
    refine ky_cS0 (As := [.long (a0)]) F (mt_X0_highIn l (a0)) ks_X0_23 ⟨⟨rfl, rfl⟩, by decide, by decide⟩ rfl hl.1 rfl (Nat.le_of_ble_eq_true rfl) ⟨Nat.zero_le _, Nat.zero_le _⟩ dc_X0_kindIn_12 ?_
    refine lv_if_ne (tgt := 20) hx hb dc_X0_kindIn_15 (by decide) (fun c_1 => ?_) (fun c_1 => ?_)
    · have hw := hw.trans (if_neg c_1)
      refine lv_lload_n hx hb dc_X0_kindIn_20 rfl (lv_at hl 0 rfl) ?_
      refine ky_cS0 (As := [.long (a0)]) F (mt_X0_isEndlessOne l (a0)) ks_X0_35 ⟨⟨rfl, rfl⟩, by decide, by decide⟩ rfl hl.1 rfl (Nat.le_of_ble_eq_true rfl) ⟨Nat.zero_le _, Nat.zero_le _⟩ dc_X0_kindIn_21 ?_
      refine lv_if_eq (tgt := 29) hx hb dc_X0_kindIn_24 (by decide) (fun c_2 => ?_) (fun c_2 => ?_)
      · have hw := hw.trans (if_pos c_2)
        refine lv_lload_n hx hb dc_X0_kindIn_29 rfl (lv_at hl 0 rfl) ?_
        refine ky_cS0 (As := [.long (a0)]) F (mt_X0_restIn l (a0)) ks_X0_32 ⟨⟨rfl, rfl⟩, by decide, by decide⟩ rfl hl.1 rfl (Nat.le_of_ble_eq_true rfl) ⟨Nat.zero_le _, Nat.zero_le _⟩ dc_X0_kindIn_30 ?_
        refine lv_lconst (v := 0) hx hb dc_X0_kindIn_33 (by decide) ?_
        refine W.lcmp hx hb dc_X0_kindIn_34 ?_
        refine lv_if_ne (tgt := 42) hx hb dc_X0_kindIn_35 (by decide) (fun c_3 => ?_) (fun c_3 => ?_)
        · have hw := hw.trans (if_neg c_3)
          refine lv_iconst (v := 2) hx hb dc_X0_kindIn_42 (by decide) ?_
          exact W.iret hx hb hr (fun t ht hW => ⟨congrArg (fun z => Outcome.returned (some (Value.int z))) hw.symm, ht⟩) ky_nil dc_X0_kindIn_43
        · have hw := hw.trans (if_pos c_3)
          refine lv_iconst (v := 3) hx hb dc_X0_kindIn_38 (by decide) ?_
          refine lv_goto (tgt := 43) hx hb dc_X0_kindIn_39 (by decide) ?_
          exact W.iret hx hb hr (fun t ht hW => ⟨congrArg (fun z => Outcome.returned (some (Value.int z))) hw.symm, ht⟩) ky_nil dc_X0_kindIn_43
      · have hw := hw.trans (if_neg c_2)
        refine lv_iconst (v := 4) hx hb dc_X0_kindIn_27 (by decide) ?_
        exact W.iret hx hb hr (fun t ht hW => ⟨congrArg (fun z => Outcome.returned (some (Value.int z))) hw.symm, ht⟩) ky_nil dc_X0_kindIn_28
    · have hw := hw.trans (if_pos c_1)
      refine lv_iconst (v := 1) hx hb dc_X0_kindIn_18 (by decide) ?_
      exact W.iret hx hb hr (fun t ht hW => ⟨congrArg (fun z => Outcome.returned (some (Value.int z))) hw.symm, ht⟩) ky_nil dc_X0_kindIn_19
  · have hw := hw.trans (if_pos c_0)
    refine lv_iconst (v := 0) hx hb dc_X0_kindIn_9 (by decide) ?_
    exact W.iret hx hb hr (fun t ht hW => ⟨congrArg (fun z => Outcome.returned (some (Value.int z))) hw.symm, ht⟩) ky_nil dc_X0_kindIn_10
def fn_X0_rungIn (a0 : Int64) : Int64 :=
  if (fn_X0_isDownOne (a0)) = (0 : Int32) then (fn_X0_sizeIn (a0)) else (-(fn_X0_sizeIn (a0)))
set_option linter.constructorNameAsVariable false in
set_option maxHeartbeats 4000000 in
set_option maxRecDepth 100000 in
theorem mt_X0_rungIn (l : Launch) (a0 : Int64) : Met l my_X0_rungIn (.code my_X0_rungIn prog_2_method_15_code 2 (some .long) :: ky_B) { frames := 1, cells := 0, slots := 0, locals := 21 } (ky_P0 [.long (a0)]) (ky_Q0 (some (.long (fn_X0_rungIn a0)))) 0 0 (fun _ => False) := by
  refine ky_start0 (by decide) (Nat.le_of_ble_eq_true rfl) (fun p e s m below meth c F ls hl => ?_)
  obtain ⟨hx, hb, hml, hown, hr, hlocks, hts⟩ := id F
  have hl : lv_has ls 2 [(0, .long (a0))] := hl
  have hw : fn_X0_rungIn a0 = _ := fn_X0_rungIn.eq_1 a0
  refine lv_lload_n hx hb dc_X0_rungIn_0 rfl (lv_at hl 0 rfl) ?_
  refine ky_cS0 (As := [.long (a0)]) F (mt_X0_isDownOne l (a0)) ks_X0_19 ⟨⟨rfl, rfl⟩, by decide, by decide⟩ rfl hl.1 rfl (Nat.le_of_ble_eq_true rfl) ⟨Nat.zero_le _, Nat.zero_le _⟩ dc_X0_rungIn_1 ?_
  refine lv_if_eq (tgt := 15) hx hb dc_X0_rungIn_4 (by decide) (fun c_0 => ?_) (fun c_0 => ?_)
  · have hw := hw.trans (if_pos c_0)
    refine lv_lload_n hx hb dc_X0_rungIn_15 rfl (lv_at hl 0 rfl) ?_
    refine ky_cS0 (As := [.long (a0)]) F (mt_X0_sizeIn l (a0)) ks_X0_11 ⟨⟨rfl, rfl⟩, by decide, by decide⟩ rfl hl.1 rfl (Nat.le_of_ble_eq_true rfl) ⟨Nat.zero_le _, Nat.zero_le _⟩ dc_X0_rungIn_16 ?_
    exact W.lret hx hb hr (fun t ht hW => ⟨congrArg (fun z => Outcome.returned (some (Value.long z))) hw.symm, ht⟩) ky_nil dc_X0_rungIn_19
  · have hw := hw.trans (if_neg c_0)
    refine lv_lload_n hx hb dc_X0_rungIn_7 rfl (lv_at hl 0 rfl) ?_
    refine ky_cS0 (As := [.long (a0)]) F (mt_X0_sizeIn l (a0)) ks_X0_11 ⟨⟨rfl, rfl⟩, by decide, by decide⟩ rfl hl.1 rfl (Nat.le_of_ble_eq_true rfl) ⟨Nat.zero_le _, Nat.zero_le _⟩ dc_X0_rungIn_8 ?_
    refine lv_lneg hx hb dc_X0_rungIn_11 ?_
    refine lv_goto (tgt := 19) hx hb dc_X0_rungIn_12 (by decide) ?_
    exact W.lret hx hb hr (fun t ht hW => ⟨congrArg (fun z => Outcome.returned (some (Value.long z))) hw.symm, ht⟩) ky_nil dc_X0_rungIn_19
def fn_X0_rankIn (a0 : Int64) : Int64 :=
  if (fn_X0_isDownOne (a0)) = (0 : Int32) then (fn_X0_sizeIn (a0)) else (((-1 : Int64)) - (fn_X0_sizeIn (a0)))
set_option linter.constructorNameAsVariable false in
set_option maxHeartbeats 4000000 in
set_option maxRecDepth 100000 in
theorem mt_X0_rankIn (l : Launch) (a0 : Int64) : Met l my_X0_rankIn (.code my_X0_rankIn prog_2_method_16_code 2 (some .long) :: ky_B) { frames := 1, cells := 0, slots := 0, locals := 21 } (ky_P0 [.long (a0)]) (ky_Q0 (some (.long (fn_X0_rankIn a0)))) 0 0 (fun _ => False) := by
  refine ky_start0 (by decide) (Nat.le_of_ble_eq_true rfl) (fun p e s m below meth c F ls hl => ?_)
  obtain ⟨hx, hb, hml, hown, hr, hlocks, hts⟩ := id F
  have hl : lv_has ls 2 [(0, .long (a0))] := hl
  have hw : fn_X0_rankIn a0 = _ := fn_X0_rankIn.eq_1 a0
  refine lv_lload_n hx hb dc_X0_rankIn_0 rfl (lv_at hl 0 rfl) ?_
  refine ky_cS0 (As := [.long (a0)]) F (mt_X0_isDownOne l (a0)) ks_X0_19 ⟨⟨rfl, rfl⟩, by decide, by decide⟩ rfl hl.1 rfl (Nat.le_of_ble_eq_true rfl) ⟨Nat.zero_le _, Nat.zero_le _⟩ dc_X0_rankIn_1 ?_
  refine lv_if_eq (tgt := 18) hx hb dc_X0_rankIn_4 (by decide) (fun c_0 => ?_) (fun c_0 => ?_)
  · have hw := hw.trans (if_pos c_0)
    refine lv_lload_n hx hb dc_X0_rankIn_18 rfl (lv_at hl 0 rfl) ?_
    refine ky_cS0 (As := [.long (a0)]) F (mt_X0_sizeIn l (a0)) ks_X0_11 ⟨⟨rfl, rfl⟩, by decide, by decide⟩ rfl hl.1 rfl (Nat.le_of_ble_eq_true rfl) ⟨Nat.zero_le _, Nat.zero_le _⟩ dc_X0_rankIn_19 ?_
    exact W.lret hx hb hr (fun t ht hW => ⟨congrArg (fun z => Outcome.returned (some (Value.long z))) hw.symm, ht⟩) ky_nil dc_X0_rankIn_22
  · have hw := hw.trans (if_neg c_0)
    refine lv_ldc2 (v := (-1)) hx hb hown (hts _ kw_1_134) dc_X0_rankIn_7 ?_
    refine lv_lload_n hx hb dc_X0_rankIn_10 rfl (lv_at hl 0 rfl) ?_
    refine ky_cS0 (As := [.long (a0)]) F (mt_X0_sizeIn l (a0)) ks_X0_11 ⟨⟨rfl, rfl⟩, by decide, by decide⟩ rfl hl.1 rfl (Nat.le_of_ble_eq_true rfl) ⟨Nat.zero_le _, Nat.zero_le _⟩ dc_X0_rankIn_11 ?_
    refine lv_lsub hx hb dc_X0_rankIn_14 ?_
    refine lv_goto (tgt := 22) hx hb dc_X0_rankIn_15 (by decide) ?_
    exact W.lret hx hb hr (fun t ht hW => ⟨congrArg (fun z => Outcome.returned (some (Value.long z))) hw.symm, ht⟩) ky_nil dc_X0_rankIn_22
def fn_X0_lastOf (a0 : Int64) (a1 : Int64) : Int64 :=
  if (lg_cmp (fn_X0_rankIn (a0)) (fn_X0_rankIn (a1))) < (0 : Int32) then (a1) else (a0)
set_option linter.constructorNameAsVariable false in
set_option maxHeartbeats 4000000 in
set_option maxRecDepth 100000 in
theorem mt_X0_lastOf (l : Launch) (a0 : Int64) (a1 : Int64) : Met l my_X0_lastOf (.code my_X0_lastOf prog_2_method_17_code 4 (some .long) :: ky_B) { frames := 2, cells := 0, slots := 0, locals := 42 } (ky_P0 [.long (a0), .long (a1)]) (ky_Q0 (some (.long (fn_X0_lastOf a0 a1)))) 0 0 (fun _ => False) := by
  refine ky_start0 (by decide) (Nat.le_of_ble_eq_true rfl) (fun p e s m below meth c F ls hl => ?_)
  obtain ⟨hx, hb, hml, hown, hr, hlocks, hts⟩ := id F
  have hl : lv_has ls 4 [(0, .long (a0)), (2, .long (a1))] := hl
  have hw : fn_X0_lastOf a0 a1 = _ := fn_X0_lastOf.eq_1 a0 a1
  refine lv_lload_n hx hb dc_X0_lastOf_0 rfl (lv_at hl 0 rfl) ?_
  refine ky_cS0 (As := [.long (a0)]) F (mt_X0_rankIn l (a0)) ks_X0_40 ⟨⟨rfl, rfl⟩, by decide, by decide⟩ rfl hl.1 rfl (Nat.le_of_ble_eq_true rfl) ⟨Nat.zero_le _, Nat.zero_le _⟩ dc_X0_lastOf_1 ?_
  refine lv_lload_n hx hb dc_X0_lastOf_4 rfl (lv_at hl 1 rfl) ?_
  refine ky_cS0 (As := [.long (a1)]) F (mt_X0_rankIn l (a1)) ks_X0_40 ⟨⟨rfl, rfl⟩, by decide, by decide⟩ rfl hl.1 rfl (Nat.le_of_ble_eq_true rfl) ⟨Nat.zero_le _, Nat.zero_le _⟩ dc_X0_lastOf_5 ?_
  refine W.lcmp hx hb dc_X0_lastOf_8 ?_
  refine lv_if_lt (tgt := 16) hx hb dc_X0_lastOf_9 (by decide) (fun c_0 => ?_) (fun c_0 => ?_)
  · have hw := hw.trans (if_pos c_0)
    refine lv_lload_n hx hb dc_X0_lastOf_16 rfl (lv_at hl 1 rfl) ?_
    exact W.lret hx hb hr (fun t ht hW => ⟨congrArg (fun z => Outcome.returned (some (Value.long z))) hw.symm, ht⟩) ky_nil dc_X0_lastOf_17
  · have hw := hw.trans (if_neg c_0)
    refine lv_lload_n hx hb dc_X0_lastOf_12 rfl (lv_at hl 0 rfl) ?_
    refine lv_goto (tgt := 17) hx hb dc_X0_lastOf_13 (by decide) ?_
    exact W.lret hx hb hr (fun t ht hW => ⟨congrArg (fun z => Outcome.returned (some (Value.long z))) hw.symm, ht⟩) ky_nil dc_X0_lastOf_17
def fn_X0_firstOf (a0 : Int64) (a1 : Int64) : Int64 :=
  if (0 : Int32) < (lg_cmp (fn_X0_rankIn (a0)) (fn_X0_rankIn (a1))) then (a1) else (a0)
set_option linter.constructorNameAsVariable false in
set_option maxHeartbeats 4000000 in
set_option maxRecDepth 100000 in
theorem mt_X0_firstOf (l : Launch) (a0 : Int64) (a1 : Int64) : Met l my_X0_firstOf (.code my_X0_firstOf prog_2_method_18_code 4 (some .long) :: ky_B) { frames := 2, cells := 0, slots := 0, locals := 42 } (ky_P0 [.long (a0), .long (a1)]) (ky_Q0 (some (.long (fn_X0_firstOf a0 a1)))) 0 0 (fun _ => False) := by
  refine ky_start0 (by decide) (Nat.le_of_ble_eq_true rfl) (fun p e s m below meth c F ls hl => ?_)
  obtain ⟨hx, hb, hml, hown, hr, hlocks, hts⟩ := id F
  have hl : lv_has ls 4 [(0, .long (a0)), (2, .long (a1))] := hl
  have hw : fn_X0_firstOf a0 a1 = _ := fn_X0_firstOf.eq_1 a0 a1
  refine lv_lload_n hx hb dc_X0_firstOf_0 rfl (lv_at hl 0 rfl) ?_
  refine ky_cS0 (As := [.long (a0)]) F (mt_X0_rankIn l (a0)) ks_X0_40 ⟨⟨rfl, rfl⟩, by decide, by decide⟩ rfl hl.1 rfl (Nat.le_of_ble_eq_true rfl) ⟨Nat.zero_le _, Nat.zero_le _⟩ dc_X0_firstOf_1 ?_
  refine lv_lload_n hx hb dc_X0_firstOf_4 rfl (lv_at hl 1 rfl) ?_
  refine ky_cS0 (As := [.long (a1)]) F (mt_X0_rankIn l (a1)) ks_X0_40 ⟨⟨rfl, rfl⟩, by decide, by decide⟩ rfl hl.1 rfl (Nat.le_of_ble_eq_true rfl) ⟨Nat.zero_le _, Nat.zero_le _⟩ dc_X0_firstOf_5 ?_
  refine W.lcmp hx hb dc_X0_firstOf_8 ?_
  refine lv_if_gt (tgt := 16) hx hb dc_X0_firstOf_9 (by decide) (fun c_0 => ?_) (fun c_0 => ?_)
  · have hw := hw.trans (if_pos c_0)
    refine lv_lload_n hx hb dc_X0_firstOf_16 rfl (lv_at hl 1 rfl) ?_
    exact W.lret hx hb hr (fun t ht hW => ⟨congrArg (fun z => Outcome.returned (some (Value.long z))) hw.symm, ht⟩) ky_nil dc_X0_firstOf_17
  · have hw := hw.trans (if_neg c_0)
    refine lv_lload_n hx hb dc_X0_firstOf_12 rfl (lv_at hl 0 rfl) ?_
    refine lv_goto (tgt := 17) hx hb dc_X0_firstOf_13 (by decide) ?_
    exact W.lret hx hb hr (fun t ht hW => ⟨congrArg (fun z => Outcome.returned (some (Value.long z))) hw.symm, ht⟩) ky_nil dc_X0_firstOf_17
