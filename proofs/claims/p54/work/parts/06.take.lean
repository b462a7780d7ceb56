def fn_X4_wholeLike (a0 : Int64) (a1 : Int64) : Int64 :=
  fn_X0_joined (fn_X2_nearestTo (a1) ((0 : Int32))) (a0)
set_option linter.constructorNameAsVariable false in
set_option maxHeartbeats 4000000 in
set_option maxRecDepth 100000 in
theorem mt_X4_wholeLike (l : Launch) (a0 : Int64) (a1 : Int64) : Met l my_X4_wholeLike (.code my_X4_wholeLike prog_6_method_5_code 4 (some .long) :: ky_B) { frames := 2, cells := 0, slots := 0, locals := 55 } (ky_P0 [.long (a0), .long (a1)]) (ky_Q0 (some (.long (fn_X4_wholeLike a0 a1)))) 0 0 (fun _ => False) := by
  refine ky_start0 (by decide) (Nat.le_of_ble_eq_true rfl) (fun p e s m below meth c F ls hl => ?_)
  obtain ⟨hx, hb, hml, hown, hr, hlocks, hts⟩ := id F
  have hl : lv_has ls 4 [(0, .long (a0)), (2, .long (a1))] := hl
  have hw : fn_X4_wholeLike a0 a1 = _ := fn_X4_wholeLike.eq_1 a0 a1
  refine lv_lload_n hx hb dc_X4_wholeLike_0 rfl (lv_at hl 1 rfl) ?_
  refine lv_iconst (v := 0) hx hb dc_X4_wholeLike_1 (by decide) ?_
  refine ky_cS0 (As := [.long (a1), .int ((0 : Int32))]) F (mt_X2_nearestTo l (a1) ((0 : Int32))) ks_X4_39 ⟨⟨rfl, rfl⟩, by decide, by decide⟩ rfl hl.1 rfl (Nat.le_of_ble_eq_true rfl) ⟨Nat.zero_le _, Nat.zero_le _⟩ dc_X4_wholeLike_2 ?_
  refine lv_lload_n hx hb dc_X4_wholeLike_5 rfl (lv_at hl 0 rfl) ?_
  refine ky_cS0 (As := [.long (fn_X2_nearestTo (a1) ((0 : Int32))), .long (a0)]) F (mt_X0_joined l (fn_X2_nearestTo (a1) ((0 : Int32))) (a0)) ks_X4_42 ⟨⟨rfl, rfl⟩, by decide, by decide⟩ rfl hl.1 rfl (Nat.le_of_ble_eq_true rfl) ⟨Nat.zero_le _, Nat.zero_le _⟩ dc_X4_wholeLike_6 ?_
  exact W.lret hx hb hr (fun t ht hW => ⟨congrArg (fun z => Outcome.returned (some (Value.long z))) hw.symm, ht⟩) ky_nil dc_X4_wholeLike_9
def fn_X4_floorFrom (a0 : Int64) : Int64 :=
  if (lg_cmp (fn_X0_restIn (a0)) ((0 : Int64))) = (0 : Int32) then (a0) else (if (fn_X0_isDownOne (a0)) = (0 : Int32) then (fn_X4_wholeLike (a0) ((fn_X0_aheadIn (a0)) + (((0 : Int32)).toInt64))) else (fn_X4_wholeLike (a0) ((fn_X0_aheadIn (a0)) + (((1 : Int32)).toInt64))))
set_option linter.constructorNameAsVariable false in
set_option maxHeartbeats 4000000 in
set_option maxRecDepth 100000 in
theorem mt_X4_floorFrom (l : Launch) (a0 : Int64) : Met l my_X4_floorFrom (.code my_X4_floorFrom prog_6_method_2_code 2 (some .long) :: ky_B) { frames := 3, cells := 0, slots := 0, locals := 78 } (ky_P0 [.long (a0)]) (ky_Q0 (some (.long (fn_X4_floorFrom a0)))) 0 0 (fun _ => False) := by
  refine ky_start0 (by decide) (Nat.le_of_ble_eq_true rfl) (fun p e s m below meth c F ls hl => ?_)
  obtain ⟨hx, hb, hml, hown, hr, hlocks, hts⟩ := id F
  have hl : lv_has ls 2 [(0, .long (a0))] := hl
  have hw : fn_X4_floorFrom a0 = _ := fn_X4_floorFrom.eq_1 a0
  refine lv_lload_n hx hb dc_X4_floorFrom_0 rfl (lv_at hl 0 rfl) ?_
  refine ky_cS0 (As := [.long (a0)]) F (mt_X0_restIn l (a0)) ks_X4_7 ⟨⟨rfl, rfl⟩, by decide, by decide⟩ rfl hl.1 rfl (Nat.le_of_ble_eq_true rfl) ⟨Nat.zero_le _, Nat.zero_le _⟩ dc_X4_floorFrom_1 ?_
  refine lv_lconst (v := 0) hx hb dc_X4_floorFrom_4 (by decide) ?_
  refine W.lcmp hx hb dc_X4_floorFrom_5 ?_
  refine lv_if_ne (tgt := 11) hx hb dc_X4_floorFrom_6 (by decide) (fun c_0 => ?_) (fun c_0 => ?_)
  · have hw := hw.trans (if_neg c_0)
    refine lv_lload_n hx hb dc_X4_floorFrom_11 rfl (lv_at hl 0 rfl) ?_
    refine lv_lload_n hx hb dc_X4_floorFrom_12 rfl (lv_at hl 0 rfl) ?_
    refine ky_cS0 (As := [.long (a0)]) F (mt_X0_aheadIn l (a0)) ks_X4_13 ⟨⟨rfl, rfl⟩, by decide, by decide⟩ rfl hl.1 rfl (Nat.le_of_ble_eq_true rfl) ⟨Nat.zero_le _, Nat.zero_le _⟩ dc_X4_floorFrom_13 ?_
    refine lv_lload_n hx hb dc_X4_floorFrom_16 rfl (lv_at hl 0 rfl) ?_
    refine ky_cS0 (As := [.long (a0)]) F (mt_X0_isDownOne l (a0)) ks_X4_16 ⟨⟨rfl, rfl⟩, by decide, by decide⟩ rfl hl.1 rfl (Nat.le_of_ble_eq_true rfl) ⟨Nat.zero_le _, Nat.zero_le _⟩ dc_X4_floorFrom_17 ?_
    refine lv_if_eq (tgt := 27) hx hb dc_X4_floorFrom_20 (by decide) (fun c_1 => ?_) (fun c_1 => ?_)
    · have hw := hw.trans (if_pos c_1)
      refine lv_iconst (v := 0) hx hb dc_X4_floorFrom_27 (by decide) ?_
      refine lv_i2l (v := ((0 : Int32)).toInt64) hx hb dc_X4_floorFrom_28 rfl ?_
      refine lv_ladd hx hb dc_X4_floorFrom_29 ?_
      refine ky_cS0 (As := [.long (a0), .long ((fn_X0_aheadIn (a0)) + (((0 : Int32)).toInt64))]) F (mt_X4_wholeLike l (a0) ((fn_X0_aheadIn (a0)) + (((0 : Int32)).toInt64))) ks_X4_20 ⟨⟨rfl, rfl⟩, by decide, by decide⟩ rfl hl.1 rfl (Nat.le_of_ble_eq_true rfl) ⟨Nat.zero_le _, Nat.zero_le _⟩ dc_X4_floorFrom_30 ?_
      exact W.lret hx hb hr (fun t ht hW => ⟨congrArg (fun z => Outcome.returned (some (Value.long z))) hw.symm, ht⟩) ky_nil dc_X4_floorFrom_33
    · have hw := hw.trans (if_neg c_1)
      refine lv_iconst (v := 1) hx hb dc_X4_floorFrom_23 (by decide) ?_
      refine lv_goto (tgt := 28) hx hb dc_X4_floorFrom_24 (by decide) ?_
      refine lv_i2l (v := ((1 : Int32)).toInt64) hx hb dc_X4_floorFrom_28 rfl ?_
      refine lv_ladd hx hb dc_X4_floorFrom_29 ?_
      refine ky_cS0 (As := [.long (a0), .long ((fn_X0_aheadIn (a0)) + (((1 : Int32)).toInt64))]) F (mt_X4_wholeLike l (a0) ((fn_X0_aheadIn (a0)) + (((1 : Int32)).toInt64))) ks_X4_20 ⟨⟨rfl, rfl⟩, by decide, by decide⟩ rfl hl.1 rfl (Nat.le_of_ble_eq_true rfl) ⟨Nat.zero_le _, Nat.zero_le _⟩ dc_X4_floorFrom_30 ?_
      exact W.lret hx hb hr (fun t ht hW => ⟨congrArg (fun z => Outcome.returned (some (Value.long z))) hw.symm, ht⟩) ky_nil dc_X4_floorFrom_33
  · have hw := hw.trans (if_pos c_0)
    refine lv_lload_n hx hb dc_X4_floorFrom_9 rfl (lv_at hl 0 rfl) ?_
    exact W.lret hx hb hr (fun t ht hW => ⟨congrArg (fun z => Outcome.returned (some (Value.long z))) hw.symm, ht⟩) ky_nil dc_X4_floorFrom_10
def fn_X4_ceilFrom (a0 : Int64) : Int64 :=
  if (lg_cmp (fn_X0_restIn (a0)) ((0 : Int64))) = (0 : Int32) then (a0) else (if (fn_X0_isDownOne (a0)) = (0 : Int32) then (fn_X4_wholeLike (a0) ((fn_X0_aheadIn (a0)) + (((1 : Int32)).toInt64))) else (fn_X4_wholeLike (a0) ((fn_X0_aheadIn (a0)) + (((0 : Int32)).toInt64))))
set_option linter.constructorNameAsVariable false in
set_option maxHeartbeats 4000000 in
set_option maxRecDepth 100000 in
theorem mt_X4_ceilFrom (l : Launch) (a0 : Int64) : Met l my_X4_ceilFrom (.code my_X4_ceilFrom prog_6_method_3_code 2 (some .long) :: ky_B) { frames := 3, cells := 0, slots := 0, locals := 78 } (ky_P0 [.long (a0)]) (ky_Q0 (some (.long (fn_X4_ceilFrom a0)))) 0 0 (fun _ => False) := by
  refine ky_start0 (by decide) (Nat.le_of_ble_eq_true rfl) (fun p e s m below meth c F ls hl => ?_)
  obtain ⟨hx, hb, hml, hown, hr, hlocks, hts⟩ := id F
  have hl : lv_has ls 2 [(0, .long (a0))] := hl
  have hw : fn_X4_ceilFrom a0 = _ := fn_X4_ceilFrom.eq_1 a0
  refine lv_lload_n hx hb dc_X4_ceilFrom_0 rfl (lv_at hl 0 rfl) ?_
  refine ky_cS0 (As := [.long (a0)]) F (mt_X0_restIn l (a0)) ks_X4_7 ⟨⟨rfl, rfl⟩, by decide, by decide⟩ rfl hl.1 rfl (Nat.le_of_ble_eq_true rfl) ⟨Nat.zero_le _, Nat.zero_le _⟩ dc_X4_ceilFrom_1 ?_
  refine lv_lconst (v := 0) hx hb dc_X4_ceilFrom_4 (by decide) ?_
  refine W.lcmp hx hb dc_X4_ceilFrom_5 ?_
  refine lv_if_ne (tgt := 11) hx hb dc_X4_ceilFrom_6 (by decide) (fun c_0 => ?_) (fun c_0 => ?_)
  · have hw := hw.trans (if_neg c_0)
    refine lv_lload_n hx hb dc_X4_ceilFrom_11 rfl (lv_at hl 0 rfl) ?_
    refine lv_lload_n hx hb dc_X4_ceilFrom_12 rfl (lv_at hl 0 rfl) ?_
    refine ky_cS0 (As := [.long (a0)]) F (mt_X0_aheadIn l (a0)) ks_X4_13 ⟨⟨rfl, rfl⟩, by decide, by decide⟩ rfl hl.1 rfl (Nat.le_of_ble_eq_true rfl) ⟨Nat.zero_le _, Nat.zero_le _⟩ dc_X4_ceilFrom_13 ?_
    refine lv_lload_n hx hb dc_X4_ceilFrom_16 rfl (lv_at hl 0 rfl) ?_
    refine ky_cS0 (As := [.long (a0)]) F (mt_X0_isDownOne l (a0)) ks_X4_16 ⟨⟨rfl, rfl⟩, by decide, by decide⟩ rfl hl.1 rfl (Nat.le_of_ble_eq_true rfl) ⟨Nat.zero_le _, Nat.zero_le _⟩ dc_X4_ceilFrom_17 ?_
    refine lv_if_eq (tgt := 27) hx hb dc_X4_ceilFrom_20 (by decide) (fun c_1 => ?_) (fun c_1 => ?_)
    · have hw := hw.trans (if_pos c_1)
      refine lv_iconst (v := 1) hx hb dc_X4_ceilFrom_27 (by decide) ?_
      refine lv_i2l (v := ((1 : Int32)).toInt64) hx hb dc_X4_ceilFrom_28 rfl ?_
      refine lv_ladd hx hb dc_X4_ceilFrom_29 ?_
      refine ky_cS0 (As := [.long (a0), .long ((fn_X0_aheadIn (a0)) + (((1 : Int32)).toInt64))]) F (mt_X4_wholeLike l (a0) ((fn_X0_aheadIn (a0)) + (((1 : Int32)).toInt64))) ks_X4_20 ⟨⟨rfl, rfl⟩, by decide, by decide⟩ rfl hl.1 rfl (Nat.le_of_ble_eq_true rfl) ⟨Nat.zero_le _, Nat.zero_le _⟩ dc_X4_ceilFrom_30 ?_
      exact W.lret hx hb hr (fun t ht hW => ⟨congrArg (fun z => Outcome.returned (some (Value.long z))) hw.symm, ht⟩) ky_nil dc_X4_ceilFrom_33
    · have hw := hw.trans (if_neg c_1)
      refine lv_iconst (v := 0) hx hb dc_X4_ceilFrom_23 (by decide) ?_
      refine lv_goto (tgt := 28) hx hb dc_X4_ceilFrom_24 (by decide) ?_
      refine lv_i2l (v := ((0 : Int32)).toInt64) hx hb dc_X4_ceilFrom_28 rfl ?_
      refine lv_ladd hx hb dc_X4_ceilFrom_29 ?_
      refine ky_cS0 (As := [.long (a0), .long ((fn_X0_aheadIn (a0)) + (((0 : Int32)).toInt64))]) F (mt_X4_wholeLike l (a0) ((fn_X0_aheadIn (a0)) + (((0 : Int32)).toInt64))) ks_X4_20 ⟨⟨rfl, rfl⟩, by decide, by decide⟩ rfl hl.1 rfl (Nat.le_of_ble_eq_true rfl) ⟨Nat.zero_le _, Nat.zero_le _⟩ dc_X4_ceilFrom_30 ?_
      exact W.lret hx hb hr (fun t ht hW => ⟨congrArg (fun z => Outcome.returned (some (Value.long z))) hw.symm, ht⟩) ky_nil dc_X4_ceilFrom_33
  · have hw := hw.trans (if_pos c_0)
    refine lv_lload_n hx hb dc_X4_ceilFrom_9 rfl (lv_at hl 0 rfl) ?_
    exact W.lret hx hb hr (fun t ht hW => ⟨congrArg (fun z => Outcome.returned (some (Value.long z))) hw.symm, ht⟩) ky_nil dc_X4_ceilFrom_10
def fn_X4_rintFrom (a0 : Int64) : Int64 :=
  if (lg_cmp (fn_X0_restIn (a0)) ((0 : Int64))) = (0 : Int32) then (a0) else (fn_X4_wholeLike (a0) (fn_X2_halvedOften (fn_X0_factorIn (a0)) (fn_X0_behindIn (a0))))
set_option linter.constructorNameAsVariable false in
set_option maxHeartbeats 4000000 in
set_option maxRecDepth 100000 in
theorem mt_X4_rintFrom (l : Launch) (a0 : Int64) : Met l my_X4_rintFrom (.code my_X4_rintFrom prog_6_method_4_code 2 (some .long) :: ky_B) { frames := 3, cells := 0, slots := 0, locals := 78 } (ky_P0 [.long (a0)]) (ky_Q0 (some (.long (fn_X4_rintFrom a0)))) 0 0 (fun _ => False) := by
  refine ky_start0 (by decide) (Nat.le_of_ble_eq_true rfl) (fun p e s m below meth c F ls hl => ?_)
  obtain ⟨hx, hb, hml, hown, hr, hlocks, hts⟩ := id F
  have hl : lv_has ls 2 [(0, .long (a0))] := hl
  have hw : fn_X4_rintFrom a0 = _ := fn_X4_rintFrom.eq_1 a0
  refine lv_lload_n hx hb dc_X4_rintFrom_0 rfl (lv_at hl 0 rfl) ?_
  refine ky_cS0 (As := [.long (a0)]) F (mt_X0_restIn l (a0)) ks_X4_7 ⟨⟨rfl, rfl⟩, by decide, by decide⟩ rfl hl.1 rfl (Nat.le_of_ble_eq_true rfl) ⟨Nat.zero_le _, Nat.zero_le _⟩ dc_X4_rintFrom_1 ?_
  refine lv_lconst (v := 0) hx hb dc_X4_rintFrom_4 (by decide) ?_
  refine W.lcmp hx hb dc_X4_rintFrom_5 ?_
  refine lv_if_ne (tgt := 11) hx hb dc_X4_rintFrom_6 (by decide) (fun c_0 => ?_) (fun c_0 => ?_)
  · have hw := hw.trans (if_neg c_0)
    refine lv_lload_n hx hb dc_X4_rintFrom_11 rfl (lv_at hl 0 rfl) ?_
    refine lv_lload_n hx hb dc_X4_rintFrom_12 rfl (lv_at hl 0 rfl) ?_
    refine ky_cS0 (As := [.long (a0)]) F (mt_X0_factorIn l (a0)) ks_X4_26 ⟨⟨rfl, rfl⟩, by decide, by decide⟩ rfl hl.1 rfl (Nat.le_of_ble_eq_true rfl) ⟨Nat.zero_le _, Nat.zero_le _⟩ dc_X4_rintFrom_13 ?_
    refine lv_lload_n hx hb dc_X4_rintFrom_16 rfl (lv_at hl 0 rfl) ?_
    refine ky_cS0 (As := [.long (a0)]) F (mt_X0_behindIn l (a0)) ks_X4_29 ⟨⟨rfl, rfl⟩, by decide, by decide⟩ rfl hl.1 rfl (Nat.le_of_ble_eq_true rfl) ⟨Nat.zero_le _, Nat.zero_le _⟩ dc_X4_rintFrom_17 ?_
    refine ky_cS0 (As := [.long (fn_X0_factorIn (a0)), .int (fn_X0_behindIn (a0))]) F (mt_X2_halvedOften l (fn_X0_factorIn (a0)) (fn_X0_behindIn (a0))) ks_X4_33 ⟨⟨rfl, rfl⟩, by decide, by decide⟩ rfl hl.1 rfl (Nat.le_of_ble_eq_true rfl) ⟨Nat.zero_le _, Nat.zero_le _⟩ dc_X4_rintFrom_20 ?_
    refine ky_cS0 (As := [.long (a0), .long (fn_X2_halvedOften (fn_X0_factorIn (a0)) (fn_X0_behindIn (a0)))]) F (mt_X4_wholeLike l (a0) (fn_X2_halvedOften (fn_X0_factorIn (a0)) (fn_X0_behindIn (a0)))) ks_X4_20 ⟨⟨rfl, rfl⟩, by decide, by decide⟩ rfl hl.1 rfl (Nat.le_of_ble_eq_true rfl) ⟨Nat.zero_le _, Nat.zero_le _⟩ dc_X4_rintFrom_23 ?_
    exact W.lret hx hb hr (fun t ht hW => ⟨congrArg (fun z => Outcome.returned (some (Value.long z))) hw.symm, ht⟩) ky_nil dc_X4_rintFrom_26
  · have hw := hw.trans (if_pos c_0)
    refine lv_lload_n hx hb dc_X4_rintFrom_9 rfl (lv_at hl 0 rfl) ?_
    exact W.lret hx hb hr (fun t ht hW => ⟨congrArg (fun z => Outcome.returned (some (Value.long z))) hw.symm, ht⟩) ky_nil dc_X4_rintFrom_10
def fn_X4_signFrom (a0 : Int64) : Int64 :=
  if (lg_cmp (fn_X0_sizeIn (a0)) ((0 : Int64))) = (0 : Int32) then (a0) else (fn_X0_joined ((4607182418800017408 : Int64)) (a0))
set_option linter.constructorNameAsVariable false in
set_option maxHeartbeats 4000000 in
set_option maxRecDepth 100000 in
theorem mt_X4_signFrom (l : Launch) (a0 : Int64) : Met l my_X4_signFrom (.code my_X4_signFrom prog_6_method_6_code 2 (some .long) :: ky_B) { frames := 2, cells := 0, slots := 0, locals := 44 } (ky_P0 [.long (a0)]) (ky_Q0 (some (.long (fn_X4_signFrom a0)))) 0 0 (fun _ => False) := by
  refine ky_start0 (by decide) (Nat.le_of_ble_eq_true rfl) (fun p e s m below meth c F ls hl => ?_)
  obtain ⟨hx, hb, hml, hown, hr, hlocks, hts⟩ := id F
  have hl : lv_has ls 2 [(0, .long (a0))] := hl
  have hw : fn_X4_signFrom a0 = _ := fn_X4_signFrom.eq_1 a0
  refine lv_lload_n hx hb dc_X4_signFrom_0 rfl (lv_at hl 0 rfl) ?_
  refine ky_cS0 (As := [.long (a0)]) F (mt_X0_sizeIn l (a0)) ks_X4_45 ⟨⟨rfl, rfl⟩, by decide, by decide⟩ rfl hl.1 rfl (Nat.le_of_ble_eq_true rfl) ⟨Nat.zero_le _, Nat.zero_le _⟩ dc_X4_signFrom_1 ?_
  refine lv_lconst (v := 0) hx hb dc_X4_signFrom_4 (by decide) ?_
  refine W.lcmp hx hb dc_X4_signFrom_5 ?_
  refine lv_if_ne (tgt := 13) hx hb dc_X4_signFrom_6 (by decide) (fun c_0 => ?_) (fun c_0 => ?_)
  · have hw := hw.trans (if_neg c_0)
    refine lv_ldc2 (v := 4607182418800017408) hx hb hown (hts _ kw_3_180) dc_X4_signFrom_13 ?_
    refine lv_lload_n hx hb dc_X4_signFrom_16 rfl (lv_at hl 0 rfl) ?_
    refine ky_cS0 (As := [.long ((4607182418800017408 : Int64)), .long (a0)]) F (mt_X0_joined l ((4607182418800017408 : Int64)) (a0)) ks_X4_42 ⟨⟨rfl, rfl⟩, by decide, by decide⟩ rfl hl.1 rfl (Nat.le_of_ble_eq_true rfl) ⟨Nat.zero_le _, Nat.zero_le _⟩ dc_X4_signFrom_17 ?_
    exact W.lret hx hb hr (fun t ht hW => ⟨congrArg (fun z => Outcome.returned (some (Value.long z))) hw.symm, ht⟩) ky_nil dc_X4_signFrom_20
  · have hw := hw.trans (if_pos c_0)
    refine lv_lload_n hx hb dc_X4_signFrom_9 rfl (lv_at hl 0 rfl) ?_
    refine lv_goto (tgt := 20) hx hb dc_X4_signFrom_10 (by decide) ?_
    exact W.lret hx hb hr (fun t ht hW => ⟨congrArg (fun z => Outcome.returned (some (Value.long z))) hw.symm, ht⟩) ky_nil dc_X4_signFrom_20
def fn_X4_upFrom (a0 : Int64) : Int64 :=
  if (lg_cmp (a0) ((9218868437227405312 : Int64))) = (0 : Int32) then (a0) else (if (lg_cmp (fn_X0_sizeIn (a0)) ((0 : Int64))) = (0 : Int32) then ((1 : Int64)) else (if (fn_X0_isDownOne (a0)) = (0 : Int32) then ((a0) + ((1 : Int64))) else ((a0) - ((1 : Int64)))))
set_option linter.constructorNameAsVariable false in
set_option maxHeartbeats 4000000 in
set_option maxRecDepth 100000 in
theorem mt_X4_upFrom (l : Launch) (a0 : Int64) : Met l my_X4_upFrom (.code my_X4_upFrom prog_6_method_7_code 2 (some .long) :: ky_B) { frames := 1, cells := 0, slots := 0, locals := 21 } (ky_P0 [.long (a0)]) (ky_Q0 (some (.long (fn_X4_upFrom a0)))) 0 0 (fun _ => False) := by
  refine ky_start0 (by decide) (Nat.le_of_ble_eq_true rfl) (fun p e s m below meth c F ls hl => ?_)
  obtain ⟨hx, hb, hml, hown, hr, hlocks, hts⟩ := id F
  have hl : lv_has ls 2 [(0, .long (a0))] := hl
  have hw : fn_X4_upFrom a0 = _ := fn_X4_upFrom.eq_1 a0
  refine lv_lload_n hx hb dc_X4_upFrom_0 rfl (lv_at hl 0 rfl) ?_
  refine lv_ldc2 (v := 9218868437227405312) hx hb hown (hts _ kw_3_151) dc_X4_upFrom_1 ?_
  refine W.lcmp hx hb dc_X4_upFrom_4 ?_
  refine lv_if_ne (tgt := 10) hx hb dc_X4_upFrom_5 (by decide) (fun c_0 => ?_) (fun c_0 => ?_)
  · have hw := hw.trans (if_neg c_0)
    refine lv_lload_n hx hb dc_X4_upFrom_10 rfl (lv_at hl 0 rfl) ?_
    refine ky_cS0 (As := [.long (a0)]) F (mt_X0_sizeIn l (a0)) ks_X4_45 ⟨⟨rfl, rfl⟩, by decide, by decide⟩ rfl hl.1 rfl (Nat.le_of_ble_eq_true rfl) ⟨Nat.zero_le _, Nat.zero_le _⟩ dc_X4_upFrom_11 ?_
    refine lv_lconst (v := 0) hx hb dc_X4_upFrom_14 (by decide) ?_
    refine W.lcmp hx hb dc_X4_upFrom_15 ?_
    refine lv_if_ne (tgt := 21) hx hb dc_X4_upFrom_16 (by decide) (fun c_1 => ?_) (fun c_1 => ?_)
    · have hw := hw.trans (if_neg c_1)
      refine lv_lload_n hx hb dc_X4_upFrom_21 rfl (lv_at hl 0 rfl) ?_
      refine ky_cS0 (As := [.long (a0)]) F (mt_X0_isDownOne l (a0)) ks_X4_16 ⟨⟨rfl, rfl⟩, by decide, by decide⟩ rfl hl.1 rfl (Nat.le_of_ble_eq_true rfl) ⟨Nat.zero_le _, Nat.zero_le _⟩ dc_X4_upFrom_22 ?_
      refine lv_if_eq (tgt := 34) hx hb dc_X4_upFrom_25 (by decide) (fun c_2 => ?_) (fun c_2 => ?_)
      · have hw := hw.trans (if_pos c_2)
        refine lv_lload_n hx hb dc_X4_upFrom_34 rfl (lv_at hl 0 rfl) ?_
        refine lv_lconst (v := 1) hx hb dc_X4_upFrom_35 (by decide) ?_
        refine lv_ladd hx hb dc_X4_upFrom_36 ?_
        exact W.lret hx hb hr (fun t ht hW => ⟨congrArg (fun z => Outcome.returned (some (Value.long z))) hw.symm, ht⟩) ky_nil dc_X4_upFrom_37
      · have hw := hw.trans (if_neg c_2)
        refine lv_lload_n hx hb dc_X4_upFrom_28 rfl (lv_at hl 0 rfl) ?_
        refine lv_lconst (v := 1) hx hb dc_X4_upFrom_29 (by decide) ?_
        refine lv_lsub hx hb dc_X4_upFrom_30 ?_
        refine lv_goto (tgt := 37) hx hb dc_X4_upFrom_31 (by decide) ?_
        exact W.lret hx hb hr (fun t ht hW => ⟨congrArg (fun z => Outcome.returned (some (Value.long z))) hw.symm, ht⟩) ky_nil dc_X4_upFrom_37
    · have hw := hw.trans (if_pos c_1)
      refine lv_lconst (v := 1) hx hb dc_X4_upFrom_19 (by decide) ?_
      exact W.lret hx hb hr (fun t ht hW => ⟨congrArg (fun z => Outcome.returned (some (Value.long z))) hw.symm, ht⟩) ky_nil dc_X4_upFrom_20
  · have hw := hw.trans (if_pos c_0)
    refine lv_lload_n hx hb dc_X4_upFrom_8 rfl (lv_at hl 0 rfl) ?_
    exact W.lret hx hb hr (fun t ht hW => ⟨congrArg (fun z => Outcome.returned (some (Value.long z))) hw.symm, ht⟩) ky_nil dc_X4_upFrom_9
def fn_X4_downFrom (a0 : Int64) : Int64 :=
  if (lg_cmp (a0) ((-4503599627370496 : Int64))) = (0 : Int32) then (a0) else (if (lg_cmp (fn_X0_sizeIn (a0)) ((0 : Int64))) = (0 : Int32) then ((-9223372036854775807 : Int64)) else (if (fn_X0_isDownOne (a0)) = (0 : Int32) then ((a0) - ((1 : Int64))) else ((a0) + ((1 : Int64)))))
set_option linter.constructorNameAsVariable false in
set_option maxHeartbeats 4000000 in
set_option maxRecDepth 100000 in
theorem mt_X4_downFrom (l : Launch) (a0 : Int64) : Met l my_X4_downFrom (.code my_X4_downFrom prog_6_method_8_code 2 (some .long) :: ky_B) { frames := 1, cells := 0, slots := 0, locals := 21 } (ky_P0 [.long (a0)]) (ky_Q0 (some (.long (fn_X4_downFrom a0)))) 0 0 (fun _ => False) := by
  refine ky_start0 (by decide) (Nat.le_of_ble_eq_true rfl) (fun p e s m below meth c F ls hl => ?_)
  obtain ⟨hx, hb, hml, hown, hr, hlocks, hts⟩ := id F
  have hl : lv_has ls 2 [(0, .long (a0))] := hl
  have hw : fn_X4_downFrom a0 = _ := fn_X4_downFrom.eq_1 a0
  refine lv_lload_n hx hb dc_X4_downFrom_0 rfl (lv_at hl 0 rfl) ?_
  refine lv_ldc2 (v := (-4503599627370496)) hx hb hown (hts _ kw_3_156) dc_X4_downFrom_1 ?_
  refine W.lcmp hx hb dc_X4_downFrom_4 ?_
  refine lv_if_ne (tgt := 10) hx hb dc_X4_downFrom_5 (by decide) (fun c_0 => ?_) (fun c_0 => ?_)
  · have hw := hw.trans (if_neg c_0)
    refine lv_lload_n hx hb dc_X4_downFrom_10 rfl (lv_at hl 0 rfl) ?_
    refine ky_cS0 (As := [.long (a0)]) F (mt_X0_sizeIn l (a0)) ks_X4_45 ⟨⟨rfl, rfl⟩, by decide, by decide⟩ rfl hl.1 rfl (Nat.le_of_ble_eq_true rfl) ⟨Nat.zero_le _, Nat.zero_le _⟩ dc_X4_downFrom_11 ?_
    refine lv_lconst (v := 0) hx hb dc_X4_downFrom_14 (by decide) ?_
    refine W.lcmp hx hb dc_X4_downFrom_15 ?_
    refine lv_if_ne (tgt := 23) hx hb dc_X4_downFrom_16 (by decide) (fun c_1 => ?_) (fun c_1 => ?_)
    · have hw := hw.trans (if_neg c_1)
      refine lv_lload_n hx hb dc_X4_downFrom_23 rfl (lv_at hl 0 rfl) ?_
      refine ky_cS0 (As := [.long (a0)]) F (mt_X0_isDownOne l (a0)) ks_X4_16 ⟨⟨rfl, rfl⟩, by decide, by decide⟩ rfl hl.1 rfl (Nat.le_of_ble_eq_true rfl) ⟨Nat.zero_le _, Nat.zero_le _⟩ dc_X4_downFrom_24 ?_
      refine lv_if_eq (tgt := 36) hx hb dc_X4_downFrom_27 (by decide) (fun c_2 => ?_) (fun c_2 => ?_)
      · have hw := hw.trans (if_pos c_2)
        refine lv_lload_n hx hb dc_X4_downFrom_36 rfl (lv_at hl 0 rfl) ?_
        refine lv_lconst (v := 1) hx hb dc_X4_downFrom_37 (by decide) ?_
        refine lv_lsub hx hb dc_X4_downFrom_38 ?_
        exact W.lret hx hb hr (fun t ht hW => ⟨congrArg (fun z => Outcome.returned (some (Value.long z))) hw.symm, ht⟩) ky_nil dc_X4_downFrom_39
      · have hw := hw.trans (if_neg c_2)
        refine lv_lload_n hx hb dc_X4_downFrom_30 rfl (lv_at hl 0 rfl) ?_
        refine lv_lconst (v := 1) hx hb dc_X4_downFrom_31 (by decide) ?_
        refine lv_ladd hx hb dc_X4_downFrom_32 ?_
        refine lv_goto (tgt := 39) hx hb dc_X4_downFrom_33 (by decide) ?_
        exact W.lret hx hb hr (fun t ht hW => ⟨congrArg (fun z => Outcome.returned (some (Value.long z))) hw.symm, ht⟩) ky_nil dc_X4_downFrom_39
    · have hw := hw.trans (if_pos c_1)
      refine lv_ldc2 (v := (-9223372036854775807)) hx hb hown (hts _ kw_3_157) dc_X4_downFrom_19 ?_
      exact W.lret hx hb hr (fun t ht hW => ⟨congrArg (fun z => Outcome.returned (some (Value.long z))) hw.symm, ht⟩) ky_nil dc_X4_downFrom_22
  · have hw := hw.trans (if_pos c_0)
    refine lv_lload_n hx hb dc_X4_downFrom_8 rfl (lv_at hl 0 rfl) ?_
    exact W.lret hx hb hr (fun t ht hW => ⟨congrArg (fun z => Outcome.returned (some (Value.long z))) hw.symm, ht⟩) ky_nil dc_X4_downFrom_9
def fn_X4_stepFrom (a0 : Int64) : Int64 :=
  if (fn_X0_isEndlessOne (a0)) = (0 : Int32) then (fn_X2_nearestTo ((1 : Int64)) (fn_X0_powerIn (a0))) else ((9218868437227405312 : Int64))
set_option linter.constructorNameAsVariable false in
set_option maxHeartbeats 4000000 in
set_option maxRecDepth 100000 in
theorem mt_X4_stepFrom (l : Launch) (a0 : Int64) : Met l my_X4_stepFrom (.code my_X4_stepFrom prog_6_method_10_code 2 (some .long) :: ky_B) { frames := 2, cells := 0, slots := 0, locals := 55 } (ky_P0 [.long (a0)]) (ky_Q0 (some (.long (fn_X4_stepFrom a0)))) 0 0 (fun _ => False) := by
  refine ky_start0 (by decide) (Nat.le_of_ble_eq_true rfl) (fun p e s m below meth c F ls hl => ?_)
  obtain ⟨hx, hb, hml, hown, hr, hlocks, hts⟩ := id F
  have hl : lv_has ls 2 [(0, .long (a0))] := hl
  have hw : fn_X4_stepFrom a0 = _ := fn_X4_stepFrom.eq_1 a0
  refine lv_lload_n hx hb dc_X4_stepFrom_0 rfl (lv_at hl 0 rfl) ?_
  refine ky_cS0 (As := [.long (a0)]) F (mt_X0_isEndlessOne l (a0)) ks_X4_62 ⟨⟨rfl, rfl⟩, by decide, by decide⟩ rfl hl.1 rfl (Nat.le_of_ble_eq_true rfl) ⟨Nat.zero_le _, Nat.zero_le _⟩ dc_X4_stepFrom_1 ?_
  refine lv_if_eq (tgt := 11) hx hb dc_X4_stepFrom_4 (by decide) (fun c_0 => ?_) (fun c_0 => ?_)
  · have hw := hw.trans (if_pos c_0)
    refine lv_lconst (v := 1) hx hb dc_X4_stepFrom_11 (by decide) ?_
    refine lv_lload_n hx hb dc_X4_stepFrom_12 rfl (lv_at hl 0 rfl) ?_
    refine ky_cS0 (As := [.long (a0)]) F (mt_X0_powerIn l (a0)) ks_X4_65 ⟨⟨rfl, rfl⟩, by decide, by decide⟩ rfl hl.1 rfl (Nat.le_of_ble_eq_true rfl) ⟨Nat.zero_le _, Nat.zero_le _⟩ dc_X4_stepFrom_13 ?_
    refine ky_cS0 (As := [.long ((1 : Int64)), .int (fn_X0_powerIn (a0))]) F (mt_X2_nearestTo l ((1 : Int64)) (fn_X0_powerIn (a0))) ks_X4_39 ⟨⟨rfl, rfl⟩, by decide, by decide⟩ rfl hl.1 rfl (Nat.le_of_ble_eq_true rfl) ⟨Nat.zero_le _, Nat.zero_le _⟩ dc_X4_stepFrom_16 ?_
    exact W.lret hx hb hr (fun t ht hW => ⟨congrArg (fun z => Outcome.returned (some (Value.long z))) hw.symm, ht⟩) ky_nil dc_X4_stepFrom_19
  · have hw := hw.trans (if_neg c_0)
    refine lv_ldc2 (v := 9218868437227405312) hx hb hown (hts _ kw_3_151) dc_X4_stepFrom_7 ?_
    exact W.lret hx hb hr (fun t ht hW => ⟨congrArg (fun z => Outcome.returned (some (Value.long z))) hw.symm, ht⟩) ky_nil dc_X4_stepFrom_10
def fn_X4_walkFrom_L25 : Nat → Int32 → Int64 → Int32 → Int64
  | 0, _, _, _ => 0
  | n + 1, u2, v3, v5 => if (v5) ≤ (u2) then (v3) else (fn_X4_walkFrom_L25 n (u2) (fn_X4_downFrom (v3)) ((v5) + (-1)))
def fk_X4_walkFrom_L25 : Nat → Int32 → Int64 → Int32 → Prop
  | 0, _, _, _ => False
  | n + 1, u2, v3, v5 => (((v5) ≤ (u2)) → (True)) ∧ (¬ ((v5) ≤ (u2)) → (fk_X4_walkFrom_L25 n (u2) (fn_X4_downFrom (v3)) ((v5) + (-1))))
set_option linter.constructorNameAsVariable false in
set_option maxHeartbeats 4000000 in
set_option maxRecDepth 100000 in
theorem ml_X4_walkFrom_L25 {p : Program} {l : Launch} {e : Env} {s : State} {m : MethodId} {args : Array Value} {below : List Frame} {meth : Method} {c : Code} (F : ky_F p s m meth c my_X4_walkFrom.cls prog_6_method_9_code 6 (some .long) args) : ∀ (n : Nat) (u2 : Int32) (v3 : Int64) (v5 : Int32), fk_X4_walkFrom_L25 n u2 v3 v5 → ∀ ls : Array Slot, lv_has ls 6 [(2, .int (u2)), (3, .long (v3)), (5, .int (v5))] → W p l e { frames := 2, cells := 0, slots := 0, locals := 42 } s m args below meth c s.heap [] 0 0 (MQ below (ky_Q0 (some (.long (fn_X4_walkFrom_L25 n u2 v3 v5)))) args s 0 0 (fun _ => False)) (F0 m 25 ls []) := by
  obtain ⟨hx, hb, hml, hown, hr, hlocks, hts⟩ := id F
  intro n
  induction n with
  | zero => intro u2 v3 v5 hk; exact False.elim hk
  | succ n ih =>
      intro u2 v3 v5 hk ls hl
      have hw : fn_X4_walkFrom_L25 (n + 1) u2 v3 v5 = (if (v5) ≤ (u2) then (v3) else (fn_X4_walkFrom_L25 n (u2) (fn_X4_downFrom (v3)) ((v5) + (-1)))) := rfl
      have hk : (((v5) ≤ (u2)) → (True)) ∧ (¬ ((v5) ≤ (u2)) → (fk_X4_walkFrom_L25 n (u2) (fn_X4_downFrom (v3)) ((v5) + (-1)))) := hk
      refine lv_iload hx hb dc_X4_walkFrom_25 (lv_at hl 2 rfl) ?_
      refine lv_iload_n hx hb dc_X4_walkFrom_27 rfl (lv_at hl 0 rfl) ?_
      refine lv_icmp_le (tgt := 42) hx hb dc_X4_walkFrom_28 (by decide) (fun c_0 => ?_) (fun c_0 => ?_)
      · have hw := hw.trans (if_pos c_0)
        have hk := hk.1 c_0
        refine lv_lload_n hx hb dc_X4_walkFrom_42 rfl (lv_at hl 1 rfl) ?_
        exact W.lret hx hb hr (fun t ht hW => ⟨congrArg (fun z => Outcome.returned (some (Value.long z))) hw.symm, ht⟩) ky_nil dc_X4_walkFrom_43
      · have hw := hw.trans (if_neg c_0)
        have hk := hk.2 c_0
        refine lv_lload_n hx hb dc_X4_walkFrom_31 rfl (lv_at hl 1 rfl) ?_
        refine ky_cS0 (As := [.long (v3)]) F (mt_X4_downFrom l (v3)) ks_X4_59 ⟨⟨rfl, rfl⟩, by decide, by decide⟩ rfl hl.1 rfl (Nat.le_of_ble_eq_true rfl) ⟨Nat.zero_le _, Nat.zero_le _⟩ dc_X4_walkFrom_32 ?_
        refine lv_lstore_n (lv' := [(3, .long (fn_X4_downFrom (v3))), (2, .int (u2)), (5, .int (v5))]) hx hb dc_X4_walkFrom_35 rfl hl (by decide) rfl (fun ls hl => ?_)
        refine lv_iinc (v := (v5) + (-1)) (lv' := [(5, .int ((v5) + (-1))), (3, .long (fn_X4_downFrom (v3))), (2, .int (u2))]) hx hb dc_X4_walkFrom_36 hl (k := 2) rfl rfl (by decide) rfl (fun ls hl => ?_)
        refine lv_goto (tgt := 25) hx hb dc_X4_walkFrom_39 (by decide) ?_
        rw [hw]
        exact ih (u2) (fn_X4_downFrom (v3)) ((v5) + (-1)) hk _ (lv_sub hl [2, 1, 0] rfl)
theorem ok_X4_w25' (u2 : Int32) : ∀ (n : Nat) (v3 : Int64) (v5 : Int32), v5.toInt - u2.toInt ≤ n → fk_X4_walkFrom_L25 (n + 1) u2 v3 v5 := by
  intro n
  induction n with
  | zero =>
      intro v3 v5 h
      exact ⟨fun _ => trivial, fun z => absurd (Int32.le_iff_toInt_le.mpr (by omega)) z⟩
  | succ n ih =>
      intro v3 v5 h
      refine ⟨fun _ => trivial, fun c => ?_⟩
      · have c : ¬ v5.toInt ≤ u2.toInt := fun z => c (Int32.le_iff_toInt_le.mpr z)
        have r1 := fb_rng u2
        have r2 := fb_rng v5
        refine ih _ _ ?_
        rw [fb_addI (by show _ ≤ _ + (-1 : Int); omega) (by show _ + (-1 : Int) < _; omega)]
        show _ + (-1 : Int) - _ ≤ _
        omega
theorem ok_X4_w25 (u2 : Int32) (v3 : Int64) : fk_X4_walkFrom_L25 ((-u2.toInt).toNat + 1) u2 v3 0 := ok_X4_w25' u2 _ v3 0 (by show (0 : Int) - _ ≤ _; omega)
def fn_X4_walkFrom_L5 : Nat → Int32 → Int64 → Int32 → Int64
  | 0, _, _, _ => 0
  | n + 1, u2, v3, v5 => if (u2) ≤ (v5) then (fn_X4_walkFrom_L25 ((-(u2).toInt).toNat + 1) (u2) (v3) ((0 : Int32))) else (fn_X4_walkFrom_L5 n (u2) (fn_X4_upFrom (v3)) ((v5) + 1))
def fk_X4_walkFrom_L5 : Nat → Int32 → Int64 → Int32 → Prop
  | 0, _, _, _ => False
  | n + 1, u2, v3, v5 => (((u2) ≤ (v5)) → (True)) ∧ (¬ ((u2) ≤ (v5)) → (fk_X4_walkFrom_L5 n (u2) (fn_X4_upFrom (v3)) ((v5) + 1)))
set_option linter.constructorNameAsVariable false in
set_option maxHeartbeats 4000000 in
set_option maxRecDepth 100000 in
theorem ml_X4_walkFrom_L5 {p : Program} {l : Launch} {e : Env} {s : State} {m : MethodId} {args : Array Value} {below : List Frame} {meth : Method} {c : Code} (F : ky_F p s m meth c my_X4_walkFrom.cls prog_6_method_9_code 6 (some .long) args) : ∀ (n : Nat) (u2 : Int32) (v3 : Int64) (v5 : Int32), fk_X4_walkFrom_L5 n u2 v3 v5 → ∀ ls : Array Slot, lv_has ls 6 [(2, .int (u2)), (3, .long (v3)), (5, .int (v5))] → W p l e { frames := 2, cells := 0, slots := 0, locals := 42 } s m args below meth c s.heap [] 0 0 (MQ below (ky_Q0 (some (.long (fn_X4_walkFrom_L5 n u2 v3 v5)))) args s 0 0 (fun _ => False)) (F0 m 5 ls []) := by
  obtain ⟨hx, hb, hml, hown, hr, hlocks, hts⟩ := id F
  intro n
  induction n with
  | zero => intro u2 v3 v5 hk; exact False.elim hk
  | succ n ih =>
      intro u2 v3 v5 hk ls hl
      have hw : fn_X4_walkFrom_L5 (n + 1) u2 v3 v5 = (if (u2) ≤ (v5) then (fn_X4_walkFrom_L25 ((-(u2).toInt).toNat + 1) (u2) (v3) ((0 : Int32))) else (fn_X4_walkFrom_L5 n (u2) (fn_X4_upFrom (v3)) ((v5) + 1))) := rfl
      have hk : (((u2) ≤ (v5)) → (True)) ∧ (¬ ((u2) ≤ (v5)) → (fk_X4_walkFrom_L5 n (u2) (fn_X4_upFrom (v3)) ((v5) + 1))) := hk
      refine lv_iload hx hb dc_X4_walkFrom_5 (lv_at hl 2 rfl) ?_
      refine lv_iload_n hx hb dc_X4_walkFrom_7 rfl (lv_at hl 0 rfl) ?_
      refine lv_icmp_ge (tgt := 22) hx hb dc_X4_walkFrom_8 (by decide) (fun c_0 => ?_) (fun c_0 => ?_)
      · have hw := hw.trans (if_pos c_0)
        have hk := hk.1 c_0
        refine lv_iconst (v := 0) hx hb dc_X4_walkFrom_22 (by decide) ?_
        refine lv_istore (lv' := [(5, .int ((0 : Int32))), (2, .int (u2)), (3, .long (v3))]) hx hb dc_X4_walkFrom_23 hl (by decide) rfl (fun ls hl => ?_)
        rw [hw]
        exact ml_X4_walkFrom_L25 F ((-(u2).toInt).toNat + 1) (u2) (v3) ((0 : Int32)) (ok_X4_w25 _ _) _ (lv_sub hl [1, 2, 0] rfl)
      · have hw := hw.trans (if_neg c_0)
        have hk := hk.2 c_0
        refine lv_lload_n hx hb dc_X4_walkFrom_11 rfl (lv_at hl 1 rfl) ?_
        refine ky_cS0 (As := [.long (v3)]) F (mt_X4_upFrom l (v3)) ks_X4_56 ⟨⟨rfl, rfl⟩, by decide, by decide⟩ rfl hl.1 rfl (Nat.le_of_ble_eq_true rfl) ⟨Nat.zero_le _, Nat.zero_le _⟩ dc_X4_walkFrom_12 ?_
        refine lv_lstore_n (lv' := [(3, .long (fn_X4_upFrom (v3))), (2, .int (u2)), (5, .int (v5))]) hx hb dc_X4_walkFrom_15 rfl hl (by decide) rfl (fun ls hl => ?_)
        refine lv_iinc (v := (v5) + 1) (lv' := [(5, .int ((v5) + 1)), (3, .long (fn_X4_upFrom (v3))), (2, .int (u2))]) hx hb dc_X4_walkFrom_16 hl (k := 2) rfl rfl (by decide) rfl (fun ls hl => ?_)
        refine lv_goto (tgt := 5) hx hb dc_X4_walkFrom_19 (by decide) ?_
        rw [hw]
        exact ih (u2) (fn_X4_upFrom (v3)) ((v5) + 1) hk _ (lv_sub hl [2, 1, 0] rfl)
theorem ok_X4_w5' (u2 : Int32) : ∀ (n : Nat) (v3 : Int64) (v5 : Int32), u2.toInt - v5.toInt ≤ n → fk_X4_walkFrom_L5 (n + 1) u2 v3 v5 := by
  intro n
  induction n with
  | zero =>
      intro v3 v5 h
      exact ⟨fun _ => trivial, fun z => absurd (Int32.le_iff_toInt_le.mpr (by omega)) z⟩
  | succ n ih =>
      intro v3 v5 h
      refine ⟨fun _ => trivial, fun c => ?_⟩
      · have c : ¬ u2.toInt ≤ v5.toInt := fun z => c (Int32.le_iff_toInt_le.mpr z)
        have r1 := fb_rng u2
        have r2 := fb_rng v5
        refine ih _ _ ?_
        rw [fb_addI (by show _ ≤ _ + (1 : Int); omega) (by show _ + (1 : Int) < _; omega)]
        show _ - (_ + (1 : Int)) ≤ _
        omega
theorem ok_X4_w5 (u2 : Int32) (v3 : Int64) : fk_X4_walkFrom_L5 (u2.toInt.toNat + 1) u2 v3 0 := ok_X4_w5' u2 _ v3 0 (by show _ - (0 : Int) ≤ _; omega)
def fn_X4_walkFrom (a0 : Int64) (a1 : Int32) : Int64 :=
  fn_X4_walkFrom_L5 ((a1).toInt.toNat + 1) (a1) (a0) ((0 : Int32))
set_option linter.constructorNameAsVariable false in
set_option maxHeartbeats 4000000 in
set_option maxRecDepth 100000 in
theorem mt_X4_walkFrom (l : Launch) (a0 : Int64) (a1 : Int32) : Met l my_X4_walkFrom (.code my_X4_walkFrom prog_6_method_9_code 6 (some .long) :: ky_B) { frames := 2, cells := 0, slots := 0, locals := 42 } (ky_P0 [.long (a0), .int (a1)]) (ky_Q0 (some (.long (fn_X4_walkFrom a0 a1)))) 0 0 (fun _ => False) := by
  refine ky_start0 (by decide) (Nat.le_of_ble_eq_true rfl) (fun p e s m below meth c F ls hl => ?_)
  obtain ⟨hx, hb, hml, hown, hr, hlocks, hts⟩ := id F
  have hl : lv_has ls 6 [(0, .long (a0)), (2, .int (a1))] := hl
  have hw : fn_X4_walkFrom a0 a1 = _ := fn_X4_walkFrom.eq_1 a0 a1
  refine lv_lload_n hx hb dc_X4_walkFrom_0 rfl (lv_at hl 0 rfl) ?_
  refine lv_lstore_n (lv' := [(3, .long (a0)), (0, .long (a0)), (2, .int (a1))]) hx hb dc_X4_walkFrom_1 rfl hl (by decide) rfl (fun ls hl => ?_)
  refine lv_iconst (v := 0) hx hb dc_X4_walkFrom_2 (by decide) ?_
  refine lv_istore (lv' := [(5, .int ((0 : Int32))), (3, .long (a0)), (0, .long (a0)), (2, .int (a1))]) hx hb dc_X4_walkFrom_3 hl (by decide) rfl (fun ls hl => ?_)
  rw [hw]
  exact ml_X4_walkFrom_L5 F ((a1).toInt.toNat + 1) (a1) (a0) ((0 : Int32)) (ok_X4_w5 _ _) _ (lv_sub hl [3, 1, 0] rfl)
