section
def fn_J13_compare_74951 (a0 : Int64) (a1 : Int64) : Int32 :=
  if (0 : Int32) ≤ (lg_cmp (a0) (a1)) then (if (lg_cmp (a0) (a1)) = (0 : Int32) then ((0 : Int32)) else ((1 : Int32))) else ((-1 : Int32))
set_option linter.constructorNameAsVariable false in
set_option maxHeartbeats 4000000 in
set_option maxRecDepth 100000 in
theorem mt_J13_compare_74951 (l : Launch) (a0 : Int64) (a1 : Int64) : Met l my_J13_compare_74951 (.code my_J13_compare_74951 prog_19_method_42_code 4 (some .int) :: ky_B) { frames := 0, cells := 0, slots := 0, locals := 0 } (ky_P0 [.long (a0), .long (a1)]) (ky_Q0 (some (.int (fn_J13_compare_74951 a0 a1)))) 0 0 (fun _ => False) := by
  refine ky_start0 (by decide) (Nat.le_of_ble_eq_true rfl) (fun p e s m below meth c F ls hl => ?_)
  obtain ⟨hx, hb, hml, hown, hr, hlocks, hts⟩ := id F
  have hl : lv_has ls 4 [(0, .long (a0)), (2, .long (a1))] := hl
  have hw : fn_J13_compare_74951 a0 a1 = _ := fn_J13_compare_74951.eq_1 a0 a1
  refine lv_lload_n hx hb dc_J13_compare_74951_0 rfl (lv_at hl 0 rfl) ?_
  refine lv_lload_n hx hb dc_J13_compare_74951_1 rfl (lv_at hl 1 rfl) ?_
  refine W.lcmp hx hb dc_J13_compare_74951_2 ?_
  refine lv_if_ge (tgt := 10) hx hb dc_J13_compare_74951_3 (by decide) (fun c_0 => ?_) (fun c_0 => ?_)
  · have hw := hw.trans (if_pos c_0)
    refine lv_lload_n hx hb dc_J13_compare_74951_10 rfl (lv_at hl 0 rfl) ?_
    refine lv_lload_n hx hb dc_J13_compare_74951_11 rfl (lv_at hl 1 rfl) ?_
    refine W.lcmp hx hb dc_J13_compare_74951_12 ?_
    refine lv_if_ne (tgt := 20) hx hb dc_J13_compare_74951_13 (by decide) (fun c_1 => ?_) (fun c_1 => ?_)
    · have hw := hw.trans (if_neg c_1)
      refine lv_iconst (v := 1) hx hb dc_J13_compare_74951_20 (by decide) ?_
      exact W.iret hx hb hr (fun t ht hW => ⟨congrArg (fun z => Outcome.returned (some (Value.int z))) hw.symm, ht⟩) ky_nil dc_J13_compare_74951_21
    · have hw := hw.trans (if_pos c_1)
      refine lv_iconst (v := 0) hx hb dc_J13_compare_74951_16 (by decide) ?_
      refine lv_goto (tgt := 21) hx hb dc_J13_compare_74951_17 (by decide) ?_
      exact W.iret hx hb hr (fun t ht hW => ⟨congrArg (fun z => Outcome.returned (some (Value.int z))) hw.symm, ht⟩) ky_nil dc_J13_compare_74951_21
  · have hw := hw.trans (if_neg c_0)
    refine lv_iconst (v := (-1)) hx hb dc_J13_compare_74951_6 (by decide) ?_
    refine lv_goto (tgt := 21) hx hb dc_J13_compare_74951_7 (by decide) ?_
    exact W.iret hx hb hr (fun t ht hW => ⟨congrArg (fun z => Outcome.returned (some (Value.int z))) hw.symm, ht⟩) ky_nil dc_J13_compare_74951_21
def fn_X1_areWholesRight (a0 : Int64) : Int32 :=
  if (0 : Int32) < (lg_cmp (fn_X0_rungIn (fn_X4_floorFrom (a0))) (fn_X0_rungIn (a0))) then ((0 : Int32)) else (if (lg_cmp (fn_X0_rungIn (fn_X4_ceilFrom (a0))) (fn_X0_rungIn (a0))) < (0 : Int32) then ((0 : Int32)) else (if (lg_cmp (fn_X4_floorFrom (a0)) (fn_X0_turned (fn_X4_ceilFrom (fn_X0_turned (a0))))) = (0 : Int32) then (if (lg_cmp (fn_X4_ceilFrom (a0)) (fn_X0_turned (fn_X4_floorFrom (fn_X0_turned (a0))))) = (0 : Int32) then ((1 : Int32)) else ((0 : Int32))) else ((0 : Int32))))
set_option linter.constructorNameAsVariable false in
set_option maxHeartbeats 4000000 in
set_option maxRecDepth 100000 in
theorem mt_X1_areWholesRight (l : Launch) (a0 : Int64) : Met l my_X1_areWholesRight (.code my_X1_areWholesRight prog_3_method_3_code 8 (some .boolean) :: ky_B) { frames := 4, cells := 0, slots := 0, locals := 99 } (ky_P0 [.long (a0)]) (ky_Q0 (some (.int (fn_X1_areWholesRight a0)))) 0 0 (fun _ => False) := by
  refine ky_start0 (by decide) (Nat.le_of_ble_eq_true rfl) (fun p e s m below meth c F ls hl => ?_)
  obtain ⟨hx, hb, hml, hown, hr, hlocks, hts⟩ := id F
  have hl : lv_has ls 8 [(0, .long (a0))] := hl
  have hw : fn_X1_areWholesRight a0 = _ := fn_X1_areWholesRight.eq_1 a0
  refine lv_lload_n hx hb dc_X1_areWholesRight_0 rfl (lv_at hl 0 rfl) ?_
  refine ky_cS0 (As := [.long (a0)]) F (mt_X4_floorFrom l (a0)) ks_X1_37 ⟨⟨rfl, rfl⟩, by decide, by decide⟩ rfl hl.1 rfl (Nat.le_of_ble_eq_true rfl) ⟨Nat.zero_le _, Nat.zero_le _⟩ dc_X1_areWholesRight_1 ?_
  refine lv_lstore_n (lv' := [(2, .long (fn_X4_floorFrom (a0))), (0, .long (a0))]) hx hb dc_X1_areWholesRight_4 rfl hl (by decide) rfl (fun ls hl => ?_)
  refine lv_lload_n hx hb dc_X1_areWholesRight_5 rfl (lv_at hl 1 rfl) ?_
  refine ky_cS0 (As := [.long (a0)]) F (mt_X4_ceilFrom l (a0)) ks_X1_43 ⟨⟨rfl, rfl⟩, by decide, by decide⟩ rfl hl.1 rfl (Nat.le_of_ble_eq_true rfl) ⟨Nat.zero_le _, Nat.zero_le _⟩ dc_X1_areWholesRight_6 ?_
  refine lv_lstore (lv' := [(4, .long (fn_X4_ceilFrom (a0))), (2, .long (fn_X4_floorFrom (a0))), (0, .long (a0))]) hx hb dc_X1_areWholesRight_9 hl (by decide) rfl (fun ls hl => ?_)
  refine lv_lload_n hx hb dc_X1_areWholesRight_11 rfl (lv_at hl 2 rfl) ?_
  refine ky_cS0 (As := [.long (a0)]) F (mt_X0_turned l (a0)) ks_X1_46 ⟨⟨rfl, rfl⟩, by decide, by decide⟩ rfl hl.1 rfl (Nat.le_of_ble_eq_true rfl) ⟨Nat.zero_le _, Nat.zero_le _⟩ dc_X1_areWholesRight_12 ?_
  refine lv_lstore (lv' := [(6, .long (fn_X0_turned (a0))), (4, .long (fn_X4_ceilFrom (a0))), (2, .long (fn_X4_floorFrom (a0))), (0, .long (a0))]) hx hb dc_X1_areWholesRight_15 hl (by decide) rfl (fun ls hl => ?_)
  refine lv_lload_n hx hb dc_X1_areWholesRight_17 rfl (lv_at hl 2 rfl) ?_
  refine ky_cS0 (As := [.long (fn_X4_floorFrom (a0))]) F (mt_X0_rungIn l (fn_X4_floorFrom (a0))) ks_X1_51 ⟨⟨rfl, rfl⟩, by decide, by decide⟩ rfl hl.1 rfl (Nat.le_of_ble_eq_true rfl) ⟨Nat.zero_le _, Nat.zero_le _⟩ dc_X1_areWholesRight_18 ?_
  refine lv_lload_n hx hb dc_X1_areWholesRight_21 rfl (lv_at hl 3 rfl) ?_
  refine ky_cS0 (As := [.long (a0)]) F (mt_X0_rungIn l (a0)) ks_X1_51 ⟨⟨rfl, rfl⟩, by decide, by decide⟩ rfl hl.1 rfl (Nat.le_of_ble_eq_true rfl) ⟨Nat.zero_le _, Nat.zero_le _⟩ dc_X1_areWholesRight_22 ?_
  refine W.lcmp hx hb dc_X1_areWholesRight_25 ?_
  refine lv_if_gt (tgt := 73) hx hb dc_X1_areWholesRight_26 (by decide) (fun c_0 => ?_) (fun c_0 => ?_)
  · have hw := hw.trans (if_pos c_0)
    refine lv_iconst (v := 0) hx hb dc_X1_areWholesRight_73 (by decide) ?_
    exact W.zret hx hb hr (by decide) (fun t ht hW => ⟨congrArg (fun z => Outcome.returned (some (Value.int z))) hw.symm, ht⟩) ky_nil dc_X1_areWholesRight_74
  · have hw := hw.trans (if_neg c_0)
    refine lv_lload hx hb dc_X1_areWholesRight_29 (lv_at hl 1 rfl) ?_
    refine ky_cS0 (As := [.long (fn_X4_ceilFrom (a0))]) F (mt_X0_rungIn l (fn_X4_ceilFrom (a0))) ks_X1_51 ⟨⟨rfl, rfl⟩, by decide, by decide⟩ rfl hl.1 rfl (Nat.le_of_ble_eq_true rfl) ⟨Nat.zero_le _, Nat.zero_le _⟩ dc_X1_areWholesRight_31 ?_
    refine lv_lload_n hx hb dc_X1_areWholesRight_34 rfl (lv_at hl 3 rfl) ?_
    refine ky_cS0 (As := [.long (a0)]) F (mt_X0_rungIn l (a0)) ks_X1_51 ⟨⟨rfl, rfl⟩, by decide, by decide⟩ rfl hl.1 rfl (Nat.le_of_ble_eq_true rfl) ⟨Nat.zero_le _, Nat.zero_le _⟩ dc_X1_areWholesRight_35 ?_
    refine W.lcmp hx hb dc_X1_areWholesRight_38 ?_
    refine lv_if_lt (tgt := 73) hx hb dc_X1_areWholesRight_39 (by decide) (fun c_1 => ?_) (fun c_1 => ?_)
    · have hw := hw.trans (if_pos c_1)
      refine lv_iconst (v := 0) hx hb dc_X1_areWholesRight_73 (by decide) ?_
      exact W.zret hx hb hr (by decide) (fun t ht hW => ⟨congrArg (fun z => Outcome.returned (some (Value.int z))) hw.symm, ht⟩) ky_nil dc_X1_areWholesRight_74
    · have hw := hw.trans (if_neg c_1)
      refine lv_lload_n hx hb dc_X1_areWholesRight_42 rfl (lv_at hl 2 rfl) ?_
      refine lv_lload hx hb dc_X1_areWholesRight_43 (lv_at hl 0 rfl) ?_
      refine ky_cS0 (As := [.long (fn_X0_turned (a0))]) F (mt_X4_ceilFrom l (fn_X0_turned (a0))) ks_X1_43 ⟨⟨rfl, rfl⟩, by decide, by decide⟩ rfl hl.1 rfl (Nat.le_of_ble_eq_true rfl) ⟨Nat.zero_le _, Nat.zero_le _⟩ dc_X1_areWholesRight_45 ?_
      refine ky_cS0 (As := [.long (fn_X4_ceilFrom (fn_X0_turned (a0)))]) F (mt_X0_turned l (fn_X4_ceilFrom (fn_X0_turned (a0)))) ks_X1_46 ⟨⟨rfl, rfl⟩, by decide, by decide⟩ rfl hl.1 rfl (Nat.le_of_ble_eq_true rfl) ⟨Nat.zero_le _, Nat.zero_le _⟩ dc_X1_areWholesRight_48 ?_
      refine W.lcmp hx hb dc_X1_areWholesRight_51 ?_
      refine lv_if_ne (tgt := 73) hx hb dc_X1_areWholesRight_52 (by decide) (fun c_2 => ?_) (fun c_2 => ?_)
      · have hw := hw.trans (if_neg c_2)
        refine lv_iconst (v := 0) hx hb dc_X1_areWholesRight_73 (by decide) ?_
        exact W.zret hx hb hr (by decide) (fun t ht hW => ⟨congrArg (fun z => Outcome.returned (some (Value.int z))) hw.symm, ht⟩) ky_nil dc_X1_areWholesRight_74
      · have hw := hw.trans (if_pos c_2)
        refine lv_lload hx hb dc_X1_areWholesRight_55 (lv_at hl 1 rfl) ?_
        refine lv_lload hx hb dc_X1_areWholesRight_57 (lv_at hl 0 rfl) ?_
        refine ky_cS0 (As := [.long (fn_X0_turned (a0))]) F (mt_X4_floorFrom l (fn_X0_turned (a0))) ks_X1_37 ⟨⟨rfl, rfl⟩, by decide, by decide⟩ rfl hl.1 rfl (Nat.le_of_ble_eq_true rfl) ⟨Nat.zero_le _, Nat.zero_le _⟩ dc_X1_areWholesRight_59 ?_
        refine ky_cS0 (As := [.long (fn_X4_floorFrom (fn_X0_turned (a0)))]) F (mt_X0_turned l (fn_X4_floorFrom (fn_X0_turned (a0)))) ks_X1_46 ⟨⟨rfl, rfl⟩, by decide, by decide⟩ rfl hl.1 rfl (Nat.le_of_ble_eq_true rfl) ⟨Nat.zero_le _, Nat.zero_le _⟩ dc_X1_areWholesRight_62 ?_
        refine W.lcmp hx hb dc_X1_areWholesRight_65 ?_
        refine lv_if_ne (tgt := 73) hx hb dc_X1_areWholesRight_66 (by decide) (fun c_3 => ?_) (fun c_3 => ?_)
        · have hw := hw.trans (if_neg c_3)
          refine lv_iconst (v := 0) hx hb dc_X1_areWholesRight_73 (by decide) ?_
          exact W.zret hx hb hr (by decide) (fun t ht hW => ⟨congrArg (fun z => Outcome.returned (some (Value.int z))) hw.symm, ht⟩) ky_nil dc_X1_areWholesRight_74
        · have hw := hw.trans (if_pos c_3)
          refine lv_iconst (v := 1) hx hb dc_X1_areWholesRight_69 (by decide) ?_
          refine lv_goto (tgt := 74) hx hb dc_X1_areWholesRight_70 (by decide) ?_
          exact W.zret hx hb hr (by decide) (fun t ht hW => ⟨congrArg (fun z => Outcome.returned (some (Value.int z))) hw.symm, ht⟩) ky_nil dc_X1_areWholesRight_74
theorem fz_X1_areWholesRight (a0 : Int64) : fn_X1_areWholesRight a0 = 0 ∨ fn_X1_areWholesRight a0 = 1 := by
  unfold fn_X1_areWholesRight
  repeat' split
  all_goals first | exact Or.inl rfl | exact Or.inr rfl
def fn_X1_isRintRight (a0 : Int64) : Int32 :=
  if (lg_cmp (fn_X4_rintFrom (a0)) (fn_X4_floorFrom (a0))) = (0 : Int32) then (if (lg_cmp (fn_X4_floorFrom (a0)) (fn_X4_ceilFrom (a0))) = (0 : Int32) then ((1 : Int32)) else (if (fn_X0_isDownOne (a0)) = (0 : Int32) then (if (lg_cmp (fn_X4_rintFrom (a0)) (fn_X4_floorFrom (a0))) = (0 : Int32) then (if (0 : Int32) < (lg_cmp (fn_X0_restIn (a0)) ((jlshl ((1 : Int64)) (fn_X0_behindIn (a0))) - (fn_X0_restIn (a0)))) then ((0 : Int32)) else ((1 : Int32))) else (if (0 : Int32) < (lg_cmp ((jlshl ((1 : Int64)) (fn_X0_behindIn (a0))) - (fn_X0_restIn (a0))) (fn_X0_restIn (a0))) then ((0 : Int32)) else ((1 : Int32)))) else (if (lg_cmp (fn_X4_rintFrom (a0)) (fn_X4_ceilFrom (a0))) = (0 : Int32) then (if (0 : Int32) < (lg_cmp (fn_X0_restIn (a0)) ((jlshl ((1 : Int64)) (fn_X0_behindIn (a0))) - (fn_X0_restIn (a0)))) then ((0 : Int32)) else ((1 : Int32))) else (if (0 : Int32) < (lg_cmp ((jlshl ((1 : Int64)) (fn_X0_behindIn (a0))) - (fn_X0_restIn (a0))) (fn_X0_restIn (a0))) then ((0 : Int32)) else ((1 : Int32)))))) else (if (lg_cmp (fn_X4_rintFrom (a0)) (fn_X4_ceilFrom (a0))) = (0 : Int32) then (if (lg_cmp (fn_X4_floorFrom (a0)) (fn_X4_ceilFrom (a0))) = (0 : Int32) then ((1 : Int32)) else (if (fn_X0_isDownOne (a0)) = (0 : Int32) then (if (lg_cmp (fn_X4_rintFrom (a0)) (fn_X4_floorFrom (a0))) = (0 : Int32) then (if (0 : Int32) < (lg_cmp (fn_X0_restIn (a0)) ((jlshl ((1 : Int64)) (fn_X0_behindIn (a0))) - (fn_X0_restIn (a0)))) then ((0 : Int32)) else ((1 : Int32))) else (if (0 : Int32) < (lg_cmp ((jlshl ((1 : Int64)) (fn_X0_behindIn (a0))) - (fn_X0_restIn (a0))) (fn_X0_restIn (a0))) then ((0 : Int32)) else ((1 : Int32)))) else (if (lg_cmp (fn_X4_rintFrom (a0)) (fn_X4_ceilFrom (a0))) = (0 : Int32) then (if (0 : Int32) < (lg_cmp (fn_X0_restIn (a0)) ((jlshl ((1 : Int64)) (fn_X0_behindIn (a0))) - (fn_X0_restIn (a0)))) then ((0 : Int32)) else ((1 : Int32))) else (if (0 : Int32) < (lg_cmp ((jlshl ((1 : Int64)) (fn_X0_behindIn (a0))) - (fn_X0_restIn (a0))) (fn_X0_restIn (a0))) then ((0 : Int32)) else ((1 : Int32)))))) else ((0 : Int32)))
set_option linter.constructorNameAsVariable false in
set_option maxHeartbeats 4000000 in
set_option maxRecDepth 100000 in
theorem mt_X1_isRintRight (l : Launch) (a0 : Int64) : Met l my_X1_isRintRight (.code my_X1_isRintRight prog_3_method_4_code 14 (some .boolean) :: ky_B) { frames := 4, cells := 0, slots := 0, locals := 99 } (ky_P0 [.long (a0)]) (ky_Q0 (some (.int (fn_X1_isRintRight a0)))) 0 0 (fun _ => False) := by
  refine ky_start0 (by decide) (Nat.le_of_ble_eq_true rfl) (fun p e s m below meth c F ls hl => ?_)
  obtain ⟨hx, hb, hml, hown, hr, hlocks, hts⟩ := id F
  have hl : lv_has ls 14 [(0, .long (a0))] := hl
  have hw : fn_X1_isRintRight a0 = _ := fn_X1_isRintRight.eq_1 a0
  refine lv_lload_n hx hb dc_X1_isRintRight_0 rfl (lv_at hl 0 rfl) ?_
  refine ky_cS0 (As := [.long (a0)]) F (mt_X4_floorFrom l (a0)) ks_X1_37 ⟨⟨rfl, rfl⟩, by decide, by decide⟩ rfl hl.1 rfl (Nat.le_of_ble_eq_true rfl) ⟨Nat.zero_le _, Nat.zero_le _⟩ dc_X1_isRintRight_1 ?_
  refine lv_lstore_n (lv' := [(2, .long (fn_X4_floorFrom (a0))), (0, .long (a0))]) hx hb dc_X1_isRintRight_4 rfl hl (by decide) rfl (fun ls hl => ?_)
  refine lv_lload_n hx hb dc_X1_isRintRight_5 rfl (lv_at hl 1 rfl) ?_
  refine ky_cS0 (As := [.long (a0)]) F (mt_X4_ceilFrom l (a0)) ks_X1_43 ⟨⟨rfl, rfl⟩, by decide, by decide⟩ rfl hl.1 rfl (Nat.le_of_ble_eq_true rfl) ⟨Nat.zero_le _, Nat.zero_le _⟩ dc_X1_isRintRight_6 ?_
  refine lv_lstore (lv' := [(4, .long (fn_X4_ceilFrom (a0))), (2, .long (fn_X4_floorFrom (a0))), (0, .long (a0))]) hx hb dc_X1_isRintRight_9 hl (by decide) rfl (fun ls hl => ?_)
  refine lv_lload_n hx hb dc_X1_isRintRight_11 rfl (lv_at hl 2 rfl) ?_
  refine ky_cS0 (As := [.long (a0)]) F (mt_X4_rintFrom l (a0)) ks_X1_54 ⟨⟨rfl, rfl⟩, by decide, by decide⟩ rfl hl.1 rfl (Nat.le_of_ble_eq_true rfl) ⟨Nat.zero_le _, Nat.zero_le _⟩ dc_X1_isRintRight_12 ?_
  refine lv_lstore (lv' := [(6, .long (fn_X4_rintFrom (a0))), (4, .long (fn_X4_ceilFrom (a0))), (2, .long (fn_X4_floorFrom (a0))), (0, .long (a0))]) hx hb dc_X1_isRintRight_15 hl (by decide) rfl (fun ls hl => ?_)
  refine lv_lload hx hb dc_X1_isRintRight_17 (lv_at hl 0 rfl) ?_
  refine lv_lload_n hx hb dc_X1_isRintRight_19 rfl (lv_at hl 2 rfl) ?_
  refine W.lcmp hx hb dc_X1_isRintRight_20 ?_
  refine lv_if_eq (tgt := 34) hx hb dc_X1_isRintRight_21 (by decide) (fun c_0 => ?_) (fun c_0 => ?_)
  · have hw := hw.trans (if_pos c_0)
    refine lv_lload_n hx hb dc_X1_isRintRight_34 rfl (lv_at hl 2 rfl) ?_
    refine lv_lload hx hb dc_X1_isRintRight_35 (lv_at hl 1 rfl) ?_
    refine W.lcmp hx hb dc_X1_isRintRight_37 ?_
    refine lv_if_ne (tgt := 43) hx hb dc_X1_isRintRight_38 (by decide) (fun c_1 => ?_) (fun c_1 => ?_)
    · have hw := hw.trans (if_neg c_1)
      refine lv_lload_n hx hb dc_X1_isRintRight_43 rfl (lv_at hl 3 rfl) ?_
      refine ky_cS0 (As := [.long (a0)]) F (mt_X0_isDownOne l (a0)) ks_X1_57 ⟨⟨rfl, rfl⟩, by decide, by decide⟩ rfl hl.1 rfl (Nat.le_of_ble_eq_true rfl) ⟨Nat.zero_le _, Nat.zero_le _⟩ dc_X1_isRintRight_44 ?_
      refine lv_if_eq (tgt := 55) hx hb dc_X1_isRintRight_47 (by decide) (fun c_2 => ?_) (fun c_2 => ?_)
      · have hw := hw.trans (if_pos c_2)
        refine lv_lload_n hx hb dc_X1_isRintRight_55 rfl (lv_at hl 2 rfl) ?_
        refine lv_lstore (lv' := [(8, .long (fn_X4_floorFrom (a0))), (6, .long (fn_X4_rintFrom (a0))), (4, .long (fn_X4_ceilFrom (a0))), (2, .long (fn_X4_floorFrom (a0))), (0, .long (a0))]) hx hb dc_X1_isRintRight_56 hl (by decide) rfl (fun ls hl => ?_)
        refine lv_lload_n hx hb dc_X1_isRintRight_58 rfl (lv_at hl 4 rfl) ?_
        refine ky_cS0 (As := [.long (a0)]) F (mt_X0_restIn l (a0)) ks_X1_60 ⟨⟨rfl, rfl⟩, by decide, by decide⟩ rfl hl.1 rfl (Nat.le_of_ble_eq_true rfl) ⟨Nat.zero_le _, Nat.zero_le _⟩ dc_X1_isRintRight_59 ?_
        refine lv_lstore (lv' := [(10, .long (fn_X0_restIn (a0))), (8, .long (fn_X4_floorFrom (a0))), (6, .long (fn_X4_rintFrom (a0))), (4, .long (fn_X4_ceilFrom (a0))), (2, .long (fn_X4_floorFrom (a0))), (0, .long (a0))]) hx hb dc_X1_isRintRight_62 hl (by decide) rfl (fun ls hl => ?_)
        refine lv_lconst (v := 1) hx hb dc_X1_isRintRight_64 (by decide) ?_
        refine lv_lload_n hx hb dc_X1_isRintRight_65 rfl (lv_at hl 5 rfl) ?_
        refine ky_cS0 (As := [.long (a0)]) F (mt_X0_behindIn l (a0)) ks_X1_63 ⟨⟨rfl, rfl⟩, by decide, by decide⟩ rfl hl.1 rfl (Nat.le_of_ble_eq_true rfl) ⟨Nat.zero_le _, Nat.zero_le _⟩ dc_X1_isRintRight_66 ?_
        refine lv_lshl (v := jlshl ((1 : Int64)) (fn_X0_behindIn (a0))) hx hb dc_X1_isRintRight_69 rfl ?_
        refine lv_lload hx hb dc_X1_isRintRight_70 (lv_at hl 0 rfl) ?_
        refine lv_lsub hx hb dc_X1_isRintRight_72 ?_
        refine lv_lstore (lv' := [(12, .long ((jlshl ((1 : Int64)) (fn_X0_behindIn (a0))) - (fn_X0_restIn (a0)))), (10, .long (fn_X0_restIn (a0))), (8, .long (fn_X4_floorFrom (a0))), (6, .long (fn_X4_rintFrom (a0))), (4, .long (fn_X4_ceilFrom (a0))), (2, .long (fn_X4_floorFrom (a0))), (0, .long (a0))]) hx hb dc_X1_isRintRight_73 hl (by decide) rfl (fun ls hl => ?_)
        refine lv_lload hx hb dc_X1_isRintRight_75 (lv_at hl 3 rfl) ?_
        refine lv_lload hx hb dc_X1_isRintRight_77 (lv_at hl 2 rfl) ?_
        refine W.lcmp hx hb dc_X1_isRintRight_79 ?_
        refine lv_if_ne (tgt := 99) hx hb dc_X1_isRintRight_80 (by decide) (fun c_3 => ?_) (fun c_3 => ?_)
        · have hw := hw.trans (if_neg c_3)
          refine lv_lload hx hb dc_X1_isRintRight_99 (lv_at hl 0 rfl) ?_
          refine lv_lload hx hb dc_X1_isRintRight_101 (lv_at hl 1 rfl) ?_
          refine W.lcmp hx hb dc_X1_isRintRight_103 ?_
          refine lv_if_gt (tgt := 111) hx hb dc_X1_isRintRight_104 (by decide) (fun c_4 => ?_) (fun c_4 => ?_)
          · have hw := hw.trans (if_pos c_4)
            refine lv_iconst (v := 0) hx hb dc_X1_isRintRight_111 (by decide) ?_
            exact W.zret hx hb hr (by decide) (fun t ht hW => ⟨congrArg (fun z => Outcome.returned (some (Value.int z))) hw.symm, ht⟩) ky_nil dc_X1_isRintRight_112
          · have hw := hw.trans (if_neg c_4)
            refine lv_iconst (v := 1) hx hb dc_X1_isRintRight_107 (by decide) ?_
            refine lv_goto (tgt := 112) hx hb dc_X1_isRintRight_108 (by decide) ?_
            exact W.zret hx hb hr (by decide) (fun t ht hW => ⟨congrArg (fun z => Outcome.returned (some (Value.int z))) hw.symm, ht⟩) ky_nil dc_X1_isRintRight_112
        · have hw := hw.trans (if_pos c_3)
          refine lv_lload hx hb dc_X1_isRintRight_83 (lv_at hl 1 rfl) ?_
          refine lv_lload hx hb dc_X1_isRintRight_85 (lv_at hl 0 rfl) ?_
          refine W.lcmp hx hb dc_X1_isRintRight_87 ?_
          refine lv_if_gt (tgt := 95) hx hb dc_X1_isRintRight_88 (by decide) (fun c_4 => ?_) (fun c_4 => ?_)
          · have hw := hw.trans (if_pos c_4)
            refine lv_iconst (v := 0) hx hb dc_X1_isRintRight_95 (by decide) ?_
            refine lv_goto (tgt := 112) hx hb dc_X1_isRintRight_96 (by decide) ?_
            exact W.zret hx hb hr (by decide) (fun t ht hW => ⟨congrArg (fun z => Outcome.returned (some (Value.int z))) hw.symm, ht⟩) ky_nil dc_X1_isRintRight_112
          · have hw := hw.trans (if_neg c_4)
            refine lv_iconst (v := 1) hx hb dc_X1_isRintRight_91 (by decide) ?_
            refine lv_goto (tgt := 112) hx hb dc_X1_isRintRight_92 (by decide) ?_
            exact W.zret hx hb hr (by decide) (fun t ht hW => ⟨congrArg (fun z => Outcome.returned (some (Value.int z))) hw.symm, ht⟩) ky_nil dc_X1_isRintRight_112
      · have hw := hw.trans (if_neg c_2)
        refine lv_lload hx hb dc_X1_isRintRight_50 (lv_at hl 1 rfl) ?_
        refine lv_goto (tgt := 56) hx hb dc_X1_isRintRight_52 (by decide) ?_
        refine lv_lstore (lv' := [(8, .long (fn_X4_ceilFrom (a0))), (6, .long (fn_X4_rintFrom (a0))), (4, .long (fn_X4_ceilFrom (a0))), (2, .long (fn_X4_floorFrom (a0))), (0, .long (a0))]) hx hb dc_X1_isRintRight_56 hl (by decide) rfl (fun ls hl => ?_)
        refine lv_lload_n hx hb dc_X1_isRintRight_58 rfl (lv_at hl 4 rfl) ?_
        refine ky_cS0 (As := [.long (a0)]) F (mt_X0_restIn l (a0)) ks_X1_60 ⟨⟨rfl, rfl⟩, by decide, by decide⟩ rfl hl.1 rfl (Nat.le_of_ble_eq_true rfl) ⟨Nat.zero_le _, Nat.zero_le _⟩ dc_X1_isRintRight_59 ?_
        refine lv_lstore (lv' := [(10, .long (fn_X0_restIn (a0))), (8, .long (fn_X4_ceilFrom (a0))), (6, .long (fn_X4_rintFrom (a0))), (4, .long (fn_X4_ceilFrom (a0))), (2, .long (fn_X4_floorFrom (a0))), (0, .long (a0))]) hx hb dc_X1_isRintRight_62 hl (by decide) rfl (fun ls hl => ?_)
        refine lv_lconst (v := 1) hx hb dc_X1_isRintRight_64 (by decide) ?_
        refine lv_lload_n hx hb dc_X1_isRintRight_65 rfl (lv_at hl 5 rfl) ?_
        refine ky_cS0 (As := [.long (a0)]) F (mt_X0_behindIn l (a0)) ks_X1_63 ⟨⟨rfl, rfl⟩, by decide, by decide⟩ rfl hl.1 rfl (Nat.le_of_ble_eq_true rfl) ⟨Nat.zero_le _, Nat.zero_le _⟩ dc_X1_isRintRight_66 ?_
        refine lv_lshl (v := jlshl ((1 : Int64)) (fn_X0_behindIn (a0))) hx hb dc_X1_isRintRight_69 rfl ?_
        refine lv_lload hx hb dc_X1_isRintRight_70 (lv_at hl 0 rfl) ?_
        refine lv_lsub hx hb dc_X1_isRintRight_72 ?_
        refine lv_lstore (lv' := [(12, .long ((jlshl ((1 : Int64)) (fn_X0_behindIn (a0))) - (fn_X0_restIn (a0)))), (10, .long (fn_X0_restIn (a0))), (8, .long (fn_X4_ceilFrom (a0))), (6, .long (fn_X4_rintFrom (a0))), (4, .long (fn_X4_ceilFrom (a0))), (2, .long (fn_X4_floorFrom (a0))), (0, .long (a0))]) hx hb dc_X1_isRintRight_73 hl (by decide) rfl (fun ls hl => ?_)
        refine lv_lload hx hb dc_X1_isRintRight_75 (lv_at hl 3 rfl) ?_
        refine lv_lload hx hb dc_X1_isRintRight_77 (lv_at hl 2 rfl) ?_
        refine W.lcmp hx hb dc_X1_isRintRight_79 ?_
        refine lv_if_ne (tgt := 99) hx hb dc_X1_isRintRight_80 (by decide) (fun c_3 => ?_) (fun c_3 => ?_)
        · have hw := hw.trans (if_neg c_3)
          refine lv_lload hx hb dc_X1_isRintRight_99 (lv_at hl 0 rfl) ?_
          refine lv_lload hx hb dc_X1_isRintRight_101 (lv_at hl 1 rfl) ?_
          refine W.lcmp hx hb dc_X1_isRintRight_103 ?_
          refine lv_if_gt (tgt := 111) hx hb dc_X1_isRintRight_104 (by decide) (fun c_4 => ?_) (fun c_4 => ?_)
          · have hw := hw.trans (if_pos c_4)
            refine lv_iconst (v := 0) hx hb dc_X1_isRintRight_111 (by decide) ?_
            exact W.zret hx hb hr (by decide) (fun t ht hW => ⟨congrArg (fun z => Outcome.returned (some (Value.int z))) hw.symm, ht⟩) ky_nil dc_X1_isRintRight_112
          · have hw := hw.trans (if_neg c_4)
            refine lv_iconst (v := 1) hx hb dc_X1_isRintRight_107 (by decide) ?_
            refine lv_goto (tgt := 112) hx hb dc_X1_isRintRight_108 (by decide) ?_
            exact W.zret hx hb hr (by decide) (fun t ht hW => ⟨congrArg (fun z => Outcome.returned (some (Value.int z))) hw.symm, ht⟩) ky_nil dc_X1_isRintRight_112
        · have hw := hw.trans (if_pos c_3)
          refine lv_lload hx hb dc_X1_isRintRight_83 (lv_at hl 1 rfl) ?_
          refine lv_lload hx hb dc_X1_isRintRight_85 (lv_at hl 0 rfl) ?_
          refine W.lcmp hx hb dc_X1_isRintRight_87 ?_
          refine lv_if_gt (tgt := 95) hx hb dc_X1_isRintRight_88 (by decide) (fun c_4 => ?_) (fun c_4 => ?_)
          · have hw := hw.trans (if_pos c_4)
            refine lv_iconst (v := 0) hx hb dc_X1_isRintRight_95 (by decide) ?_
            refine lv_goto (tgt := 112) hx hb dc_X1_isRintRight_96 (by decide) ?_
            exact W.zret hx hb hr (by decide) (fun t ht hW => ⟨congrArg (fun z => Outcome.returned (some (Value.int z))) hw.symm, ht⟩) ky_nil dc_X1_isRintRight_112
          · have hw := hw.trans (if_neg c_4)
            refine lv_iconst (v := 1) hx hb dc_X1_isRintRight_91 (by decide) ?_
            refine lv_goto (tgt := 112) hx hb dc_X1_isRintRight_92 (by decide) ?_
            exact W.zret hx hb hr (by decide) (fun t ht hW => ⟨congrArg (fun z => Outcome.returned (some (Value.int z))) hw.symm, ht⟩) ky_nil dc_X1_isRintRight_112
    · have hw := hw.trans (if_pos c_1)
      refine lv_iconst (v := 1) hx hb dc_X1_isRintRight_41 (by decide) ?_
      exact W.zret hx hb hr (by decide) (fun t ht hW => ⟨congrArg (fun z => Outcome.returned (some (Value.int z))) hw.symm, ht⟩) ky_nil dc_X1_isRintRight_42
  · have hw := hw.trans (if_neg c_0)
    refine lv_lload hx hb dc_X1_isRintRight_24 (lv_at hl 0 rfl) ?_
    refine lv_lload hx hb dc_X1_isRintRight_26 (lv_at hl 1 rfl) ?_
    refine W.lcmp hx hb dc_X1_isRintRight_28 ?_
    refine lv_if_eq (tgt := 34) hx hb dc_X1_isRintRight_29 (by decide) (fun c_1 => ?_) (fun c_1 => ?_)
    · have hw := hw.trans (if_pos c_1)
      refine lv_lload_n hx hb dc_X1_isRintRight_34 rfl (lv_at hl 2 rfl) ?_
      refine lv_lload hx hb dc_X1_isRintRight_35 (lv_at hl 1 rfl) ?_
      refine W.lcmp hx hb dc_X1_isRintRight_37 ?_
      refine lv_if_ne (tgt := 43) hx hb dc_X1_isRintRight_38 (by decide) (fun c_2 => ?_) (fun c_2 => ?_)
      · have hw := hw.trans (if_neg c_2)
        refine lv_lload_n hx hb dc_X1_isRintRight_43 rfl (lv_at hl 3 rfl) ?_
        refine ky_cS0 (As := [.long (a0)]) F (mt_X0_isDownOne l (a0)) ks_X1_57 ⟨⟨rfl, rfl⟩, by decide, by decide⟩ rfl hl.1 rfl (Nat.le_of_ble_eq_true rfl) ⟨Nat.zero_le _, Nat.zero_le _⟩ dc_X1_isRintRight_44 ?_
        refine lv_if_eq (tgt := 55) hx hb dc_X1_isRintRight_47 (by decide) (fun c_3 => ?_) (fun c_3 => ?_)
        · have hw := hw.trans (if_pos c_3)
          refine lv_lload_n hx hb dc_X1_isRintRight_55 rfl (lv_at hl 2 rfl) ?_
          refine lv_lstore (lv' := [(8, .long (fn_X4_floorFrom (a0))), (6, .long (fn_X4_rintFrom (a0))), (4, .long (fn_X4_ceilFrom (a0))), (2, .long (fn_X4_floorFrom (a0))), (0, .long (a0))]) hx hb dc_X1_isRintRight_56 hl (by decide) rfl (fun ls hl => ?_)
          refine lv_lload_n hx hb dc_X1_isRintRight_58 rfl (lv_at hl 4 rfl) ?_
          refine ky_cS0 (As := [.long (a0)]) F (mt_X0_restIn l (a0)) ks_X1_60 ⟨⟨rfl, rfl⟩, by decide, by decide⟩ rfl hl.1 rfl (Nat.le_of_ble_eq_true rfl) ⟨Nat.zero_le _, Nat.zero_le _⟩ dc_X1_isRintRight_59 ?_
          refine lv_lstore (lv' := [(10, .long (fn_X0_restIn (a0))), (8, .long (fn_X4_floorFrom (a0))), (6, .long (fn_X4_rintFrom (a0))), (4, .long (fn_X4_ceilFrom (a0))), (2, .long (fn_X4_floorFrom (a0))), (0, .long (a0))]) hx hb dc_X1_isRintRight_62 hl (by decide) rfl (fun ls hl => ?_)
          refine lv_lconst (v := 1) hx hb dc_X1_isRintRight_64 (by decide) ?_
          refine lv_lload_n hx hb dc_X1_isRintRight_65 rfl (lv_at hl 5 rfl) ?_
          refine ky_cS0 (As := [.long (a0)]) F (mt_X0_behindIn l (a0)) ks_X1_63 ⟨⟨rfl, rfl⟩, by decide, by decide⟩ rfl hl.1 rfl (Nat.le_of_ble_eq_true rfl) ⟨Nat.zero_le _, Nat.zero_le _⟩ dc_X1_isRintRight_66 ?_
          refine lv_lshl (v := jlshl ((1 : Int64)) (fn_X0_behindIn (a0))) hx hb dc_X1_isRintRight_69 rfl ?_
          refine lv_lload hx hb dc_X1_isRintRight_70 (lv_at hl 0 rfl) ?_
          refine lv_lsub hx hb dc_X1_isRintRight_72 ?_
          refine lv_lstore (lv' := [(12, .long ((jlshl ((1 : Int64)) (fn_X0_behindIn (a0))) - (fn_X0_restIn (a0)))), (10, .long (fn_X0_restIn (a0))), (8, .long (fn_X4_floorFrom (a0))), (6, .long (fn_X4_rintFrom (a0))), (4, .long (fn_X4_ceilFrom (a0))), (2, .long (fn_X4_floorFrom (a0))), (0, .long (a0))]) hx hb dc_X1_isRintRight_73 hl (by decide) rfl (fun ls hl => ?_)
          refine lv_lload hx hb dc_X1_isRintRight_75 (lv_at hl 3 rfl) ?_
          refine lv_lload hx hb dc_X1_isRintRight_77 (lv_at hl 2 rfl) ?_
          refine W.lcmp hx hb dc_X1_isRintRight_79 ?_
          refine lv_if_ne (tgt := 99) hx hb dc_X1_isRintRight_80 (by decide) (fun c_4 => ?_) (fun c_4 => ?_)
          · have hw := hw.trans (if_neg c_4)
            refine lv_lload hx hb dc_X1_isRintRight_99 (lv_at hl 0 rfl) ?_
            refine lv_lload hx hb dc_X1_isRintRight_101 (lv_at hl 1 rfl) ?_
            refine W.lcmp hx hb dc_X1_isRintRight_103 ?_
            refine lv_if_gt (tgt := 111) hx hb dc_X1_isRintRight_104 (by decide) (fun c_5 => ?_) (fun c_5 => ?_)
            · have hw := hw.trans (if_pos c_5)
              refine lv_iconst (v := 0) hx hb dc_X1_isRintRight_111 (by decide) ?_
              exact W.zret hx hb hr (by decide) (fun t ht hW => ⟨congrArg (fun z => Outcome.returned (some (Value.int z))) hw.symm, ht⟩) ky_nil dc_X1_isRintRight_112
            · have hw := hw.trans (if_neg c_5)
              refine lv_iconst (v := 1) hx hb dc_X1_isRintRight_107 (by decide) ?_
              refine lv_goto (tgt := 112) hx hb dc_X1_isRintRight_108 (by decide) ?_
              exact W.zret hx hb hr (by decide) (fun t ht hW => ⟨congrArg (fun z => Outcome.returned (some (Value.int z))) hw.symm, ht⟩) ky_nil dc_X1_isRintRight_112
          · have hw := hw.trans (if_pos c_4)
            refine lv_lload hx hb dc_X1_isRintRight_83 (lv_at hl 1 rfl) ?_
            refine lv_lload hx hb dc_X1_isRintRight_85 (lv_at hl 0 rfl) ?_
            refine W.lcmp hx hb dc_X1_isRintRight_87 ?_
            refine lv_if_gt (tgt := 95) hx hb dc_X1_isRintRight_88 (by decide) (fun c_5 => ?_) (fun c_5 => ?_)
            · have hw := hw.trans (if_pos c_5)
              refine lv_iconst (v := 0) hx hb dc_X1_isRintRight_95 (by decide) ?_
              refine lv_goto (tgt := 112) hx hb dc_X1_isRintRight_96 (by decide) ?_
              exact W.zret hx hb hr (by decide) (fun t ht hW => ⟨congrArg (fun z => Outcome.returned (some (Value.int z))) hw.symm, ht⟩) ky_nil dc_X1_isRintRight_112
            · have hw := hw.trans (if_neg c_5)
              refine lv_iconst (v := 1) hx hb dc_X1_isRintRight_91 (by decide) ?_
              refine lv_goto (tgt := 112) hx hb dc_X1_isRintRight_92 (by decide) ?_
              exact W.zret hx hb hr (by decide) (fun t ht hW => ⟨congrArg (fun z => Outcome.returned (some (Value.int z))) hw.symm, ht⟩) ky_nil dc_X1_isRintRight_112
        · have hw := hw.trans (if_neg c_3)
          refine lv_lload hx hb dc_X1_isRintRight_50 (lv_at hl 1 rfl) ?_
          refine lv_goto (tgt := 56) hx hb dc_X1_isRintRight_52 (by decide) ?_
          refine lv_lstore (lv' := [(8, .long (fn_X4_ceilFrom (a0))), (6, .long (fn_X4_rintFrom (a0))), (4, .long (fn_X4_ceilFrom (a0))), (2, .long (fn_X4_floorFrom (a0))), (0, .long (a0))]) hx hb dc_X1_isRintRight_56 hl (by decide) rfl (fun ls hl => ?_)
          refine lv_lload_n hx hb dc_X1_isRintRight_58 rfl (lv_at hl 4 rfl) ?_
          refine ky_cS0 (As := [.long (a0)]) F (mt_X0_restIn l (a0)) ks_X1_60 ⟨⟨rfl, rfl⟩, by decide, by decide⟩ rfl hl.1 rfl (Nat.le_of_ble_eq_true rfl) ⟨Nat.zero_le _, Nat.zero_le _⟩ dc_X1_isRintRight_59 ?_
          refine lv_lstore (lv' := [(10, .long (fn_X0_restIn (a0))), (8, .long (fn_X4_ceilFrom (a0))), (6, .long (fn_X4_rintFrom (a0))), (4, .long (fn_X4_ceilFrom (a0))), (2, .long (fn_X4_floorFrom (a0))), (0, .long (a0))]) hx hb dc_X1_isRintRight_62 hl (by decide) rfl (fun ls hl => ?_)
          refine lv_lconst (v := 1) hx hb dc_X1_isRintRight_64 (by decide) ?_
          refine lv_lload_n hx hb dc_X1_isRintRight_65 rfl (lv_at hl 5 rfl) ?_
          refine ky_cS0 (As := [.long (a0)]) F (mt_X0_behindIn l (a0)) ks_X1_63 ⟨⟨rfl, rfl⟩, by decide, by decide⟩ rfl hl.1 rfl (Nat.le_of_ble_eq_true rfl) ⟨Nat.zero_le _, Nat.zero_le _⟩ dc_X1_isRintRight_66 ?_
          refine lv_lshl (v := jlshl ((1 : Int64)) (fn_X0_behindIn (a0))) hx hb dc_X1_isRintRight_69 rfl ?_
          refine lv_lload hx hb dc_X1_isRintRight_70 (lv_at hl 0 rfl) ?_
          refine lv_lsub hx hb dc_X1_isRintRight_72 ?_
          refine lv_lstore (lv' := [(12, .long ((jlshl ((1 : Int64)) (fn_X0_behindIn (a0))) - (fn_X0_restIn (a0)))), (10, .long (fn_X0_restIn (a0))), (8, .long (fn_X4_ceilFrom (a0))), (6, .long (fn_X4_rintFrom (a0))), (4, .long (fn_X4_ceilFrom (a0))), (2, .long (fn_X4_floorFrom (a0))), (0, .long (a0))]) hx hb dc_X1_isRintRight_73 hl (by decide) rfl (fun ls hl => ?_)
          refine lv_lload hx hb dc_X1_isRintRight_75 (lv_at hl 3 rfl) ?_
          refine lv_lload hx hb dc_X1_isRintRight_77 (lv_at hl 2 rfl) ?_
          refine W.lcmp hx hb dc_X1_isRintRight_79 ?_
          refine lv_if_ne (tgt := 99) hx hb dc_X1_isRintRight_80 (by decide) (fun c_4 => ?_) (fun c_4 => ?_)
          · have hw := hw.trans (if_neg c_4)
            refine lv_lload hx hb dc_X1_isRintRight_99 (lv_at hl 0 rfl) ?_
            refine lv_lload hx hb dc_X1_isRintRight_101 (lv_at hl 1 rfl) ?_
            refine W.lcmp hx hb dc_X1_isRintRight_103 ?_
            refine lv_if_gt (tgt := 111) hx hb dc_X1_isRintRight_104 (by decide) (fun c_5 => ?_) (fun c_5 => ?_)
            · have hw := hw.trans (if_pos c_5)
              refine lv_iconst (v := 0) hx hb dc_X1_isRintRight_111 (by decide) ?_
              exact W.zret hx hb hr (by decide) (fun t ht hW => ⟨congrArg (fun z => Outcome.returned (some (Value.int z))) hw.symm, ht⟩) ky_nil dc_X1_isRintRight_112
            · have hw := hw.trans (if_neg c_5)
              refine lv_iconst (v := 1) hx hb dc_X1_isRintRight_107 (by decide) ?_
              refine lv_goto (tgt := 112) hx hb dc_X1_isRintRight_108 (by decide) ?_
              exact W.zret hx hb hr (by decide) (fun t ht hW => ⟨congrArg (fun z => Outcome.returned (some (Value.int z))) hw.symm, ht⟩) ky_nil dc_X1_isRintRight_112
          · have hw := hw.trans (if_pos c_4)
            refine lv_lload hx hb dc_X1_isRintRight_83 (lv_at hl 1 rfl) ?_
            refine lv_lload hx hb dc_X1_isRintRight_85 (lv_at hl 0 rfl) ?_
            refine W.lcmp hx hb dc_X1_isRintRight_87 ?_
            refine lv_if_gt (tgt := 95) hx hb dc_X1_isRintRight_88 (by decide) (fun c_5 => ?_) (fun c_5 => ?_)
            · have hw := hw.trans (if_pos c_5)
              refine lv_iconst (v := 0) hx hb dc_X1_isRintRight_95 (by decide) ?_
              refine lv_goto (tgt := 112) hx hb dc_X1_isRintRight_96 (by decide) ?_
              exact W.zret hx hb hr (by decide) (fun t ht hW => ⟨congrArg (fun z => Outcome.returned (some (Value.int z))) hw.symm, ht⟩) ky_nil dc_X1_isRintRight_112
            · have hw := hw.trans (if_neg c_5)
              refine lv_iconst (v := 1) hx hb dc_X1_isRintRight_91 (by decide) ?_
              refine lv_goto (tgt := 112) hx hb dc_X1_isRintRight_92 (by decide) ?_
              exact W.zret hx hb hr (by decide) (fun t ht hW => ⟨congrArg (fun z => Outcome.returned (some (Value.int z))) hw.symm, ht⟩) ky_nil dc_X1_isRintRight_112
      · have hw := hw.trans (if_pos c_2)
        refine lv_iconst (v := 1) hx hb dc_X1_isRintRight_41 (by decide) ?_
        exact W.zret hx hb hr (by decide) (fun t ht hW => ⟨congrArg (fun z => Outcome.returned (some (Value.int z))) hw.symm, ht⟩) ky_nil dc_X1_isRintRight_42
    · have hw := hw.trans (if_neg c_1)
      refine lv_iconst (v := 0) hx hb dc_X1_isRintRight_32 (by decide) ?_
      exact W.zret hx hb hr (by decide) (fun t ht hW => ⟨congrArg (fun z => Outcome.returned (some (Value.int z))) hw.symm, ht⟩) ky_nil dc_X1_isRintRight_33
theorem fz_X1_isRintRight (a0 : Int64) : fn_X1_isRintRight a0 = 0 ∨ fn_X1_isRintRight a0 = 1 := by
  unfold fn_X1_isRintRight
  repeat' split
  all_goals first | exact Or.inl rfl | exact Or.inr rfl
def fn_X1_areNextRight (a0 : Int64) : Int32 :=
  if (fn_X0_isEndlessOne (a0)) = (0 : Int32) then (if (lg_cmp (fn_X0_rungIn (fn_X4_downFrom (fn_X4_upFrom (a0)))) (fn_X0_rungIn (a0))) = (0 : Int32) then (if (lg_cmp (fn_X0_rungIn (fn_X4_upFrom (fn_X4_downFrom (a0)))) (fn_X0_rungIn (a0))) = (0 : Int32) then (if (lg_cmp (fn_X4_upFrom (a0)) (fn_X0_turned (fn_X4_downFrom (fn_X0_turned (a0))))) = (0 : Int32) then (if (lg_cmp (fn_X4_downFrom (a0)) (fn_X0_turned (fn_X4_upFrom (fn_X0_turned (a0))))) = (0 : Int32) then ((1 : Int32)) else ((0 : Int32))) else ((0 : Int32))) else ((0 : Int32))) else ((0 : Int32))) else (if (lg_cmp (fn_X4_upFrom (a0)) (fn_X0_turned (fn_X4_downFrom (fn_X0_turned (a0))))) = (0 : Int32) then (if (lg_cmp (fn_X4_downFrom (a0)) (fn_X0_turned (fn_X4_upFrom (fn_X0_turned (a0))))) = (0 : Int32) then ((1 : Int32)) else ((0 : Int32))) else ((0 : Int32)))
set_option linter.constructorNameAsVariable false in
set_option maxHeartbeats 4000000 in
set_option maxRecDepth 100000 in
theorem mt_X1_areNextRight (l : Launch) (a0 : Int64) : Met l my_X1_areNextRight (.code my_X1_areNextRight prog_3_method_5_code 9 (some .boolean) :: ky_B) { frames := 2, cells := 0, slots := 0, locals := 42 } (ky_P0 [.long (a0)]) (ky_Q0 (some (.int (fn_X1_areNextRight a0)))) 0 0 (fun _ => False) := by
  refine ky_start0 (by decide) (Nat.le_of_ble_eq_true rfl) (fun p e s m below meth c F ls hl => ?_)
  obtain ⟨hx, hb, hml, hown, hr, hlocks, hts⟩ := id F
  have hl : lv_has ls 9 [(0, .long (a0))] := hl
  have hw : fn_X1_areNextRight a0 = _ := fn_X1_areNextRight.eq_1 a0
  refine lv_lload_n hx hb dc_X1_areNextRight_0 rfl (lv_at hl 0 rfl) ?_
  refine ky_cS0 (As := [.long (a0)]) F (mt_X4_upFrom l (a0)) ks_X1_67 ⟨⟨rfl, rfl⟩, by decide, by decide⟩ rfl hl.1 rfl (Nat.le_of_ble_eq_true rfl) ⟨Nat.zero_le _, Nat.zero_le _⟩ dc_X1_areNextRight_1 ?_
  refine lv_lstore_n (lv' := [(2, .long (fn_X4_upFrom (a0))), (0, .long (a0))]) hx hb dc_X1_areNextRight_4 rfl hl (by decide) rfl (fun ls hl => ?_)
  refine lv_lload_n hx hb dc_X1_areNextRight_5 rfl (lv_at hl 1 rfl) ?_
  refine ky_cS0 (As := [.long (a0)]) F (mt_X4_downFrom l (a0)) ks_X1_70 ⟨⟨rfl, rfl⟩, by decide, by decide⟩ rfl hl.1 rfl (Nat.le_of_ble_eq_true rfl) ⟨Nat.zero_le _, Nat.zero_le _⟩ dc_X1_areNextRight_6 ?_
  refine lv_lstore (lv' := [(4, .long (fn_X4_downFrom (a0))), (2, .long (fn_X4_upFrom (a0))), (0, .long (a0))]) hx hb dc_X1_areNextRight_9 hl (by decide) rfl (fun ls hl => ?_)
  refine lv_lload_n hx hb dc_X1_areNextRight_11 rfl (lv_at hl 2 rfl) ?_
  refine ky_cS0 (As := [.long (a0)]) F (mt_X0_turned l (a0)) ks_X1_46 ⟨⟨rfl, rfl⟩, by decide, by decide⟩ rfl hl.1 rfl (Nat.le_of_ble_eq_true rfl) ⟨Nat.zero_le _, Nat.zero_le _⟩ dc_X1_areNextRight_12 ?_
  refine lv_lstore (lv' := [(6, .long (fn_X0_turned (a0))), (4, .long (fn_X4_downFrom (a0))), (2, .long (fn_X4_upFrom (a0))), (0, .long (a0))]) hx hb dc_X1_areNextRight_15 hl (by decide) rfl (fun ls hl => ?_)
  refine lv_lload_n hx hb dc_X1_areNextRight_17 rfl (lv_at hl 3 rfl) ?_
  refine ky_cS0 (As := [.long (a0)]) F (mt_X0_isEndlessOne l (a0)) ks_X1_73 ⟨⟨rfl, rfl⟩, by decide, by decide⟩ rfl hl.1 rfl (Nat.le_of_ble_eq_true rfl) ⟨Nat.zero_le _, Nat.zero_le _⟩ dc_X1_areNextRight_18 ?_
  refine lv_if_ne (tgt := 55) hx hb dc_X1_areNextRight_21 (by decide) (fun c_0 => ?_) (fun c_0 => ?_)
  · have hw := hw.trans (if_neg c_0)
    refine lv_iconst (v := 1) hx hb dc_X1_areNextRight_55 (by decide) ?_
    refine lv_goto (tgt := 60) hx hb dc_X1_areNextRight_56 (by decide) ?_
    refine lv_istore (lv' := [(8, .int ((1 : Int32))), (6, .long (fn_X0_turned (a0))), (4, .long (fn_X4_downFrom (a0))), (2, .long (fn_X4_upFrom (a0))), (0, .long (a0))]) hx hb dc_X1_areNextRight_60 hl (by decide) rfl (fun ls hl => ?_)
    refine lv_iload hx hb dc_X1_areNextRight_62 (lv_at hl 0 rfl) ?_
    refine lv_if_eq (tgt := 98) hx hb dc_X1_areNextRight_64 (by decide) (fun c_1 => absurd c_1 (by decide)) (fun _ => ?_)
    refine lv_lload_n hx hb dc_X1_areNextRight_67 rfl (lv_at hl 3 rfl) ?_
    refine lv_lload hx hb dc_X1_areNextRight_68 (lv_at hl 1 rfl) ?_
    refine ky_cS0 (As := [.long (fn_X0_turned (a0))]) F (mt_X4_downFrom l (fn_X0_turned (a0))) ks_X1_70 ⟨⟨rfl, rfl⟩, by decide, by decide⟩ rfl hl.1 rfl (Nat.le_of_ble_eq_true rfl) ⟨Nat.zero_le _, Nat.zero_le _⟩ dc_X1_areNextRight_70 ?_
    refine ky_cS0 (As := [.long (fn_X4_downFrom (fn_X0_turned (a0)))]) F (mt_X0_turned l (fn_X4_downFrom (fn_X0_turned (a0)))) ks_X1_46 ⟨⟨rfl, rfl⟩, by decide, by decide⟩ rfl hl.1 rfl (Nat.le_of_ble_eq_true rfl) ⟨Nat.zero_le _, Nat.zero_le _⟩ dc_X1_areNextRight_73 ?_
    refine W.lcmp hx hb dc_X1_areNextRight_76 ?_
    refine lv_if_ne (tgt := 98) hx hb dc_X1_areNextRight_77 (by decide) (fun c_2 => ?_) (fun c_2 => ?_)
    · have hw := hw.trans (if_neg c_2)
      refine lv_iconst (v := 0) hx hb dc_X1_areNextRight_98 (by decide) ?_
      exact W.zret hx hb hr (by decide) (fun t ht hW => ⟨congrArg (fun z => Outcome.returned (some (Value.int z))) hw.symm, ht⟩) ky_nil dc_X1_areNextRight_99
    · have hw := hw.trans (if_pos c_2)
      refine lv_lload hx hb dc_X1_areNextRight_80 (lv_at hl 2 rfl) ?_
      refine lv_lload hx hb dc_X1_areNextRight_82 (lv_at hl 1 rfl) ?_
      refine ky_cS0 (As := [.long (fn_X0_turned (a0))]) F (mt_X4_upFrom l (fn_X0_turned (a0))) ks_X1_67 ⟨⟨rfl, rfl⟩, by decide, by decide⟩ rfl hl.1 rfl (Nat.le_of_ble_eq_true rfl) ⟨Nat.zero_le _, Nat.zero_le _⟩ dc_X1_areNextRight_84 ?_
      refine ky_cS0 (As := [.long (fn_X4_upFrom (fn_X0_turned (a0)))]) F (mt_X0_turned l (fn_X4_upFrom (fn_X0_turned (a0)))) ks_X1_46 ⟨⟨rfl, rfl⟩, by decide, by decide⟩ rfl hl.1 rfl (Nat.le_of_ble_eq_true rfl) ⟨Nat.zero_le _, Nat.zero_le _⟩ dc_X1_areNextRight_87 ?_
      refine W.lcmp hx hb dc_X1_areNextRight_90 ?_
      refine lv_if_ne (tgt := 98) hx hb dc_X1_areNextRight_91 (by decide) (fun c_3 => ?_) (fun c_3 => ?_)
      · have hw := hw.trans (if_neg c_3)
        refine lv_iconst (v := 0) hx hb dc_X1_areNextRight_98 (by decide) ?_
        exact W.zret hx hb hr (by decide) (fun t ht hW => ⟨congrArg (fun z => Outcome.returned (some (Value.int z))) hw.symm, ht⟩) ky_nil dc_X1_areNextRight_99
      · have hw := hw.trans (if_pos c_3)
        refine lv_iconst (v := 1) hx hb dc_X1_areNextRight_94 (by decide) ?_
        refine lv_goto (tgt := 99) hx hb dc_X1_areNextRight_95 (by decide) ?_
        exact W.zret hx hb hr (by decide) (fun t ht hW => ⟨congrArg (fun z => Outcome.returned (some (Value.int z))) hw.symm, ht⟩) ky_nil dc_X1_areNextRight_99
  · have hw := hw.trans (if_pos c_0)
    refine lv_lload_n hx hb dc_X1_areNextRight_24 rfl (lv_at hl 2 rfl) ?_
    refine ky_cS0 (As := [.long (fn_X4_upFrom (a0))]) F (mt_X4_downFrom l (fn_X4_upFrom (a0))) ks_X1_70 ⟨⟨rfl, rfl⟩, by decide, by decide⟩ rfl hl.1 rfl (Nat.le_of_ble_eq_true rfl) ⟨Nat.zero_le _, Nat.zero_le _⟩ dc_X1_areNextRight_25 ?_
    refine ky_cS0 (As := [.long (fn_X4_downFrom (fn_X4_upFrom (a0)))]) F (mt_X0_rungIn l (fn_X4_downFrom (fn_X4_upFrom (a0)))) ks_X1_51 ⟨⟨rfl, rfl⟩, by decide, by decide⟩ rfl hl.1 rfl (Nat.le_of_ble_eq_true rfl) ⟨Nat.zero_le _, Nat.zero_le _⟩ dc_X1_areNextRight_28 ?_
    refine lv_lload_n hx hb dc_X1_areNextRight_31 rfl (lv_at hl 3 rfl) ?_
    refine ky_cS0 (As := [.long (a0)]) F (mt_X0_rungIn l (a0)) ks_X1_51 ⟨⟨rfl, rfl⟩, by decide, by decide⟩ rfl hl.1 rfl (Nat.le_of_ble_eq_true rfl) ⟨Nat.zero_le _, Nat.zero_le _⟩ dc_X1_areNextRight_32 ?_
    refine W.lcmp hx hb dc_X1_areNextRight_35 ?_
    refine lv_if_ne (tgt := 59) hx hb dc_X1_areNextRight_36 (by decide) (fun c_1 => ?_) (fun c_1 => ?_)
    · have hw := hw.trans (if_neg c_1)
      refine lv_iconst (v := 0) hx hb dc_X1_areNextRight_59 (by decide) ?_
      refine lv_istore (lv' := [(8, .int ((0 : Int32))), (6, .long (fn_X0_turned (a0))), (4, .long (fn_X4_downFrom (a0))), (2, .long (fn_X4_upFrom (a0))), (0, .long (a0))]) hx hb dc_X1_areNextRight_60 hl (by decide) rfl (fun ls hl => ?_)
      refine lv_iload hx hb dc_X1_areNextRight_62 (lv_at hl 0 rfl) ?_
      refine lv_if_eq (tgt := 98) hx hb dc_X1_areNextRight_64 (by decide) (fun _ => ?_) (fun c_2 => absurd c_2 (by decide))
      refine lv_iconst (v := 0) hx hb dc_X1_areNextRight_98 (by decide) ?_
      exact W.zret hx hb hr (by decide) (fun t ht hW => ⟨congrArg (fun z => Outcome.returned (some (Value.int z))) hw.symm, ht⟩) ky_nil dc_X1_areNextRight_99
    · have hw := hw.trans (if_pos c_1)
      refine lv_lload hx hb dc_X1_areNextRight_39 (lv_at hl 1 rfl) ?_
      refine ky_cS0 (As := [.long (fn_X4_downFrom (a0))]) F (mt_X4_upFrom l (fn_X4_downFrom (a0))) ks_X1_67 ⟨⟨rfl, rfl⟩, by decide, by decide⟩ rfl hl.1 rfl (Nat.le_of_ble_eq_true rfl) ⟨Nat.zero_le _, Nat.zero_le _⟩ dc_X1_areNextRight_41 ?_
      refine ky_cS0 (As := [.long (fn_X4_upFrom (fn_X4_downFrom (a0)))]) F (mt_X0_rungIn l (fn_X4_upFrom (fn_X4_downFrom (a0)))) ks_X1_51 ⟨⟨rfl, rfl⟩, by decide, by decide⟩ rfl hl.1 rfl (Nat.le_of_ble_eq_true rfl) ⟨Nat.zero_le _, Nat.zero_le _⟩ dc_X1_areNextRight_44 ?_
      refine lv_lload_n hx hb dc_X1_areNextRight_47 rfl (lv_at hl 3 rfl) ?_
      refine ky_cS0 (As := [.long (a0)]) F (mt_X0_rungIn l (a0)) ks_X1_51 ⟨⟨rfl, rfl⟩, by decide, by decide⟩ rfl hl.1 rfl (Nat.le_of_ble_eq_true rfl) ⟨Nat.zero_le _, Nat.zero_le _⟩ dc_X1_areNextRight_48 ?_
      refine W.lcmp hx hb dc_X1_areNextRight_51 ?_
      refine lv_if_ne (tgt := 59) hx hb dc_X1_areNextRight_52 (by decide) (fun c_2 => ?_) (fun c_2 => ?_)
      · have hw := hw.trans (if_neg c_2)
        refine lv_iconst (v := 0) hx hb dc_X1_areNextRight_59 (by decide) ?_
        refine lv_istore (lv' := [(8, .int ((0 : Int32))), (6, .long (fn_X0_turned (a0))), (4, .long (fn_X4_downFrom (a0))), (2, .long (fn_X4_upFrom (a0))), (0, .long (a0))]) hx hb dc_X1_areNextRight_60 hl (by decide) rfl (fun ls hl => ?_)
        refine lv_iload hx hb dc_X1_areNextRight_62 (lv_at hl 0 rfl) ?_
        refine lv_if_eq (tgt := 98) hx hb dc_X1_areNextRight_64 (by decide) (fun _ => ?_) (fun c_3 => absurd c_3 (by decide))
        refine lv_iconst (v := 0) hx hb dc_X1_areNextRight_98 (by decide) ?_
        exact W.zret hx hb hr (by decide) (fun t ht hW => ⟨congrArg (fun z => Outcome.returned (some (Value.int z))) hw.symm, ht⟩) ky_nil dc_X1_areNextRight_99
      · have hw := hw.trans (if_pos c_2)
        refine lv_iconst (v := 1) hx hb dc_X1_areNextRight_55 (by decide) ?_
        refine lv_goto (tgt := 60) hx hb dc_X1_areNextRight_56 (by decide) ?_
        refine lv_istore (lv' := [(8, .int ((1 : Int32))), (6, .long (fn_X0_turned (a0))), (4, .long (fn_X4_downFrom (a0))), (2, .long (fn_X4_upFrom (a0))), (0, .long (a0))]) hx hb dc_X1_areNextRight_60 hl (by decide) rfl (fun ls hl => ?_)
        refine lv_iload hx hb dc_X1_areNextRight_62 (lv_at hl 0 rfl) ?_
        refine lv_if_eq (tgt := 98) hx hb dc_X1_areNextRight_64 (by decide) (fun c_3 => absurd c_3 (by decide)) (fun _ => ?_)
        refine lv_lload_n hx hb dc_X1_areNextRight_67 rfl (lv_at hl 3 rfl) ?_
        refine lv_lload hx hb dc_X1_areNextRight_68 (lv_at hl 1 rfl) ?_
        refine ky_cS0 (As := [.long (fn_X0_turned (a0))]) F (mt_X4_downFrom l (fn_X0_turned (a0))) ks_X1_70 ⟨⟨rfl, rfl⟩, by decide, by decide⟩ rfl hl.1 rfl (Nat.le_of_ble_eq_true rfl) ⟨Nat.zero_le _, Nat.zero_le _⟩ dc_X1_areNextRight_70 ?_
        refine ky_cS0 (As := [.long (fn_X4_downFrom (fn_X0_turned (a0)))]) F (mt_X0_turned l (fn_X4_downFrom (fn_X0_turned (a0)))) ks_X1_46 ⟨⟨rfl, rfl⟩, by decide, by decide⟩ rfl hl.1 rfl (Nat.le_of_ble_eq_true rfl) ⟨Nat.zero_le _, Nat.zero_le _⟩ dc_X1_areNextRight_73 ?_
        refine W.lcmp hx hb dc_X1_areNextRight_76 ?_
        refine lv_if_ne (tgt := 98) hx hb dc_X1_areNextRight_77 (by decide) (fun c_4 => ?_) (fun c_4 => ?_)
        · have hw := hw.trans (if_neg c_4)
          refine lv_iconst (v := 0) hx hb dc_X1_areNextRight_98 (by decide) ?_
          exact W.zret hx hb hr (by decide) (fun t ht hW => ⟨congrArg (fun z => Outcome.returned (some (Value.int z))) hw.symm, ht⟩) ky_nil dc_X1_areNextRight_99
        · have hw := hw.trans (if_pos c_4)
          refine lv_lload hx hb dc_X1_areNextRight_80 (lv_at hl 2 rfl) ?_
          refine lv_lload hx hb dc_X1_areNextRight_82 (lv_at hl 1 rfl) ?_
          refine ky_cS0 (As := [.long (fn_X0_turned (a0))]) F (mt_X4_upFrom l (fn_X0_turned (a0))) ks_X1_67 ⟨⟨rfl, rfl⟩, by decide, by decide⟩ rfl hl.1 rfl (Nat.le_of_ble_eq_true rfl) ⟨Nat.zero_le _, Nat.zero_le _⟩ dc_X1_areNextRight_84 ?_
          refine ky_cS0 (As := [.long (fn_X4_upFrom (fn_X0_turned (a0)))]) F (mt_X0_turned l (fn_X4_upFrom (fn_X0_turned (a0)))) ks_X1_46 ⟨⟨rfl, rfl⟩, by decide, by decide⟩ rfl hl.1 rfl (Nat.le_of_ble_eq_true rfl) ⟨Nat.zero_le _, Nat.zero_le _⟩ dc_X1_areNextRight_87 ?_
          refine W.lcmp hx hb dc_X1_areNextRight_90 ?_
          refine lv_if_ne (tgt := 98) hx hb dc_X1_areNextRight_91 (by decide) (fun c_5 => ?_) (fun c_5 => ?_)
          · have hw := hw.trans (if_neg c_5)
            refine lv_iconst (v := 0) hx hb dc_X1_areNextRight_98 (by decide) ?_
            exact W.zret hx hb hr (by decide) (fun t ht hW => ⟨congrArg (fun z => Outcome.returned (some (Value.int z))) hw.symm, ht⟩) ky_nil dc_X1_areNextRight_99
          · have hw := hw.trans (if_pos c_5)
            refine lv_iconst (v := 1) hx hb dc_X1_areNextRight_94 (by decide) ?_
            refine lv_goto (tgt := 99) hx hb dc_X1_areNextRight_95 (by decide) ?_
            exact W.zret hx hb hr (by decide) (fun t ht hW => ⟨congrArg (fun z => Outcome.returned (some (Value.int z))) hw.symm, ht⟩) ky_nil dc_X1_areNextRight_99
theorem fz_X1_areNextRight (a0 : Int64) : fn_X1_areNextRight a0 = 0 ∨ fn_X1_areNextRight a0 = 1 := by
  unfold fn_X1_areNextRight
  repeat' split
  all_goals first | exact Or.inl rfl | exact Or.inr rfl
def fn_X1_arePartsRight (a0 : Int64) : Int32 :=
  if (lg_cmp ((jlshl (((((fn_X0_digitsIn (a0) ((0 : Int32))) <<< (((31 : Int32)) &&& 31)) ||| ((fn_X0_digitsIn (a0) ((1 : Int32))) <<< (((20 : Int32)) &&& 31))) ||| (fn_X0_digitsIn (a0) ((2 : Int32)))).toInt64) ((32 : Int32))) ||| (((fn_X0_digitsIn (a0) ((3 : Int32))).toInt64) &&& ((4294967295 : Int64)))) (a0)) = (0 : Int32) then (if (lg_cmp (fn_X0_joined (fn_X0_sizeIn (a0)) (a0)) (a0)) = (0 : Int32) then (if (lg_cmp (fn_X4_stepFrom (fn_X0_turned (a0))) (fn_X4_stepFrom (a0))) = (0 : Int32) then ((1 : Int32)) else ((0 : Int32))) else ((0 : Int32))) else ((0 : Int32))
set_option linter.constructorNameAsVariable false in
set_option maxHeartbeats 4000000 in
set_option maxRecDepth 100000 in
theorem mt_X1_arePartsRight (l : Launch) (a0 : Int64) : Met l my_X1_arePartsRight (.code my_X1_arePartsRight prog_3_method_6_code 5 (some .boolean) :: ky_B) { frames := 3, cells := 0, slots := 0, locals := 76 } (ky_P0 [.long (a0)]) (ky_Q0 (some (.int (fn_X1_arePartsRight a0)))) 0 0 (fun _ => False) := by
  refine ky_start0 (by decide) (Nat.le_of_ble_eq_true rfl) (fun p e s m below meth c F ls hl => ?_)
  obtain ⟨hx, hb, hml, hown, hr, hlocks, hts⟩ := id F
  have hl : lv_has ls 5 [(0, .long (a0))] := hl
  have hw : fn_X1_arePartsRight a0 = _ := fn_X1_arePartsRight.eq_1 a0
  refine lv_lload_n hx hb dc_X1_arePartsRight_0 rfl (lv_at hl 0 rfl) ?_
  refine lv_iconst (v := 0) hx hb dc_X1_arePartsRight_1 (by decide) ?_
  refine ky_cS0 (As := [.long (a0), .int ((0 : Int32))]) F (mt_X0_digitsIn l (a0) ((0 : Int32))) ks_X1_76 ⟨⟨rfl, rfl⟩, by decide, by decide⟩ rfl hl.1 rfl (Nat.le_of_ble_eq_true rfl) ⟨Nat.zero_le _, Nat.zero_le _⟩ dc_X1_arePartsRight_2 ?_
  refine lv_bipush (v := 31) hx hb dc_X1_arePartsRight_5 (by decide) ?_
  refine lv_ishl hx hb dc_X1_arePartsRight_7 ?_
  refine lv_lload_n hx hb dc_X1_arePartsRight_8 rfl (lv_at hl 0 rfl) ?_
  refine lv_iconst (v := 1) hx hb dc_X1_arePartsRight_9 (by decide) ?_
  refine ky_cS0 (As := [.long (a0), .int ((1 : Int32))]) F (mt_X0_digitsIn l (a0) ((1 : Int32))) ks_X1_76 ⟨⟨rfl, rfl⟩, by decide, by decide⟩ rfl hl.1 rfl (Nat.le_of_ble_eq_true rfl) ⟨Nat.zero_le _, Nat.zero_le _⟩ dc_X1_arePartsRight_10 ?_
  refine lv_bipush (v := 20) hx hb dc_X1_arePartsRight_13 (by decide) ?_
  refine lv_ishl hx hb dc_X1_arePartsRight_15 ?_
  refine lv_ior hx hb dc_X1_arePartsRight_16 ?_
  refine lv_lload_n hx hb dc_X1_arePartsRight_17 rfl (lv_at hl 0 rfl) ?_
  refine lv_iconst (v := 2) hx hb dc_X1_arePartsRight_18 (by decide) ?_
  refine ky_cS0 (As := [.long (a0), .int ((2 : Int32))]) F (mt_X0_digitsIn l (a0) ((2 : Int32))) ks_X1_76 ⟨⟨rfl, rfl⟩, by decide, by decide⟩ rfl hl.1 rfl (Nat.le_of_ble_eq_true rfl) ⟨Nat.zero_le _, Nat.zero_le _⟩ dc_X1_arePartsRight_19 ?_
  refine lv_ior hx hb dc_X1_arePartsRight_22 ?_
  refine lv_istore_n (lv' := [(2, .int ((((fn_X0_digitsIn (a0) ((0 : Int32))) <<< (((31 : Int32)) &&& 31)) ||| ((fn_X0_digitsIn (a0) ((1 : Int32))) <<< (((20 : Int32)) &&& 31))) ||| (fn_X0_digitsIn (a0) ((2 : Int32))))), (0, .long (a0))]) hx hb dc_X1_arePartsRight_23 rfl hl (by decide) rfl (fun ls hl => ?_)
  refine lv_iload_n hx hb dc_X1_arePartsRight_24 rfl (lv_at hl 0 rfl) ?_
  refine lv_i2l (v := ((((fn_X0_digitsIn (a0) ((0 : Int32))) <<< (((31 : Int32)) &&& 31)) ||| ((fn_X0_digitsIn (a0) ((1 : Int32))) <<< (((20 : Int32)) &&& 31))) ||| (fn_X0_digitsIn (a0) ((2 : Int32)))).toInt64) hx hb dc_X1_arePartsRight_25 rfl ?_
  refine lv_bipush (v := 32) hx hb dc_X1_arePartsRight_26 (by decide) ?_
  refine lv_lshl (v := jlshl (((((fn_X0_digitsIn (a0) ((0 : Int32))) <<< (((31 : Int32)) &&& 31)) ||| ((fn_X0_digitsIn (a0) ((1 : Int32))) <<< (((20 : Int32)) &&& 31))) ||| (fn_X0_digitsIn (a0) ((2 : Int32)))).toInt64) ((32 : Int32))) hx hb dc_X1_arePartsRight_28 rfl ?_
  refine lv_lload_n hx hb dc_X1_arePartsRight_29 rfl (lv_at hl 1 rfl) ?_
  refine lv_iconst (v := 3) hx hb dc_X1_arePartsRight_30 (by decide) ?_
  refine ky_cS0 (As := [.long (a0), .int ((3 : Int32))]) F (mt_X0_digitsIn l (a0) ((3 : Int32))) ks_X1_76 ⟨⟨rfl, rfl⟩, by decide, by decide⟩ rfl hl.1 rfl (Nat.le_of_ble_eq_true rfl) ⟨Nat.zero_le _, Nat.zero_le _⟩ dc_X1_arePartsRight_31 ?_
  refine lv_i2l (v := (fn_X0_digitsIn (a0) ((3 : Int32))).toInt64) hx hb dc_X1_arePartsRight_34 rfl ?_
  refine lv_ldc2 (v := 4294967295) hx hb hown (hts _ kw_3_165) dc_X1_arePartsRight_35 ?_
  refine lv_land hx hb dc_X1_arePartsRight_38 ?_
  refine lv_lor hx hb dc_X1_arePartsRight_39 ?_
  refine lv_lstore_n (lv' := [(3, .long ((jlshl (((((fn_X0_digitsIn (a0) ((0 : Int32))) <<< (((31 : Int32)) &&& 31)) ||| ((fn_X0_digitsIn (a0) ((1 : Int32))) <<< (((20 : Int32)) &&& 31))) ||| (fn_X0_digitsIn (a0) ((2 : Int32)))).toInt64) ((32 : Int32))) ||| (((fn_X0_digitsIn (a0) ((3 : Int32))).toInt64) &&& ((4294967295 : Int64))))), (2, .int ((((fn_X0_digitsIn (a0) ((0 : Int32))) <<< (((31 : Int32)) &&& 31)) ||| ((fn_X0_digitsIn (a0) ((1 : Int32))) <<< (((20 : Int32)) &&& 31))) ||| (fn_X0_digitsIn (a0) ((2 : Int32))))), (0, .long (a0))]) hx hb dc_X1_arePartsRight_40 rfl hl (by decide) rfl (fun ls hl => ?_)
  refine lv_lload_n hx hb dc_X1_arePartsRight_41 rfl (lv_at hl 0 rfl) ?_
  refine lv_lload_n hx hb dc_X1_arePartsRight_42 rfl (lv_at hl 2 rfl) ?_
  refine W.lcmp hx hb dc_X1_arePartsRight_43 ?_
  refine lv_if_ne (tgt := 79) hx hb dc_X1_arePartsRight_44 (by decide) (fun c_0 => ?_) (fun c_0 => ?_)
  · have hw := hw.trans (if_neg c_0)
    refine lv_iconst (v := 0) hx hb dc_X1_arePartsRight_79 (by decide) ?_
    exact W.zret hx hb hr (by decide) (fun t ht hW => ⟨congrArg (fun z => Outcome.returned (some (Value.int z))) hw.symm, ht⟩) ky_nil dc_X1_arePartsRight_80
  · have hw := hw.trans (if_pos c_0)
    refine lv_lload_n hx hb dc_X1_arePartsRight_47 rfl (lv_at hl 2 rfl) ?_
    refine ky_cS0 (As := [.long (a0)]) F (mt_X0_sizeIn l (a0)) ks_X1_82 ⟨⟨rfl, rfl⟩, by decide, by decide⟩ rfl hl.1 rfl (Nat.le_of_ble_eq_true rfl) ⟨Nat.zero_le _, Nat.zero_le _⟩ dc_X1_arePartsRight_48 ?_
    refine lv_lload_n hx hb dc_X1_arePartsRight_51 rfl (lv_at hl 2 rfl) ?_
    refine ky_cS0 (As := [.long (fn_X0_sizeIn (a0)), .long (a0)]) F (mt_X0_joined l (fn_X0_sizeIn (a0)) (a0)) ks_X1_85 ⟨⟨rfl, rfl⟩, by decide, by decide⟩ rfl hl.1 rfl (Nat.le_of_ble_eq_true rfl) ⟨Nat.zero_le _, Nat.zero_le _⟩ dc_X1_arePartsRight_52 ?_
    refine lv_lload_n hx hb dc_X1_arePartsRight_55 rfl (lv_at hl 2 rfl) ?_
    refine W.lcmp hx hb dc_X1_arePartsRight_56 ?_
    refine lv_if_ne (tgt := 79) hx hb dc_X1_arePartsRight_57 (by decide) (fun c_1 => ?_) (fun c_1 => ?_)
    · have hw := hw.trans (if_neg c_1)
      refine lv_iconst (v := 0) hx hb dc_X1_arePartsRight_79 (by decide) ?_
      exact W.zret hx hb hr (by decide) (fun t ht hW => ⟨congrArg (fun z => Outcome.returned (some (Value.int z))) hw.symm, ht⟩) ky_nil dc_X1_arePartsRight_80
    · have hw := hw.trans (if_pos c_1)
      refine lv_lload_n hx hb dc_X1_arePartsRight_60 rfl (lv_at hl 2 rfl) ?_
      refine ky_cS0 (As := [.long (a0)]) F (mt_X0_turned l (a0)) ks_X1_46 ⟨⟨rfl, rfl⟩, by decide, by decide⟩ rfl hl.1 rfl (Nat.le_of_ble_eq_true rfl) ⟨Nat.zero_le _, Nat.zero_le _⟩ dc_X1_arePartsRight_61 ?_
      refine ky_cS0 (As := [.long (fn_X0_turned (a0))]) F (mt_X4_stepFrom l (fn_X0_turned (a0))) ks_X1_89 ⟨⟨rfl, rfl⟩, by decide, by decide⟩ rfl hl.1 rfl (Nat.le_of_ble_eq_true rfl) ⟨Nat.zero_le _, Nat.zero_le _⟩ dc_X1_arePartsRight_64 ?_
      refine lv_lload_n hx hb dc_X1_arePartsRight_67 rfl (lv_at hl 2 rfl) ?_
      refine ky_cS0 (As := [.long (a0)]) F (mt_X4_stepFrom l (a0)) ks_X1_89 ⟨⟨rfl, rfl⟩, by decide, by decide⟩ rfl hl.1 rfl (Nat.le_of_ble_eq_true rfl) ⟨Nat.zero_le _, Nat.zero_le _⟩ dc_X1_arePartsRight_68 ?_
      refine W.lcmp hx hb dc_X1_arePartsRight_71 ?_
      refine lv_if_ne (tgt := 79) hx hb dc_X1_arePartsRight_72 (by decide) (fun c_2 => ?_) (fun c_2 => ?_)
      · have hw := hw.trans (if_neg c_2)
        refine lv_iconst (v := 0) hx hb dc_X1_arePartsRight_79 (by decide) ?_
        exact W.zret hx hb hr (by decide) (fun t ht hW => ⟨congrArg (fun z => Outcome.returned (some (Value.int z))) hw.symm, ht⟩) ky_nil dc_X1_arePartsRight_80
      · have hw := hw.trans (if_pos c_2)
        refine lv_iconst (v := 1) hx hb dc_X1_arePartsRight_75 (by decide) ?_
        refine lv_goto (tgt := 80) hx hb dc_X1_arePartsRight_76 (by decide) ?_
        exact W.zret hx hb hr (by decide) (fun t ht hW => ⟨congrArg (fun z => Outcome.returned (some (Value.int z))) hw.symm, ht⟩) ky_nil dc_X1_arePartsRight_80
theorem fz_X1_arePartsRight (a0 : Int64) : fn_X1_arePartsRight a0 = 0 ∨ fn_X1_arePartsRight a0 = 1 := by
  unfold fn_X1_arePartsRight
  repeat' split
  all_goals first | exact Or.inl rfl | exact Or.inr rfl
def fn_X6_mixed (a0 : Int64) (a1 : Int64) : Int64 :=
  ((a0) * ((31 : Int64))) + (a1)
set_option linter.constructorNameAsVariable false in
set_option maxHeartbeats 4000000 in
set_option maxRecDepth 100000 in
theorem mt_X6_mixed (l : Launch) (a0 : Int64) (a1 : Int64) : Met l my_X6_mixed (.code my_X6_mixed prog_1_method_55_code 4 (some .long) :: ky_B) { frames := 0, cells := 0, slots := 0, locals := 0 } (ky_P0 [.long (a0), .long (a1)]) (ky_Q0 (some (.long (fn_X6_mixed a0 a1)))) 0 0 (fun _ => False) := by
  refine ky_start0 (by decide) (Nat.le_of_ble_eq_true rfl) (fun p e s m below meth c F ls hl => ?_)
  obtain ⟨hx, hb, hml, hown, hr, hlocks, hts⟩ := id F
  have hl : lv_has ls 4 [(0, .long (a0)), (2, .long (a1))] := hl
  have hw : fn_X6_mixed a0 a1 = _ := fn_X6_mixed.eq_1 a0 a1
  refine lv_lload_n hx hb dc_X6_mixed_0 rfl (lv_at hl 0 rfl) ?_
  refine lv_ldc2 (v := 31) hx hb hown (hts _ kw_3_236) dc_X6_mixed_1 ?_
  refine lv_lmul hx hb dc_X6_mixed_4 ?_
  refine lv_lload_n hx hb dc_X6_mixed_5 rfl (lv_at hl 1 rfl) ?_
  refine lv_ladd hx hb dc_X6_mixed_6 ?_
  exact W.lret hx hb hr (fun t ht hW => ⟨congrArg (fun z => Outcome.returned (some (Value.long z))) hw.symm, ht⟩) ky_nil dc_X6_mixed_7
def fn_X6_halfOf (a0 : Int64) (a1 : Int32) : Int32 :=
  if (a1) = (0 : Int32) then ((a0).toInt32) else ((jlshr (a0) ((32 : Int32))).toInt32)
set_option linter.constructorNameAsVariable false in
set_option maxHeartbeats 4000000 in
set_option maxRecDepth 100000 in
theorem mt_X6_halfOf (l : Launch) (a0 : Int64) (a1 : Int32) : Met l my_X6_halfOf (.code my_X6_halfOf prog_1_method_64_code 3 (some .int) :: ky_B) { frames := 0, cells := 0, slots := 0, locals := 0 } (ky_P0 [.long (a0), .int (a1)]) (ky_Q0 (some (.int (fn_X6_halfOf a0 a1)))) 0 0 (fun _ => False) := by
  refine ky_start0 (by decide) (Nat.le_of_ble_eq_true rfl) (fun p e s m below meth c F ls hl => ?_)
  obtain ⟨hx, hb, hml, hown, hr, hlocks, hts⟩ := id F
  have hl : lv_has ls 3 [(0, .long (a0)), (2, .int (a1))] := hl
  have hw : fn_X6_halfOf a0 a1 = _ := fn_X6_halfOf.eq_1 a0 a1
  refine lv_iload_n hx hb dc_X6_halfOf_0 rfl (lv_at hl 1 rfl) ?_
  refine lv_if_eq (tgt := 12) hx hb dc_X6_halfOf_1 (by decide) (fun c_0 => ?_) (fun c_0 => ?_)
  · have hw := hw.trans (if_pos c_0)
    refine lv_lload_n hx hb dc_X6_halfOf_12 rfl (lv_at hl 0 rfl) ?_
    refine lv_l2i (v := (a0).toInt32) hx hb dc_X6_halfOf_13 rfl ?_
    exact W.iret hx hb hr (fun t ht hW => ⟨congrArg (fun z => Outcome.returned (some (Value.int z))) hw.symm, ht⟩) ky_nil dc_X6_halfOf_14
  · have hw := hw.trans (if_neg c_0)
    refine lv_lload_n hx hb dc_X6_halfOf_4 rfl (lv_at hl 0 rfl) ?_
    refine lv_bipush (v := 32) hx hb dc_X6_halfOf_5 (by decide) ?_
    refine lv_lshr (v := jlshr (a0) ((32 : Int32))) hx hb dc_X6_halfOf_7 rfl ?_
    refine lv_l2i (v := (jlshr (a0) ((32 : Int32))).toInt32) hx hb dc_X6_halfOf_8 rfl ?_
    refine lv_goto (tgt := 14) hx hb dc_X6_halfOf_9 (by decide) ?_
    exact W.iret hx hb hr (fun t ht hW => ⟨congrArg (fun z => Outcome.returned (some (Value.int z))) hw.symm, ht⟩) ky_nil dc_X6_halfOf_14
def fn_X6_signOf (a0 : Int64) : Int32 :=
  fn_J13_compare_74951 (fn_X0_rungIn (a0)) ((0 : Int64))
set_option linter.constructorNameAsVariable false in
set_option maxHeartbeats 4000000 in
set_option maxRecDepth 100000 in
theorem mt_X6_signOf (l : Launch) (a0 : Int64) : Met l my_X6_signOf (.code my_X6_signOf prog_1_method_65_code 2 (some .int) :: ky_B) { frames := 2, cells := 0, slots := 0, locals := 42 } (ky_P0 [.long (a0)]) (ky_Q0 (some (.int (fn_X6_signOf a0)))) 0 0 (fun _ => False) := by
  refine ky_start0 (by decide) (Nat.le_of_ble_eq_true rfl) (fun p e s m below meth c F ls hl => ?_)
  obtain ⟨hx, hb, hml, hown, hr, hlocks, hts⟩ := id F
  have hl : lv_has ls 2 [(0, .long (a0))] := hl
  have hw : fn_X6_signOf a0 = _ := fn_X6_signOf.eq_1 a0
  refine lv_lload_n hx hb dc_X6_signOf_0 rfl (lv_at hl 0 rfl) ?_
  refine ky_cS0 (As := [.long (a0)]) F (mt_X0_rungIn l (a0)) ks_X6_170 ⟨⟨rfl, rfl⟩, by decide, by decide⟩ rfl hl.1 rfl (Nat.le_of_ble_eq_true rfl) ⟨Nat.zero_le _, Nat.zero_le _⟩ dc_X6_signOf_1 ?_
  refine lv_lconst (v := 0) hx hb dc_X6_signOf_4 (by decide) ?_
  refine ky_cS0 (As := [.long (fn_X0_rungIn (a0)), .long ((0 : Int64))]) F (mt_J13_compare_74951 l (fn_X0_rungIn (a0)) ((0 : Int64))) ks_X6_235 ⟨⟨rfl, rfl⟩, by decide, by decide⟩ rfl hl.1 rfl (Nat.le_of_ble_eq_true rfl) ⟨Nat.zero_le _, Nat.zero_le _⟩ dc_X6_signOf_5 ?_
  exact W.iret hx hb hr (fun t ht hW => ⟨congrArg (fun z => Outcome.returned (some (Value.int z))) hw.symm, ht⟩) ky_nil dc_X6_signOf_8
def fn_X6_orderOf (a0 : Int64) (a1 : Int64) : Int32 :=
  fn_J13_compare_74951 (fn_X0_rankIn (a0)) (fn_X0_rankIn (a1))
set_option linter.constructorNameAsVariable false in
set_option maxHeartbeats 4000000 in
set_option maxRecDepth 100000 in
theorem mt_X6_orderOf (l : Launch) (a0 : Int64) (a1 : Int64) : Met l my_X6_orderOf (.code my_X6_orderOf prog_1_method_66_code 4 (some .int) :: ky_B) { frames := 2, cells := 0, slots := 0, locals := 42 } (ky_P0 [.long (a0), .long (a1)]) (ky_Q0 (some (.int (fn_X6_orderOf a0 a1)))) 0 0 (fun _ => False) := by
  refine ky_start0 (by decide) (Nat.le_of_ble_eq_true rfl) (fun p e s m below meth c F ls hl => ?_)
  obtain ⟨hx, hb, hml, hown, hr, hlocks, hts⟩ := id F
  have hl : lv_has ls 4 [(0, .long (a0)), (2, .long (a1))] := hl
  have hw : fn_X6_orderOf a0 a1 = _ := fn_X6_orderOf.eq_1 a0 a1
  refine lv_lload_n hx hb dc_X6_orderOf_0 rfl (lv_at hl 0 rfl) ?_
  refine ky_cS0 (As := [.long (a0)]) F (mt_X0_rankIn l (a0)) ks_X6_240 ⟨⟨rfl, rfl⟩, by decide, by decide⟩ rfl hl.1 rfl (Nat.le_of_ble_eq_true rfl) ⟨Nat.zero_le _, Nat.zero_le _⟩ dc_X6_orderOf_1 ?_
  refine lv_lload_n hx hb dc_X6_orderOf_4 rfl (lv_at hl 1 rfl) ?_
  refine ky_cS0 (As := [.long (a1)]) F (mt_X0_rankIn l (a1)) ks_X6_240 ⟨⟨rfl, rfl⟩, by decide, by decide⟩ rfl hl.1 rfl (Nat.le_of_ble_eq_true rfl) ⟨Nat.zero_le _, Nat.zero_le _⟩ dc_X6_orderOf_5 ?_
  refine ky_cS0 (As := [.long (fn_X0_rankIn (a0)), .long (fn_X0_rankIn (a1))]) F (mt_J13_compare_74951 l (fn_X0_rankIn (a0)) (fn_X0_rankIn (a1))) ks_X6_235 ⟨⟨rfl, rfl⟩, by decide, by decide⟩ rfl hl.1 rfl (Nat.le_of_ble_eq_true rfl) ⟨Nat.zero_le _, Nat.zero_le _⟩ dc_X6_orderOf_8 ?_
  exact W.iret hx hb hr (fun t ht hW => ⟨congrArg (fun z => Outcome.returned (some (Value.int z))) hw.symm, ht⟩) ky_nil dc_X6_orderOf_11
def fn_X6_stepsBetween (a0 : Int64) (a1 : Int64) : Int32 :=
  if (lg_cmp (fn_X0_rungIn (a1)) (fn_X0_rungIn (a0))) < (0 : Int32) then ((-1 : Int32)) else (if (lg_cmp ((fn_X0_rungIn (a1)) - (fn_X0_rungIn (a0))) ((0 : Int64))) < (0 : Int32) then ((-1 : Int32)) else (if (lg_cmp ((fn_X0_rungIn (a1)) - (fn_X0_rungIn (a0))) ((40 : Int64))) ≤ (0 : Int32) then (((fn_X0_rungIn (a1)) - (fn_X0_rungIn (a0))).toInt32) else ((-1 : Int32))))
set_option linter.constructorNameAsVariable false in
set_option maxHeartbeats 4000000 in
set_option maxRecDepth 100000 in
theorem mt_X6_stepsBetween (l : Launch) (a0 : Int64) (a1 : Int64) : Met l my_X6_stepsBetween (.code my_X6_stepsBetween prog_1_method_67_code 10 (some .int) :: ky_B) { frames := 2, cells := 0, slots := 0, locals := 42 } (ky_P0 [.long (a0), .long (a1)]) (ky_Q0 (some (.int (fn_X6_stepsBetween a0 a1)))) 0 0 (fun _ => False) := by
  refine ky_start0 (by decide) (Nat.le_of_ble_eq_true rfl) (fun p e s m below meth c F ls hl => ?_)
  obtain ⟨hx, hb, hml, hown, hr, hlocks, hts⟩ := id F
  have hl : lv_has ls 10 [(0, .long (a0)), (2, .long (a1))] := hl
  have hw : fn_X6_stepsBetween a0 a1 = _ := fn_X6_stepsBetween.eq_1 a0 a1
  refine lv_lload_n hx hb dc_X6_stepsBetween_0 rfl (lv_at hl 0 rfl) ?_
  refine ky_cS0 (As := [.long (a0)]) F (mt_X0_rungIn l (a0)) ks_X6_170 ⟨⟨rfl, rfl⟩, by decide, by decide⟩ rfl hl.1 rfl (Nat.le_of_ble_eq_true rfl) ⟨Nat.zero_le _, Nat.zero_le _⟩ dc_X6_stepsBetween_1 ?_
  refine lv_lstore (lv' := [(4, .long (fn_X0_rungIn (a0))), (0, .long (a0)), (2, .long (a1))]) hx hb dc_X6_stepsBetween_4 hl (by decide) rfl (fun ls hl => ?_)
  refine lv_lload_n hx hb dc_X6_stepsBetween_6 rfl (lv_at hl 2 rfl) ?_
  refine ky_cS0 (As := [.long (a1)]) F (mt_X0_rungIn l (a1)) ks_X6_170 ⟨⟨rfl, rfl⟩, by decide, by decide⟩ rfl hl.1 rfl (Nat.le_of_ble_eq_true rfl) ⟨Nat.zero_le _, Nat.zero_le _⟩ dc_X6_stepsBetween_7 ?_
  refine lv_lstore (lv' := [(6, .long (fn_X0_rungIn (a1))), (4, .long (fn_X0_rungIn (a0))), (0, .long (a0)), (2, .long (a1))]) hx hb dc_X6_stepsBetween_10 hl (by decide) rfl (fun ls hl => ?_)
  refine lv_lload hx hb dc_X6_stepsBetween_12 (lv_at hl 0 rfl) ?_
  refine lv_lload hx hb dc_X6_stepsBetween_14 (lv_at hl 1 rfl) ?_
  refine lv_lsub hx hb dc_X6_stepsBetween_16 ?_
  refine lv_lstore (lv' := [(8, .long ((fn_X0_rungIn (a1)) - (fn_X0_rungIn (a0)))), (6, .long (fn_X0_rungIn (a1))), (4, .long (fn_X0_rungIn (a0))), (0, .long (a0)), (2, .long (a1))]) hx hb dc_X6_stepsBetween_17 hl (by decide) rfl (fun ls hl => ?_)
  refine lv_lload hx hb dc_X6_stepsBetween_19 (lv_at hl 1 rfl) ?_
  refine lv_lload hx hb dc_X6_stepsBetween_21 (lv_at hl 2 rfl) ?_
  refine W.lcmp hx hb dc_X6_stepsBetween_23 ?_
  refine lv_if_lt (tgt := 43) hx hb dc_X6_stepsBetween_24 (by decide) (fun c_0 => ?_) (fun c_0 => ?_)
  · have hw := hw.trans (if_pos c_0)
    refine lv_iconst (v := (-1)) hx hb dc_X6_stepsBetween_43 (by decide) ?_
    exact W.iret hx hb hr (fun t ht hW => ⟨congrArg (fun z => Outcome.returned (some (Value.int z))) hw.symm, ht⟩) ky_nil dc_X6_stepsBetween_44
  · have hw := hw.trans (if_neg c_0)
    refine lv_lload hx hb dc_X6_stepsBetween_27 (lv_at hl 0 rfl) ?_
    refine lv_lconst (v := 0) hx hb dc_X6_stepsBetween_29 (by decide) ?_
    refine W.lcmp hx hb dc_X6_stepsBetween_30 ?_
    refine lv_if_lt (tgt := 43) hx hb dc_X6_stepsBetween_31 (by decide) (fun c_1 => ?_) (fun c_1 => ?_)
    · have hw := hw.trans (if_pos c_1)
      refine lv_iconst (v := (-1)) hx hb dc_X6_stepsBetween_43 (by decide) ?_
      exact W.iret hx hb hr (fun t ht hW => ⟨congrArg (fun z => Outcome.returned (some (Value.int z))) hw.symm, ht⟩) ky_nil dc_X6_stepsBetween_44
    · have hw := hw.trans (if_neg c_1)
      refine lv_lload hx hb dc_X6_stepsBetween_34 (lv_at hl 0 rfl) ?_
      refine lv_ldc2 (v := 40) hx hb hown (hts _ kw_4_65) dc_X6_stepsBetween_36 ?_
      refine W.lcmp hx hb dc_X6_stepsBetween_39 ?_
      refine lv_if_le (tgt := 45) hx hb dc_X6_stepsBetween_40 (by decide) (fun c_2 => ?_) (fun c_2 => ?_)
      · have hw := hw.trans (if_pos c_2)
        refine lv_lload hx hb dc_X6_stepsBetween_45 (lv_at hl 0 rfl) ?_
        refine lv_l2i (v := ((fn_X0_rungIn (a1)) - (fn_X0_rungIn (a0))).toInt32) hx hb dc_X6_stepsBetween_47 rfl ?_
        exact W.iret hx hb hr (fun t ht hW => ⟨congrArg (fun z => Outcome.returned (some (Value.int z))) hw.symm, ht⟩) ky_nil dc_X6_stepsBetween_48
      · have hw := hw.trans (if_neg c_2)
        refine lv_iconst (v := (-1)) hx hb dc_X6_stepsBetween_43 (by decide) ?_
        exact W.iret hx hb hr (fun t ht hW => ⟨congrArg (fun z => Outcome.returned (some (Value.int z))) hw.symm, ht⟩) ky_nil dc_X6_stepsBetween_44
def fn_X9_nearest_L14 : Nat → Int64 → Int64 → Int64
  | 0, _, _ => 0
  | n + 1, v4, v6 => if (0 : Int32) ≤ (lg_cmp (v4) ((4503599627370496 : Int64))) then (if (lg_cmp (v6) ((971 : Int64))) ≤ (0 : Int32) then (if (lg_cmp (v6) ((-1074 : Int64))) < (0 : Int32) then (if (0 : Int32) ≤ (lg_cmp (v6) ((-1128 : Int64))) then (if (0 : Int32) < (lg_cmp ((v4) - (jlshl (jlshr (v4) ((((-1074 : Int64)) - (v6)).toInt32)) ((((-1074 : Int64)) - (v6)).toInt32))) (jlshl ((1 : Int64)) (((((-1074 : Int64)) - (v6)).toInt32) - ((1 : Int32))))) then ((jlshr (v4) ((((-1074 : Int64)) - (v6)).toInt32)) + ((1 : Int64))) else (if (lg_cmp ((v4) - (jlshl (jlshr (v4) ((((-1074 : Int64)) - (v6)).toInt32)) ((((-1074 : Int64)) - (v6)).toInt32))) (jlshl ((1 : Int64)) (((((-1074 : Int64)) - (v6)).toInt32) - ((1 : Int32))))) = (0 : Int32) then (if (lg_cmp ((jlshr (v4) ((((-1074 : Int64)) - (v6)).toInt32)) - (jlshr (v4) ((((-1074 : Int64)) - (v6)).toInt32)) / ((2 : Int64)) * ((2 : Int64))) ((1 : Int64))) = (0 : Int32) then ((jlshr (v4) ((((-1074 : Int64)) - (v6)).toInt32)) + ((1 : Int64))) else (jlshr (v4) ((((-1074 : Int64)) - (v6)).toInt32))) else (jlshr (v4) ((((-1074 : Int64)) - (v6)).toInt32)))) else ((0 : Int64))) else ((jlshl ((v6) + ((1075 : Int64))) ((52 : Int32))) + ((v4) - ((4503599627370496 : Int64))))) else ((9218868437227405312 : Int64))) else (fn_X9_nearest_L14 n ((v4) * ((2 : Int64))) ((v6) - ((1 : Int64))))
def fk_X9_nearest_L14 : Nat → Int64 → Int64 → Prop
  | 0, _, _ => False
  | n + 1, v4, v6 => (((0 : Int32) ≤ (lg_cmp (v4) ((4503599627370496 : Int64)))) → ((((lg_cmp (v6) ((971 : Int64))) ≤ (0 : Int32)) → ((((lg_cmp (v6) ((-1074 : Int64))) < (0 : Int32)) → ((((0 : Int32) ≤ (lg_cmp (v6) ((-1128 : Int64)))) → ((((0 : Int32) < (lg_cmp ((v4) - (jlshl (jlshr (v4) ((((-1074 : Int64)) - (v6)).toInt32)) ((((-1074 : Int64)) - (v6)).toInt32))) (jlshl ((1 : Int64)) (((((-1074 : Int64)) - (v6)).toInt32) - ((1 : Int32)))))) → (True)) ∧ (¬ ((0 : Int32) < (lg_cmp ((v4) - (jlshl (jlshr (v4) ((((-1074 : Int64)) - (v6)).toInt32)) ((((-1074 : Int64)) - (v6)).toInt32))) (jlshl ((1 : Int64)) (((((-1074 : Int64)) - (v6)).toInt32) - ((1 : Int32)))))) → ((((lg_cmp ((v4) - (jlshl (jlshr (v4) ((((-1074 : Int64)) - (v6)).toInt32)) ((((-1074 : Int64)) - (v6)).toInt32))) (jlshl ((1 : Int64)) (((((-1074 : Int64)) - (v6)).toInt32) - ((1 : Int32))))) = (0 : Int32)) → ((((lg_cmp ((jlshr (v4) ((((-1074 : Int64)) - (v6)).toInt32)) - (jlshr (v4) ((((-1074 : Int64)) - (v6)).toInt32)) / ((2 : Int64)) * ((2 : Int64))) ((1 : Int64))) = (0 : Int32)) → (True)) ∧ (¬ ((lg_cmp ((jlshr (v4) ((((-1074 : Int64)) - (v6)).toInt32)) - (jlshr (v4) ((((-1074 : Int64)) - (v6)).toInt32)) / ((2 : Int64)) * ((2 : Int64))) ((1 : Int64))) = (0 : Int32)) → (True)))) ∧ (¬ ((lg_cmp ((v4) - (jlshl (jlshr (v4) ((((-1074 : Int64)) - (v6)).toInt32)) ((((-1074 : Int64)) - (v6)).toInt32))) (jlshl ((1 : Int64)) (((((-1074 : Int64)) - (v6)).toInt32) - ((1 : Int32))))) = (0 : Int32)) → (True)))))) ∧ (¬ ((0 : Int32) ≤ (lg_cmp (v6) ((-1128 : Int64)))) → (True)))) ∧ (¬ ((lg_cmp (v6) ((-1074 : Int64))) < (0 : Int32)) → (True)))) ∧ (¬ ((lg_cmp (v6) ((971 : Int64))) ≤ (0 : Int32)) → (True)))) ∧ (¬ ((0 : Int32) ≤ (lg_cmp (v4) ((4503599627370496 : Int64)))) → (fk_X9_nearest_L14 n ((v4) * ((2 : Int64))) ((v6) - ((1 : Int64)))))
set_option linter.constructorNameAsVariable false in
set_option maxHeartbeats 4000000 in
set_option maxRecDepth 100000 in
theorem ml_X9_nearest_L14 {p : Program} {l : Launch} {e : Env} {s : State} {m : MethodId} {args : Array Value} {below : List Frame} {meth : Method} {c : Code} (F : ky_F p s m meth c my_X9_nearest.cls prog_10_method_1_code 15 (some .long) args) : ∀ (n : Nat) (v4 : Int64) (v6 : Int64), fk_X9_nearest_L14 n v4 v6 → ∀ ls : Array Slot, lv_has ls 15 [(4, .long (v4)), (6, .long (v6))] → W p l e { frames := 0, cells := 0, slots := 0, locals := 0 } s m args below meth c s.heap [] 0 0 (MQ below (ky_Q0 (some (.long (fn_X9_nearest_L14 n v4 v6)))) args s 0 0 (fun _ => False)) (F0 m 14 ls []) := by
  obtain ⟨hx, hb, hml, hown, hr, hlocks, hts⟩ := id F
  intro n
  induction n with
  | zero => intro v4 v6 hk; exact False.elim hk
  | succ n ih =>
      intro v4 v6 hk ls hl
      have hw : fn_X9_nearest_L14 (n + 1) v4 v6 = (if (0 : Int32) ≤ (lg_cmp (v4) ((4503599627370496 : Int64))) then (if (lg_cmp (v6) ((971 : Int64))) ≤ (0 : Int32) then (if (lg_cmp (v6) ((-1074 : Int64))) < (0 : Int32) then (if (0 : Int32) ≤ (lg_cmp (v6) ((-1128 : Int64))) then (if (0 : Int32) < (lg_cmp ((v4) - (jlshl (jlshr (v4) ((((-1074 : Int64)) - (v6)).toInt32)) ((((-1074 : Int64)) - (v6)).toInt32))) (jlshl ((1 : Int64)) (((((-1074 : Int64)) - (v6)).toInt32) - ((1 : Int32))))) then ((jlshr (v4) ((((-1074 : Int64)) - (v6)).toInt32)) + ((1 : Int64))) else (if (lg_cmp ((v4) - (jlshl (jlshr (v4) ((((-1074 : Int64)) - (v6)).toInt32)) ((((-1074 : Int64)) - (v6)).toInt32))) (jlshl ((1 : Int64)) (((((-1074 : Int64)) - (v6)).toInt32) - ((1 : Int32))))) = (0 : Int32) then (if (lg_cmp ((jlshr (v4) ((((-1074 : Int64)) - (v6)).toInt32)) - (jlshr (v4) ((((-1074 : Int64)) - (v6)).toInt32)) / ((2 : Int64)) * ((2 : Int64))) ((1 : Int64))) = (0 : Int32) then ((jlshr (v4) ((((-1074 : Int64)) - (v6)).toInt32)) + ((1 : Int64))) else (jlshr (v4) ((((-1074 : Int64)) - (v6)).toInt32))) else (jlshr (v4) ((((-1074 : Int64)) - (v6)).toInt32)))) else ((0 : Int64))) else ((jlshl ((v6) + ((1075 : Int64))) ((52 : Int32))) + ((v4) - ((4503599627370496 : Int64))))) else ((9218868437227405312 : Int64))) else (fn_X9_nearest_L14 n ((v4) * ((2 : Int64))) ((v6) - ((1 : Int64))))) := rfl
      have hk : (((0 : Int32) ≤ (lg_cmp (v4) ((4503599627370496 : Int64)))) → ((((lg_cmp (v6) ((971 : Int64))) ≤ (0 : Int32)) → ((((lg_cmp (v6) ((-1074 : Int64))) < (0 : Int32)) → ((((0 : Int32) ≤ (lg_cmp (v6) ((-1128 : Int64)))) → ((((0 : Int32) < (lg_cmp ((v4) - (jlshl (jlshr (v4) ((((-1074 : Int64)) - (v6)).toInt32)) ((((-1074 : Int64)) - (v6)).toInt32))) (jlshl ((1 : Int64)) (((((-1074 : Int64)) - (v6)).toInt32) - ((1 : Int32)))))) → (True)) ∧ (¬ ((0 : Int32) < (lg_cmp ((v4) - (jlshl (jlshr (v4) ((((-1074 : Int64)) - (v6)).toInt32)) ((((-1074 : Int64)) - (v6)).toInt32))) (jlshl ((1 : Int64)) (((((-1074 : Int64)) - (v6)).toInt32) - ((1 : Int32)))))) → ((((lg_cmp ((v4) - (jlshl (jlshr (v4) ((((-1074 : Int64)) - (v6)).toInt32)) ((((-1074 : Int64)) - (v6)).toInt32))) (jlshl ((1 : Int64)) (((((-1074 : Int64)) - (v6)).toInt32) - ((1 : Int32))))) = (0 : Int32)) → ((((lg_cmp ((jlshr (v4) ((((-1074 : Int64)) - (v6)).toInt32)) - (jlshr (v4) ((((-1074 : Int64)) - (v6)).toInt32)) / ((2 : Int64)) * ((2 : Int64))) ((1 : Int64))) = (0 : Int32)) → (True)) ∧ (¬ ((lg_cmp ((jlshr (v4) ((((-1074 : Int64)) - (v6)).toInt32)) - (jlshr (v4) ((((-1074 : Int64)) - (v6)).toInt32)) / ((2 : Int64)) * ((2 : Int64))) ((1 : Int64))) = (0 : Int32)) → (True)))) ∧ (¬ ((lg_cmp ((v4) - (jlshl (jlshr (v4) ((((-1074 : Int64)) - (v6)).toInt32)) ((((-1074 : Int64)) - (v6)).toInt32))) (jlshl ((1 : Int64)) (((((-1074 : Int64)) - (v6)).toInt32) - ((1 : Int32))))) = (0 : Int32)) → (True)))))) ∧ (¬ ((0 : Int32) ≤ (lg_cmp (v6) ((-1128 : Int64)))) → (True)))) ∧ (¬ ((lg_cmp (v6) ((-1074 : Int64))) < (0 : Int32)) → (True)))) ∧ (¬ ((lg_cmp (v6) ((971 : Int64))) ≤ (0 : Int32)) → (True)))) ∧ (¬ ((0 : Int32) ≤ (lg_cmp (v4) ((4503599627370496 : Int64)))) → (fk_X9_nearest_L14 n ((v4) * ((2 : Int64))) ((v6) - ((1 : Int64))))) := hk
      refine lv_lload hx hb dc_X9_nearest_14 (lv_at hl 0 rfl) ?_
      refine lv_ldc2 (v := 4503599627370496) hx hb hown (hts _ kw_6_112) dc_X9_nearest_16 ?_
      refine W.lcmp hx hb dc_X9_nearest_19 ?_
      refine lv_if_ge (tgt := 40) hx hb dc_X9_nearest_20 (by decide) (fun c_0 => ?_) (fun c_0 => ?_)
      · have hw := hw.trans (if_pos c_0)
        have hk := hk.1 c_0
        refine lv_lload hx hb dc_X9_nearest_40 (lv_at hl 1 rfl) ?_
        refine lv_ldc2 (v := 971) hx hb hown (hts _ kw_6_114) dc_X9_nearest_42 ?_
        refine W.lcmp hx hb dc_X9_nearest_45 ?_
        refine lv_if_le (tgt := 53) hx hb dc_X9_nearest_46 (by decide) (fun c_1 => ?_) (fun c_1 => ?_)
        · have hw := hw.trans (if_pos c_1)
          have hk := hk.1 c_1
          refine lv_lload hx hb dc_X9_nearest_53 (lv_at hl 1 rfl) ?_
          refine lv_ldc2 (v := (-1074)) hx hb hown (hts _ kw_6_115) dc_X9_nearest_55 ?_
          refine W.lcmp hx hb dc_X9_nearest_58 ?_
          refine lv_if_lt (tgt := 79) hx hb dc_X9_nearest_59 (by decide) (fun c_2 => ?_) (fun c_2 => ?_)
          · have hw := hw.trans (if_pos c_2)
            have hk := hk.1 c_2
            refine lv_lload hx hb dc_X9_nearest_79 (lv_at hl 1 rfl) ?_
            refine lv_ldc2 (v := (-1128)) hx hb hown (hts _ kw_6_117) dc_X9_nearest_81 ?_
            refine W.lcmp hx hb dc_X9_nearest_84 ?_
            refine lv_if_ge (tgt := 90) hx hb dc_X9_nearest_85 (by decide) (fun c_3 => ?_) (fun c_3 => ?_)
            · have hw := hw.trans (if_pos c_3)
              have hk := hk.1 c_3
              refine lv_ldc2 (v := (-1074)) hx hb hown (hts _ kw_6_115) dc_X9_nearest_90 ?_
              refine lv_lload hx hb dc_X9_nearest_93 (lv_at hl 1 rfl) ?_
              refine lv_lsub hx hb dc_X9_nearest_95 ?_
              refine lv_l2i (v := (((-1074 : Int64)) - (v6)).toInt32) hx hb dc_X9_nearest_96 rfl ?_
              refine lv_istore (lv' := [(8, .int ((((-1074 : Int64)) - (v6)).toInt32)), (4, .long (v4)), (6, .long (v6))]) hx hb dc_X9_nearest_97 hl (by decide) rfl (fun ls hl => ?_)
              refine lv_lload hx hb dc_X9_nearest_99 (lv_at hl 1 rfl) ?_
              refine lv_iload hx hb dc_X9_nearest_101 (lv_at hl 0 rfl) ?_
              refine lv_lshr (v := jlshr (v4) ((((-1074 : Int64)) - (v6)).toInt32)) hx hb dc_X9_nearest_103 rfl ?_
              refine lv_lstore (lv' := [(9, .long (jlshr (v4) ((((-1074 : Int64)) - (v6)).toInt32))), (8, .int ((((-1074 : Int64)) - (v6)).toInt32)), (4, .long (v4)), (6, .long (v6))]) hx hb dc_X9_nearest_104 hl (by decide) rfl (fun ls hl => ?_)
              refine lv_lload hx hb dc_X9_nearest_106 (lv_at hl 2 rfl) ?_
              refine lv_lload hx hb dc_X9_nearest_108 (lv_at hl 0 rfl) ?_
              refine lv_iload hx hb dc_X9_nearest_110 (lv_at hl 1 rfl) ?_
              refine lv_lshl (v := jlshl (jlshr (v4) ((((-1074 : Int64)) - (v6)).toInt32)) ((((-1074 : Int64)) - (v6)).toInt32)) hx hb dc_X9_nearest_112 rfl ?_
              refine lv_lsub hx hb dc_X9_nearest_113 ?_
              refine lv_lstore (lv' := [(11, .long ((v4) - (jlshl (jlshr (v4) ((((-1074 : Int64)) - (v6)).toInt32)) ((((-1074 : Int64)) - (v6)).toInt32)))), (9, .long (jlshr (v4) ((((-1074 : Int64)) - (v6)).toInt32))), (8, .int ((((-1074 : Int64)) - (v6)).toInt32)), (4, .long (v4)), (6, .long (v6))]) hx hb dc_X9_nearest_114 hl (by decide) rfl (fun ls hl => ?_)
              refine lv_lconst (v := 1) hx hb dc_X9_nearest_116 (by decide) ?_
              refine lv_iload hx hb dc_X9_nearest_117 (lv_at hl 2 rfl) ?_
              refine lv_iconst (v := 1) hx hb dc_X9_nearest_119 (by decide) ?_
              refine lv_isub hx hb dc_X9_nearest_120 ?_
              refine lv_lshl (v := jlshl ((1 : Int64)) (((((-1074 : Int64)) - (v6)).toInt32) - ((1 : Int32)))) hx hb dc_X9_nearest_121 rfl ?_
              refine lv_lstore (lv' := [(13, .long (jlshl ((1 : Int64)) (((((-1074 : Int64)) - (v6)).toInt32) - ((1 : Int32))))), (11, .long ((v4) - (jlshl (jlshr (v4) ((((-1074 : Int64)) - (v6)).toInt32)) ((((-1074 : Int64)) - (v6)).toInt32)))), (9, .long (jlshr (v4) ((((-1074 : Int64)) - (v6)).toInt32))), (8, .int ((((-1074 : Int64)) - (v6)).toInt32)), (4, .long (v4)), (6, .long (v6))]) hx hb dc_X9_nearest_122 hl (by decide) rfl (fun ls hl => ?_)
              refine lv_lload hx hb dc_X9_nearest_124 (lv_at hl 1 rfl) ?_
              refine lv_lload hx hb dc_X9_nearest_126 (lv_at hl 0 rfl) ?_
              refine W.lcmp hx hb dc_X9_nearest_128 ?_
              refine lv_if_gt (tgt := 151) hx hb dc_X9_nearest_129 (by decide) (fun c_4 => ?_) (fun c_4 => ?_)
              · have hw := hw.trans (if_pos c_4)
                have hk := hk.1 c_4
                refine lv_lload hx hb dc_X9_nearest_151 (lv_at hl 2 rfl) ?_
                refine lv_lconst (v := 1) hx hb dc_X9_nearest_153 (by decide) ?_
                refine lv_ladd hx hb dc_X9_nearest_154 ?_
                refine lv_goto (tgt := 160) hx hb dc_X9_nearest_155 (by decide) ?_
                exact W.lret hx hb hr (fun t ht hW => ⟨congrArg (fun z => Outcome.returned (some (Value.long z))) hw.symm, ht⟩) ky_nil dc_X9_nearest_160
              · have hw := hw.trans (if_neg c_4)
                have hk := hk.2 c_4
                refine lv_lload hx hb dc_X9_nearest_132 (lv_at hl 1 rfl) ?_
                refine lv_lload hx hb dc_X9_nearest_134 (lv_at hl 0 rfl) ?_
                refine W.lcmp hx hb dc_X9_nearest_136 ?_
                refine lv_if_ne (tgt := 158) hx hb dc_X9_nearest_137 (by decide) (fun c_5 => ?_) (fun c_5 => ?_)
                · have hw := hw.trans (if_neg c_5)
                  have hk := hk.2 c_5
                  refine lv_lload hx hb dc_X9_nearest_158 (lv_at hl 2 rfl) ?_
                  exact W.lret hx hb hr (fun t ht hW => ⟨congrArg (fun z => Outcome.returned (some (Value.long z))) hw.symm, ht⟩) ky_nil dc_X9_nearest_160
                · have hw := hw.trans (if_pos c_5)
                  have hk := hk.1 c_5
                  refine lv_lload hx hb dc_X9_nearest_140 (lv_at hl 2 rfl) ?_
                  refine lv_ldc2 (v := 2) hx hb hown (hts _ kw_6_113) dc_X9_nearest_142 ?_
                  refine lv_lrem hx hb dc_X9_nearest_145 (by decide) ?_
                  refine lv_lconst (v := 1) hx hb dc_X9_nearest_146 (by decide) ?_
                  refine W.lcmp hx hb dc_X9_nearest_147 ?_
                  refine lv_if_ne (tgt := 158) hx hb dc_X9_nearest_148 (by decide) (fun c_6 => ?_) (fun c_6 => ?_)
                  · have hw := hw.trans (if_neg c_6)
                    have hk := hk.2 c_6
                    refine lv_lload hx hb dc_X9_nearest_158 (lv_at hl 2 rfl) ?_
                    exact W.lret hx hb hr (fun t ht hW => ⟨congrArg (fun z => Outcome.returned (some (Value.long z))) hw.symm, ht⟩) ky_nil dc_X9_nearest_160
                  · have hw := hw.trans (if_pos c_6)
                    have hk := hk.1 c_6
                    refine lv_lload hx hb dc_X9_nearest_151 (lv_at hl 2 rfl) ?_
                    refine lv_lconst (v := 1) hx hb dc_X9_nearest_153 (by decide) ?_
                    refine lv_ladd hx hb dc_X9_nearest_154 ?_
                    refine lv_goto (tgt := 160) hx hb dc_X9_nearest_155 (by decide) ?_
                    exact W.lret hx hb hr (fun t ht hW => ⟨congrArg (fun z => Outcome.returned (some (Value.long z))) hw.symm, ht⟩) ky_nil dc_X9_nearest_160
            · have hw := hw.trans (if_neg c_3)
              have hk := hk.2 c_3
              refine lv_lconst (v := 0) hx hb dc_X9_nearest_88 (by decide) ?_
              exact W.lret hx hb hr (fun t ht hW => ⟨congrArg (fun z => Outcome.returned (some (Value.long z))) hw.symm, ht⟩) ky_nil dc_X9_nearest_89
          · have hw := hw.trans (if_neg c_2)
            have hk := hk.2 c_2
            refine lv_lload hx hb dc_X9_nearest_62 (lv_at hl 1 rfl) ?_
            refine lv_ldc2 (v := 1075) hx hb hown (hts _ kw_6_116) dc_X9_nearest_64 ?_
            refine lv_ladd hx hb dc_X9_nearest_67 ?_
            refine lv_bipush (v := 52) hx hb dc_X9_nearest_68 (by decide) ?_
            refine lv_lshl (v := jlshl ((v6) + ((1075 : Int64))) ((52 : Int32))) hx hb dc_X9_nearest_70 rfl ?_
            refine lv_lload hx hb dc_X9_nearest_71 (lv_at hl 0 rfl) ?_
            refine lv_ldc2 (v := 4503599627370496) hx hb hown (hts _ kw_6_112) dc_X9_nearest_73 ?_
            refine lv_lsub hx hb dc_X9_nearest_76 ?_
            refine lv_ladd hx hb dc_X9_nearest_77 ?_
            exact W.lret hx hb hr (fun t ht hW => ⟨congrArg (fun z => Outcome.returned (some (Value.long z))) hw.symm, ht⟩) ky_nil dc_X9_nearest_78
        · have hw := hw.trans (if_neg c_1)
          have hk := hk.2 c_1
          refine lv_ldc2 (v := 9218868437227405312) hx hb hown (hts _ kw_6_103) dc_X9_nearest_49 ?_
          exact W.lret hx hb hr (fun t ht hW => ⟨congrArg (fun z => Outcome.returned (some (Value.long z))) hw.symm, ht⟩) ky_nil dc_X9_nearest_52
      · have hw := hw.trans (if_neg c_0)
        have hk := hk.2 c_0
        refine lv_lload hx hb dc_X9_nearest_23 (lv_at hl 0 rfl) ?_
        refine lv_ldc2 (v := 2) hx hb hown (hts _ kw_6_113) dc_X9_nearest_25 ?_
        refine lv_lmul hx hb dc_X9_nearest_28 ?_
        refine lv_lstore (lv' := [(4, .long ((v4) * ((2 : Int64)))), (6, .long (v6))]) hx hb dc_X9_nearest_29 hl (by decide) rfl (fun ls hl => ?_)
        refine lv_lload hx hb dc_X9_nearest_31 (lv_at hl 1 rfl) ?_
        refine lv_lconst (v := 1) hx hb dc_X9_nearest_33 (by decide) ?_
        refine lv_lsub hx hb dc_X9_nearest_34 ?_
        refine lv_lstore (lv' := [(6, .long ((v6) - ((1 : Int64)))), (4, .long ((v4) * ((2 : Int64))))]) hx hb dc_X9_nearest_35 hl (by decide) rfl (fun ls hl => ?_)
        refine lv_goto (tgt := 14) hx hb dc_X9_nearest_37 (by decide) ?_
        rw [hw]
        exact ih ((v4) * ((2 : Int64))) ((v6) - ((1 : Int64))) hk _ (lv_sub hl [1, 0] rfl)
def fn_X9_nearest (a0 : Int64) (a1 : Int64) : Int64 :=
  if (lg_cmp (a0) ((0 : Int64))) = (0 : Int32) then ((0 : Int64)) else (fn_X9_nearest_L14 (64) (a0) (a1))
def fk_X9_nearest (a0 : Int64) (a1 : Int64) : Prop :=
  ((((lg_cmp (a0) ((0 : Int64))) = (0 : Int32)) → (True)) ∧ (¬ ((lg_cmp (a0) ((0 : Int64))) = (0 : Int32)) → (fk_X9_nearest_L14 (64) (a0) (a1)))) ∧ True
set_option linter.constructorNameAsVariable false in
set_option maxHeartbeats 4000000 in
set_option maxRecDepth 100000 in
theorem mt_X9_nearest (l : Launch) (a0 : Int64) (a1 : Int64) (hk : fk_X9_nearest a0 a1) : Met l my_X9_nearest (.code my_X9_nearest prog_10_method_1_code 15 (some .long) :: ky_B) { frames := 0, cells := 0, slots := 0, locals := 0 } (ky_P0 [.long (a0), .long (a1)]) (ky_Q0 (some (.long (fn_X9_nearest a0 a1)))) 0 0 (fun _ => False) := by
  refine ky_start0 (by decide) (Nat.le_of_ble_eq_true rfl) (fun p e s m below meth c F ls hl => ?_)
  obtain ⟨hx, hb, hml, hown, hr, hlocks, hts⟩ := id F
  have hl : lv_has ls 15 [(0, .long (a0)), (2, .long (a1))] := hl
  have hw : fn_X9_nearest a0 a1 = _ := fn_X9_nearest.eq_1 a0 a1
  have hk : (((lg_cmp (a0) ((0 : Int64))) = (0 : Int32)) → (True)) ∧ (¬ ((lg_cmp (a0) ((0 : Int64))) = (0 : Int32)) → (fk_X9_nearest_L14 (64) (a0) (a1))) := hk.1
  refine lv_lload_n hx hb dc_X9_nearest_0 rfl (lv_at hl 0 rfl) ?_
  refine lv_lconst (v := 0) hx hb dc_X9_nearest_1 (by decide) ?_
  refine W.lcmp hx hb dc_X9_nearest_2 ?_
  refine lv_if_ne (tgt := 8) hx hb dc_X9_nearest_3 (by decide) (fun c_0 => ?_) (fun c_0 => ?_)
  · have hw := hw.trans (if_neg c_0)
    have hk := hk.2 c_0
    refine lv_lload_n hx hb dc_X9_nearest_8 rfl (lv_at hl 0 rfl) ?_
    refine lv_lstore (lv' := [(4, .long (a0)), (0, .long (a0)), (2, .long (a1))]) hx hb dc_X9_nearest_9 hl (by decide) rfl (fun ls hl => ?_)
    refine lv_lload_n hx hb dc_X9_nearest_11 rfl (lv_at hl 2 rfl) ?_
    refine lv_lstore (lv' := [(6, .long (a1)), (4, .long (a0)), (0, .long (a0)), (2, .long (a1))]) hx hb dc_X9_nearest_12 hl (by decide) rfl (fun ls hl => ?_)
    rw [hw]
    exact ml_X9_nearest_L14 F (64) (a0) (a1) hk _ (lv_sub hl [1, 0] rfl)
  · have hw := hw.trans (if_pos c_0)
    have hk := hk.1 c_0
    refine lv_lconst (v := 0) hx hb dc_X9_nearest_6 (by decide) ?_
    exact W.lret hx hb hr (fun t ht hW => ⟨congrArg (fun z => Outcome.returned (some (Value.long z))) hw.symm, ht⟩) ky_nil dc_X9_nearest_7
def fn_X9_one (a0 : Int32) : Int32 :=
  if (a0) = (0 : Int32) then ((0 : Int32)) else ((1 : Int32))
set_option linter.constructorNameAsVariable false in
set_option maxHeartbeats 4000000 in
set_option maxRecDepth 100000 in
theorem mt_X9_one (l : Launch) (a0 : Int32) : Met l my_X9_one (.code my_X9_one prog_10_method_2_code 1 (some .int) :: ky_B) { frames := 0, cells := 0, slots := 0, locals := 0 } (ky_P0 [.int (a0)]) (ky_Q0 (some (.int (fn_X9_one a0)))) 0 0 (fun _ => False) := by
  refine ky_start0 (by decide) (Nat.le_of_ble_eq_true rfl) (fun p e s m below meth c F ls hl => ?_)
  obtain ⟨hx, hb, hml, hown, hr, hlocks, hts⟩ := id F
  have hl : lv_has ls 1 [(0, .int (a0))] := hl
  have hw : fn_X9_one a0 = _ := fn_X9_one.eq_1 a0
  refine lv_iload_n hx hb dc_X9_one_0 rfl (lv_at hl 0 rfl) ?_
  refine lv_if_eq (tgt := 8) hx hb dc_X9_one_1 (by decide) (fun c_0 => ?_) (fun c_0 => ?_)
  · have hw := hw.trans (if_pos c_0)
    refine lv_iconst (v := 0) hx hb dc_X9_one_8 (by decide) ?_
    exact W.iret hx hb hr (fun t ht hW => ⟨congrArg (fun z => Outcome.returned (some (Value.int z))) hw.symm, ht⟩) ky_nil dc_X9_one_9
  · have hw := hw.trans (if_neg c_0)
    refine lv_iconst (v := 1) hx hb dc_X9_one_4 (by decide) ?_
    refine lv_goto (tgt := 9) hx hb dc_X9_one_5 (by decide) ?_
    exact W.iret hx hb hr (fun t ht hW => ⟨congrArg (fun z => Outcome.returned (some (Value.int z))) hw.symm, ht⟩) ky_nil dc_X9_one_9
def fn_X9_signOf (a0 : Int64) : Int32 :=
  if (0 : Int32) ≤ (lg_cmp (a0) ((0 : Int64))) then (if (lg_cmp (a0) ((0 : Int64))) ≤ (0 : Int32) then ((0 : Int32)) else ((1 : Int32))) else ((-1 : Int32))
set_option linter.constructorNameAsVariable false in
set_option maxHeartbeats 4000000 in
set_option maxRecDepth 100000 in
theorem mt_X9_signOf (l : Launch) (a0 : Int64) : Met l my_X9_signOf (.code my_X9_signOf prog_10_method_3_code 2 (some .int) :: ky_B) { frames := 0, cells := 0, slots := 0, locals := 0 } (ky_P0 [.long (a0)]) (ky_Q0 (some (.int (fn_X9_signOf a0)))) 0 0 (fun _ => False) := by
  refine ky_start0 (by decide) (Nat.le_of_ble_eq_true rfl) (fun p e s m below meth c F ls hl => ?_)
  obtain ⟨hx, hb, hml, hown, hr, hlocks, hts⟩ := id F
  have hl : lv_has ls 2 [(0, .long (a0))] := hl
  have hw : fn_X9_signOf a0 = _ := fn_X9_signOf.eq_1 a0
  refine lv_lload_n hx hb dc_X9_signOf_0 rfl (lv_at hl 0 rfl) ?_
  refine lv_lconst (v := 0) hx hb dc_X9_signOf_1 (by decide) ?_
  refine W.lcmp hx hb dc_X9_signOf_2 ?_
  refine lv_if_ge (tgt := 10) hx hb dc_X9_signOf_3 (by decide) (fun c_0 => ?_) (fun c_0 => ?_)
  · have hw := hw.trans (if_pos c_0)
    refine lv_lload_n hx hb dc_X9_signOf_10 rfl (lv_at hl 0 rfl) ?_
    refine lv_lconst (v := 0) hx hb dc_X9_signOf_11 (by decide) ?_
    refine W.lcmp hx hb dc_X9_signOf_12 ?_
    refine lv_if_le (tgt := 20) hx hb dc_X9_signOf_13 (by decide) (fun c_1 => ?_) (fun c_1 => ?_)
    · have hw := hw.trans (if_pos c_1)
      refine lv_iconst (v := 0) hx hb dc_X9_signOf_20 (by decide) ?_
      exact W.iret hx hb hr (fun t ht hW => ⟨congrArg (fun z => Outcome.returned (some (Value.int z))) hw.symm, ht⟩) ky_nil dc_X9_signOf_21
    · have hw := hw.trans (if_neg c_1)
      refine lv_iconst (v := 1) hx hb dc_X9_signOf_16 (by decide) ?_
      refine lv_goto (tgt := 21) hx hb dc_X9_signOf_17 (by decide) ?_
      exact W.iret hx hb hr (fun t ht hW => ⟨congrArg (fun z => Outcome.returned (some (Value.int z))) hw.symm, ht⟩) ky_nil dc_X9_signOf_21
  · have hw := hw.trans (if_neg c_0)
    refine lv_iconst (v := (-1)) hx hb dc_X9_signOf_6 (by decide) ?_
    refine lv_goto (tgt := 21) hx hb dc_X9_signOf_7 (by decide) ?_
    exact W.iret hx hb hr (fun t ht hW => ⟨congrArg (fun z => Outcome.returned (some (Value.int z))) hw.symm, ht⟩) ky_nil dc_X9_signOf_21
def fn_X9_compared (a0 : Int64) (a1 : Int64) : Int32 :=
  if (0 : Int32) ≤ (lg_cmp (a0) (a1)) then (if (lg_cmp (a0) (a1)) ≤ (0 : Int32) then ((0 : Int32)) else ((1 : Int32))) else ((-1 : Int32))
set_option linter.constructorNameAsVariable false in
set_option maxHeartbeats 4000000 in
set_option maxRecDepth 100000 in
theorem mt_X9_compared (l : Launch) (a0 : Int64) (a1 : Int64) : Met l my_X9_compared (.code my_X9_compared prog_10_method_4_code 4 (some .int) :: ky_B) { frames := 0, cells := 0, slots := 0, locals := 0 } (ky_P0 [.long (a0), .long (a1)]) (ky_Q0 (some (.int (fn_X9_compared a0 a1)))) 0 0 (fun _ => False) := by
  refine ky_start0 (by decide) (Nat.le_of_ble_eq_true rfl) (fun p e s m below meth c F ls hl => ?_)
  obtain ⟨hx, hb, hml, hown, hr, hlocks, hts⟩ := id F
  have hl : lv_has ls 4 [(0, .long (a0)), (2, .long (a1))] := hl
  have hw : fn_X9_compared a0 a1 = _ := fn_X9_compared.eq_1 a0 a1
  refine lv_lload_n hx hb dc_X9_compared_0 rfl (lv_at hl 0 rfl) ?_
  refine lv_lload_n hx hb dc_X9_compared_1 rfl (lv_at hl 1 rfl) ?_
  refine W.lcmp hx hb dc_X9_compared_2 ?_
  refine lv_if_ge (tgt := 10) hx hb dc_X9_compared_3 (by decide) (fun c_0 => ?_) (fun c_0 => ?_)
  · have hw := hw.trans (if_pos c_0)
    refine lv_lload_n hx hb dc_X9_compared_10 rfl (lv_at hl 0 rfl) ?_
    refine lv_lload_n hx hb dc_X9_compared_11 rfl (lv_at hl 1 rfl) ?_
    refine W.lcmp hx hb dc_X9_compared_12 ?_
    refine lv_if_le (tgt := 20) hx hb dc_X9_compared_13 (by decide) (fun c_1 => ?_) (fun c_1 => ?_)
    · have hw := hw.trans (if_pos c_1)
      refine lv_iconst (v := 0) hx hb dc_X9_compared_20 (by decide) ?_
      exact W.iret hx hb hr (fun t ht hW => ⟨congrArg (fun z => Outcome.returned (some (Value.int z))) hw.symm, ht⟩) ky_nil dc_X9_compared_21
    · have hw := hw.trans (if_neg c_1)
      refine lv_iconst (v := 1) hx hb dc_X9_compared_16 (by decide) ?_
      refine lv_goto (tgt := 21) hx hb dc_X9_compared_17 (by decide) ?_
      exact W.iret hx hb hr (fun t ht hW => ⟨congrArg (fun z => Outcome.returned (some (Value.int z))) hw.symm, ht⟩) ky_nil dc_X9_compared_21
  · have hw := hw.trans (if_neg c_0)
    refine lv_iconst (v := (-1)) hx hb dc_X9_compared_6 (by decide) ?_
    refine lv_goto (tgt := 21) hx hb dc_X9_compared_7 (by decide) ?_
    exact W.iret hx hb hr (fun t ht hW => ⟨congrArg (fun z => Outcome.returned (some (Value.int z))) hw.symm, ht⟩) ky_nil dc_X9_compared_21
def fn_X9_isOf (a0 : Int32) (a1 : Int32) (a2 : Int32) : Int32 :=
  if (a0) < (a1) then ((0 : Int32)) else (if (a2) < (a0) then ((0 : Int32)) else ((1 : Int32)))
set_option linter.constructorNameAsVariable false in
set_option maxHeartbeats 4000000 in
set_option maxRecDepth 100000 in
theorem mt_X9_isOf (l : Launch) (a0 : Int32) (a1 : Int32) (a2 : Int32) : Met l my_X9_isOf (.code my_X9_isOf prog_10_method_5_code 3 (some .boolean) :: ky_B) { frames := 0, cells := 0, slots := 0, locals := 0 } (ky_P0 [.int (a0), .int (a1), .int (a2)]) (ky_Q0 (some (.int (fn_X9_isOf a0 a1 a2)))) 0 0 (fun _ => False) := by
  refine ky_start0 (by decide) (Nat.le_of_ble_eq_true rfl) (fun p e s m below meth c F ls hl => ?_)
  obtain ⟨hx, hb, hml, hown, hr, hlocks, hts⟩ := id F
  have hl : lv_has ls 3 [(0, .int (a0)), (1, .int (a1)), (2, .int (a2))] := hl
  have hw : fn_X9_isOf a0 a1 a2 = _ := fn_X9_isOf.eq_1 a0 a1 a2
  refine lv_iload_n hx hb dc_X9_isOf_0 rfl (lv_at hl 0 rfl) ?_
  refine lv_iload_n hx hb dc_X9_isOf_1 rfl (lv_at hl 1 rfl) ?_
  refine lv_icmp_lt (tgt := 14) hx hb dc_X9_isOf_2 (by decide) (fun c_0 => ?_) (fun c_0 => ?_)
  · have hw := hw.trans (if_pos c_0)
    refine lv_iconst (v := 0) hx hb dc_X9_isOf_14 (by decide) ?_
    exact W.zret hx hb hr (by decide) (fun t ht hW => ⟨congrArg (fun z => Outcome.returned (some (Value.int z))) hw.symm, ht⟩) ky_nil dc_X9_isOf_15
  · have hw := hw.trans (if_neg c_0)
    refine lv_iload_n hx hb dc_X9_isOf_5 rfl (lv_at hl 0 rfl) ?_
    refine lv_iload_n hx hb dc_X9_isOf_6 rfl (lv_at hl 2 rfl) ?_
    refine lv_icmp_gt (tgt := 14) hx hb dc_X9_isOf_7 (by decide) (fun c_1 => ?_) (fun c_1 => ?_)
    · have hw := hw.trans (if_pos c_1)
      refine lv_iconst (v := 0) hx hb dc_X9_isOf_14 (by decide) ?_
      exact W.zret hx hb hr (by decide) (fun t ht hW => ⟨congrArg (fun z => Outcome.returned (some (Value.int z))) hw.symm, ht⟩) ky_nil dc_X9_isOf_15
    · have hw := hw.trans (if_neg c_1)
      refine lv_iconst (v := 1) hx hb dc_X9_isOf_10 (by decide) ?_
      refine lv_goto (tgt := 15) hx hb dc_X9_isOf_11 (by decide) ?_
      exact W.zret hx hb hr (by decide) (fun t ht hW => ⟨congrArg (fun z => Outcome.returned (some (Value.int z))) hw.symm, ht⟩) ky_nil dc_X9_isOf_15
theorem fz_X9_isOf (a0 : Int32) (a1 : Int32) (a2 : Int32) : fn_X9_isOf a0 a1 a2 = 0 ∨ fn_X9_isOf a0 a1 a2 = 1 := by
  unfold fn_X9_isOf
  repeat' split
  all_goals first | exact Or.inl rfl | exact Or.inr rfl
def fn_X9_isNo (a0 : Int32) : Int32 :=
  if (fn_X9_isOf (a0) ((0 : Int32)) ((5 : Int32))) = (0 : Int32) then ((1 : Int32)) else ((0 : Int32))
set_option linter.constructorNameAsVariable false in
set_option maxHeartbeats 4000000 in
set_option maxRecDepth 100000 in
theorem mt_X9_isNo (l : Launch) (a0 : Int32) : Met l my_X9_isNo (.code my_X9_isNo prog_10_method_10_code 1 (some .boolean) :: ky_B) { frames := 1, cells := 0, slots := 0, locals := 22 } (ky_P0 [.int (a0)]) (ky_Q0 (some (.int (fn_X9_isNo a0)))) 0 0 (fun _ => False) := by
  refine ky_start0 (by decide) (Nat.le_of_ble_eq_true rfl) (fun p e s m below meth c F ls hl => ?_)
  obtain ⟨hx, hb, hml, hown, hr, hlocks, hts⟩ := id F
  have hl : lv_has ls 1 [(0, .int (a0))] := hl
  have hw : fn_X9_isNo a0 = _ := fn_X9_isNo.eq_1 a0
  refine lv_iload_n hx hb dc_X9_isNo_0 rfl (lv_at hl 0 rfl) ?_
  refine lv_iconst (v := 0) hx hb dc_X9_isNo_1 (by decide) ?_
  refine lv_iconst (v := 5) hx hb dc_X9_isNo_2 (by decide) ?_
  refine ky_cS0 (As := [.int (a0), .int ((0 : Int32)), .int ((5 : Int32))]) F (mt_X9_isOf l (a0) ((0 : Int32)) ((5 : Int32))) ks_X9_40 ⟨⟨rfl, rfl⟩, by decide, by decide⟩ rfl hl.1 rfl (Nat.le_of_ble_eq_true rfl) ⟨Nat.zero_le _, Nat.zero_le _⟩ dc_X9_isNo_3 ?_
  refine lv_if_ne (tgt := 13) hx hb dc_X9_isNo_6 (by decide) (fun c_0 => ?_) (fun c_0 => ?_)
  · have hw := hw.trans (if_neg c_0)
    refine lv_iconst (v := 0) hx hb dc_X9_isNo_13 (by decide) ?_
    exact W.zret hx hb hr (by decide) (fun t ht hW => ⟨congrArg (fun z => Outcome.returned (some (Value.int z))) hw.symm, ht⟩) ky_nil dc_X9_isNo_14
  · have hw := hw.trans (if_pos c_0)
    refine lv_iconst (v := 1) hx hb dc_X9_isNo_9 (by decide) ?_
    refine lv_goto (tgt := 14) hx hb dc_X9_isNo_10 (by decide) ?_
    exact W.zret hx hb hr (by decide) (fun t ht hW => ⟨congrArg (fun z => Outcome.returned (some (Value.int z))) hw.symm, ht⟩) ky_nil dc_X9_isNo_14
theorem fz_X9_isNo (a0 : Int32) : fn_X9_isNo a0 = 0 ∨ fn_X9_isNo a0 = 1 := by
  unfold fn_X9_isNo
  repeat' split
  all_goals first | exact Or.inl rfl | exact Or.inr rfl
def fn_X9_add (a0 : Int64) (a1 : Int64) : Int64 :=
  ((a0) * ((31 : Int64))) + (a1)
set_option linter.constructorNameAsVariable false in
set_option maxHeartbeats 4000000 in
set_option maxRecDepth 100000 in
theorem mt_X9_add (l : Launch) (a0 : Int64) (a1 : Int64) : Met l my_X9_add (.code my_X9_add prog_10_method_78_code 4 (some .long) :: ky_B) { frames := 0, cells := 0, slots := 0, locals := 0 } (ky_P0 [.long (a0), .long (a1)]) (ky_Q0 (some (.long (fn_X9_add a0 a1)))) 0 0 (fun _ => False) := by
  refine ky_start0 (by decide) (Nat.le_of_ble_eq_true rfl) (fun p e s m below meth c F ls hl => ?_)
  obtain ⟨hx, hb, hml, hown, hr, hlocks, hts⟩ := id F
  have hl : lv_has ls 4 [(0, .long (a0)), (2, .long (a1))] := hl
  have hw : fn_X9_add a0 a1 = _ := fn_X9_add.eq_1 a0 a1
  refine lv_lload_n hx hb dc_X9_add_0 rfl (lv_at hl 0 rfl) ?_
  refine lv_ldc2 (v := 31) hx hb hown (hts _ kw_8_34) dc_X9_add_1 ?_
  refine lv_lmul hx hb dc_X9_add_4 ?_
  refine lv_lload_n hx hb dc_X9_add_5 rfl (lv_at hl 1 rfl) ?_
  refine lv_ladd hx hb dc_X9_add_6 ?_
  exact W.lret hx hb hr (fun t ht hW => ⟨congrArg (fun z => Outcome.returned (some (Value.long z))) hw.symm, ht⟩) ky_nil dc_X9_add_7
end
section
theorem ky_atS {L : List Cond} (h : L.all (fun w => decide (w ∈ lw_tbl)) = true) (h2 : L.all (fun w => goodWord w || ky_far w) = true) : ∀ w ∈ L, w ∈ lw_tbl ∧ (goodWord w || ky_far w) = true := fun w hw => ⟨of_decide_eq_true (List.all_eq_true.mp h w hw), List.all_eq_true.mp h2 w hw⟩
def ky_subT : List Cond := [(Jvm.Cond.initialized "java/lang/Throwable"), (Jvm.Cond.initialized "java/lang/Exception"), (Jvm.Cond.initialized "java/lang/RuntimeException"), (Jvm.Cond.initialized "java/lang/IndexOutOfBoundsException"), (Jvm.Cond.initialized "java/lang/IllegalArgumentException"), (Jvm.Cond.methodLink "Exactdoubles" (1 : Nat) ({ cls := "java/lang/Object", name := "<init>", desc := "()V" } : Jvm.MethodName)), (Jvm.Cond.instanceMethod ({ cls := "java/lang/Object", name := "<init>", desc := "()V" } : Jvm.MethodName)), (Jvm.Cond.code ({ cls := "java/lang/Object", name := "<init>", desc := "()V" } : Jvm.MethodName) object_method_1_code (1 : Nat) (Option.none : Option Jvm.ClassFile.FieldType)), (Jvm.Cond.methodLink "Exactdoubles$Scribe" (1 : Nat) ({ cls := "java/lang/Object", name := "<init>", desc := "()V" } : Jvm.MethodName)), (Jvm.Cond.methodLink "java/lang/AbstractStringBuilder" (3 : Nat) ({ cls := "java/lang/Object", name := "<init>", desc := "()V" } : Jvm.MethodName)), (Jvm.Cond.methodLink "Exactdoubles$Proof" (3 : Nat) ({ cls := "java/lang/Object", name := "<init>", desc := "()V" } : Jvm.MethodName)), (Jvm.Cond.methodLink "java/lang/String" (1 : Nat) ({ cls := "java/lang/Object", name := "<init>", desc := "()V" } : Jvm.MethodName)), (Jvm.Cond.classLink "java/util/Arrays" (43 : Nat) "java/lang/IllegalArgumentException"), (Jvm.Cond.instantiable "java/lang/IllegalArgumentException" (6 : Nat)), (Jvm.Cond.castable "java/lang/IllegalArgumentException" "java/lang/IllegalArgumentException"), (Jvm.Cond.declares ({ cls := "java/lang/RuntimeException", name := "<init>", desc := "()V" } : Jvm.MethodName)), (Jvm.Cond.declares ({ cls := "java/lang/RuntimeException", name := "<init>", desc := "(Ljava/lang/String;)V" } : Jvm.MethodName)), (Jvm.Cond.declares ({ cls := "java/lang/Exception", name := "<init>", desc := "()V" } : Jvm.MethodName)), (Jvm.Cond.declares ({ cls := "java/lang/Exception", name := "<init>", desc := "(Ljava/lang/String;)V" } : Jvm.MethodName)), (Jvm.Cond.declares ({ cls := "java/lang/Throwable", name := "<init>", desc := "()V" } : Jvm.MethodName)), (Jvm.Cond.declares ({ cls := "java/lang/Throwable", name := "<init>", desc := "(Ljava/lang/String;)V" } : Jvm.MethodName)), (Jvm.Cond.selects "java/lang/IllegalArgumentException" ({ cls := "java/lang/Throwable", name := "fillInStackTrace", desc := "(I)Ljava/lang/Throwable;" } : Jvm.MethodName) ({ cls := "java/lang/Throwable", name := "fillInStackTrace", desc := "(I)Ljava/lang/Throwable;" } : Jvm.MethodName)), (Jvm.Cond.selects "java/lang/IllegalArgumentException" ({ cls := "java/lang/Throwable", name := "fillInStackTrace", desc := "()Ljava/lang/Throwable;" } : Jvm.MethodName) ({ cls := "java/lang/Throwable", name := "fillInStackTrace", desc := "()Ljava/lang/Throwable;" } : Jvm.MethodName)), (Jvm.Cond.lays "java/lang/IllegalArgumentException" "java/lang/Throwable" "cause" "Ljava/lang/Throwable;"), (Jvm.Cond.lays "java/lang/Throwable" "java/lang/Throwable" "cause" "Ljava/lang/Throwable;"), (Jvm.Cond.lays "java/lang/IllegalArgumentException" "java/lang/Throwable" "stackTrace" "[Ljava/lang/StackTraceElement;"), (Jvm.Cond.lays "java/lang/Throwable" "java/lang/Throwable" "stackTrace" "[Ljava/lang/StackTraceElement;"), (Jvm.Cond.lays "java/lang/IllegalArgumentException" "java/lang/Throwable" "suppressedExceptions" "Ljava/util/List;"), (Jvm.Cond.lays "java/lang/Throwable" "java/lang/Throwable" "suppressedExceptions" "Ljava/util/List;"), (Jvm.Cond.lays "java/lang/IllegalArgumentException" "java/lang/Throwable" "detailMessage" "Ljava/lang/String;"), (Jvm.Cond.lays "java/lang/Throwable" "java/lang/Throwable" "detailMessage" "Ljava/lang/String;"), (Jvm.Cond.lays "java/lang/IllegalArgumentException" "java/lang/Throwable" "backtrace" "Ljava/lang/Object;"), (Jvm.Cond.lays "java/lang/Throwable" "java/lang/Throwable" "backtrace" "Ljava/lang/Object;"), (Jvm.Cond.fieldLink "java/lang/Throwable" (198 : Nat) "java/lang/Throwable" "backtrace" "Ljava/lang/Object;"), (Jvm.Cond.superclass "java/lang/Throwable" "java/lang/Object"), (Jvm.Cond.instanceMethod ({ cls := "java/lang/Throwable", name := "<init>", desc := "()V" } : Jvm.MethodName)), (Jvm.Cond.code ({ cls := "java/lang/Throwable", name := "<init>", desc := "()V" } : Jvm.MethodName) prog_28_method_1_code (1 : Nat) (Option.none : Option Jvm.ClassFile.FieldType)), (Jvm.Cond.methodLink "java/lang/Throwable" (1 : Nat) ({ cls := "java/lang/Object", name := "<init>", desc := "()V" } : Jvm.MethodName)), (Jvm.Cond.fieldLink "java/lang/Throwable" (13 : Nat) "java/lang/Throwable" "UNASSIGNED_STACK" "[Ljava/lang/StackTraceElement;"), (Jvm.Cond.laysStatic "java/lang/Throwable" "UNASSIGNED_STACK" "[Ljava/lang/StackTraceElement;"), (Jvm.Cond.fieldLink "java/lang/Throwable" (20 : Nat) "java/lang/Throwable" "SUPPRESSED_SENTINEL" "Ljava/util/List;"), (Jvm.Cond.laysStatic "java/lang/Throwable" "SUPPRESSED_SENTINEL" "Ljava/util/List;"), (Jvm.Cond.methodLink "java/lang/Throwable" (27 : Nat) ({ cls := "java/lang/Throwable", name := "fillInStackTrace", desc := "()Ljava/lang/Throwable;" } : Jvm.MethodName)), (Jvm.Cond.instanceMethod ({ cls := "java/lang/Throwable", name := "fillInStackTrace", desc := "()Ljava/lang/Throwable;" } : Jvm.MethodName)), (Jvm.Cond.sameMethod "java/lang/Throwable" "java/lang/Throwable" "fillInStackTrace" "()Ljava/lang/Throwable;"), (Jvm.Cond.selects "java/lang/ArrayIndexOutOfBoundsException" ({ cls := "java/lang/Throwable", name := "fillInStackTrace", desc := "()Ljava/lang/Throwable;" } : Jvm.MethodName) ({ cls := "java/lang/Throwable", name := "fillInStackTrace", desc := "()Ljava/lang/Throwable;" } : Jvm.MethodName)), (Jvm.Cond.selects "java/lang/IndexOutOfBoundsException" ({ cls := "java/lang/Throwable", name := "fillInStackTrace", desc := "()Ljava/lang/Throwable;" } : Jvm.MethodName) ({ cls := "java/lang/Throwable", name := "fillInStackTrace", desc := "()Ljava/lang/Throwable;" } : Jvm.MethodName)), (Jvm.Cond.selects "java/lang/StringIndexOutOfBoundsException" ({ cls := "java/lang/Throwable", name := "fillInStackTrace", desc := "()Ljava/lang/Throwable;" } : Jvm.MethodName) ({ cls := "java/lang/Throwable", name := "fillInStackTrace", desc := "()Ljava/lang/Throwable;" } : Jvm.MethodName)), (Jvm.Cond.codeSync ({ cls := "java/lang/Throwable", name := "fillInStackTrace", desc := "()Ljava/lang/Throwable;" } : Jvm.MethodName) prog_28_method_18_code (1 : Nat) (Option.some (Jvm.ClassFile.FieldType.object "java/lang/Throwable"))), (Jvm.Cond.methodLink "java/lang/Throwable" (202 : Nat) ({ cls := "java/lang/Throwable", name := "fillInStackTrace", desc := "(I)Ljava/lang/Throwable;" } : Jvm.MethodName)), (Jvm.Cond.privateMethod ({ cls := "java/lang/Throwable", name := "fillInStackTrace", desc := "(I)Ljava/lang/Throwable;" } : Jvm.MethodName)), (Jvm.Cond.instanceMethod ({ cls := "java/lang/Throwable", name := "fillInStackTrace", desc := "(I)Ljava/lang/Throwable;" } : Jvm.MethodName)), (Jvm.Cond.instantiable "java/lang/Throwable" (6 : Nat)), (Jvm.Cond.native ({ cls := "java/lang/Throwable", name := "fillInStackTrace", desc := "(I)Ljava/lang/Throwable;" } : Jvm.MethodName)), (Jvm.Cond.methodLink "java/util/Arrays" (65 : Nat) ({ cls := "java/lang/IllegalArgumentException", name := "<init>", desc := "(Ljava/lang/String;)V" } : Jvm.MethodName)), (Jvm.Cond.instanceMethod ({ cls := "java/lang/IllegalArgumentException", name := "<init>", desc := "(Ljava/lang/String;)V" } : Jvm.MethodName)), (Jvm.Cond.code ({ cls := "java/lang/IllegalArgumentException", name := "<init>", desc := "(Ljava/lang/String;)V" } : Jvm.MethodName) prog_16_method_2_code (2 : Nat) (Option.none : Option Jvm.ClassFile.FieldType)), (Jvm.Cond.methodLink "java/lang/IllegalArgumentException" (7 : Nat) ({ cls := "java/lang/RuntimeException", name := "<init>", desc := "(Ljava/lang/String;)V" } : Jvm.MethodName)), (Jvm.Cond.instanceMethod ({ cls := "java/lang/RuntimeException", name := "<init>", desc := "(Ljava/lang/String;)V" } : Jvm.MethodName)), (Jvm.Cond.code ({ cls := "java/lang/RuntimeException", name := "<init>", desc := "(Ljava/lang/String;)V" } : Jvm.MethodName) prog_21_method_2_code (2 : Nat) (Option.none : Option Jvm.ClassFile.FieldType)), (Jvm.Cond.methodLink "java/lang/RuntimeException" (7 : Nat) ({ cls := "java/lang/Exception", name := "<init>", desc := "(Ljava/lang/String;)V" } : Jvm.MethodName)), (Jvm.Cond.instanceMethod ({ cls := "java/lang/Exception", name := "<init>", desc := "(Ljava/lang/String;)V" } : Jvm.MethodName)), (Jvm.Cond.code ({ cls := "java/lang/Exception", name := "<init>", desc := "(Ljava/lang/String;)V" } : Jvm.MethodName) prog_15_method_2_code (2 : Nat) (Option.none : Option Jvm.ClassFile.FieldType)), (Jvm.Cond.methodLink "java/lang/Exception" (7 : Nat) ({ cls := "java/lang/Throwable", name := "<init>", desc := "(Ljava/lang/String;)V" } : Jvm.MethodName)), (Jvm.Cond.instanceMethod ({ cls := "java/lang/Throwable", name := "<init>", desc := "(Ljava/lang/String;)V" } : Jvm.MethodName)), (Jvm.Cond.code ({ cls := "java/lang/Throwable", name := "<init>", desc := "(Ljava/lang/String;)V" } : Jvm.MethodName) prog_28_method_2_code (2 : Nat) (Option.none : Option Jvm.ClassFile.FieldType)), (Jvm.Cond.fieldLink "java/lang/Throwable" (31 : Nat) "java/lang/Throwable" "detailMessage" "Ljava/lang/String;"), (Jvm.Cond.fieldLink "java/lang/Throwable" (7 : Nat) "java/lang/Throwable" "cause" "Ljava/lang/Throwable;"), (Jvm.Cond.fieldLink "java/lang/Throwable" (17 : Nat) "java/lang/Throwable" "stackTrace" "[Ljava/lang/StackTraceElement;"), (Jvm.Cond.fieldLink "java/lang/Throwable" (24 : Nat) "java/lang/Throwable" "suppressedExceptions" "Ljava/util/List;"), (Jvm.Cond.soleField "java/lang/Throwable" "backtrace"), (Jvm.Cond.soleField "java/lang/Throwable" "detailMessage"), (Jvm.Cond.soleField "java/lang/Throwable" "cause"), (Jvm.Cond.soleField "java/lang/Throwable" "stackTrace"), (Jvm.Cond.lays "java/lang/IllegalArgumentException" "java/lang/Throwable" "depth" "I"), (Jvm.Cond.soleField "java/lang/Throwable" "depth"), (Jvm.Cond.soleField "java/lang/Throwable" "suppressedExceptions"), (Jvm.Cond.superclass "java/lang/IllegalArgumentException" "java/lang/RuntimeException"), (Jvm.Cond.methodLink "java/lang/StringIndexOutOfBoundsException" (7 : Nat) ({ cls := "java/lang/IndexOutOfBoundsException", name := "<init>", desc := "(Ljava/lang/String;)V" } : Jvm.MethodName)), (Jvm.Cond.instanceMethod ({ cls := "java/lang/IndexOutOfBoundsException", name := "<init>", desc := "(Ljava/lang/String;)V" } : Jvm.MethodName)), (Jvm.Cond.code ({ cls := "java/lang/IndexOutOfBoundsException", name := "<init>", desc := "(Ljava/lang/String;)V" } : Jvm.MethodName) prog_17_method_2_code (2 : Nat) (Option.none : Option Jvm.ClassFile.FieldType)), (Jvm.Cond.methodLink "java/lang/IndexOutOfBoundsException" (7 : Nat) ({ cls := "java/lang/RuntimeException", name := "<init>", desc := "(Ljava/lang/String;)V" } : Jvm.MethodName)), (Jvm.Cond.lays "java/lang/StringIndexOutOfBoundsException" "java/lang/Throwable" "backtrace" "Ljava/lang/Object;"), (Jvm.Cond.lays "java/lang/StringIndexOutOfBoundsException" "java/lang/Throwable" "detailMessage" "Ljava/lang/String;"), (Jvm.Cond.lays "java/lang/StringIndexOutOfBoundsException" "java/lang/Throwable" "cause" "Ljava/lang/Throwable;"), (Jvm.Cond.lays "java/lang/StringIndexOutOfBoundsException" "java/lang/Throwable" "stackTrace" "[Ljava/lang/StackTraceElement;"), (Jvm.Cond.lays "java/lang/StringIndexOutOfBoundsException" "java/lang/Throwable" "depth" "I"), (Jvm.Cond.lays "java/lang/StringIndexOutOfBoundsException" "java/lang/Throwable" "suppressedExceptions" "Ljava/util/List;"), (Jvm.Cond.superclass "java/lang/StringIndexOutOfBoundsException" "java/lang/IndexOutOfBoundsException"), (Jvm.Cond.declares ({ cls := "java/lang/IndexOutOfBoundsException", name := "<init>", desc := "()V" } : Jvm.MethodName)), (Jvm.Cond.declares ({ cls := "java/lang/IndexOutOfBoundsException", name := "<init>", desc := "(Ljava/lang/String;)V" } : Jvm.MethodName)), (Jvm.Cond.selects "java/lang/ArrayIndexOutOfBoundsException" ({ cls := "java/lang/Throwable", name := "fillInStackTrace", desc := "(I)Ljava/lang/Throwable;" } : Jvm.MethodName) ({ cls := "java/lang/Throwable", name := "fillInStackTrace", desc := "(I)Ljava/lang/Throwable;" } : Jvm.MethodName)), (Jvm.Cond.lays "java/lang/ArrayIndexOutOfBoundsException" "java/lang/Throwable" "cause" "Ljava/lang/Throwable;"), (Jvm.Cond.lays "java/lang/ArrayIndexOutOfBoundsException" "java/lang/Throwable" "stackTrace" "[Ljava/lang/StackTraceElement;"), (Jvm.Cond.lays "java/lang/ArrayIndexOutOfBoundsException" "java/lang/Throwable" "suppressedExceptions" "Ljava/util/List;"), (Jvm.Cond.lays "java/lang/ArrayIndexOutOfBoundsException" "java/lang/Throwable" "detailMessage" "Ljava/lang/String;"), (Jvm.Cond.lays "java/lang/ArrayIndexOutOfBoundsException" "java/lang/Throwable" "backtrace" "Ljava/lang/Object;"), (Jvm.Cond.methodLink "java/lang/ArrayIndexOutOfBoundsException" (7 : Nat) ({ cls := "java/lang/IndexOutOfBoundsException", name := "<init>", desc := "(Ljava/lang/String;)V" } : Jvm.MethodName)), (Jvm.Cond.lays "java/lang/ArrayIndexOutOfBoundsException" "java/lang/Throwable" "depth" "I"), (Jvm.Cond.superclass "java/lang/ArrayIndexOutOfBoundsException" "java/lang/IndexOutOfBoundsException"), (Jvm.Cond.methodLink "ExactdoublesLaw$Out" (1 : Nat) ({ cls := "java/lang/Object", name := "<init>", desc := "()V" } : Jvm.MethodName)), (Jvm.Cond.classLink "ExactdoublesLaw" (19 : Nat) "java/lang/IndexOutOfBoundsException"), (Jvm.Cond.classLink "Exactdoubles" (216 : Nat) "java/lang/IndexOutOfBoundsException"), (Jvm.Cond.instantiable "java/lang/IndexOutOfBoundsException" (6 : Nat)), (Jvm.Cond.castable "java/lang/IndexOutOfBoundsException" "java/lang/IndexOutOfBoundsException"), (Jvm.Cond.selects "java/lang/IndexOutOfBoundsException" ({ cls := "java/lang/Throwable", name := "fillInStackTrace", desc := "(I)Ljava/lang/Throwable;" } : Jvm.MethodName) ({ cls := "java/lang/Throwable", name := "fillInStackTrace", desc := "(I)Ljava/lang/Throwable;" } : Jvm.MethodName)), (Jvm.Cond.lays "java/lang/IndexOutOfBoundsException" "java/lang/Throwable" "cause" "Ljava/lang/Throwable;"), (Jvm.Cond.lays "java/lang/IndexOutOfBoundsException" "java/lang/Throwable" "stackTrace" "[Ljava/lang/StackTraceElement;"), (Jvm.Cond.lays "java/lang/IndexOutOfBoundsException" "java/lang/Throwable" "suppressedExceptions" "Ljava/util/List;"), (Jvm.Cond.lays "java/lang/IndexOutOfBoundsException" "java/lang/Throwable" "detailMessage" "Ljava/lang/String;"), (Jvm.Cond.lays "java/lang/IndexOutOfBoundsException" "java/lang/Throwable" "backtrace" "Ljava/lang/Object;"), (Jvm.Cond.methodLink "Exactdoubles" (220 : Nat) ({ cls := "java/lang/IndexOutOfBoundsException", name := "<init>", desc := "(Ljava/lang/String;)V" } : Jvm.MethodName)), (Jvm.Cond.lays "java/lang/IndexOutOfBoundsException" "java/lang/Throwable" "depth" "I"), (Jvm.Cond.superclass "java/lang/IndexOutOfBoundsException" "java/lang/RuntimeException"), (Jvm.Cond.classLink "ExactdoublesLaw" (32 : Nat) "java/lang/IllegalArgumentException"), (Jvm.Cond.classLink "Exactdoubles" (223 : Nat) "java/lang/IllegalArgumentException"), (Jvm.Cond.methodLink "Exactdoubles" (227 : Nat) ({ cls := "java/lang/IllegalArgumentException", name := "<init>", desc := "(Ljava/lang/String;)V" } : Jvm.MethodName)), (Jvm.Cond.methodLink "ExactdoublesModel" (17 : Nat) ({ cls := "java/lang/Object", name := "<init>", desc := "()V" } : Jvm.MethodName)), (Jvm.Cond.methodLink "ExactdoublesModel$Its" (3 : Nat) ({ cls := "java/lang/Object", name := "<init>", desc := "()V" } : Jvm.MethodName)), (Jvm.Cond.sameMethod "java/lang/Throwable" "java/lang/Throwable" "fillInStackTrace" "(I)Ljava/lang/Throwable;"), (Jvm.Cond.castable "java/lang/ArrayIndexOutOfBoundsException" "java/lang/IndexOutOfBoundsException"), (Jvm.Cond.castable "java/lang/StringIndexOutOfBoundsException" "java/lang/IndexOutOfBoundsException")]
set_option maxRecDepth 100000 in
theorem ky_subM : ∀ w ∈ ky_subT, w ∈ lw_tbl := (List.forall_mem_cons.mpr ⟨kc_1 _ (List.mem_of_getElem? (i := 11) rfl), (List.forall_mem_cons.mpr ⟨kc_1 _ (List.mem_of_getElem? (i := 12) rfl), (List.forall_mem_cons.mpr ⟨kc_1 _ (List.mem_of_getElem? (i := 13) rfl), (List.forall_mem_cons.mpr ⟨kc_1 _ (List.mem_of_getElem? (i := 14) rfl), (List.forall_mem_cons.mpr ⟨kc_1 _ (List.mem_of_getElem? (i := 18) rfl), (List.forall_mem_cons.mpr ⟨kc_1 _ (List.mem_of_getElem? (i := 35) rfl), (List.forall_mem_cons.mpr ⟨kc_1 _ (List.mem_of_getElem? (i := 36) rfl), (List.forall_mem_cons.mpr ⟨kc_1 _ (List.mem_of_getElem? (i := 37) rfl), (List.forall_mem_cons.mpr ⟨kc_1 _ (List.mem_of_getElem? (i := 43) rfl), (List.forall_mem_cons.mpr ⟨kc_1 _ (List.mem_of_getElem? (i := 52) rfl), (List.forall_mem_cons.mpr ⟨kc_1 _ (List.mem_of_getElem? (i := 91) rfl), (List.forall_mem_cons.mpr ⟨kc_2 _ (List.mem_of_getElem? (i := 79) rfl), (List.forall_mem_cons.mpr ⟨kc_2 _ (List.mem_of_getElem? (i := 103) rfl), (List.forall_mem_cons.mpr ⟨kc_2 _ (List.mem_of_getElem? (i := 104) rfl), (List.forall_mem_cons.mpr ⟨kc_2 _ (List.mem_of_getElem? (i := 105) rfl), (List.forall_mem_cons.mpr ⟨kc_2 _ (List.mem_of_getElem? (i := 106) rfl), (List.forall_mem_cons.mpr ⟨kc_2 _ (List.mem_of_getElem? (i := 107) rfl), (List.forall_mem_cons.mpr ⟨kc_2 _ (List.mem_of_getElem? (i := 108) rfl), (List.forall_mem_cons.mpr ⟨kc_2 _ (List.mem_of_getElem? (i := 109) rfl), (List.forall_mem_cons.mpr ⟨kc_2 _ (List.mem_of_getElem? (i := 110) rfl), (List.forall_mem_cons.mpr ⟨kc_2 _ (List.mem_of_getElem? (i := 111) rfl), (List.forall_mem_cons.mpr ⟨kc_2 _ (List.mem_of_getElem? (i := 112) rfl), (List.forall_mem_cons.mpr ⟨kc_2 _ (List.mem_of_getElem? (i := 113) rfl), (List.forall_mem_cons.mpr ⟨kc_2 _ (List.mem_of_getElem? (i := 114) rfl), (List.forall_mem_cons.mpr ⟨kc_2 _ (List.mem_of_getElem? (i := 115) rfl), (List.forall_mem_cons.mpr ⟨kc_2 _ (List.mem_of_getElem? (i := 116) rfl), (List.forall_mem_cons.mpr ⟨kc_2 _ (List.mem_of_getElem? (i := 117) rfl), (List.forall_mem_cons.mpr ⟨kc_2 _ (List.mem_of_getElem? (i := 118) rfl), (List.forall_mem_cons.mpr ⟨kc_2 _ (List.mem_of_getElem? (i := 119) rfl), (List.forall_mem_cons.mpr ⟨kc_2 _ (List.mem_of_getElem? (i := 120) rfl), (List.forall_mem_cons.mpr ⟨kc_2 _ (List.mem_of_getElem? (i := 121) rfl), (List.forall_mem_cons.mpr ⟨kc_2 _ (List.mem_of_getElem? (i := 122) rfl), (List.forall_mem_cons.mpr ⟨kc_2 _ (List.mem_of_getElem? (i := 123) rfl), (List.forall_mem_cons.mpr ⟨kc_2 _ (List.mem_of_getElem? (i := 124) rfl), (List.forall_mem_cons.mpr ⟨kc_2 _ (List.mem_of_getElem? (i := 125) rfl), (List.forall_mem_cons.mpr ⟨kc_2 _ (List.mem_of_getElem? (i := 126) rfl), (List.forall_mem_cons.mpr ⟨kc_2 _ (List.mem_of_getElem? (i := 127) rfl), (List.forall_mem_cons.mpr ⟨kc_2 _ (List.mem_of_getElem? (i := 128) rfl), (List.forall_mem_cons.mpr ⟨kc_2 _ (List.mem_of_getElem? (i := 129) rfl), (List.forall_mem_cons.mpr ⟨kc_2 _ (List.mem_of_getElem? (i := 130) rfl), (List.forall_mem_cons.mpr ⟨kc_2 _ (List.mem_of_getElem? (i := 131) rfl), (List.forall_mem_cons.mpr ⟨kc_2 _ (List.mem_of_getElem? (i := 132) rfl), (List.forall_mem_cons.mpr ⟨kc_2 _ (List.mem_of_getElem? (i := 133) rfl), (List.forall_mem_cons.mpr ⟨kc_2 _ (List.mem_of_getElem? (i := 134) rfl), (List.forall_mem_cons.mpr ⟨kc_2 _ (List.mem_of_getElem? (i := 135) rfl), (List.forall_mem_cons.mpr ⟨kc_2 _ (List.mem_of_getElem? (i := 136) rfl), (List.forall_mem_cons.mpr ⟨kc_2 _ (List.mem_of_getElem? (i := 137) rfl), (List.forall_mem_cons.mpr ⟨kc_2 _ (List.mem_of_getElem? (i := 138) rfl), (List.forall_mem_cons.mpr ⟨kc_2 _ (List.mem_of_getElem? (i := 139) rfl), (List.forall_mem_cons.mpr ⟨kc_2 _ (List.mem_of_getElem? (i := 140) rfl), (List.forall_mem_cons.mpr ⟨kc_2 _ (List.mem_of_getElem? (i := 141) rfl), (List.forall_mem_cons.mpr ⟨kc_2 _ (List.mem_of_getElem? (i := 142) rfl), (List.forall_mem_cons.mpr ⟨kc_2 _ (List.mem_of_getElem? (i := 143) rfl), (List.forall_mem_cons.mpr ⟨kc_2 _ (List.mem_of_getElem? (i := 144) rfl), (List.forall_mem_cons.mpr ⟨kc_2 _ (List.mem_of_getElem? (i := 151) rfl), (List.forall_mem_cons.mpr ⟨kc_2 _ (List.mem_of_getElem? (i := 152) rfl), (List.forall_mem_cons.mpr ⟨kc_2 _ (List.mem_of_getElem? (i := 153) rfl), (List.forall_mem_cons.mpr ⟨kc_2 _ (List.mem_of_getElem? (i := 154) rfl), (List.forall_mem_cons.mpr ⟨kc_2 _ (List.mem_of_getElem? (i := 155) rfl), (List.forall_mem_cons.mpr ⟨kc_2 _ (List.mem_of_getElem? (i := 156) rfl), (List.forall_mem_cons.mpr ⟨kc_2 _ (List.mem_of_getElem? (i := 157) rfl), (List.forall_mem_cons.mpr ⟨kc_2 _ (List.mem_of_getElem? (i := 158) rfl), (List.forall_mem_cons.mpr ⟨kc_2 _ (List.mem_of_getElem? (i := 159) rfl), (List.forall_mem_cons.mpr ⟨kc_2 _ (List.mem_of_getElem? (i := 160) rfl), (List.forall_mem_cons.mpr ⟨kc_2 _ (List.mem_of_getElem? (i := 161) rfl), (List.forall_mem_cons.mpr ⟨kc_2 _ (List.mem_of_getElem? (i := 162) rfl), (List.forall_mem_cons.mpr ⟨kc_2 _ (List.mem_of_getElem? (i := 164) rfl), (List.forall_mem_cons.mpr ⟨kc_2 _ (List.mem_of_getElem? (i := 165) rfl), (List.forall_mem_cons.mpr ⟨kc_2 _ (List.mem_of_getElem? (i := 166) rfl), (List.forall_mem_cons.mpr ⟨kc_2 _ (List.mem_of_getElem? (i := 167) rfl), (List.forall_mem_cons.mpr ⟨kc_2 _ (List.mem_of_getElem? (i := 168) rfl), (List.forall_mem_cons.mpr ⟨kc_2 _ (List.mem_of_getElem? (i := 169) rfl), (List.forall_mem_cons.mpr ⟨kc_2 _ (List.mem_of_getElem? (i := 170) rfl), (List.forall_mem_cons.mpr ⟨kc_2 _ (List.mem_of_getElem? (i := 171) rfl), (List.forall_mem_cons.mpr ⟨kc_2 _ (List.mem_of_getElem? (i := 172) rfl), (List.forall_mem_cons.mpr ⟨kc_2 _ (List.mem_of_getElem? (i := 173) rfl), (List.forall_mem_cons.mpr ⟨kc_2 _ (List.mem_of_getElem? (i := 174) rfl), (List.forall_mem_cons.mpr ⟨kc_2 _ (List.mem_of_getElem? (i := 175) rfl), (List.forall_mem_cons.mpr ⟨kc_2 _ (List.mem_of_getElem? (i := 200) rfl), (List.forall_mem_cons.mpr ⟨kc_2 _ (List.mem_of_getElem? (i := 201) rfl), (List.forall_mem_cons.mpr ⟨kc_2 _ (List.mem_of_getElem? (i := 202) rfl), (List.forall_mem_cons.mpr ⟨kc_2 _ (List.mem_of_getElem? (i := 203) rfl), (List.forall_mem_cons.mpr ⟨kc_2 _ (List.mem_of_getElem? (i := 204) rfl), (List.forall_mem_cons.mpr ⟨kc_2 _ (List.mem_of_getElem? (i := 205) rfl), (List.forall_mem_cons.mpr ⟨kc_2 _ (List.mem_of_getElem? (i := 206) rfl), (List.forall_mem_cons.mpr ⟨kc_2 _ (List.mem_of_getElem? (i := 207) rfl), (List.forall_mem_cons.mpr ⟨kc_2 _ (List.mem_of_getElem? (i := 208) rfl), (List.forall_mem_cons.mpr ⟨kc_2 _ (List.mem_of_getElem? (i := 209) rfl), (List.forall_mem_cons.mpr ⟨kc_2 _ (List.mem_of_getElem? (i := 210) rfl), (List.forall_mem_cons.mpr ⟨kc_2 _ (List.mem_of_getElem? (i := 226) rfl), (List.forall_mem_cons.mpr ⟨kc_2 _ (List.mem_of_getElem? (i := 227) rfl), (List.forall_mem_cons.mpr ⟨kc_2 _ (List.mem_of_getElem? (i := 228) rfl), (List.forall_mem_cons.mpr ⟨kc_2 _ (List.mem_of_getElem? (i := 229) rfl), (List.forall_mem_cons.mpr ⟨kc_2 _ (List.mem_of_getElem? (i := 230) rfl), (List.forall_mem_cons.mpr ⟨kc_2 _ (List.mem_of_getElem? (i := 231) rfl), (List.forall_mem_cons.mpr ⟨kc_2 _ (List.mem_of_getElem? (i := 232) rfl), (List.forall_mem_cons.mpr ⟨kc_2 _ (List.mem_of_getElem? (i := 233) rfl), (List.forall_mem_cons.mpr ⟨kc_3 _ (List.mem_of_getElem? (i := 3) rfl), (List.forall_mem_cons.mpr ⟨kc_3 _ (List.mem_of_getElem? (i := 4) rfl), (List.forall_mem_cons.mpr ⟨kc_3 _ (List.mem_of_getElem? (i := 5) rfl), (List.forall_mem_cons.mpr ⟨kc_4 _ (List.mem_of_getElem? (i := 71) rfl), (List.forall_mem_cons.mpr ⟨kc_4 _ (List.mem_of_getElem? (i := 82) rfl), (List.forall_mem_cons.mpr ⟨kc_4 _ (List.mem_of_getElem? (i := 90) rfl), (List.forall_mem_cons.mpr ⟨kc_4 _ (List.mem_of_getElem? (i := 91) rfl), (List.forall_mem_cons.mpr ⟨kc_4 _ (List.mem_of_getElem? (i := 92) rfl), (List.forall_mem_cons.mpr ⟨kc_4 _ (List.mem_of_getElem? (i := 93) rfl), (List.forall_mem_cons.mpr ⟨kc_4 _ (List.mem_of_getElem? (i := 94) rfl), (List.forall_mem_cons.mpr ⟨kc_4 _ (List.mem_of_getElem? (i := 95) rfl), (List.forall_mem_cons.mpr ⟨kc_4 _ (List.mem_of_getElem? (i := 96) rfl), (List.forall_mem_cons.mpr ⟨kc_4 _ (List.mem_of_getElem? (i := 97) rfl), (List.forall_mem_cons.mpr ⟨kc_4 _ (List.mem_of_getElem? (i := 98) rfl), (List.forall_mem_cons.mpr ⟨kc_4 _ (List.mem_of_getElem? (i := 100) rfl), (List.forall_mem_cons.mpr ⟨kc_4 _ (List.mem_of_getElem? (i := 101) rfl), (List.forall_mem_cons.mpr ⟨kc_4 _ (List.mem_of_getElem? (i := 102) rfl), (List.forall_mem_cons.mpr ⟨kc_4 _ (List.mem_of_getElem? (i := 132) rfl), (List.forall_mem_cons.mpr ⟨kc_4 _ (List.mem_of_getElem? (i := 140) rfl), (List.forall_mem_cons.mpr ⟨kc_4 _ (List.mem_of_getElem? (i := 142) rfl), (List.forall_mem_cons.mpr ⟨kc_6 _ (List.mem_of_getElem? (i := 2) rfl), (List.forall_mem_cons.mpr ⟨kc_6 _ (List.mem_of_getElem? (i := 9) rfl), (List.forall_mem_cons.mpr ⟨kc_8 _ (List.mem_of_getElem? (i := 48) rfl), (List.forall_mem_cons.mpr ⟨kc_8 _ (List.mem_of_getElem? (i := 52) rfl), (List.forall_mem_cons.mpr ⟨kc_8 _ (List.mem_of_getElem? (i := 53) rfl), (fun _ h => absurd h List.not_mem_nil)⟩)⟩)⟩)⟩)⟩)⟩)⟩)⟩)⟩)⟩)⟩)⟩)⟩)⟩)⟩)⟩)⟩)⟩)⟩)⟩)⟩)⟩)⟩)⟩)⟩)⟩)⟩)⟩)⟩)⟩)⟩)⟩)⟩)⟩)⟩)⟩)⟩)⟩)⟩)⟩)⟩)⟩)⟩)⟩)⟩)⟩)⟩)⟩)⟩)⟩)⟩)⟩)⟩)⟩)⟩)⟩)⟩)⟩)⟩)⟩)⟩)⟩)⟩)⟩)⟩)⟩)⟩)⟩)⟩)⟩)⟩)⟩)⟩)⟩)⟩)⟩)⟩)⟩)⟩)⟩)⟩)⟩)⟩)⟩)⟩)⟩)⟩)⟩)⟩)⟩)⟩)⟩)⟩)⟩)⟩)⟩)⟩)⟩)⟩)⟩)⟩)⟩)⟩)⟩)⟩)⟩)⟩)⟩)⟩)⟩)⟩)⟩)⟩)⟩)⟩)⟩)⟩)⟩)⟩)⟩)⟩)⟩)
theorem kt_220 : ∀ w ∈ vx_atS "Exactdoubles" 220 "java/lang/IndexOutOfBoundsException" ["java/lang/RuntimeException", "java/lang/Exception"], w ∈ lw_tbl ∧ (goodWord w || ky_far w) = true := by first | exact ky_atQ ky_subM (by decide +kernel) (by decide +kernel) | exact ky_atS (by decide +kernel) (by decide +kernel)
theorem kt_227 : ∀ w ∈ vx_atS "Exactdoubles" 227 "java/lang/IllegalArgumentException" ["java/lang/RuntimeException", "java/lang/Exception"], w ∈ lw_tbl ∧ (goodWord w || ky_far w) = true := by first | exact ky_atQ ky_subM (by decide +kernel) (by decide +kernel) | exact ky_atS (by decide +kernel) (by decide +kernel)
/-- what a board holds: its numbers, how many were given, refused, knocked -/
abbrev ky_BS : Type := (Nat → Int64) × Int32 × Int32 × Int32
abbrev ky_WB (G : ky_G) (x cs sc pf : Nat) (u : ky_BS) : va_W := [(x, .inr (0, [.ref cs, .ref sc, .ref pf, .int u.2.1, .int u.2.2.1, .int u.2.2.2])), (cs, .inl (G.2.1 2, 6, .inr (.inl u.1)))]
def fn_X6_requireCell (a0 : Int32) : Sum String (Unit × Unit) :=
  if (a0) < (0 : Int32) then (.inl "java/lang/IndexOutOfBoundsException") else (if (a0) < ((6 : Int32)) then (.inr ((), ())) else (.inl "java/lang/IndexOutOfBoundsException"))
set_option linter.constructorNameAsVariable false in
set_option maxHeartbeats 4000000 in
set_option maxRecDepth 100000 in
theorem mt_X6_requireCell (l : Launch) (hl9 : l.stackTraces = false) (G : ky_G)  (a0 : Int32) (sz : Nat)  : vx_Met l my_X6_requireCell (.code my_X6_requireCell prog_1_method_58_code 1 none :: ky_B) { frames := 6, cells := 1, slots := 6, locals := 82 } (ky_P G [.int (a0)] ([]) sz (fun _ => True)) (ky_Q (S := Unit) G (va_A ([]) sz) (fun v u9 => ∃ (r9 : Unit) (w9 : Unit), fn_X6_requireCell a0 = .inr (r9, w9) ∧ v = none ∧ u9 = w9) (fun _ => []) (fun _ _ => True)) (ky_X G (va_A ([]) sz) (fun E => fn_X6_requireCell a0 = .inl E) ([])) 1 6 (va_A ([]) sz) := by
  refine ky_startX (by decide) (Nat.le_of_ble_eq_true rfl) (fun p e s m below meth c F hno hE A hAe hsz hA hfr hP hD hS hX ls hl => ?_)
  obtain ⟨hx, hb, hml, hown, hr, hlocks, hts⟩ := id F
  have hl : lv_has ls 1 [(0, .int (a0))] := hl
  have hP : va_P G.1 kcl [] s.heap := hP
  have hD : va_D A [] := hD
  have hw : fn_X6_requireCell a0 = _ := fn_X6_requireCell.eq_1 a0
  refine lv_iload_n hx hb dc_X6_requireCell_0 rfl (lv_at hl 0 rfl) ?_
  refine lv_if_lt (tgt := 10) hx hb dc_X6_requireCell_1 (by decide) (fun c_0 => ?_) (fun c_0 => ?_)
  · have hw := hw.trans (if_pos c_0)
    have hP9 := hP.sub (ws' := []) [] rfl
    have hD9 := hD.sub (ws' := []) [] (by decide) rfl
    exact ky_throw F hno hl9 hE hfr (cls := "java/lang/IndexOutOfBoundsException") (text := "there is no such cell") (names := ["java/lang/RuntimeException", "java/lang/Exception"]) (by decide +kernel) (by decide +kernel) kw_4_90 kw_1_14 (kc_4 _ (List.mem_of_getElem? (i := 99) rfl)) (by decide +kernel) kt_220 hS hl.1 dc_X6_requireCell_10 dc_X6_requireCell_13 dc_X6_requireCell_14 dc_X6_requireCell_16 dc_X6_requireCell_19 (by decide) (Nat.le_of_ble_eq_true rfl) ⟨Nat.le_of_ble_eq_true rfl, Nat.le_of_ble_eq_true rfl⟩ ⟨Nat.le_of_ble_eq_true rfl, Nat.le_of_ble_eq_true rfl⟩ hP9 hD9 hw
  · have hw := hw.trans (if_neg c_0)
    refine lv_iload_n hx hb dc_X6_requireCell_4 rfl (lv_at hl 0 rfl) ?_
    refine lv_bipush (v := 6) hx hb dc_X6_requireCell_5 (by decide) ?_
    refine lv_icmp_lt (tgt := 20) hx hb dc_X6_requireCell_7 (by decide) (fun c_1 => ?_) (fun c_1 => ?_)
    · have hw := hw.trans (if_pos c_1)
      have hP9 := hP.sub (ws' := []) [] rfl
      have hD9 := hD.sub (ws' := []) [] (by decide) rfl
      refine W.widen (k := 1) (n := 6) (Nat.le_of_ble_eq_true rfl) (Nat.le_of_ble_eq_true rfl) ?_
      refine vx_ret ?_
      exact W.vret hx hb hr (fun t ht hW => ⟨⟨_, (), rfl, ⟨(), (), hw, rfl, rfl⟩, by rw [ht]; exact hP9, hD9, trivial⟩, hS.F ht⟩) hS.2.2 dc_X6_requireCell_20
    · have hw := hw.trans (if_neg c_1)
      have hP9 := hP.sub (ws' := []) [] rfl
      have hD9 := hD.sub (ws' := []) [] (by decide) rfl
      exact ky_throw F hno hl9 hE hfr (cls := "java/lang/IndexOutOfBoundsException") (text := "there is no such cell") (names := ["java/lang/RuntimeException", "java/lang/Exception"]) (by decide +kernel) (by decide +kernel) kw_4_90 kw_1_14 (kc_4 _ (List.mem_of_getElem? (i := 99) rfl)) (by decide +kernel) kt_220 hS hl.1 dc_X6_requireCell_10 dc_X6_requireCell_13 dc_X6_requireCell_14 dc_X6_requireCell_16 dc_X6_requireCell_19 (by decide) (Nat.le_of_ble_eq_true rfl) ⟨Nat.le_of_ble_eq_true rfl, Nat.le_of_ble_eq_true rfl⟩ ⟨Nat.le_of_ble_eq_true rfl, Nat.le_of_ble_eq_true rfl⟩ hP9 hD9 hw
theorem ky_in6 {a : Int32} (c1 : ¬ a < 0) (c2 : a < 6) : vp_in a 6 := by
  rw [Int32.lt_iff_toInt_lt] at c1 c2
  refine vp_in_iff.mpr ⟨?_, ?_⟩
  · have : (0 : Int32).toInt = 0 := rfl
    omega
  · have : (6 : Int32).toInt = 6 := rfl
    omega
theorem rq_cell {a : Int32} {z : Unit × Unit} (h : fn_X6_requireCell a = .inr z) : vp_in a 6 := by
  unfold fn_X6_requireCell at h
  split at h
  · cases h
  · rename_i c1
    split at h
    · rename_i c2
      exact ky_in6 c1 c2
    · cases h
def fn_X6_requireBoth (a0 : Int32) (a1 : Int32) : Sum String (Unit × Unit) :=
  ky_b (fn_X6_requireCell (a0)) (fun r_0 w_0 => ky_b (fn_X6_requireCell (a1)) (fun r_1 w_1 => .inr ((), ())))
set_option linter.constructorNameAsVariable false in
set_option maxHeartbeats 4000000 in
set_option maxRecDepth 100000 in
theorem mt_X6_requireBoth (l : Launch) (hl9 : l.stackTraces = false) (G : ky_G)  (a0 : Int32) (a1 : Int32) (sz : Nat)  : vx_Met l my_X6_requireBoth (.code my_X6_requireBoth prog_1_method_59_code 2 none :: ky_B) { frames := 7, cells := 2, slots := 12, locals := 102 } (ky_P G [.int (a0), .int (a1)] ([]) sz (fun _ => True)) (ky_Q (S := Unit) G (va_A ([]) sz) (fun v u9 => ∃ (r9 : Unit) (w9 : Unit), fn_X6_requireBoth a0 a1 = .inr (r9, w9) ∧ v = none ∧ u9 = w9) (fun _ => []) (fun _ _ => True)) (ky_X G (va_A ([]) sz) (fun E => fn_X6_requireBoth a0 a1 = .inl E) ([])) 2 12 (va_A ([]) sz) := by
  refine ky_startX (by decide) (Nat.le_of_ble_eq_true rfl) (fun p e s m below meth c F hno hE A hAe hsz hA hfr hP hD hS hX ls hl => ?_)
  obtain ⟨hx, hb, hml, hown, hr, hlocks, hts⟩ := id F
  have hl : lv_has ls 2 [(0, .int (a0)), (1, .int (a1))] := hl
  have hP : va_P G.1 kcl [] s.heap := hP
  have hD : va_D A [] := hD
  have hw : fn_X6_requireBoth a0 a1 = _ := fn_X6_requireBoth.eq_1 a0 a1
  refine lv_iload_n hx hb dc_X6_requireBoth_0 rfl (lv_at hl 0 rfl) ?_
  refine ky_cSx (As := [.int (a0)]) (wr := []) F (hE.at hfr hS) hfr (mt_X6_requireCell l hl9 G  (a0) s.heap.size ) ks_X6_27 ⟨⟨rfl, rfl⟩, by decide, by decide⟩ rfl hl.1 rfl (Nat.le_of_ble_eq_true rfl) ⟨Nat.le_of_ble_eq_true rfl, Nat.le_of_ble_eq_true rfl⟩ trivial hP hD hS hA [] [] rfl rfl (by decide) (by decide) (by decide) dc_X6_requireBoth_1 ?_ ?_
  · intro E ce q9 H locs hp hP hD hS hz hk9 hc1 hc2 hc3
    have hP9 := hP.sub (ws' := []) [] rfl
    have hD9 := hD.sub (ws' := []) [] (by decide) rfl
    exact vx_out (fun x h => (hno x h).elim) hlocks hc1 hc2 hc3 (fun t ht hW => ⟨hw.trans (ky_bl hp), by rw [ht]; exact hP9, hD9, hS.F ht⟩) hS.2.2 (Nat.le_of_ble_eq_true rfl) (Nat.le_of_ble_eq_true rfl)
  · rintro v9 u9 H locs ⟨r_0, w_0, hf_0, rfl, rfl⟩ hP hD hS - hz hk9
    have hw := hw.trans (ky_br hf_0)
    have hP : va_P G.1 kcl [] H := hP
    have hD : va_D A [] := hD
    refine W.widen (k := 1) (n := 6) (Nat.le_refl _) (Nat.le_refl _) ?_
    refine lv_iload_n hx hb dc_X6_requireBoth_4 rfl (lv_at hl 1 rfl) ?_
    refine ky_cSx (As := [.int (a1)]) (wr := []) F (hE.at hfr hS) hfr (mt_X6_requireCell l hl9 G  (a1) H.size ) ks_X6_27 ⟨⟨rfl, rfl⟩, by decide, by decide⟩ rfl hl.1 rfl (Nat.le_of_ble_eq_true rfl) ⟨Nat.le_of_ble_eq_true rfl, Nat.le_of_ble_eq_true rfl⟩ trivial hP hD hS hA [] [] rfl rfl (by decide) (by decide) (by decide) dc_X6_requireBoth_5 ?_ ?_
    · intro E ce q9 H locs hp hP hD hS hz hk9 hc1 hc2 hc3
      have hP9 := hP.sub (ws' := []) [] rfl
      have hD9 := hD.sub (ws' := []) [] (by decide) rfl
      exact vx_out (fun x h => (hno x h).elim) hlocks hc1 hc2 hc3 (fun t ht hW => ⟨hw.trans (ky_bl hp), by rw [ht]; exact hP9, hD9, hS.F ht⟩) hS.2.2 (Nat.le_of_ble_eq_true rfl) (Nat.le_of_ble_eq_true rfl)
    · rintro v9 u9 H locs ⟨r_1, w_1, hf_1, rfl, rfl⟩ hP hD hS - hz hk9
      have hw := hw.trans (ky_br hf_1)
      have hP : va_P G.1 kcl [] H := hP
      have hD : va_D A [] := hD
      refine W.widen (k := 2) (n := 12) (Nat.le_refl _) (Nat.le_refl _) ?_
      have hP9 := hP.sub (ws' := []) [] rfl
      have hD9 := hD.sub (ws' := []) [] (by decide) rfl
      refine W.widen (k := 2) (n := 12) (Nat.le_of_ble_eq_true rfl) (Nat.le_of_ble_eq_true rfl) ?_
      refine vx_ret ?_
      exact W.vret hx hb hr (fun t ht hW => ⟨⟨_, (), rfl, ⟨(), (), hw, rfl, rfl⟩, by rw [ht]; exact hP9, hD9, trivial⟩, hS.F ht⟩) hS.2.2 dc_X6_requireBoth_8
theorem rq_both {a b : Int32} {z : Unit × Unit} (h : fn_X6_requireBoth a b = .inr z) : vp_in a 6 ∧ vp_in b 6 := by
  unfold fn_X6_requireBoth at h
  cases h1 : fn_X6_requireCell a with
  | inl e => rw [h1] at h; cases h
  | inr z1 =>
    rw [h1] at h
    cases h2 : fn_X6_requireCell b with
    | inl e => simp [ky_b, h2] at h
    | inr z2 => exact ⟨rq_cell h1, rq_cell h2⟩
def fn_X6_requireWithin (a0 : Int32) (a1 : Int32) (a2 : Int32) : Sum String (Unit × Unit) :=
  if (a0) < (a1) then (.inl "java/lang/IllegalArgumentException") else (if (a0) ≤ (a2) then (.inr ((), ())) else (.inl "java/lang/IllegalArgumentException"))
set_option linter.constructorNameAsVariable false in
set_option maxHeartbeats 4000000 in
set_option maxRecDepth 100000 in
theorem mt_X6_requireWithin (l : Launch) (hl9 : l.stackTraces = false) (G : ky_G)  (a0 : Int32) (a1 : Int32) (a2 : Int32) (sz : Nat)  : vx_Met l my_X6_requireWithin (.code my_X6_requireWithin prog_1_method_60_code 3 none :: ky_B) { frames := 6, cells := 1, slots := 6, locals := 82 } (ky_P G [.int (a0), .int (a1), .int (a2)] ([]) sz (fun _ => True)) (ky_Q (S := Unit) G (va_A ([]) sz) (fun v u9 => ∃ (r9 : Unit) (w9 : Unit), fn_X6_requireWithin a0 a1 a2 = .inr (r9, w9) ∧ v = none ∧ u9 = w9) (fun _ => []) (fun _ _ => True)) (ky_X G (va_A ([]) sz) (fun E => fn_X6_requireWithin a0 a1 a2 = .inl E) ([])) 1 6 (va_A ([]) sz) := by
  refine ky_startX (by decide) (Nat.le_of_ble_eq_true rfl) (fun p e s m below meth c F hno hE A hAe hsz hA hfr hP hD hS hX ls hl => ?_)
  obtain ⟨hx, hb, hml, hown, hr, hlocks, hts⟩ := id F
  have hl : lv_has ls 3 [(0, .int (a0)), (1, .int (a1)), (2, .int (a2))] := hl
  have hP : va_P G.1 kcl [] s.heap := hP
  have hD : va_D A [] := hD
  have hw : fn_X6_requireWithin a0 a1 a2 = _ := fn_X6_requireWithin.eq_1 a0 a1 a2
  refine lv_iload_n hx hb dc_X6_requireWithin_0 rfl (lv_at hl 0 rfl) ?_
  refine lv_iload_n hx hb dc_X6_requireWithin_1 rfl (lv_at hl 1 rfl) ?_
  refine lv_icmp_lt (tgt := 10) hx hb dc_X6_requireWithin_2 (by decide) (fun c_0 => ?_) (fun c_0 => ?_)
  · have hw := hw.trans (if_pos c_0)
    have hP9 := hP.sub (ws' := []) [] rfl
    have hD9 := hD.sub (ws' := []) [] (by decide) rfl
    exact ky_throw F hno hl9 hE hfr (cls := "java/lang/IllegalArgumentException") (text := "a number is out of its bounds") (names := ["java/lang/RuntimeException", "java/lang/Exception"]) (by decide +kernel) (by decide +kernel) kw_4_140 kw_1_18 (kc_4 _ (List.mem_of_getElem? (i := 141) rfl)) (by decide +kernel) kt_227 hS hl.1 dc_X6_requireWithin_10 dc_X6_requireWithin_13 dc_X6_requireWithin_14 dc_X6_requireWithin_16 dc_X6_requireWithin_19 (by decide) (Nat.le_of_ble_eq_true rfl) ⟨Nat.le_of_ble_eq_true rfl, Nat.le_of_ble_eq_true rfl⟩ ⟨Nat.le_of_ble_eq_true rfl, Nat.le_of_ble_eq_true rfl⟩ hP9 hD9 hw
  · have hw := hw.trans (if_neg c_0)
    refine lv_iload_n hx hb dc_X6_requireWithin_5 rfl (lv_at hl 0 rfl) ?_
    refine lv_iload_n hx hb dc_X6_requireWithin_6 rfl (lv_at hl 2 rfl) ?_
    refine lv_icmp_le (tgt := 20) hx hb dc_X6_requireWithin_7 (by decide) (fun c_1 => ?_) (fun c_1 => ?_)
    · have hw := hw.trans (if_pos c_1)
      have hP9 := hP.sub (ws' := []) [] rfl
      have hD9 := hD.sub (ws' := []) [] (by decide) rfl
      refine W.widen (k := 1) (n := 6) (Nat.le_of_ble_eq_true rfl) (Nat.le_of_ble_eq_true rfl) ?_
      refine vx_ret ?_
      exact W.vret hx hb hr (fun t ht hW => ⟨⟨_, (), rfl, ⟨(), (), hw, rfl, rfl⟩, by rw [ht]; exact hP9, hD9, trivial⟩, hS.F ht⟩) hS.2.2 dc_X6_requireWithin_20
    · have hw := hw.trans (if_neg c_1)
      have hP9 := hP.sub (ws' := []) [] rfl
      have hD9 := hD.sub (ws' := []) [] (by decide) rfl
      exact ky_throw F hno hl9 hE hfr (cls := "java/lang/IllegalArgumentException") (text := "a number is out of its bounds") (names := ["java/lang/RuntimeException", "java/lang/Exception"]) (by decide +kernel) (by decide +kernel) kw_4_140 kw_1_18 (kc_4 _ (List.mem_of_getElem? (i := 141) rfl)) (by decide +kernel) kt_227 hS hl.1 dc_X6_requireWithin_10 dc_X6_requireWithin_13 dc_X6_requireWithin_14 dc_X6_requireWithin_16 dc_X6_requireWithin_19 (by decide) (Nat.le_of_ble_eq_true rfl) ⟨Nat.le_of_ble_eq_true rfl, Nat.le_of_ble_eq_true rfl⟩ ⟨Nat.le_of_ble_eq_true rfl, Nat.le_of_ble_eq_true rfl⟩ hP9 hD9 hw
theorem rq_within {a b c : Int32} {z : Unit × Unit} (h : fn_X6_requireWithin a b c = .inr z) : ¬ a < b ∧ a ≤ c := by
  unfold fn_X6_requireWithin at h
  split at h
  · cases h
  · rename_i c1
    split at h
    · rename_i c2
      exact ⟨c1, c2⟩
    · cases h
theorem rq_w12 {a : Int32} {z : Unit × Unit} (h : fn_X6_requireWithin a 0 (12 - 1) = .inr z) : vp_in a 12 := by
  obtain ⟨c1, c2⟩ := rq_within h
  rw [Int32.lt_iff_toInt_lt] at c1
  rw [Int32.le_iff_toInt_le] at c2
  refine vp_in_iff.mpr ⟨?_, ?_⟩
  · have : (0 : Int32).toInt = 0 := rfl
    omega
  · have : ((12 : Int32) - 1).toInt = 11 := by decide
    omega
end
