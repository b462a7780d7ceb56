def fn_X5_cutFrom (a0 : Int64) : Int64 :=
  if (fn_X0_powerIn (a0)) < ((11 : Int32)) then (if (fn_X0_powerIn (a0)) ≤ (0 : Int32) then (if (fn_X0_isDownOne (a0)) = (0 : Int32) then (jlushr (fn_X0_factorIn (a0)) (fn_X0_behindIn (a0))) else (-(jlushr (fn_X0_factorIn (a0)) (fn_X0_behindIn (a0))))) else (if (fn_X0_isDownOne (a0)) = (0 : Int32) then (jlshl (fn_X0_factorIn (a0)) (fn_X0_powerIn (a0))) else (-(jlshl (fn_X0_factorIn (a0)) (fn_X0_powerIn (a0)))))) else (if (fn_X0_isDownOne (a0)) = (0 : Int32) then ((9223372036854775807 : Int64)) else ((-9223372036854775808 : Int64)))
set_option linter.constructorNameAsVariable false in
set_option maxHeartbeats 4000000 in
set_option maxRecDepth 100000 in
theorem mt_X5_cutFrom (l : Launch) (a0 : Int64) : Met l my_X5_cutFrom (.code my_X5_cutFrom prog_7_method_2_code 7 (some .long) :: ky_B) { frames := 2, cells := 0, slots := 0, locals := 42 } (ky_P0 [.long (a0)]) (ky_Q0 (some (.long (fn_X5_cutFrom a0)))) 0 0 (fun _ => False) := by
  refine ky_start0 (by decide) (Nat.le_of_ble_eq_true rfl) (fun p e s m below meth c F ls hl => ?_)
  obtain ⟨hx, hb, hml, hown, hr, hlocks, hts⟩ := id F
  have hl : lv_has ls 7 [(0, .long (a0))] := hl
  have hw : fn_X5_cutFrom a0 = _ := fn_X5_cutFrom.eq_1 a0
  refine lv_lload_n hx hb dc_X5_cutFrom_0 rfl (lv_at hl 0 rfl) ?_
  refine ky_cS0 (As := [.long (a0)]) F (mt_X0_powerIn l (a0)) ks_X5_7 ⟨⟨rfl, rfl⟩, by decide, by decide⟩ rfl hl.1 rfl (Nat.le_of_ble_eq_true rfl) ⟨Nat.zero_le _, Nat.zero_le _⟩ dc_X5_cutFrom_1 ?_
  refine lv_istore_n (lv' := [(2, .int (fn_X0_powerIn (a0))), (0, .long (a0))]) hx hb dc_X5_cutFrom_4 rfl hl (by decide) rfl (fun ls hl => ?_)
  refine lv_iload_n hx hb dc_X5_cutFrom_5 rfl (lv_at hl 0 rfl) ?_
  refine lv_bipush (v := 11) hx hb dc_X5_cutFrom_6 (by decide) ?_
  refine lv_icmp_lt (tgt := 28) hx hb dc_X5_cutFrom_8 (by decide) (fun c_0 => ?_) (fun c_0 => ?_)
  · have hw := hw.trans (if_pos c_0)
    refine lv_lload_n hx hb dc_X5_cutFrom_28 rfl (lv_at hl 1 rfl) ?_
    refine ky_cS0 (As := [.long (a0)]) F (mt_X0_factorIn l (a0)) ks_X5_23 ⟨⟨rfl, rfl⟩, by decide, by decide⟩ rfl hl.1 rfl (Nat.le_of_ble_eq_true rfl) ⟨Nat.zero_le _, Nat.zero_le _⟩ dc_X5_cutFrom_29 ?_
    refine lv_lstore_n (lv' := [(3, .long (fn_X0_factorIn (a0))), (2, .int (fn_X0_powerIn (a0))), (0, .long (a0))]) hx hb dc_X5_cutFrom_32 rfl hl (by decide) rfl (fun ls hl => ?_)
    refine lv_iload_n hx hb dc_X5_cutFrom_33 rfl (lv_at hl 1 rfl) ?_
    refine lv_if_le (tgt := 43) hx hb dc_X5_cutFrom_34 (by decide) (fun c_1 => ?_) (fun c_1 => ?_)
    · have hw := hw.trans (if_pos c_1)
      refine lv_lload_n hx hb dc_X5_cutFrom_43 rfl (lv_at hl 0 rfl) ?_
      refine lv_lload_n hx hb dc_X5_cutFrom_44 rfl (lv_at hl 2 rfl) ?_
      refine ky_cS0 (As := [.long (a0)]) F (mt_X0_behindIn l (a0)) ks_X5_27 ⟨⟨rfl, rfl⟩, by decide, by decide⟩ rfl hl.1 rfl (Nat.le_of_ble_eq_true rfl) ⟨Nat.zero_le _, Nat.zero_le _⟩ dc_X5_cutFrom_45 ?_
      refine lv_lushr (v := jlushr (fn_X0_factorIn (a0)) (fn_X0_behindIn (a0))) hx hb dc_X5_cutFrom_48 rfl ?_
      refine lv_lstore (lv' := [(5, .long (jlushr (fn_X0_factorIn (a0)) (fn_X0_behindIn (a0)))), (3, .long (fn_X0_factorIn (a0))), (2, .int (fn_X0_powerIn (a0))), (0, .long (a0))]) hx hb dc_X5_cutFrom_49 hl (by decide) rfl (fun ls hl => ?_)
      refine lv_lload_n hx hb dc_X5_cutFrom_51 rfl (lv_at hl 3 rfl) ?_
      refine ky_cS0 (As := [.long (a0)]) F (mt_X0_isDownOne l (a0)) ks_X5_15 ⟨⟨rfl, rfl⟩, by decide, by decide⟩ rfl hl.1 rfl (Nat.le_of_ble_eq_true rfl) ⟨Nat.zero_le _, Nat.zero_le _⟩ dc_X5_cutFrom_52 ?_
      refine lv_if_eq (tgt := 64) hx hb dc_X5_cutFrom_55 (by decide) (fun c_2 => ?_) (fun c_2 => ?_)
      · have hw := hw.trans (if_pos c_2)
        refine lv_lload hx hb dc_X5_cutFrom_64 (lv_at hl 0 rfl) ?_
        exact W.lret hx hb hr (fun t ht hW => ⟨congrArg (fun z => Outcome.returned (some (Value.long z))) hw.symm, ht⟩) ky_nil dc_X5_cutFrom_66
      · have hw := hw.trans (if_neg c_2)
        refine lv_lload hx hb dc_X5_cutFrom_58 (lv_at hl 0 rfl) ?_
        refine lv_lneg hx hb dc_X5_cutFrom_60 ?_
        refine lv_goto (tgt := 66) hx hb dc_X5_cutFrom_61 (by decide) ?_
        exact W.lret hx hb hr (fun t ht hW => ⟨congrArg (fun z => Outcome.returned (some (Value.long z))) hw.symm, ht⟩) ky_nil dc_X5_cutFrom_66
    · have hw := hw.trans (if_neg c_1)
      refine lv_lload_n hx hb dc_X5_cutFrom_37 rfl (lv_at hl 0 rfl) ?_
      refine lv_iload_n hx hb dc_X5_cutFrom_38 rfl (lv_at hl 1 rfl) ?_
      refine lv_lshl (v := jlshl (fn_X0_factorIn (a0)) (fn_X0_powerIn (a0))) hx hb dc_X5_cutFrom_39 rfl ?_
      refine lv_goto (tgt := 49) hx hb dc_X5_cutFrom_40 (by decide) ?_
      refine lv_lstore (lv' := [(5, .long (jlshl (fn_X0_factorIn (a0)) (fn_X0_powerIn (a0)))), (3, .long (fn_X0_factorIn (a0))), (2, .int (fn_X0_powerIn (a0))), (0, .long (a0))]) hx hb dc_X5_cutFrom_49 hl (by decide) rfl (fun ls hl => ?_)
      refine lv_lload_n hx hb dc_X5_cutFrom_51 rfl (lv_at hl 3 rfl) ?_
      refine ky_cS0 (As := [.long (a0)]) F (mt_X0_isDownOne l (a0)) ks_X5_15 ⟨⟨rfl, rfl⟩, by decide, by decide⟩ rfl hl.1 rfl (Nat.le_of_ble_eq_true rfl) ⟨Nat.zero_le _, Nat.zero_le _⟩ dc_X5_cutFrom_52 ?_
      refine lv_if_eq (tgt := 64) hx hb dc_X5_cutFrom_55 (by decide) (fun c_2 => ?_) (fun c_2 => ?_)
      · have hw := hw.trans (if_pos c_2)
        refine lv_lload hx hb dc_X5_cutFrom_64 (lv_at hl 0 rfl) ?_
        exact W.lret hx hb hr (fun t ht hW => ⟨congrArg (fun z => Outcome.returned (some (Value.long z))) hw.symm, ht⟩) ky_nil dc_X5_cutFrom_66
      · have hw := hw.trans (if_neg c_2)
        refine lv_lload hx hb dc_X5_cutFrom_58 (lv_at hl 0 rfl) ?_
        refine lv_lneg hx hb dc_X5_cutFrom_60 ?_
        refine lv_goto (tgt := 66) hx hb dc_X5_cutFrom_61 (by decide) ?_
        exact W.lret hx hb hr (fun t ht hW => ⟨congrArg (fun z => Outcome.returned (some (Value.long z))) hw.symm, ht⟩) ky_nil dc_X5_cutFrom_66
  · have hw := hw.trans (if_neg c_0)
    refine lv_lload_n hx hb dc_X5_cutFrom_11 rfl (lv_at hl 1 rfl) ?_
    refine ky_cS0 (As := [.long (a0)]) F (mt_X0_isDownOne l (a0)) ks_X5_15 ⟨⟨rfl, rfl⟩, by decide, by decide⟩ rfl hl.1 rfl (Nat.le_of_ble_eq_true rfl) ⟨Nat.zero_le _, Nat.zero_le _⟩ dc_X5_cutFrom_12 ?_
    refine lv_if_eq (tgt := 24) hx hb dc_X5_cutFrom_15 (by decide) (fun c_1 => ?_) (fun c_1 => ?_)
    · have hw := hw.trans (if_pos c_1)
      refine lv_ldc2 (v := 9223372036854775807) hx hb hown (hts _ kw_3_201) dc_X5_cutFrom_24 ?_
      exact W.lret hx hb hr (fun t ht hW => ⟨congrArg (fun z => Outcome.returned (some (Value.long z))) hw.symm, ht⟩) ky_nil dc_X5_cutFrom_27
    · have hw := hw.trans (if_neg c_1)
      refine lv_ldc2 (v := (-9223372036854775808)) hx hb hown (hts _ kw_3_200) dc_X5_cutFrom_18 ?_
      refine lv_goto (tgt := 27) hx hb dc_X5_cutFrom_21 (by decide) ?_
      exact W.lret hx hb hr (fun t ht hW => ⟨congrArg (fun z => Outcome.returned (some (Value.long z))) hw.symm, ht⟩) ky_nil dc_X5_cutFrom_27
def fn_X5_roundFrom (a0 : Int64) : Int64 :=
  if (fn_X0_behindIn (a0)) = (0 : Int32) then (fn_X5_cutFrom (a0)) else (if (fn_X0_isDownOne (a0)) = (0 : Int32) then (if (lg_cmp (fn_X0_restIn (a0)) (jlshl ((1 : Int64)) ((fn_X0_behindIn (a0)) - ((1 : Int32))))) < (0 : Int32) then (fn_X5_cutFrom (a0)) else ((fn_X5_cutFrom (a0)) + ((1 : Int64)))) else (if (lg_cmp (fn_X0_restIn (a0)) (jlshl ((1 : Int64)) ((fn_X0_behindIn (a0)) - ((1 : Int32))))) ≤ (0 : Int32) then (fn_X5_cutFrom (a0)) else ((fn_X5_cutFrom (a0)) - ((1 : Int64)))))
set_option linter.constructorNameAsVariable false in
set_option maxHeartbeats 4000000 in
set_option maxRecDepth 100000 in
theorem mt_X5_roundFrom (l : Launch) (a0 : Int64) : Met l my_X5_roundFrom (.code my_X5_roundFrom prog_7_method_3_code 7 (some .long) :: ky_B) { frames := 3, cells := 0, slots := 0, locals := 68 } (ky_P0 [.long (a0)]) (ky_Q0 (some (.long (fn_X5_roundFrom a0)))) 0 0 (fun _ => False) := by
  refine ky_start0 (by decide) (Nat.le_of_ble_eq_true rfl) (fun p e s m below meth c F ls hl => ?_)
  obtain ⟨hx, hb, hml, hown, hr, hlocks, hts⟩ := id F
  have hl : lv_has ls 7 [(0, .long (a0))] := hl
  have hw : fn_X5_roundFrom a0 = _ := fn_X5_roundFrom.eq_1 a0
  refine lv_lload_n hx hb dc_X5_roundFrom_0 rfl (lv_at hl 0 rfl) ?_
  refine ky_cS0 (As := [.long (a0)]) F (mt_X0_behindIn l (a0)) ks_X5_27 ⟨⟨rfl, rfl⟩, by decide, by decide⟩ rfl hl.1 rfl (Nat.le_of_ble_eq_true rfl) ⟨Nat.zero_le _, Nat.zero_le _⟩ dc_X5_roundFrom_1 ?_
  refine lv_istore_n (lv' := [(2, .int (fn_X0_behindIn (a0))), (0, .long (a0))]) hx hb dc_X5_roundFrom_4 rfl hl (by decide) rfl (fun ls hl => ?_)
  refine lv_iload_n hx hb dc_X5_roundFrom_5 rfl (lv_at hl 0 rfl) ?_
  refine lv_if_ne (tgt := 14) hx hb dc_X5_roundFrom_6 (by decide) (fun c_0 => ?_) (fun c_0 => ?_)
  · have hw := hw.trans (if_neg c_0)
    refine lv_lload_n hx hb dc_X5_roundFrom_14 rfl (lv_at hl 1 rfl) ?_
    refine ky_cS0 (As := [.long (a0)]) F (mt_X0_restIn l (a0)) ks_X5_33 ⟨⟨rfl, rfl⟩, by decide, by decide⟩ rfl hl.1 rfl (Nat.le_of_ble_eq_true rfl) ⟨Nat.zero_le _, Nat.zero_le _⟩ dc_X5_roundFrom_15 ?_
    refine lv_lstore_n (lv' := [(3, .long (fn_X0_restIn (a0))), (2, .int (fn_X0_behindIn (a0))), (0, .long (a0))]) hx hb dc_X5_roundFrom_18 rfl hl (by decide) rfl (fun ls hl => ?_)
    refine lv_lconst (v := 1) hx hb dc_X5_roundFrom_19 (by decide) ?_
    refine lv_iload_n hx hb dc_X5_roundFrom_20 rfl (lv_at hl 1 rfl) ?_
    refine lv_iconst (v := 1) hx hb dc_X5_roundFrom_21 (by decide) ?_
    refine lv_isub hx hb dc_X5_roundFrom_22 ?_
    refine lv_lshl (v := jlshl ((1 : Int64)) ((fn_X0_behindIn (a0)) - ((1 : Int32)))) hx hb dc_X5_roundFrom_23 rfl ?_
    refine lv_lstore (lv' := [(5, .long (jlshl ((1 : Int64)) ((fn_X0_behindIn (a0)) - ((1 : Int32))))), (3, .long (fn_X0_restIn (a0))), (2, .int (fn_X0_behindIn (a0))), (0, .long (a0))]) hx hb dc_X5_roundFrom_24 hl (by decide) rfl (fun ls hl => ?_)
    refine lv_lload_n hx hb dc_X5_roundFrom_26 rfl (lv_at hl 3 rfl) ?_
    refine ky_cS0 (As := [.long (a0)]) F (mt_X0_isDownOne l (a0)) ks_X5_15 ⟨⟨rfl, rfl⟩, by decide, by decide⟩ rfl hl.1 rfl (Nat.le_of_ble_eq_true rfl) ⟨Nat.zero_le _, Nat.zero_le _⟩ dc_X5_roundFrom_27 ?_
    refine lv_if_eq (tgt := 54) hx hb dc_X5_roundFrom_30 (by decide) (fun c_1 => ?_) (fun c_1 => ?_)
    · have hw := hw.trans (if_pos c_1)
      refine lv_lload_n hx hb dc_X5_roundFrom_54 rfl (lv_at hl 1 rfl) ?_
      refine lv_lload hx hb dc_X5_roundFrom_55 (lv_at hl 0 rfl) ?_
      refine W.lcmp hx hb dc_X5_roundFrom_57 ?_
      refine lv_if_lt (tgt := 70) hx hb dc_X5_roundFrom_58 (by decide) (fun c_2 => ?_) (fun c_2 => ?_)
      · have hw := hw.trans (if_pos c_2)
        refine lv_lload_n hx hb dc_X5_roundFrom_70 rfl (lv_at hl 3 rfl) ?_
        refine ky_cS0 (As := [.long (a0)]) F (mt_X5_cutFrom l (a0)) ks_X5_30 ⟨⟨rfl, rfl⟩, by decide, by decide⟩ rfl hl.1 rfl (Nat.le_of_ble_eq_true rfl) ⟨Nat.zero_le _, Nat.zero_le _⟩ dc_X5_roundFrom_71 ?_
        exact W.lret hx hb hr (fun t ht hW => ⟨congrArg (fun z => Outcome.returned (some (Value.long z))) hw.symm, ht⟩) ky_nil dc_X5_roundFrom_74
      · have hw := hw.trans (if_neg c_2)
        refine lv_lload_n hx hb dc_X5_roundFrom_61 rfl (lv_at hl 3 rfl) ?_
        refine ky_cS0 (As := [.long (a0)]) F (mt_X5_cutFrom l (a0)) ks_X5_30 ⟨⟨rfl, rfl⟩, by decide, by decide⟩ rfl hl.1 rfl (Nat.le_of_ble_eq_true rfl) ⟨Nat.zero_le _, Nat.zero_le _⟩ dc_X5_roundFrom_62 ?_
        refine lv_lconst (v := 1) hx hb dc_X5_roundFrom_65 (by decide) ?_
        refine lv_ladd hx hb dc_X5_roundFrom_66 ?_
        refine lv_goto (tgt := 74) hx hb dc_X5_roundFrom_67 (by decide) ?_
        exact W.lret hx hb hr (fun t ht hW => ⟨congrArg (fun z => Outcome.returned (some (Value.long z))) hw.symm, ht⟩) ky_nil dc_X5_roundFrom_74
    · have hw := hw.trans (if_neg c_1)
      refine lv_lload_n hx hb dc_X5_roundFrom_33 rfl (lv_at hl 1 rfl) ?_
      refine lv_lload hx hb dc_X5_roundFrom_34 (lv_at hl 0 rfl) ?_
      refine W.lcmp hx hb dc_X5_roundFrom_36 ?_
      refine lv_if_le (tgt := 49) hx hb dc_X5_roundFrom_37 (by decide) (fun c_2 => ?_) (fun c_2 => ?_)
      · have hw := hw.trans (if_pos c_2)
        refine lv_lload_n hx hb dc_X5_roundFrom_49 rfl (lv_at hl 3 rfl) ?_
        refine ky_cS0 (As := [.long (a0)]) F (mt_X5_cutFrom l (a0)) ks_X5_30 ⟨⟨rfl, rfl⟩, by decide, by decide⟩ rfl hl.1 rfl (Nat.le_of_ble_eq_true rfl) ⟨Nat.zero_le _, Nat.zero_le _⟩ dc_X5_roundFrom_50 ?_
        exact W.lret hx hb hr (fun t ht hW => ⟨congrArg (fun z => Outcome.returned (some (Value.long z))) hw.symm, ht⟩) ky_nil dc_X5_roundFrom_53
      · have hw := hw.trans (if_neg c_2)
        refine lv_lload_n hx hb dc_X5_roundFrom_40 rfl (lv_at hl 3 rfl) ?_
        refine ky_cS0 (As := [.long (a0)]) F (mt_X5_cutFrom l (a0)) ks_X5_30 ⟨⟨rfl, rfl⟩, by decide, by decide⟩ rfl hl.1 rfl (Nat.le_of_ble_eq_true rfl) ⟨Nat.zero_le _, Nat.zero_le _⟩ dc_X5_roundFrom_41 ?_
        refine lv_lconst (v := 1) hx hb dc_X5_roundFrom_44 (by decide) ?_
        refine lv_lsub hx hb dc_X5_roundFrom_45 ?_
        refine lv_goto (tgt := 53) hx hb dc_X5_roundFrom_46 (by decide) ?_
        exact W.lret hx hb hr (fun t ht hW => ⟨congrArg (fun z => Outcome.returned (some (Value.long z))) hw.symm, ht⟩) ky_nil dc_X5_roundFrom_53
  · have hw := hw.trans (if_pos c_0)
    refine lv_lload_n hx hb dc_X5_roundFrom_9 rfl (lv_at hl 1 rfl) ?_
    refine ky_cS0 (As := [.long (a0)]) F (mt_X5_cutFrom l (a0)) ks_X5_30 ⟨⟨rfl, rfl⟩, by decide, by decide⟩ rfl hl.1 rfl (Nat.le_of_ble_eq_true rfl) ⟨Nat.zero_le _, Nat.zero_le _⟩ dc_X5_roundFrom_10 ?_
    exact W.lret hx hb hr (fun t ht hW => ⟨congrArg (fun z => Outcome.returned (some (Value.long z))) hw.symm, ht⟩) ky_nil dc_X5_roundFrom_13
def fn_X5_shortFrom (a0 : Int64) : Int32 :=
  (jlmax ((-2147483648 : Int64)) (jlmin ((2147483647 : Int64)) (fn_X5_cutFrom (a0)))).toInt32
set_option linter.constructorNameAsVariable false in
set_option maxHeartbeats 4000000 in
set_option maxRecDepth 100000 in
theorem mt_X5_shortFrom (l : Launch) (a0 : Int64) : Met l my_X5_shortFrom (.code my_X5_shortFrom prog_7_method_4_code 2 (some .int) :: ky_B) { frames := 3, cells := 0, slots := 0, locals := 68 } (ky_P0 [.long (a0)]) (ky_Q0 (some (.int (fn_X5_shortFrom a0)))) 0 0 (fun _ => False) := by
  refine ky_start0 (by decide) (Nat.le_of_ble_eq_true rfl) (fun p e s m below meth c F ls hl => ?_)
  obtain ⟨hx, hb, hml, hown, hr, hlocks, hts⟩ := id F
  have hl : lv_has ls 2 [(0, .long (a0))] := hl
  have hw : fn_X5_shortFrom a0 = _ := fn_X5_shortFrom.eq_1 a0
  refine lv_ldc2 (v := (-2147483648)) hx hb hown (hts _ kw_4_29) dc_X5_shortFrom_0 ?_
  refine lv_ldc2 (v := 2147483647) hx hb hown (hts _ kw_4_30) dc_X5_shortFrom_3 ?_
  refine lv_lload_n hx hb dc_X5_shortFrom_6 rfl (lv_at hl 0 rfl) ?_
  refine ky_cS0 (As := [.long (a0)]) F (mt_X5_cutFrom l (a0)) ks_X5_30 ⟨⟨rfl, rfl⟩, by decide, by decide⟩ rfl hl.1 rfl (Nat.le_of_ble_eq_true rfl) ⟨Nat.zero_le _, Nat.zero_le _⟩ dc_X5_shortFrom_7 ?_
  refine ky_lmin F ⟨kw_4_31, kw_4_32, kw_1_16, kw_4_33⟩ hl.1 (Nat.le_of_ble_eq_true rfl) (Nat.le_of_ble_eq_true rfl) ⟨Nat.zero_le _, Nat.zero_le _⟩ dc_X5_shortFrom_10 ?_
  refine ky_lmax F ⟨kw_4_34, kw_4_35, kw_1_16, kw_4_36⟩ hl.1 (Nat.le_of_ble_eq_true rfl) (Nat.le_of_ble_eq_true rfl) ⟨Nat.zero_le _, Nat.zero_le _⟩ dc_X5_shortFrom_13 ?_
  refine lv_l2i (v := (jlmax ((-2147483648 : Int64)) (jlmin ((2147483647 : Int64)) (fn_X5_cutFrom (a0)))).toInt32) hx hb dc_X5_shortFrom_16 rfl ?_
  exact W.iret hx hb hr (fun t ht hW => ⟨congrArg (fun z => Outcome.returned (some (Value.int z))) hw.symm, ht⟩) ky_nil dc_X5_shortFrom_17
