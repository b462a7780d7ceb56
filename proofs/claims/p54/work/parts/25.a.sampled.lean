def fn_X9_sampled (a0 : Int32) : Int64 :=
  if (a0) = 0 then ((1 : Int64)) else (if (a0) = 1 then ((4503599627370495 : Int64)) else (if (a0) = 2 then ((4503599627370496 : Int64)) else (if (a0) = 3 then ((9218868437227405311 : Int64)) else (if (a0) = 4 then (fn_X9_nearest ((9007199254740991 : Int64)) ((-53 : Int64))) else (if (a0) = 5 then (fn_X9_nearest ((9007199254740991 : Int64)) ((-54 : Int64))) else (if (a0) = 6 then (fn_X9_nearest ((9007199254740991 : Int64)) ((-1 : Int64))) else (if (a0) = 7 then (fn_X9_nearest ((9007199254740991 : Int64)) ((0 : Int64))) else (if (a0) = 8 then (fn_X9_nearest ((9007199254740991 : Int64)) ((10 : Int64))) else (if (a0) = 9 then (fn_X9_nearest ((4294967295 : Int64)) ((-1 : Int64))) else (if (a0) = 10 then (fn_X9_nearest ((5 : Int64)) ((-1 : Int64))) else (fn_X9_nearest ((4503599627370497 : Int64)) ((0 : Int64)))))))))))))
def fk_X9_sampled (a0 : Int32) : Prop :=
  ((((a0) = 0) → (True)) ∧ (¬ ((a0) = 0) → ((((a0) = 1) → (True)) ∧ (¬ ((a0) = 1) → ((((a0) = 2) → (True)) ∧ (¬ ((a0) = 2) → ((((a0) = 3) → (True)) ∧ (¬ ((a0) = 3) → ((((a0) = 4) → ((fk_X9_nearest ((9007199254740991 : Int64)) ((-53 : Int64))) ∧ (True))) ∧ (¬ ((a0) = 4) → ((((a0) = 5) → ((fk_X9_nearest ((9007199254740991 : Int64)) ((-54 : Int64))) ∧ (True))) ∧ (¬ ((a0) = 5) → ((((a0) = 6) → ((fk_X9_nearest ((9007199254740991 : Int64)) ((-1 : Int64))) ∧ (True))) ∧ (¬ ((a0) = 6) → ((((a0) = 7) → ((fk_X9_nearest ((9007199254740991 : Int64)) ((0 : Int64))) ∧ (True))) ∧ (¬ ((a0) = 7) → ((((a0) = 8) → ((fk_X9_nearest ((9007199254740991 : Int64)) ((10 : Int64))) ∧ (True))) ∧ (¬ ((a0) = 8) → ((((a0) = 9) → ((fk_X9_nearest ((4294967295 : Int64)) ((-1 : Int64))) ∧ (True))) ∧ (¬ ((a0) = 9) → ((((a0) = 10) → ((fk_X9_nearest ((5 : Int64)) ((-1 : Int64))) ∧ (True))) ∧ (¬ ((a0) = 10) → ((fk_X9_nearest ((4503599627370497 : Int64)) ((0 : Int64))) ∧ (True)))))))))))))))))))))))) ∧ True
set_option linter.constructorNameAsVariable false in
set_option maxHeartbeats 4000000 in
set_option maxRecDepth 100000 in
theorem mt_X9_sampled (l : Launch) (a0 : Int32) (hk : fk_X9_sampled a0) : Met l my_X9_sampled (.code my_X9_sampled prog_10_method_17_code 1 (some .long) :: ky_B) { frames := 1, cells := 0, slots := 0, locals := 34 } (ky_P0 [.int (a0)]) (ky_Q0 (some (.long (fn_X9_sampled a0)))) 0 0 (fun _ => False) := by
  refine ky_start0 (by decide) (Nat.le_of_ble_eq_true rfl) (fun p e s m below meth c F ls hl => ?_)
  obtain ⟨hx, hb, hml, hown, hr, hlocks, hts⟩ := id F
  have hl : lv_has ls 1 [(0, .int (a0))] := hl
  have hw : fn_X9_sampled a0 = _ := fn_X9_sampled.eq_1 a0
  have hk : (((a0) = 0) → (True)) ∧ (¬ ((a0) = 0) → ((((a0) = 1) → (True)) ∧ (¬ ((a0) = 1) → ((((a0) = 2) → (True)) ∧ (¬ ((a0) = 2) → ((((a0) = 3) → (True)) ∧ (¬ ((a0) = 3) → ((((a0) = 4) → ((fk_X9_nearest ((9007199254740991 : Int64)) ((-53 : Int64))) ∧ (True))) ∧ (¬ ((a0) = 4) → ((((a0) = 5) → ((fk_X9_nearest ((9007199254740991 : Int64)) ((-54 : Int64))) ∧ (True))) ∧ (¬ ((a0) = 5) → ((((a0) = 6) → ((fk_X9_nearest ((9007199254740991 : Int64)) ((-1 : Int64))) ∧ (True))) ∧ (¬ ((a0) = 6) → ((((a0) = 7) → ((fk_X9_nearest ((9007199254740991 : Int64)) ((0 : Int64))) ∧ (True))) ∧ (¬ ((a0) = 7) → ((((a0) = 8) → ((fk_X9_nearest ((9007199254740991 : Int64)) ((10 : Int64))) ∧ (True))) ∧ (¬ ((a0) = 8) → ((((a0) = 9) → ((fk_X9_nearest ((4294967295 : Int64)) ((-1 : Int64))) ∧ (True))) ∧ (¬ ((a0) = 9) → ((((a0) = 10) → ((fk_X9_nearest ((5 : Int64)) ((-1 : Int64))) ∧ (True))) ∧ (¬ ((a0) = 10) → ((fk_X9_nearest ((4503599627370497 : Int64)) ((0 : Int64))) ∧ (True))))))))))))))))))))))) := hk.1
  refine lv_iload_n hx hb dc_X9_sampled_0 rfl (lv_at hl 0 rfl) ?_
  by_cases c_0 : (a0) = 0
  · have hw := hw.trans (if_pos c_0)
    refine lv_tableIn (off := 59) (tgt := 60) hx hb dc_X9_sampled_1 (by rw [c_0]; decide) (by rw [c_0]; decide) (by rw [c_0]; rfl) (by decide) ?_
    have hk := hk.1 c_0
    refine lv_lconst (v := 1) hx hb dc_X9_sampled_60 (by decide) ?_
    exact W.lret hx hb hr (fun t ht hW => ⟨congrArg (fun z => Outcome.returned (some (Value.long z))) hw.symm, ht⟩) ky_nil dc_X9_sampled_61
  have hw := hw.trans (if_neg c_0)
  have hk := hk.2 c_0
  by_cases c_1 : (a0) = 1
  · have hw := hw.trans (if_pos c_1)
    refine lv_tableIn (off := 61) (tgt := 62) hx hb dc_X9_sampled_1 (by rw [c_1]; decide) (by rw [c_1]; decide) (by rw [c_1]; rfl) (by decide) ?_
    have hk := hk.1 c_1
    refine lv_ldc2 (v := 4503599627370495) hx hb hown (hts _ kw_6_131) dc_X9_sampled_62 ?_
    exact W.lret hx hb hr (fun t ht hW => ⟨congrArg (fun z => Outcome.returned (some (Value.long z))) hw.symm, ht⟩) ky_nil dc_X9_sampled_65
  have hw := hw.trans (if_neg c_1)
  have hk := hk.2 c_1
  by_cases c_2 : (a0) = 2
  · have hw := hw.trans (if_pos c_2)
    refine lv_tableIn (off := 65) (tgt := 66) hx hb dc_X9_sampled_1 (by rw [c_2]; decide) (by rw [c_2]; decide) (by rw [c_2]; rfl) (by decide) ?_
    have hk := hk.1 c_2
    refine lv_ldc2 (v := 4503599627370496) hx hb hown (hts _ kw_6_108) dc_X9_sampled_66 ?_
    exact W.lret hx hb hr (fun t ht hW => ⟨congrArg (fun z => Outcome.returned (some (Value.long z))) hw.symm, ht⟩) ky_nil dc_X9_sampled_69
  have hw := hw.trans (if_neg c_2)
  have hk := hk.2 c_2
  by_cases c_3 : (a0) = 3
  · have hw := hw.trans (if_pos c_3)
    refine lv_tableIn (off := 69) (tgt := 70) hx hb dc_X9_sampled_1 (by rw [c_3]; decide) (by rw [c_3]; decide) (by rw [c_3]; rfl) (by decide) ?_
    have hk := hk.1 c_3
    refine lv_ldc2 (v := 9218868437227405311) hx hb hown (hts _ kw_6_132) dc_X9_sampled_70 ?_
    exact W.lret hx hb hr (fun t ht hW => ⟨congrArg (fun z => Outcome.returned (some (Value.long z))) hw.symm, ht⟩) ky_nil dc_X9_sampled_73
  have hw := hw.trans (if_neg c_3)
  have hk := hk.2 c_3
  by_cases c_4 : (a0) = 4
  · have hw := hw.trans (if_pos c_4)
    refine lv_tableIn (off := 73) (tgt := 74) hx hb dc_X9_sampled_1 (by rw [c_4]; decide) (by rw [c_4]; decide) (by rw [c_4]; rfl) (by decide) ?_
    have hk := hk.1 c_4
    refine lv_ldc2 (v := 9007199254740991) hx hb hown (hts _ kw_6_133) dc_X9_sampled_74 ?_
    refine lv_ldc2 (v := (-53)) hx hb hown (hts _ kw_6_134) dc_X9_sampled_77 ?_
    obtain ⟨hq_5, hk⟩ := hk
    refine ky_cS0 (As := [.long ((9007199254740991 : Int64)), .long ((-53 : Int64))]) F (mt_X9_nearest l ((9007199254740991 : Int64)) ((-53 : Int64)) hq_5) ks_X9_69 ⟨⟨rfl, rfl⟩, by decide, by decide⟩ rfl hl.1 rfl (Nat.le_of_ble_eq_true rfl) ⟨Nat.zero_le _, Nat.zero_le _⟩ dc_X9_sampled_80 ?_
    exact W.lret hx hb hr (fun t ht hW => ⟨congrArg (fun z => Outcome.returned (some (Value.long z))) hw.symm, ht⟩) ky_nil dc_X9_sampled_83
  have hw := hw.trans (if_neg c_4)
  have hk := hk.2 c_4
  by_cases c_5 : (a0) = 5
  · have hw := hw.trans (if_pos c_5)
    refine lv_tableIn (off := 83) (tgt := 84) hx hb dc_X9_sampled_1 (by rw [c_5]; decide) (by rw [c_5]; decide) (by rw [c_5]; rfl) (by decide) ?_
    have hk := hk.1 c_5
    refine lv_ldc2 (v := 9007199254740991) hx hb hown (hts _ kw_6_133) dc_X9_sampled_84 ?_
    refine lv_ldc2 (v := (-54)) hx hb hown (hts _ kw_6_135) dc_X9_sampled_87 ?_
    obtain ⟨hq_6, hk⟩ := hk
    refine ky_cS0 (As := [.long ((9007199254740991 : Int64)), .long ((-54 : Int64))]) F (mt_X9_nearest l ((9007199254740991 : Int64)) ((-54 : Int64)) hq_6) ks_X9_69 ⟨⟨rfl, rfl⟩, by decide, by decide⟩ rfl hl.1 rfl (Nat.le_of_ble_eq_true rfl) ⟨Nat.zero_le _, Nat.zero_le _⟩ dc_X9_sampled_90 ?_
    exact W.lret hx hb hr (fun t ht hW => ⟨congrArg (fun z => Outcome.returned (some (Value.long z))) hw.symm, ht⟩) ky_nil dc_X9_sampled_93
  have hw := hw.trans (if_neg c_5)
  have hk := hk.2 c_5
  by_cases c_6 : (a0) = 6
  · have hw := hw.trans (if_pos c_6)
    refine lv_tableIn (off := 93) (tgt := 94) hx hb dc_X9_sampled_1 (by rw [c_6]; decide) (by rw [c_6]; decide) (by rw [c_6]; rfl) (by decide) ?_
    have hk := hk.1 c_6
    refine lv_ldc2 (v := 9007199254740991) hx hb hown (hts _ kw_6_133) dc_X9_sampled_94 ?_
    refine lv_ldc2 (v := (-1)) hx hb hown (hts _ kw_6_136) dc_X9_sampled_97 ?_
    obtain ⟨hq_7, hk⟩ := hk
    refine ky_cS0 (As := [.long ((9007199254740991 : Int64)), .long ((-1 : Int64))]) F (mt_X9_nearest l ((9007199254740991 : Int64)) ((-1 : Int64)) hq_7) ks_X9_69 ⟨⟨rfl, rfl⟩, by decide, by decide⟩ rfl hl.1 rfl (Nat.le_of_ble_eq_true rfl) ⟨Nat.zero_le _, Nat.zero_le _⟩ dc_X9_sampled_100 ?_
    exact W.lret hx hb hr (fun t ht hW => ⟨congrArg (fun z => Outcome.returned (some (Value.long z))) hw.symm, ht⟩) ky_nil dc_X9_sampled_103
  have hw := hw.trans (if_neg c_6)
  have hk := hk.2 c_6
  by_cases c_7 : (a0) = 7
  · have hw := hw.trans (if_pos c_7)
    refine lv_tableIn (off := 103) (tgt := 104) hx hb dc_X9_sampled_1 (by rw [c_7]; decide) (by rw [c_7]; decide) (by rw [c_7]; rfl) (by decide) ?_
    have hk := hk.1 c_7
    refine lv_ldc2 (v := 9007199254740991) hx hb hown (hts _ kw_6_133) dc_X9_sampled_104 ?_
    refine lv_lconst (v := 0) hx hb dc_X9_sampled_107 (by decide) ?_
    obtain ⟨hq_8, hk⟩ := hk
    refine ky_cS0 (As := [.long ((9007199254740991 : Int64)), .long ((0 : Int64))]) F (mt_X9_nearest l ((9007199254740991 : Int64)) ((0 : Int64)) hq_8) ks_X9_69 ⟨⟨rfl, rfl⟩, by decide, by decide⟩ rfl hl.1 rfl (Nat.le_of_ble_eq_true rfl) ⟨Nat.zero_le _, Nat.zero_le _⟩ dc_X9_sampled_108 ?_
    exact W.lret hx hb hr (fun t ht hW => ⟨congrArg (fun z => Outcome.returned (some (Value.long z))) hw.symm, ht⟩) ky_nil dc_X9_sampled_111
  have hw := hw.trans (if_neg c_7)
  have hk := hk.2 c_7
  by_cases c_8 : (a0) = 8
  · have hw := hw.trans (if_pos c_8)
    refine lv_tableIn (off := 111) (tgt := 112) hx hb dc_X9_sampled_1 (by rw [c_8]; decide) (by rw [c_8]; decide) (by rw [c_8]; rfl) (by decide) ?_
    have hk := hk.1 c_8
    refine lv_ldc2 (v := 9007199254740991) hx hb hown (hts _ kw_6_133) dc_X9_sampled_112 ?_
    refine lv_ldc2 (v := 10) hx hb hown (hts _ kw_6_137) dc_X9_sampled_115 ?_
    obtain ⟨hq_9, hk⟩ := hk
    refine ky_cS0 (As := [.long ((9007199254740991 : Int64)), .long ((10 : Int64))]) F (mt_X9_nearest l ((9007199254740991 : Int64)) ((10 : Int64)) hq_9) ks_X9_69 ⟨⟨rfl, rfl⟩, by decide, by decide⟩ rfl hl.1 rfl (Nat.le_of_ble_eq_true rfl) ⟨Nat.zero_le _, Nat.zero_le _⟩ dc_X9_sampled_118 ?_
    exact W.lret hx hb hr (fun t ht hW => ⟨congrArg (fun z => Outcome.returned (some (Value.long z))) hw.symm, ht⟩) ky_nil dc_X9_sampled_121
  have hw := hw.trans (if_neg c_8)
  have hk := hk.2 c_8
  by_cases c_9 : (a0) = 9
  · have hw := hw.trans (if_pos c_9)
    refine lv_tableIn (off := 121) (tgt := 122) hx hb dc_X9_sampled_1 (by rw [c_9]; decide) (by rw [c_9]; decide) (by rw [c_9]; rfl) (by decide) ?_
    have hk := hk.1 c_9
    refine lv_ldc2 (v := 4294967295) hx hb hown (hts _ kw_6_122) dc_X9_sampled_122 ?_
    refine lv_ldc2 (v := (-1)) hx hb hown (hts _ kw_6_136) dc_X9_sampled_125 ?_
    obtain ⟨hq_10, hk⟩ := hk
    refine ky_cS0 (As := [.long ((4294967295 : Int64)), .long ((-1 : Int64))]) F (mt_X9_nearest l ((4294967295 : Int64)) ((-1 : Int64)) hq_10) ks_X9_69 ⟨⟨rfl, rfl⟩, by decide, by decide⟩ rfl hl.1 rfl (Nat.le_of_ble_eq_true rfl) ⟨Nat.zero_le _, Nat.zero_le _⟩ dc_X9_sampled_128 ?_
    exact W.lret hx hb hr (fun t ht hW => ⟨congrArg (fun z => Outcome.returned (some (Value.long z))) hw.symm, ht⟩) ky_nil dc_X9_sampled_131
  have hw := hw.trans (if_neg c_9)
  have hk := hk.2 c_9
  by_cases c_10 : (a0) = 10
  · have hw := hw.trans (if_pos c_10)
    refine lv_tableIn (off := 131) (tgt := 132) hx hb dc_X9_sampled_1 (by rw [c_10]; decide) (by rw [c_10]; decide) (by rw [c_10]; rfl) (by decide) ?_
    have hk := hk.1 c_10
    refine lv_ldc2 (v := 5) hx hb hown (hts _ kw_6_138) dc_X9_sampled_132 ?_
    refine lv_ldc2 (v := (-1)) hx hb hown (hts _ kw_6_136) dc_X9_sampled_135 ?_
    obtain ⟨hq_11, hk⟩ := hk
    refine ky_cS0 (As := [.long ((5 : Int64)), .long ((-1 : Int64))]) F (mt_X9_nearest l ((5 : Int64)) ((-1 : Int64)) hq_11) ks_X9_69 ⟨⟨rfl, rfl⟩, by decide, by decide⟩ rfl hl.1 rfl (Nat.le_of_ble_eq_true rfl) ⟨Nat.zero_le _, Nat.zero_le _⟩ dc_X9_sampled_138 ?_
    exact W.lret hx hb hr (fun t ht hW => ⟨congrArg (fun z => Outcome.returned (some (Value.long z))) hw.symm, ht⟩) ky_nil dc_X9_sampled_141
  have hw := hw.trans (if_neg c_10)
  have hk := hk.2 c_10
  refine lv_tableOut (tgt := 142) hx hb dc_X9_sampled_1 (ky_out11 c_0 c_1 c_2 c_3 c_4 c_5 c_6 c_7 c_8 c_9 c_10) (by decide) ?_
  refine lv_ldc2 (v := 4503599627370497) hx hb hown (hts _ kw_6_139) dc_X9_sampled_142 ?_
  refine lv_lconst (v := 0) hx hb dc_X9_sampled_145 (by decide) ?_
  obtain ⟨hq_11, hk⟩ := hk
  refine ky_cS0 (As := [.long ((4503599627370497 : Int64)), .long ((0 : Int64))]) F (mt_X9_nearest l ((4503599627370497 : Int64)) ((0 : Int64)) hq_11) ks_X9_69 ⟨⟨rfl, rfl⟩, by decide, by decide⟩ rfl hl.1 rfl (Nat.le_of_ble_eq_true rfl) ⟨Nat.zero_le _, Nat.zero_le _⟩ dc_X9_sampled_146 ?_
  exact W.lret hx hb hr (fun t ht hW => ⟨congrArg (fun z => Outcome.returned (some (Value.long z))) hw.symm, ht⟩) ky_nil dc_X9_sampled_149
