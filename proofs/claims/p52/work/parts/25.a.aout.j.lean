section
theorem ky_out11 {x : Int32} (h0 : ¬ x = 0) (h1 : ¬ x = 1) (h2 : ¬ x = 2) (h3 : ¬ x = 3) (h4 : ¬ x = 4) (h5 : ¬ x = 5) (h6 : ¬ x = 6) (h7 : ¬ x = 7) (h8 : ¬ x = 8) (h9 : ¬ x = 9) (h10 : ¬ x = 10) : x.toInt < 0 ∨ 10 < x.toInt := by
  have a0 := ky_ne (k := 0) (by decide) h0
  have a1 := ky_ne (k := 1) (by decide) h1
  have a2 := ky_ne (k := 2) (by decide) h2
  have a3 := ky_ne (k := 3) (by decide) h3
  have a4 := ky_ne (k := 4) (by decide) h4
  have a5 := ky_ne (k := 5) (by decide) h5
  have a6 := ky_ne (k := 6) (by decide) h6
  have a7 := ky_ne (k := 7) (by decide) h7
  have a8 := ky_ne (k := 8) (by decide) h8
  have a9 := ky_ne (k := 9) (by decide) h9
  have a10 := ky_ne (k := 10) (by decide) h10
  omega
theorem ky_eta {α β : Type} (p : α × β) : p = (p.1, p.2) := rfl
end
section
def fn_X9_sampled (a0 : Int32) : Int64 :=
  if (a0) = 0 then ((1 : Int64)) else (if (a0) = 1 then ((4503599627370495 : Int64)) else (if (a0) = 2 then ((4503599627370496 : Int64)) else (if (a0) = 3 then ((9218868437227405311 : Int64)) else (if (a0) = 4 then (fn_X9_nearest ((9007199254740991 : Int64)) ((-53 : Int64))) else (if (a0) = 5 then (fn_X9_nearest ((9007199254740991 : Int64)) ((-54 : Int64))) else (if (a0) = 6 then (fn_X9_nearest ((9007199254740991 : Int64)) ((-1 : Int64))) else (if (a0) = 7 then (fn_X9_nearest ((9007199254740991 : Int64)) ((0 : Int64))) else (if (a0) = 8 then (fn_X9_nearest ((9007199254740991 : Int64)) ((10 : Int64))) else (if (a0) = 9 then (fn_X9_nearest ((4294967295 : Int64)) ((-1 : Int64))) else (if (a0) = 10 then (fn_X9_nearest ((5 : Int64)) ((-1 : Int64))) else (fn_X9_nearest ((4503599627370497 : Int64)) ((0 : Int64)))))))))))))
def fk_X9_sampled (a0 : Int32) : Prop :=
  ((((a0) = 0) → (True)) ∧ (¬ ((a0) = 0) → ((((a0) = 1) → (True)) ∧ (¬ ((a0) = 1) → ((((a0) = 2) → (True)) ∧ (¬ ((a0) = 2) → ((((a0) = 3) → (True)) ∧ (¬ ((a0) = 3) → ((((a0) = 4) → ((fk_X9_nearest ((9007199254740991 : Int64)) ((-53 : Int64))) ∧ (True))) ∧ (¬ ((a0) = 4) → ((((a0) = 5) → ((fk_X9_nearest ((9007199254740991 : Int64)) ((-54 : Int64))) ∧ (True))) ∧ (¬ ((a0) = 5) → ((((a0) = 6) → ((fk_X9_nearest ((9007199254740991 : Int64)) ((-1 : Int64))) ∧ (True))) ∧ (¬ ((a0) = 6) → ((((a0) = 7) → ((fk_X9_nearest ((9007199254740991 : Int64)) ((0 : Int64))) ∧ (True))) ∧ (¬ ((a0) = 7) → ((((a0) = 8) → ((fk_X9_nearest ((9007199254740991 : Int64)) ((10 : Int64))) ∧ (True))) ∧ (¬ ((a0) = 8) → ((((a0) = 9) → ((fk_X9_nearest ((4294967295 : Int64)) ((-1 : Int64))) ∧ (True))) ∧ (¬ ((a0) = 9) → ((((a0) = 10) → ((fk_X9_nearest ((5 : Int64)) ((-1 : Int64))) ∧ (True))) ∧ (¬ ((a0) = 10) → ((fk_X9_nearest ((4503599627370497 : Int64)) ((0 : Int64))) ∧ (True)))))))))))))))))))))))) ∧ True
set_option linter.constructorNameAsVariable false in
set_option maxHeartbeats 4000000 in
set_option maxRecDepth 100000 in
theorem mt_X9_sampled (l : Launch) (a0 : Int32) (hk : fk_X9_sampled a0) : Met l my_X9_sampled (.code my_X9_sampled prog_10_method_17_code 1 (some .long) :: ky_B) { frames := 1, cells := 0, slots := 0, locals := 34 } (ky_P0 [.int (a0)]) (ky_Q0 (some (.long (fn_X9_sampled a0)))) 0 0 (fun _ => False) := by
  refine ky_start0 (by decide) (Nat.le_of_ble_eq_true rfl) (fun p e s m below meth c F ls hl => ?_)
  obtain ⟨hx, hb, hml, hown, hr, hlocks, hts⟩ := id F
  have hl : lv_has ls 1 [(0, .int (a0))] := hl
  have hw : fn_X9_sampled a0 = _ := fn_X9_sampled.eq_1 a0
  have hk : (((a0) = 0) → (True)) ∧ (¬ ((a0) = 0) → ((((a0) = 1) → (True)) ∧ (¬ ((a0) = 1) → ((((a0) = 2) → (True)) ∧ (¬ ((a0) = 2) → ((((a0) = 3) → (True)) ∧ (¬ ((a0) = 3) → ((((a0) = 4) → ((fk_X9_nearest ((9007199254740991 : Int64)) ((-53 : Int64))) ∧ (True))) ∧ (¬ ((a0) = 4) → ((((a0) = 5) → ((fk_X9_nearest ((9007199254740991 : Int64)) ((-54 : Int64))) ∧ (True))) ∧ (¬ ((a0) = 5) → ((((a0) = 6) → ((fk_X9_nearest ((9007199254740991 : Int64)) ((-1 : Int64))) ∧ (True))) ∧ (¬ ((a0) = 6) → ((((a0) = 7) → ((fk_X9_nearest ((9007199254740991 : Int64)) ((0 : Int64))) ∧ (True))) ∧ (¬ ((a0) = 7) → ((((a0) = 8) → ((fk_X9_nearest ((9007199254740991 : Int64)) ((10 : Int64))) ∧ (True))) ∧ (¬ ((a0) = 8) → ((((a0) = 9) → ((fk_X9_nearest ((4294967295 : Int64)) ((-1 : Int64))) ∧ (True))) ∧ (¬ ((a0) = 9) → ((((a0) = 10) → ((fk_X9_nearest ((5 : Int64)) ((-1 : Int64))) ∧ (True))) ∧ (¬ ((a0) = 10) → ((fk_X9_nearest ((4503599627370497 : Int64)) ((0 : Int64))) ∧ (True))))))))))))))))))))))) := hk.1
  refine lv_iload_n hx hb dc_X9_sampled_0 rfl (lv_at hl 0 rfl) ?_
  by_cases c_0 : (a0) = 0
  · have hw := hw.trans (if_pos c_0)
    refine lv_tableIn (off := 59) (tgt := 60) hx hb dc_X9_sampled_1 (by rw [c_0]; decide) (by rw [c_0]; decide) (by rw [c_0]; rfl) (by decide) ?_
    have hk := hk.1 c_0
    refine lv_lconst (v := 1) hx hb dc_X9_sampled_60 (by decide) ?_
    exact W.lret hx hb hr (fun t ht hW => ⟨congrArg (fun z => Outcome.returned (some (Value.long z))) hw.symm, ht⟩) ky_nil dc_X9_sampled_61
  have hw := hw.trans (if_neg c_0)
  have hk := hk.2 c_0
  by_cases c_1 : (a0) = 1
  · have hw := hw.trans (if_pos c_1)
    refine lv_tableIn (off := 61) (tgt := 62) hx hb dc_X9_sampled_1 (by rw [c_1]; decide) (by rw [c_1]; decide) (by rw [c_1]; rfl) (by decide) ?_
    have hk := hk.1 c_1
    refine lv_ldc2 (v := 4503599627370495) hx hb hown (hts _ kw_6_135) dc_X9_sampled_62 ?_
    exact W.lret hx hb hr (fun t ht hW => ⟨congrArg (fun z => Outcome.returned (some (Value.long z))) hw.symm, ht⟩) ky_nil dc_X9_sampled_65
  have hw := hw.trans (if_neg c_1)
  have hk := hk.2 c_1
  by_cases c_2 : (a0) = 2
  · have hw := hw.trans (if_pos c_2)
    refine lv_tableIn (off := 65) (tgt := 66) hx hb dc_X9_sampled_1 (by rw [c_2]; decide) (by rw [c_2]; decide) (by rw [c_2]; rfl) (by decide) ?_
    have hk := hk.1 c_2
    refine lv_ldc2 (v := 4503599627370496) hx hb hown (hts _ kw_6_112) dc_X9_sampled_66 ?_
    exact W.lret hx hb hr (fun t ht hW => ⟨congrArg (fun z => Outcome.returned (some (Value.long z))) hw.symm, ht⟩) ky_nil dc_X9_sampled_69
  have hw := hw.trans (if_neg c_2)
  have hk := hk.2 c_2
  by_cases c_3 : (a0) = 3
  · have hw := hw.trans (if_pos c_3)
    refine lv_tableIn (off := 69) (tgt := 70) hx hb dc_X9_sampled_1 (by rw [c_3]; decide) (by rw [c_3]; decide) (by rw [c_3]; rfl) (by decide) ?_
    have hk := hk.1 c_3
    refine lv_ldc2 (v := 9218868437227405311) hx hb hown (hts _ kw_6_136) dc_X9_sampled_70 ?_
    exact W.lret hx hb hr (fun t ht hW => ⟨congrArg (fun z => Outcome.returned (some (Value.long z))) hw.symm, ht⟩) ky_nil dc_X9_sampled_73
  have hw := hw.trans (if_neg c_3)
  have hk := hk.2 c_3
  by_cases c_4 : (a0) = 4
  · have hw := hw.trans (if_pos c_4)
    refine lv_tableIn (off := 73) (tgt := 74) hx hb dc_X9_sampled_1 (by rw [c_4]; decide) (by rw [c_4]; decide) (by rw [c_4]; rfl) (by decide) ?_
    have hk := hk.1 c_4
    refine lv_ldc2 (v := 9007199254740991) hx hb hown (hts _ kw_6_137) dc_X9_sampled_74 ?_
    refine lv_ldc2 (v := (-53)) hx hb hown (hts _ kw_6_138) dc_X9_sampled_77 ?_
    obtain ⟨hq_5, hk⟩ := hk
    refine ky_cS0 (As := [.long ((9007199254740991 : Int64)), .long ((-53 : Int64))]) F (mt_X9_nearest l ((9007199254740991 : Int64)) ((-53 : Int64)) hq_5) ks_X9_69 ⟨⟨rfl, rfl⟩, by decide, by decide⟩ rfl hl.1 rfl (Nat.le_of_ble_eq_true rfl) ⟨Nat.zero_le _, Nat.zero_le _⟩ dc_X9_sampled_80 ?_
    exact W.lret hx hb hr (fun t ht hW => ⟨congrArg (fun z => Outcome.returned (some (Value.long z))) hw.symm, ht⟩) ky_nil dc_X9_sampled_83
  have hw := hw.trans (if_neg c_4)
  have hk := hk.2 c_4
  by_cases c_5 : (a0) = 5
  · have hw := hw.trans (if_pos c_5)
    refine lv_tableIn (off := 83) (tgt := 84) hx hb dc_X9_sampled_1 (by rw [c_5]; decide) (by rw [c_5]; decide) (by rw [c_5]; rfl) (by decide) ?_
    have hk := hk.1 c_5
    refine lv_ldc2 (v := 9007199254740991) hx hb hown (hts _ kw_6_137) dc_X9_sampled_84 ?_
    refine lv_ldc2 (v := (-54)) hx hb hown (hts _ kw_6_139) dc_X9_sampled_87 ?_
    obtain ⟨hq_6, hk⟩ := hk
    refine ky_cS0 (As := [.long ((9007199254740991 : Int64)), .long ((-54 : Int64))]) F (mt_X9_nearest l ((9007199254740991 : Int64)) ((-54 : Int64)) hq_6) ks_X9_69 ⟨⟨rfl, rfl⟩, by decide, by decide⟩ rfl hl.1 rfl (Nat.le_of_ble_eq_true rfl) ⟨Nat.zero_le _, Nat.zero_le _⟩ dc_X9_sampled_90 ?_
    exact W.lret hx hb hr (fun t ht hW => ⟨congrArg (fun z => Outcome.returned (some (Value.long z))) hw.symm, ht⟩) ky_nil dc_X9_sampled_93
  have hw := hw.trans (if_neg c_5)
  have hk := hk.2 c_5
  by_cases c_6 : (a0) = 6
  · have hw := hw.trans (if_pos c_6)
    refine lv_tableIn (off := 93) (tgt := 94) hx hb dc_X9_sampled_1 (by rw [c_6]; decide) (by rw [c_6]; decide) (by rw [c_6]; rfl) (by decide) ?_
    have hk := hk.1 c_6
    refine lv_ldc2 (v := 9007199254740991) hx hb hown (hts _ kw_6_137) dc_X9_sampled_94 ?_
    refine lv_ldc2 (v := (-1)) hx hb hown (hts _ kw_6_140) dc_X9_sampled_97 ?_
    obtain ⟨hq_7, hk⟩ := hk
    refine ky_cS0 (As := [.long ((9007199254740991 : Int64)), .long ((-1 : Int64))]) F (mt_X9_nearest l ((9007199254740991 : Int64)) ((-1 : Int64)) hq_7) ks_X9_69 ⟨⟨rfl, rfl⟩, by decide, by decide⟩ rfl hl.1 rfl (Nat.le_of_ble_eq_true rfl) ⟨Nat.zero_le _, Nat.zero_le _⟩ dc_X9_sampled_100 ?_
    exact W.lret hx hb hr (fun t ht hW => ⟨congrArg (fun z => Outcome.returned (some (Value.long z))) hw.symm, ht⟩) ky_nil dc_X9_sampled_103
  have hw := hw.trans (if_neg c_6)
  have hk := hk.2 c_6
  by_cases c_7 : (a0) = 7
  · have hw := hw.trans (if_pos c_7)
    refine lv_tableIn (off := 103) (tgt := 104) hx hb dc_X9_sampled_1 (by rw [c_7]; decide) (by rw [c_7]; decide) (by rw [c_7]; rfl) (by decide) ?_
    have hk := hk.1 c_7
    refine lv_ldc2 (v := 9007199254740991) hx hb hown (hts _ kw_6_137) dc_X9_sampled_104 ?_
    refine lv_lconst (v := 0) hx hb dc_X9_sampled_107 (by decide) ?_
    obtain ⟨hq_8, hk⟩ := hk
    refine ky_cS0 (As := [.long ((9007199254740991 : Int64)), .long ((0 : Int64))]) F (mt_X9_nearest l ((9007199254740991 : Int64)) ((0 : Int64)) hq_8) ks_X9_69 ⟨⟨rfl, rfl⟩, by decide, by decide⟩ rfl hl.1 rfl (Nat.le_of_ble_eq_true rfl) ⟨Nat.zero_le _, Nat.zero_le _⟩ dc_X9_sampled_108 ?_
    exact W.lret hx hb hr (fun t ht hW => ⟨congrArg (fun z => Outcome.returned (some (Value.long z))) hw.symm, ht⟩) ky_nil dc_X9_sampled_111
  have hw := hw.trans (if_neg c_7)
  have hk := hk.2 c_7
  by_cases c_8 : (a0) = 8
  · have hw := hw.trans (if_pos c_8)
    refine lv_tableIn (off := 111) (tgt := 112) hx hb dc_X9_sampled_1 (by rw [c_8]; decide) (by rw [c_8]; decide) (by rw [c_8]; rfl) (by decide) ?_
    have hk := hk.1 c_8
    refine lv_ldc2 (v := 9007199254740991) hx hb hown (hts _ kw_6_137) dc_X9_sampled_112 ?_
    refine lv_ldc2 (v := 10) hx hb hown (hts _ kw_6_141) dc_X9_sampled_115 ?_
    obtain ⟨hq_9, hk⟩ := hk
    refine ky_cS0 (As := [.long ((9007199254740991 : Int64)), .long ((10 : Int64))]) F (mt_X9_nearest l ((9007199254740991 : Int64)) ((10 : Int64)) hq_9) ks_X9_69 ⟨⟨rfl, rfl⟩, by decide, by decide⟩ rfl hl.1 rfl (Nat.le_of_ble_eq_true rfl) ⟨Nat.zero_le _, Nat.zero_le _⟩ dc_X9_sampled_118 ?_
    exact W.lret hx hb hr (fun t ht hW => ⟨congrArg (fun z => Outcome.returned (some (Value.long z))) hw.symm, ht⟩) ky_nil dc_X9_sampled_121
  have hw := hw.trans (if_neg c_8)
  have hk := hk.2 c_8
  by_cases c_9 : (a0) = 9
  · have hw := hw.trans (if_pos c_9)
    refine lv_tableIn (off := 121) (tgt := 122) hx hb dc_X9_sampled_1 (by rw [c_9]; decide) (by rw [c_9]; decide) (by rw [c_9]; rfl) (by decide) ?_
    have hk := hk.1 c_9
    refine lv_ldc2 (v := 4294967295) hx hb hown (hts _ kw_6_126) dc_X9_sampled_122 ?_
    refine lv_ldc2 (v := (-1)) hx hb hown (hts _ kw_6_140) dc_X9_sampled_125 ?_
    obtain ⟨hq_10, hk⟩ := hk
    refine ky_cS0 (As := [.long ((4294967295 : Int64)), .long ((-1 : Int64))]) F (mt_X9_nearest l ((4294967295 : Int64)) ((-1 : Int64)) hq_10) ks_X9_69 ⟨⟨rfl, rfl⟩, by decide, by decide⟩ rfl hl.1 rfl (Nat.le_of_ble_eq_true rfl) ⟨Nat.zero_le _, Nat.zero_le _⟩ dc_X9_sampled_128 ?_
    exact W.lret hx hb hr (fun t ht hW => ⟨congrArg (fun z => Outcome.returned (some (Value.long z))) hw.symm, ht⟩) ky_nil dc_X9_sampled_131
  have hw := hw.trans (if_neg c_9)
  have hk := hk.2 c_9
  by_cases c_10 : (a0) = 10
  · have hw := hw.trans (if_pos c_10)
    refine lv_tableIn (off := 131) (tgt := 132) hx hb dc_X9_sampled_1 (by rw [c_10]; decide) (by rw [c_10]; decide) (by rw [c_10]; rfl) (by decide) ?_
    have hk := hk.1 c_10
    refine lv_ldc2 (v := 5) hx hb hown (hts _ kw_6_142) dc_X9_sampled_132 ?_
    refine lv_ldc2 (v := (-1)) hx hb hown (hts _ kw_6_140) dc_X9_sampled_135 ?_
    obtain ⟨hq_11, hk⟩ := hk
    refine ky_cS0 (As := [.long ((5 : Int64)), .long ((-1 : Int64))]) F (mt_X9_nearest l ((5 : Int64)) ((-1 : Int64)) hq_11) ks_X9_69 ⟨⟨rfl, rfl⟩, by decide, by decide⟩ rfl hl.1 rfl (Nat.le_of_ble_eq_true rfl) ⟨Nat.zero_le _, Nat.zero_le _⟩ dc_X9_sampled_138 ?_
    exact W.lret hx hb hr (fun t ht hW => ⟨congrArg (fun z => Outcome.returned (some (Value.long z))) hw.symm, ht⟩) ky_nil dc_X9_sampled_141
  have hw := hw.trans (if_neg c_10)
  have hk := hk.2 c_10
  refine lv_tableOut (tgt := 142) hx hb dc_X9_sampled_1 (ky_out11 c_0 c_1 c_2 c_3 c_4 c_5 c_6 c_7 c_8 c_9 c_10) (by decide) ?_
  refine lv_ldc2 (v := 4503599627370497) hx hb hown (hts _ kw_6_143) dc_X9_sampled_142 ?_
  refine lv_lconst (v := 0) hx hb dc_X9_sampled_145 (by decide) ?_
  obtain ⟨hq_11, hk⟩ := hk
  refine ky_cS0 (As := [.long ((4503599627370497 : Int64)), .long ((0 : Int64))]) F (mt_X9_nearest l ((4503599627370497 : Int64)) ((0 : Int64)) hq_11) ks_X9_69 ⟨⟨rfl, rfl⟩, by decide, by decide⟩ rfl hl.1 rfl (Nat.le_of_ble_eq_true rfl) ⟨Nat.zero_le _, Nat.zero_le _⟩ dc_X9_sampled_146 ?_
  exact W.lret hx hb hr (fun t ht hW => ⟨congrArg (fun z => Outcome.returned (some (Value.long z))) hw.symm, ht⟩) ky_nil dc_X9_sampled_149
end
section
def fn_X9_last (a1 : Int32) (a2 : Int32) (a3 : Int32)  (w : ky_MV) : Int32 × Int64 :=
  if (lg_cmp (fn_X8_place ((w.2.2.2.2) (a1).toNatClampNeg)) (fn_X8_place ((w.2.2.2.2) (a2).toNatClampNeg))) ≤ (0 : Int32) then (if ((0 : Int32)) = (a3) then (((w.2.2.2.2) (a1).toNatClampNeg)) else (((w.2.2.2.2) (a2).toNatClampNeg))) else (if ((1 : Int32)) = (a3) then (((w.2.2.2.2) (a1).toNatClampNeg)) else (((w.2.2.2.2) (a2).toNatClampNeg)))
set_option linter.constructorNameAsVariable false in
set_option maxHeartbeats 4000000 in
set_option maxRecDepth 100000 in
theorem mt_X9_last (l : Launch) (G : ky_G) (mo cs : Nat) (N : Nat → Prop) (w : ky_MV) (f : Nat → Option Nat)    (a1 : Int32) (a2 : Int32) (a3 : Int32) (sz : Nat) (h1 : vp_in (a1) 6) (h2 : vp_in (a2) 6) : Met l my_X9_last (.code my_X9_last prog_10_method_35_code 4 (some (.object "ExactdoublesModel$Its")) :: ky_B) { frames := 1, cells := 0, slots := 0, locals := 20 } (ky_P G [.ref mo, .int (a1), .int (a2), .int (a3)] (ky_WM G mo cs w f) sz (fun H => ky_IT G mo cs N f w.2.2.2.2 H)) (ky_Q (S := Nat) G (va_A (ky_WM G mo cs w f) sz) (fun v u => v = some (.ref u)) (fun _ => ky_WM G mo cs w f) (fun u H => ky_It G u (fn_X9_last a1 a2 a3 w) H ∧ ky_ok mo cs N u)) 0 0 (va_A (ky_WM G mo cs w f) sz) := by
  refine ky_start (by decide) (Nat.le_of_ble_eq_true rfl) (fun p e s m below meth c F hE A hAe hsz hA hfr hP hD hS hX ls hl => ?_)
  obtain ⟨hx, hb, hml, hown, hr, hlocks, hts⟩ := id F
  have hIT0 := hX
  have hIT := hIT0
  have hl : lv_has ls 4 [(0, .ref mo), (1, .int (a1)), (2, .int (a2)), (3, .int (a3))] := hl
  have hP : va_P G.1 kcl [(mo, .inr (5, [.int (w.1), .ref cs, .int (w.2.1), .int (w.2.2.1), .int (w.2.2.2.1)])), (cs, .inl (G.2.1 3, 6, .inr (.inr (.inr (.inr (f))))))] s.heap := hP
  have hD : va_D A [(mo, .inr (5, [.int (w.1), .ref cs, .int (w.2.1), .int (w.2.2.1), .int (w.2.2.2.1)])), (cs, .inl (G.2.1 3, 6, .inr (.inr (.inr (.inr (f))))))] := hD
  have hw : fn_X9_last a1 a2 a3 w = _ := fn_X9_last.eq_1 a1 a2 a3 w
  refine lv_aload_n hx hb dc_X9_last_0 rfl (lv_at hl 0 rfl) ?_
  refine va_get (D := G.1) (ci := 5) (v := .ref cs) (C := RX9) (T := TX9) (N := 5) hx hb hts ki_X9 hown hE.1 hP 0 rfl rfl 1 (by decide) (hts _ kw_6_20) (fun _ h9 => h9) rfl dc_X9_last_1 ?_
  refine lv_iload_n hx hb dc_X9_last_4 rfl (lv_at hl 1 rfl) ?_
  refine va_aldq hx hb hE.1 hP 1 3 rfl rfl h1 dc_X9_last_5 ?_
  obtain ⟨b_0, hb_0, hI_0, ho_0⟩ := hIT.2 _ (ky_i6 h1)
  rw [ky_rf hb_0]
  have hX_0 : ky_It G b_0 ((w.2.2.2.2) (a1).toNatClampNeg) s.heap := by obtain ⟨b9, e9, i9, -⟩ := hIT0.2 _ (ky_i6 h1); have z9 : b9 = b_0 := Option.some.inj (e9.symm.trans hb_0); exact z9 ▸ i9
  refine ky_cV1 (As := []) F (hE.at hfr hS) (mt_X8_place l G (b_0) (((w.2.2.2.2) (a1).toNatClampNeg)) ) kv_X9_147 ⟨⟨rfl, rfl⟩, by decide, by decide⟩ rfl hl.1 rfl (Nat.le_of_ble_eq_true rfl) ⟨Nat.le_of_ble_eq_true rfl, Nat.le_of_ble_eq_true rfl⟩ (va_recv hE.1 hI_0 (ci := 4) (q0 := 0) rfl rfl) hI_0 dc_X9_last_6 ?_
  refine lv_aload_n hx hb dc_X9_last_9 rfl (lv_at hl 0 rfl) ?_
  refine va_get (D := G.1) (ci := 5) (v := .ref cs) (C := RX9) (T := TX9) (N := 5) hx hb hts ki_X9 hown hE.1 hP 0 rfl rfl 1 (by decide) (hts _ kw_6_20) (fun _ h9 => h9) rfl dc_X9_last_10 ?_
  refine lv_iload_n hx hb dc_X9_last_13 rfl (lv_at hl 2 rfl) ?_
  refine va_aldq hx hb hE.1 hP 1 3 rfl rfl h2 dc_X9_last_14 ?_
  obtain ⟨b_1, hb_1, hI_1, ho_1⟩ := hIT.2 _ (ky_i6 h2)
  rw [ky_rf hb_1]
  have hX_1 : ky_It G b_1 ((w.2.2.2.2) (a2).toNatClampNeg) s.heap := by obtain ⟨b9, e9, i9, -⟩ := hIT0.2 _ (ky_i6 h2); have z9 : b9 = b_1 := Option.some.inj (e9.symm.trans hb_1); exact z9 ▸ i9
  refine ky_cV1 (As := []) F (hE.at hfr hS) (mt_X8_place l G (b_1) (((w.2.2.2.2) (a2).toNatClampNeg)) ) kv_X9_147 ⟨⟨rfl, rfl⟩, by decide, by decide⟩ rfl hl.1 rfl (Nat.le_of_ble_eq_true rfl) ⟨Nat.le_of_ble_eq_true rfl, Nat.le_of_ble_eq_true rfl⟩ (va_recv hE.1 hI_1 (ci := 4) (q0 := 0) rfl rfl) hI_1 dc_X9_last_15 ?_
  refine W.lcmp hx hb dc_X9_last_18 ?_
  refine lv_if_le (tgt := 26) hx hb dc_X9_last_19 (by decide) (fun c_2 => ?_) (fun c_2 => ?_)
  · have hw := hw.trans (if_pos c_2)
    refine lv_iconst (v := 0) hx hb dc_X9_last_26 (by decide) ?_
    refine lv_iload_n hx hb dc_X9_last_27 rfl (lv_at hl 3 rfl) ?_
    refine lv_icmp_ne (tgt := 40) hx hb dc_X9_last_28 (by decide) (fun c_3 => ?_) (fun c_3 => ?_)
    · have hw := hw.trans (if_neg c_3)
      refine lv_aload_n hx hb dc_X9_last_40 rfl (lv_at hl 0 rfl) ?_
      refine va_get (D := G.1) (ci := 5) (v := .ref cs) (C := RX9) (T := TX9) (N := 5) hx hb hts ki_X9 hown hE.1 hP 0 rfl rfl 1 (by decide) (hts _ kw_6_20) (fun _ h9 => h9) rfl dc_X9_last_41 ?_
      refine lv_iload_n hx hb dc_X9_last_44 rfl (lv_at hl 2 rfl) ?_
      refine va_aldq hx hb hE.1 hP 1 3 rfl rfl h2 dc_X9_last_45 ?_
      obtain ⟨b_4, hb_4, hI_4, ho_4⟩ := hIT.2 _ (ky_i6 h2)
      rw [ky_rf hb_4]
      have hX_4 : ky_It G b_4 ((w.2.2.2.2) (a2).toNatClampNeg) s.heap := by obtain ⟨b9, e9, i9, -⟩ := hIT0.2 _ (ky_i6 h2); have z9 : b9 = b_4 := Option.some.inj (e9.symm.trans hb_4); exact z9 ▸ i9
      have hP9 := hP.sub (ws' := [(mo, .inr (5, [.int (w.1), .ref cs, .int (w.2.1), .int (w.2.2.1), .int (w.2.2.2.1)])), (cs, .inl (G.2.1 3, 6, .inr (.inr (.inr (.inr (f))))))]) [0, 1] rfl
      have hD9 := hD.sub (ws' := [(mo, .inr (5, [.int (w.1), .ref cs, .int (w.2.1), .int (w.2.2.1), .int (w.2.2.2.1)])), (cs, .inl (G.2.1 3, 6, .inr (.inr (.inr (.inr (f))))))]) [0, 1] (by decide) rfl
      refine W.widen (k := 0) (n := 0) (Nat.le_of_ble_eq_true rfl) (Nat.le_of_ble_eq_true rfl) ?_
      exact W.aret (v := .ref b_4) hx hb hr (Or.inl ⟨_, rfl⟩) (Or.inr ⟨_, rfl⟩) (fun t ht hW => ⟨⟨_, b_4, rfl, rfl, by rw [ht]; exact hP9, hD9, by rw [hw, ht]; exact hI_4, ho_4⟩, hS.F ht⟩) hS.2.2 dc_X9_last_46
    · have hw := hw.trans (if_pos c_3)
      refine lv_aload_n hx hb dc_X9_last_31 rfl (lv_at hl 0 rfl) ?_
      refine va_get (D := G.1) (ci := 5) (v := .ref cs) (C := RX9) (T := TX9) (N := 5) hx hb hts ki_X9 hown hE.1 hP 0 rfl rfl 1 (by decide) (hts _ kw_6_20) (fun _ h9 => h9) rfl dc_X9_last_32 ?_
      refine lv_iload_n hx hb dc_X9_last_35 rfl (lv_at hl 1 rfl) ?_
      refine va_aldq hx hb hE.1 hP 1 3 rfl rfl h1 dc_X9_last_36 ?_
      obtain ⟨b_4, hb_4, hI_4, ho_4⟩ := hIT.2 _ (ky_i6 h1)
      rw [ky_rf hb_4]
      have hX_4 : ky_It G b_4 ((w.2.2.2.2) (a1).toNatClampNeg) s.heap := by obtain ⟨b9, e9, i9, -⟩ := hIT0.2 _ (ky_i6 h1); have z9 : b9 = b_4 := Option.some.inj (e9.symm.trans hb_4); exact z9 ▸ i9
      refine lv_goto (tgt := 46) hx hb dc_X9_last_37 (by decide) ?_
      have hP9 := hP.sub (ws' := [(mo, .inr (5, [.int (w.1), .ref cs, .int (w.2.1), .int (w.2.2.1), .int (w.2.2.2.1)])), (cs, .inl (G.2.1 3, 6, .inr (.inr (.inr (.inr (f))))))]) [0, 1] rfl
      have hD9 := hD.sub (ws' := [(mo, .inr (5, [.int (w.1), .ref cs, .int (w.2.1), .int (w.2.2.1), .int (w.2.2.2.1)])), (cs, .inl (G.2.1 3, 6, .inr (.inr (.inr (.inr (f))))))]) [0, 1] (by decide) rfl
      refine W.widen (k := 0) (n := 0) (Nat.le_of_ble_eq_true rfl) (Nat.le_of_ble_eq_true rfl) ?_
      exact W.aret (v := .ref b_4) hx hb hr (Or.inl ⟨_, rfl⟩) (Or.inr ⟨_, rfl⟩) (fun t ht hW => ⟨⟨_, b_4, rfl, rfl, by rw [ht]; exact hP9, hD9, by rw [hw, ht]; exact hI_4, ho_4⟩, hS.F ht⟩) hS.2.2 dc_X9_last_46
  · have hw := hw.trans (if_neg c_2)
    refine lv_iconst (v := 1) hx hb dc_X9_last_22 (by decide) ?_
    refine lv_goto (tgt := 27) hx hb dc_X9_last_23 (by decide) ?_
    refine lv_iload_n hx hb dc_X9_last_27 rfl (lv_at hl 3 rfl) ?_
    refine lv_icmp_ne (tgt := 40) hx hb dc_X9_last_28 (by decide) (fun c_3 => ?_) (fun c_3 => ?_)
    · have hw := hw.trans (if_neg c_3)
      refine lv_aload_n hx hb dc_X9_last_40 rfl (lv_at hl 0 rfl) ?_
      refine va_get (D := G.1) (ci := 5) (v := .ref cs) (C := RX9) (T := TX9) (N := 5) hx hb hts ki_X9 hown hE.1 hP 0 rfl rfl 1 (by decide) (hts _ kw_6_20) (fun _ h9 => h9) rfl dc_X9_last_41 ?_
      refine lv_iload_n hx hb dc_X9_last_44 rfl (lv_at hl 2 rfl) ?_
      refine va_aldq hx hb hE.1 hP 1 3 rfl rfl h2 dc_X9_last_45 ?_
      obtain ⟨b_4, hb_4, hI_4, ho_4⟩ := hIT.2 _ (ky_i6 h2)
      rw [ky_rf hb_4]
      have hX_4 : ky_It G b_4 ((w.2.2.2.2) (a2).toNatClampNeg) s.heap := by obtain ⟨b9, e9, i9, -⟩ := hIT0.2 _ (ky_i6 h2); have z9 : b9 = b_4 := Option.some.inj (e9.symm.trans hb_4); exact z9 ▸ i9
      have hP9 := hP.sub (ws' := [(mo, .inr (5, [.int (w.1), .ref cs, .int (w.2.1), .int (w.2.2.1), .int (w.2.2.2.1)])), (cs, .inl (G.2.1 3, 6, .inr (.inr (.inr (.inr (f))))))]) [0, 1] rfl
      have hD9 := hD.sub (ws' := [(mo, .inr (5, [.int (w.1), .ref cs, .int (w.2.1), .int (w.2.2.1), .int (w.2.2.2.1)])), (cs, .inl (G.2.1 3, 6, .inr (.inr (.inr (.inr (f))))))]) [0, 1] (by decide) rfl
      refine W.widen (k := 0) (n := 0) (Nat.le_of_ble_eq_true rfl) (Nat.le_of_ble_eq_true rfl) ?_
      exact W.aret (v := .ref b_4) hx hb hr (Or.inl ⟨_, rfl⟩) (Or.inr ⟨_, rfl⟩) (fun t ht hW => ⟨⟨_, b_4, rfl, rfl, by rw [ht]; exact hP9, hD9, by rw [hw, ht]; exact hI_4, ho_4⟩, hS.F ht⟩) hS.2.2 dc_X9_last_46
    · have hw := hw.trans (if_pos c_3)
      refine lv_aload_n hx hb dc_X9_last_31 rfl (lv_at hl 0 rfl) ?_
      refine va_get (D := G.1) (ci := 5) (v := .ref cs) (C := RX9) (T := TX9) (N := 5) hx hb hts ki_X9 hown hE.1 hP 0 rfl rfl 1 (by decide) (hts _ kw_6_20) (fun _ h9 => h9) rfl dc_X9_last_32 ?_
      refine lv_iload_n hx hb dc_X9_last_35 rfl (lv_at hl 1 rfl) ?_
      refine va_aldq hx hb hE.1 hP 1 3 rfl rfl h1 dc_X9_last_36 ?_
      obtain ⟨b_4, hb_4, hI_4, ho_4⟩ := hIT.2 _ (ky_i6 h1)
      rw [ky_rf hb_4]
      have hX_4 : ky_It G b_4 ((w.2.2.2.2) (a1).toNatClampNeg) s.heap := by obtain ⟨b9, e9, i9, -⟩ := hIT0.2 _ (ky_i6 h1); have z9 : b9 = b_4 := Option.some.inj (e9.symm.trans hb_4); exact z9 ▸ i9
      refine lv_goto (tgt := 46) hx hb dc_X9_last_37 (by decide) ?_
      have hP9 := hP.sub (ws' := [(mo, .inr (5, [.int (w.1), .ref cs, .int (w.2.1), .int (w.2.2.1), .int (w.2.2.2.1)])), (cs, .inl (G.2.1 3, 6, .inr (.inr (.inr (.inr (f))))))]) [0, 1] rfl
      have hD9 := hD.sub (ws' := [(mo, .inr (5, [.int (w.1), .ref cs, .int (w.2.1), .int (w.2.2.1), .int (w.2.2.2.1)])), (cs, .inl (G.2.1 3, 6, .inr (.inr (.inr (.inr (f))))))]) [0, 1] (by decide) rfl
      refine W.widen (k := 0) (n := 0) (Nat.le_of_ble_eq_true rfl) (Nat.le_of_ble_eq_true rfl) ?_
      exact W.aret (v := .ref b_4) hx hb hr (Or.inl ⟨_, rfl⟩) (Or.inr ⟨_, rfl⟩) (fun t ht hW => ⟨⟨_, b_4, rfl, rfl, by rw [ht]; exact hP9, hD9, by rw [hw, ht]; exact hI_4, ho_4⟩, hS.F ht⟩) hS.2.2 dc_X9_last_46
end
section
def fn_X9_quarters (a1 : Int32) (a2 : Int32)  (w : ky_MV) : Int32 × ky_MV :=
  if (jst (fn_X9_isNo (a1))) = (0 : Int32) then (if (0 : Int32) ≤ (a2) then (if (0 : Int32) ≤ (a2) then (((fn_X9_give (a1) (fn_X9_one ((0 : Int32)), fn_X9_nearest ((a2).toInt64) ((-2 : Int64))) (jst (fn_X9_isNo (a1)), w.2.1, w.2.2.1, w.2.2.2.1, w.2.2.2.2)).1, ((fn_X9_give (a1) (fn_X9_one ((0 : Int32)), fn_X9_nearest ((a2).toInt64) ((-2 : Int64))) (jst (fn_X9_isNo (a1)), w.2.1, w.2.2.1, w.2.2.2.1, w.2.2.2.2)).2))) else (((fn_X9_give (a1) (fn_X9_one ((0 : Int32)), fn_X9_nearest (-((a2).toInt64)) ((-2 : Int64))) (jst (fn_X9_isNo (a1)), w.2.1, w.2.2.1, w.2.2.2.1, w.2.2.2.2)).1, ((fn_X9_give (a1) (fn_X9_one ((0 : Int32)), fn_X9_nearest (-((a2).toInt64)) ((-2 : Int64))) (jst (fn_X9_isNo (a1)), w.2.1, w.2.2.1, w.2.2.2.1, w.2.2.2.2)).2)))) else (if (0 : Int32) ≤ (a2) then (((fn_X9_give (a1) (fn_X9_one ((1 : Int32)), fn_X9_nearest ((a2).toInt64) ((-2 : Int64))) (jst (fn_X9_isNo (a1)), w.2.1, w.2.2.1, w.2.2.2.1, w.2.2.2.2)).1, ((fn_X9_give (a1) (fn_X9_one ((1 : Int32)), fn_X9_nearest ((a2).toInt64) ((-2 : Int64))) (jst (fn_X9_isNo (a1)), w.2.1, w.2.2.1, w.2.2.2.1, w.2.2.2.2)).2))) else (((fn_X9_give (a1) (fn_X9_one ((1 : Int32)), fn_X9_nearest (-((a2).toInt64)) ((-2 : Int64))) (jst (fn_X9_isNo (a1)), w.2.1, w.2.2.1, w.2.2.2.1, w.2.2.2.2)).1, ((fn_X9_give (a1) (fn_X9_one ((1 : Int32)), fn_X9_nearest (-((a2).toInt64)) ((-2 : Int64))) (jst (fn_X9_isNo (a1)), w.2.1, w.2.2.1, w.2.2.2.1, w.2.2.2.2)).2))))) else (((0 : Int32), (jst (fn_X9_isNo (a1)), w.2.1, w.2.2.1, w.2.2.2.1, w.2.2.2.2)))
def fk_X9_quarters (a1 : Int32) (a2 : Int32)  (w : ky_MV) : Prop :=
  ((((jst (fn_X9_isNo (a1))) = (0 : Int32)) → ((((0 : Int32) ≤ (a2)) → ((((0 : Int32) ≤ (a2)) → ((fk_X9_nearest ((a2).toInt64) ((-2 : Int64))) ∧ (True))) ∧ (¬ ((0 : Int32) ≤ (a2)) → ((fk_X9_nearest (-((a2).toInt64)) ((-2 : Int64))) ∧ (True))))) ∧ (¬ ((0 : Int32) ≤ (a2)) → ((((0 : Int32) ≤ (a2)) → ((fk_X9_nearest ((a2).toInt64) ((-2 : Int64))) ∧ (True))) ∧ (¬ ((0 : Int32) ≤ (a2)) → ((fk_X9_nearest (-((a2).toInt64)) ((-2 : Int64))) ∧ (True))))))) ∧ (¬ ((jst (fn_X9_isNo (a1))) = (0 : Int32)) → (True))) ∧ True
set_option linter.constructorNameAsVariable false in
set_option maxHeartbeats 4000000 in
set_option maxRecDepth 100000 in
theorem mt_X9_quarters (l : Launch) (G : ky_G) (mo cs : Nat) (N : Nat → Prop) (w : ky_MV) (f : Nat → Option Nat)    (a1 : Int32) (a2 : Int32) (sz : Nat) (hk : fk_X9_quarters a1 a2 w) : Met l my_X9_quarters (.code my_X9_quarters prog_10_method_14_code 3 (some .int) :: ky_B) { frames := 6, cells := 1, slots := 2, locals := 127 } (ky_P G [.ref mo, .int (a1), .int (a2)] (ky_WM G mo cs w f) sz (fun H => ky_IT G mo cs N f w.2.2.2.2 H)) (ky_Q (S := ky_MV × (Nat → Option Nat)) G (va_A (ky_WM G mo cs w f) sz) (fun v u => v = some (.int (fn_X9_quarters a1 a2 w).1) ∧ u.1 = (fn_X9_quarters a1 a2 w).2) (fun u => ky_WM G mo cs u.1 u.2) (fun u H => ky_IT G mo cs N u.2 u.1.2.2.2.2 H)) 1 2 (va_A (ky_WM G mo cs w f) sz) := by
  refine ky_start (by decide) (Nat.le_of_ble_eq_true rfl) (fun p e s m below meth c F hE A hAe hsz hA hfr hP hD hS hX ls hl => ?_)
  obtain ⟨hx, hb, hml, hown, hr, hlocks, hts⟩ := id F
  have hIT0 := hX
  have hIT := hIT0
  have hl : lv_has ls 3 [(0, .ref mo), (1, .int (a1)), (2, .int (a2))] := hl
  have hP : va_P G.1 kcl [(mo, .inr (5, [.int (w.1), .ref cs, .int (w.2.1), .int (w.2.2.1), .int (w.2.2.2.1)])), (cs, .inl (G.2.1 3, 6, .inr (.inr (.inr (.inr (f))))))] s.heap := hP
  have hD : va_D A [(mo, .inr (5, [.int (w.1), .ref cs, .int (w.2.1), .int (w.2.2.1), .int (w.2.2.2.1)])), (cs, .inl (G.2.1 3, 6, .inr (.inr (.inr (.inr (f))))))] := hD
  have hw : fn_X9_quarters a1 a2 w = _ := fn_X9_quarters.eq_1 a1 a2 w
  have hk : (((jst (fn_X9_isNo (a1))) = (0 : Int32)) → ((((0 : Int32) ≤ (a2)) → ((((0 : Int32) ≤ (a2)) → ((fk_X9_nearest ((a2).toInt64) ((-2 : Int64))) ∧ (True))) ∧ (¬ ((0 : Int32) ≤ (a2)) → ((fk_X9_nearest (-((a2).toInt64)) ((-2 : Int64))) ∧ (True))))) ∧ (¬ ((0 : Int32) ≤ (a2)) → ((((0 : Int32) ≤ (a2)) → ((fk_X9_nearest ((a2).toInt64) ((-2 : Int64))) ∧ (True))) ∧ (¬ ((0 : Int32) ≤ (a2)) → ((fk_X9_nearest (-((a2).toInt64)) ((-2 : Int64))) ∧ (True))))))) ∧ (¬ ((jst (fn_X9_isNo (a1))) = (0 : Int32)) → (True)) := hk.1
  refine lv_aload_n hx hb dc_X9_quarters_0 rfl (lv_at hl 0 rfl) ?_
  refine lv_iload_n hx hb dc_X9_quarters_1 rfl (lv_at hl 1 rfl) ?_
  refine ky_cS0 (As := [.int (a1)]) F (mt_X9_isNo l (a1)) ks_X9_51 ⟨⟨rfl, rfl⟩, by decide, by decide⟩ rfl hl.1 rfl (Nat.le_of_ble_eq_true rfl) ⟨Nat.le_of_ble_eq_true rfl, Nat.le_of_ble_eq_true rfl⟩ dc_X9_quarters_2 ?_
  refine ky_cVh (As := [.int (fn_X9_isNo (a1))]) (wr := []) F (hE.at hfr hS) hfr (mt_X9_startJ l G (mo) (cs) ((w.1, w.2.1, w.2.2.1, w.2.2.2.1)) (f) (fn_X9_isNo (a1)) s.heap.size ) kv_X9_55 ⟨⟨rfl, rfl⟩, by decide, by decide⟩ rfl hl.1 rfl (Nat.le_of_ble_eq_true rfl) ⟨Nat.le_of_ble_eq_true rfl, Nat.le_of_ble_eq_true rfl⟩ (va_recv hE.1 hP (ci := 5) (q0 := 0) rfl rfl) trivial hP hD hS hA [0, 1] [] rfl rfl (by decide) (by decide) (by decide) dc_X9_quarters_5 ?_
  rintro v9 u9 H locs ⟨rfl, rfl⟩ hP hD hS - hz hk9
  obtain ⟨j_1, hj_1⟩ : ∃ j9, j9 = jst (fn_X9_isNo (a1)) := ⟨_, rfl⟩
  rw [← hj_1] at hP hD ⊢
  try rw [← hj_1] at hw
  try rw [← hj_1] at hk
  have hP : va_P G.1 kcl [(mo, .inr (5, [.int (j_1), .ref cs, .int (w.2.1), .int (w.2.2.1), .int (w.2.2.2.1)])), (cs, .inl (G.2.1 3, 6, .inr (.inr (.inr (.inr (f))))))] H := hP
  have hD : va_D A [(mo, .inr (5, [.int (j_1), .ref cs, .int (w.2.1), .int (w.2.2.1), .int (w.2.2.2.1)])), (cs, .inl (G.2.1 3, 6, .inr (.inr (.inr (.inr (f))))))] := hD
  have hIT := hIT0.ro hAe hS
  refine W.widen (k := 0) (n := 0) (Nat.le_refl _) (Nat.le_refl _) ?_
  refine lv_if_eq (tgt := 15) hx hb dc_X9_quarters_8 (by decide) (fun c_2 => ?_) (fun c_2 => ?_)
  · have hw := hw.trans (if_pos c_2)
    have hk := hk.1 c_2
    refine lv_aload_n hx hb dc_X9_quarters_15 rfl (lv_at hl 0 rfl) ?_
    refine lv_iload_n hx hb dc_X9_quarters_16 rfl (lv_at hl 1 rfl) ?_
    refine va_new (ci := 4) (fs := [.int (0), .long (0)]) (C := RX8) (T := TX8) (N := 2) hx hb hts ki_X8 tyX8 tyX8_ok hown (hts _ kw_6_3) (hts _ kw_6_5) (hts _ kw_1_9) hE.1 hP hD hS hA rfl (fun j hj => by rcases (show j = 0 ∨ j = 1 by omega) with rfl | rfl <;> rfl) (Nat.le_of_ble_eq_true rfl) (Nat.le_of_ble_eq_true rfl) dc_X9_quarters_17 (fun q_3 H hP hD hS => ?_)
    have hP : va_P G.1 kcl [(mo, .inr (5, [.int (j_1), .ref cs, .int (w.2.1), .int (w.2.2.1), .int (w.2.2.2.1)])), (cs, .inl (G.2.1 3, 6, .inr (.inr (.inr (.inr (f)))))), (q_3, .inr (4, [.int (0), .long (0)]))] H := hP
    have hD : va_D A [(mo, .inr (5, [.int (j_1), .ref cs, .int (w.2.1), .int (w.2.2.1), .int (w.2.2.2.1)])), (cs, .inl (G.2.1 3, 6, .inr (.inr (.inr (.inr (f)))))), (q_3, .inr (4, [.int (0), .long (0)]))] := hD
    have hIT := hIT0.ro hAe hS
    refine W.widen (k := 1) (n := 2) (Nat.le_refl _) (Nat.le_refl _) ?_
    refine lv_dup hx hb dc_X9_quarters_20 rfl ?_
    refine lv_iload_n hx hb dc_X9_quarters_21 rfl (lv_at hl 2 rfl) ?_
    refine lv_if_ge (tgt := 29) hx hb dc_X9_quarters_22 (by decide) (fun c_4 => ?_) (fun c_4 => ?_)
    · have hw := hw.trans (if_pos c_4)
      have hk := hk.1 c_4
      refine lv_iconst (v := 0) hx hb dc_X9_quarters_29 (by decide) ?_
      refine ky_cS0 (As := [.int ((0 : Int32))]) F (mt_X9_one l ((0 : Int32))) ks_X9_59 ⟨⟨rfl, rfl⟩, by decide, by decide⟩ rfl hl.1 rfl (Nat.le_of_ble_eq_true rfl) ⟨Nat.le_of_ble_eq_true rfl, Nat.le_of_ble_eq_true rfl⟩ dc_X9_quarters_30 ?_
      refine lv_iload_n hx hb dc_X9_quarters_33 rfl (lv_at hl 2 rfl) ?_
      refine lv_if_ge (tgt := 43) hx hb dc_X9_quarters_34 (by decide) (fun c_5 => ?_) (fun c_5 => ?_)
      · have hw := hw.trans (if_pos c_5)
        have hk := hk.1 c_5
        refine lv_iload_n hx hb dc_X9_quarters_43 rfl (lv_at hl 2 rfl) ?_
        refine lv_i2l (v := (a2).toInt64) hx hb dc_X9_quarters_44 rfl ?_
        refine lv_ldc2 (v := (-2)) hx hb hown (hts _ kw_6_108) dc_X9_quarters_45 ?_
        obtain ⟨hq_6, hk⟩ := hk
        refine ky_cS0 (As := [.long ((a2).toInt64), .long ((-2 : Int64))]) F (mt_X9_nearest l ((a2).toInt64) ((-2 : Int64)) hq_6) ks_X9_69 ⟨⟨rfl, rfl⟩, by decide, by decide⟩ rfl hl.1 rfl (Nat.le_of_ble_eq_true rfl) ⟨Nat.le_of_ble_eq_true rfl, Nat.le_of_ble_eq_true rfl⟩ dc_X9_quarters_48 ?_
        refine ky_cIh (As := [.int (fn_X9_one ((0 : Int32))), .long (fn_X9_nearest ((a2).toInt64) ((-2 : Int64)))]) (wr := [(mo, .inr (5, [.int (j_1), .ref cs, .int (w.2.1), .int (w.2.2.1), .int (w.2.2.2.1)])), (cs, .inl (G.2.1 3, 6, .inr (.inr (.inr (.inr (f))))))]) F (hE.at hfr hS) hfr (mt_X8_init l G (q_3) (fn_X9_one ((0 : Int32))) (fn_X9_nearest ((a2).toInt64) ((-2 : Int64))) H.size ) kI_X9_29 ⟨⟨rfl, rfl⟩, by decide, by decide⟩ rfl hl.1 rfl (Nat.le_of_ble_eq_true rfl) ⟨Nat.le_of_ble_eq_true rfl, Nat.le_of_ble_eq_true rfl⟩ trivial hP hD hS hA [2] [0, 1] rfl rfl (by decide) (by decide) (by decide) dc_X9_quarters_51 ?_
        rintro v9 u9 H locs ⟨rfl, rfl⟩ hP hD hS - hz hk9
        have hP : va_P G.1 kcl [(mo, .inr (5, [.int (j_1), .ref cs, .int (w.2.1), .int (w.2.2.1), .int (w.2.2.2.1)])), (cs, .inl (G.2.1 3, 6, .inr (.inr (.inr (.inr (f)))))), (q_3, .inr (4, [.int (fn_X9_one ((0 : Int32))), .long (fn_X9_nearest ((a2).toInt64) ((-2 : Int64)))]))] H := hP
        have hD : va_D A [(mo, .inr (5, [.int (j_1), .ref cs, .int (w.2.1), .int (w.2.2.1), .int (w.2.2.2.1)])), (cs, .inl (G.2.1 3, 6, .inr (.inr (.inr (.inr (f)))))), (q_3, .inr (4, [.int (fn_X9_one ((0 : Int32))), .long (fn_X9_nearest ((a2).toInt64) ((-2 : Int64)))]))] := hD
        have hIT := hIT0.ro hAe hS
        refine W.widen (k := 1) (n := 2) (Nat.le_refl _) (Nat.le_refl _) ?_
        have hJ_8 : ky_It G q_3 ((fn_X9_one ((0 : Int32)), fn_X9_nearest ((a2).toInt64) ((-2 : Int64)))) H := ky_itp (hP.sub (ws' := [(q_3, .inr (4, [.int (fn_X9_one ((0 : Int32))), .long (fn_X9_nearest ((a2).toInt64) ((-2 : Int64)))]))]) [2] rfl)
        have hk_8 : ky_ok mo cs N q_3 := ky_ok.own hAe hIT0.1 hD 0 1 2 rfl rfl rfl (by decide) (by decide)
        refine ky_cVh (As := [.int (a1), .ref q_3]) (wr := [(q_3, .inr (4, [.int (fn_X9_one ((0 : Int32))), .long (fn_X9_nearest ((a2).toInt64) ((-2 : Int64)))]))]) F (hE.at hfr hS) hfr (mt_X9_give l G mo cs N (j_1, w.2.1, w.2.2.1, w.2.2.2.1, w.2.2.2.2) (f) (q_3) (fn_X9_one ((0 : Int32)), fn_X9_nearest ((a2).toInt64) ((-2 : Int64))) hk_8 (a1) H.size (lr_start (hj_1.symm.trans c_2))) kv_X9_63 ⟨⟨rfl, rfl⟩, by decide, by decide⟩ rfl hl.1 rfl (Nat.le_of_ble_eq_true rfl) ⟨Nat.le_of_ble_eq_true rfl, Nat.le_of_ble_eq_true rfl⟩ (va_recv hE.1 hP (ci := 5) (q0 := 0) rfl rfl) ⟨hIT, hJ_8⟩ hP hD hS hA [0, 1] [2] rfl rfl (by decide) (by decide) (by decide) dc_X9_quarters_54 ?_
        rintro v9 ⟨w_9, f_9⟩ H locs ⟨rfl, hw_9⟩ hP hD hS hIT9 hz hk9
        have hw_9 : w_9 = (fn_X9_give (a1) (fn_X9_one ((0 : Int32)), fn_X9_nearest ((a2).toInt64) ((-2 : Int64))) (j_1, w.2.1, w.2.2.1, w.2.2.2.1, w.2.2.2.2)).2 := hw_9
        try rw [← hw_9] at hw
        try rw [← hw_9] at hk
        have hP : va_P G.1 kcl [(q_3, .inr (4, [.int (fn_X9_one ((0 : Int32))), .long (fn_X9_nearest ((a2).toInt64) ((-2 : Int64)))])), (mo, .inr (5, [.int ((w_9).1), .ref cs, .int ((w_9).2.1), .int ((w_9).2.2.1), .int ((w_9).2.2.2.1)])), (cs, .inl (G.2.1 3, 6, .inr (.inr (.inr (.inr (f_9))))))] H := hP
        have hD : va_D A [(q_3, .inr (4, [.int (fn_X9_one ((0 : Int32))), .long (fn_X9_nearest ((a2).toInt64) ((-2 : Int64)))])), (mo, .inr (5, [.int ((w_9).1), .ref cs, .int ((w_9).2.1), .int ((w_9).2.2.1), .int ((w_9).2.2.2.1)])), (cs, .inl (G.2.1 3, 6, .inr (.inr (.inr (.inr (f_9))))))] := hD
        have hIT : ky_IT G mo cs N f_9 ((w_9).2.2.2.2) H := hIT9
        refine W.widen (k := 1) (n := 2) (Nat.le_refl _) (Nat.le_refl _) ?_
        have hP9 : va_P G.1 kcl (ky_WM G mo cs ((w_9)) (f_9)) H := hP.sub [1, 2] rfl
        have hD9 : va_D A (ky_WM G mo cs ((w_9)) (f_9)) := hD.sub [1, 2] (by decide) rfl
        refine W.widen (k := 1) (n := 2) (Nat.le_of_ble_eq_true rfl) (Nat.le_of_ble_eq_true rfl) ?_
        exact W.iret (v := (fn_X9_give (a1) (fn_X9_one ((0 : Int32)), fn_X9_nearest ((a2).toInt64) ((-2 : Int64))) (j_1, w.2.1, w.2.2.1, w.2.2.2.1, w.2.2.2.2)).1) hx hb hr (fun t ht hW => ⟨by rw [ht]; exact ky_endM (fun z => some (.int z)) ((fn_X9_give (a1) (fn_X9_one ((0 : Int32)), fn_X9_nearest ((a2).toInt64) ((-2 : Int64))) (j_1, w.2.1, w.2.2.1, w.2.2.2.1, w.2.2.2.2)).1) hw hP9 hD9 (hIT), hS.F ht⟩) hS.2.2 dc_X9_quarters_57
      · have hw := hw.trans (if_neg c_5)
        have hk := hk.2 c_5
        refine lv_iload_n hx hb dc_X9_quarters_37 rfl (lv_at hl 2 rfl) ?_
        refine lv_i2l (v := (a2).toInt64) hx hb dc_X9_quarters_38 rfl ?_
        refine lv_lneg hx hb dc_X9_quarters_39 ?_
        refine lv_goto (tgt := 45) hx hb dc_X9_quarters_40 (by decide) ?_
        refine lv_ldc2 (v := (-2)) hx hb hown (hts _ kw_6_108) dc_X9_quarters_45 ?_
        obtain ⟨hq_6, hk⟩ := hk
        refine ky_cS0 (As := [.long (-((a2).toInt64)), .long ((-2 : Int64))]) F (mt_X9_nearest l (-((a2).toInt64)) ((-2 : Int64)) hq_6) ks_X9_69 ⟨⟨rfl, rfl⟩, by decide, by decide⟩ rfl hl.1 rfl (Nat.le_of_ble_eq_true rfl) ⟨Nat.le_of_ble_eq_true rfl, Nat.le_of_ble_eq_true rfl⟩ dc_X9_quarters_48 ?_
        refine ky_cIh (As := [.int (fn_X9_one ((0 : Int32))), .long (fn_X9_nearest (-((a2).toInt64)) ((-2 : Int64)))]) (wr := [(mo, .inr (5, [.int (j_1), .ref cs, .int (w.2.1), .int (w.2.2.1), .int (w.2.2.2.1)])), (cs, .inl (G.2.1 3, 6, .inr (.inr (.inr (.inr (f))))))]) F (hE.at hfr hS) hfr (mt_X8_init l G (q_3) (fn_X9_one ((0 : Int32))) (fn_X9_nearest (-((a2).toInt64)) ((-2 : Int64))) H.size ) kI_X9_29 ⟨⟨rfl, rfl⟩, by decide, by decide⟩ rfl hl.1 rfl (Nat.le_of_ble_eq_true rfl) ⟨Nat.le_of_ble_eq_true rfl, Nat.le_of_ble_eq_true rfl⟩ trivial hP hD hS hA [2] [0, 1] rfl rfl (by decide) (by decide) (by decide) dc_X9_quarters_51 ?_
        rintro v9 u9 H locs ⟨rfl, rfl⟩ hP hD hS - hz hk9
        have hP : va_P G.1 kcl [(mo, .inr (5, [.int (j_1), .ref cs, .int (w.2.1), .int (w.2.2.1), .int (w.2.2.2.1)])), (cs, .inl (G.2.1 3, 6, .inr (.inr (.inr (.inr (f)))))), (q_3, .inr (4, [.int (fn_X9_one ((0 : Int32))), .long (fn_X9_nearest (-((a2).toInt64)) ((-2 : Int64)))]))] H := hP
        have hD : va_D A [(mo, .inr (5, [.int (j_1), .ref cs, .int (w.2.1), .int (w.2.2.1), .int (w.2.2.2.1)])), (cs, .inl (G.2.1 3, 6, .inr (.inr (.inr (.inr (f)))))), (q_3, .inr (4, [.int (fn_X9_one ((0 : Int32))), .long (fn_X9_nearest (-((a2).toInt64)) ((-2 : Int64)))]))] := hD
        have hIT := hIT0.ro hAe hS
        refine W.widen (k := 1) (n := 2) (Nat.le_refl _) (Nat.le_refl _) ?_
        have hJ_8 : ky_It G q_3 ((fn_X9_one ((0 : Int32)), fn_X9_nearest (-((a2).toInt64)) ((-2 : Int64)))) H := ky_itp (hP.sub (ws' := [(q_3, .inr (4, [.int (fn_X9_one ((0 : Int32))), .long (fn_X9_nearest (-((a2).toInt64)) ((-2 : Int64)))]))]) [2] rfl)
        have hk_8 : ky_ok mo cs N q_3 := ky_ok.own hAe hIT0.1 hD 0 1 2 rfl rfl rfl (by decide) (by decide)
        refine ky_cVh (As := [.int (a1), .ref q_3]) (wr := [(q_3, .inr (4, [.int (fn_X9_one ((0 : Int32))), .long (fn_X9_nearest (-((a2).toInt64)) ((-2 : Int64)))]))]) F (hE.at hfr hS) hfr (mt_X9_give l G mo cs N (j_1, w.2.1, w.2.2.1, w.2.2.2.1, w.2.2.2.2) (f) (q_3) (fn_X9_one ((0 : Int32)), fn_X9_nearest (-((a2).toInt64)) ((-2 : Int64))) hk_8 (a1) H.size (lr_start (hj_1.symm.trans c_2))) kv_X9_63 ⟨⟨rfl, rfl⟩, by decide, by decide⟩ rfl hl.1 rfl (Nat.le_of_ble_eq_true rfl) ⟨Nat.le_of_ble_eq_true rfl, Nat.le_of_ble_eq_true rfl⟩ (va_recv hE.1 hP (ci := 5) (q0 := 0) rfl rfl) ⟨hIT, hJ_8⟩ hP hD hS hA [0, 1] [2] rfl rfl (by decide) (by decide) (by decide) dc_X9_quarters_54 ?_
        rintro v9 ⟨w_9, f_9⟩ H locs ⟨rfl, hw_9⟩ hP hD hS hIT9 hz hk9
        have hw_9 : w_9 = (fn_X9_give (a1) (fn_X9_one ((0 : Int32)), fn_X9_nearest (-((a2).toInt64)) ((-2 : Int64))) (j_1, w.2.1, w.2.2.1, w.2.2.2.1, w.2.2.2.2)).2 := hw_9
        try rw [← hw_9] at hw
        try rw [← hw_9] at hk
        have hP : va_P G.1 kcl [(q_3, .inr (4, [.int (fn_X9_one ((0 : Int32))), .long (fn_X9_nearest (-((a2).toInt64)) ((-2 : Int64)))])), (mo, .inr (5, [.int ((w_9).1), .ref cs, .int ((w_9).2.1), .int ((w_9).2.2.1), .int ((w_9).2.2.2.1)])), (cs, .inl (G.2.1 3, 6, .inr (.inr (.inr (.inr (f_9))))))] H := hP
        have hD : va_D A [(q_3, .inr (4, [.int (fn_X9_one ((0 : Int32))), .long (fn_X9_nearest (-((a2).toInt64)) ((-2 : Int64)))])), (mo, .inr (5, [.int ((w_9).1), .ref cs, .int ((w_9).2.1), .int ((w_9).2.2.1), .int ((w_9).2.2.2.1)])), (cs, .inl (G.2.1 3, 6, .inr (.inr (.inr (.inr (f_9))))))] := hD
        have hIT : ky_IT G mo cs N f_9 ((w_9).2.2.2.2) H := hIT9
        refine W.widen (k := 1) (n := 2) (Nat.le_refl _) (Nat.le_refl _) ?_
        have hP9 : va_P G.1 kcl (ky_WM G mo cs ((w_9)) (f_9)) H := hP.sub [1, 2] rfl
        have hD9 : va_D A (ky_WM G mo cs ((w_9)) (f_9)) := hD.sub [1, 2] (by decide) rfl
        refine W.widen (k := 1) (n := 2) (Nat.le_of_ble_eq_true rfl) (Nat.le_of_ble_eq_true rfl) ?_
        exact W.iret (v := (fn_X9_give (a1) (fn_X9_one ((0 : Int32)), fn_X9_nearest (-((a2).toInt64)) ((-2 : Int64))) (j_1, w.2.1, w.2.2.1, w.2.2.2.1, w.2.2.2.2)).1) hx hb hr (fun t ht hW => ⟨by rw [ht]; exact ky_endM (fun z => some (.int z)) ((fn_X9_give (a1) (fn_X9_one ((0 : Int32)), fn_X9_nearest (-((a2).toInt64)) ((-2 : Int64))) (j_1, w.2.1, w.2.2.1, w.2.2.2.1, w.2.2.2.2)).1) hw hP9 hD9 (hIT), hS.F ht⟩) hS.2.2 dc_X9_quarters_57
    · have hw := hw.trans (if_neg c_4)
      have hk := hk.2 c_4
      refine lv_iconst (v := 1) hx hb dc_X9_quarters_25 (by decide) ?_
      refine lv_goto (tgt := 30) hx hb dc_X9_quarters_26 (by decide) ?_
      refine ky_cS0 (As := [.int ((1 : Int32))]) F (mt_X9_one l ((1 : Int32))) ks_X9_59 ⟨⟨rfl, rfl⟩, by decide, by decide⟩ rfl hl.1 rfl (Nat.le_of_ble_eq_true rfl) ⟨Nat.le_of_ble_eq_true rfl, Nat.le_of_ble_eq_true rfl⟩ dc_X9_quarters_30 ?_
      refine lv_iload_n hx hb dc_X9_quarters_33 rfl (lv_at hl 2 rfl) ?_
      refine lv_if_ge (tgt := 43) hx hb dc_X9_quarters_34 (by decide) (fun c_5 => ?_) (fun c_5 => ?_)
      · have hw := hw.trans (if_pos c_5)
        have hk := hk.1 c_5
        refine lv_iload_n hx hb dc_X9_quarters_43 rfl (lv_at hl 2 rfl) ?_
        refine lv_i2l (v := (a2).toInt64) hx hb dc_X9_quarters_44 rfl ?_
        refine lv_ldc2 (v := (-2)) hx hb hown (hts _ kw_6_108) dc_X9_quarters_45 ?_
        obtain ⟨hq_6, hk⟩ := hk
        refine ky_cS0 (As := [.long ((a2).toInt64), .long ((-2 : Int64))]) F (mt_X9_nearest l ((a2).toInt64) ((-2 : Int64)) hq_6) ks_X9_69 ⟨⟨rfl, rfl⟩, by decide, by decide⟩ rfl hl.1 rfl (Nat.le_of_ble_eq_true rfl) ⟨Nat.le_of_ble_eq_true rfl, Nat.le_of_ble_eq_true rfl⟩ dc_X9_quarters_48 ?_
        refine ky_cIh (As := [.int (fn_X9_one ((1 : Int32))), .long (fn_X9_nearest ((a2).toInt64) ((-2 : Int64)))]) (wr := [(mo, .inr (5, [.int (j_1), .ref cs, .int (w.2.1), .int (w.2.2.1), .int (w.2.2.2.1)])), (cs, .inl (G.2.1 3, 6, .inr (.inr (.inr (.inr (f))))))]) F (hE.at hfr hS) hfr (mt_X8_init l G (q_3) (fn_X9_one ((1 : Int32))) (fn_X9_nearest ((a2).toInt64) ((-2 : Int64))) H.size ) kI_X9_29 ⟨⟨rfl, rfl⟩, by decide, by decide⟩ rfl hl.1 rfl (Nat.le_of_ble_eq_true rfl) ⟨Nat.le_of_ble_eq_true rfl, Nat.le_of_ble_eq_true rfl⟩ trivial hP hD hS hA [2] [0, 1] rfl rfl (by decide) (by decide) (by decide) dc_X9_quarters_51 ?_
        rintro v9 u9 H locs ⟨rfl, rfl⟩ hP hD hS - hz hk9
        have hP : va_P G.1 kcl [(mo, .inr (5, [.int (j_1), .ref cs, .int (w.2.1), .int (w.2.2.1), .int (w.2.2.2.1)])), (cs, .inl (G.2.1 3, 6, .inr (.inr (.inr (.inr (f)))))), (q_3, .inr (4, [.int (fn_X9_one ((1 : Int32))), .long (fn_X9_nearest ((a2).toInt64) ((-2 : Int64)))]))] H := hP
        have hD : va_D A [(mo, .inr (5, [.int (j_1), .ref cs, .int (w.2.1), .int (w.2.2.1), .int (w.2.2.2.1)])), (cs, .inl (G.2.1 3, 6, .inr (.inr (.inr (.inr (f)))))), (q_3, .inr (4, [.int (fn_X9_one ((1 : Int32))), .long (fn_X9_nearest ((a2).toInt64) ((-2 : Int64)))]))] := hD
        have hIT := hIT0.ro hAe hS
        refine W.widen (k := 1) (n := 2) (Nat.le_refl _) (Nat.le_refl _) ?_
        have hJ_8 : ky_It G q_3 ((fn_X9_one ((1 : Int32)), fn_X9_nearest ((a2).toInt64) ((-2 : Int64)))) H := ky_itp (hP.sub (ws' := [(q_3, .inr (4, [.int (fn_X9_one ((1 : Int32))), .long (fn_X9_nearest ((a2).toInt64) ((-2 : Int64)))]))]) [2] rfl)
        have hk_8 : ky_ok mo cs N q_3 := ky_ok.own hAe hIT0.1 hD 0 1 2 rfl rfl rfl (by decide) (by decide)
        refine ky_cVh (As := [.int (a1), .ref q_3]) (wr := [(q_3, .inr (4, [.int (fn_X9_one ((1 : Int32))), .long (fn_X9_nearest ((a2).toInt64) ((-2 : Int64)))]))]) F (hE.at hfr hS) hfr (mt_X9_give l G mo cs N (j_1, w.2.1, w.2.2.1, w.2.2.2.1, w.2.2.2.2) (f) (q_3) (fn_X9_one ((1 : Int32)), fn_X9_nearest ((a2).toInt64) ((-2 : Int64))) hk_8 (a1) H.size (lr_start (hj_1.symm.trans c_2))) kv_X9_63 ⟨⟨rfl, rfl⟩, by decide, by decide⟩ rfl hl.1 rfl (Nat.le_of_ble_eq_true rfl) ⟨Nat.le_of_ble_eq_true rfl, Nat.le_of_ble_eq_true rfl⟩ (va_recv hE.1 hP (ci := 5) (q0 := 0) rfl rfl) ⟨hIT, hJ_8⟩ hP hD hS hA [0, 1] [2] rfl rfl (by decide) (by decide) (by decide) dc_X9_quarters_54 ?_
        rintro v9 ⟨w_9, f_9⟩ H locs ⟨rfl, hw_9⟩ hP hD hS hIT9 hz hk9
        have hw_9 : w_9 = (fn_X9_give (a1) (fn_X9_one ((1 : Int32)), fn_X9_nearest ((a2).toInt64) ((-2 : Int64))) (j_1, w.2.1, w.2.2.1, w.2.2.2.1, w.2.2.2.2)).2 := hw_9
        try rw [← hw_9] at hw
        try rw [← hw_9] at hk
        have hP : va_P G.1 kcl [(q_3, .inr (4, [.int (fn_X9_one ((1 : Int32))), .long (fn_X9_nearest ((a2).toInt64) ((-2 : Int64)))])), (mo, .inr (5, [.int ((w_9).1), .ref cs, .int ((w_9).2.1), .int ((w_9).2.2.1), .int ((w_9).2.2.2.1)])), (cs, .inl (G.2.1 3, 6, .inr (.inr (.inr (.inr (f_9))))))] H := hP
        have hD : va_D A [(q_3, .inr (4, [.int (fn_X9_one ((1 : Int32))), .long (fn_X9_nearest ((a2).toInt64) ((-2 : Int64)))])), (mo, .inr (5, [.int ((w_9).1), .ref cs, .int ((w_9).2.1), .int ((w_9).2.2.1), .int ((w_9).2.2.2.1)])), (cs, .inl (G.2.1 3, 6, .inr (.inr (.inr (.inr (f_9))))))] := hD
        have hIT : ky_IT G mo cs N f_9 ((w_9).2.2.2.2) H := hIT9
        refine W.widen (k := 1) (n := 2) (Nat.le_refl _) (Nat.le_refl _) ?_
        have hP9 : va_P G.1 kcl (ky_WM G mo cs ((w_9)) (f_9)) H := hP.sub [1, 2] rfl
        have hD9 : va_D A (ky_WM G mo cs ((w_9)) (f_9)) := hD.sub [1, 2] (by decide) rfl
        refine W.widen (k := 1) (n := 2) (Nat.le_of_ble_eq_true rfl) (Nat.le_of_ble_eq_true rfl) ?_
        exact W.iret (v := (fn_X9_give (a1) (fn_X9_one ((1 : Int32)), fn_X9_nearest ((a2).toInt64) ((-2 : Int64))) (j_1, w.2.1, w.2.2.1, w.2.2.2.1, w.2.2.2.2)).1) hx hb hr (fun t ht hW => ⟨by rw [ht]; exact ky_endM (fun z => some (.int z)) ((fn_X9_give (a1) (fn_X9_one ((1 : Int32)), fn_X9_nearest ((a2).toInt64) ((-2 : Int64))) (j_1, w.2.1, w.2.2.1, w.2.2.2.1, w.2.2.2.2)).1) hw hP9 hD9 (hIT), hS.F ht⟩) hS.2.2 dc_X9_quarters_57
      · have hw := hw.trans (if_neg c_5)
        have hk := hk.2 c_5
        refine lv_iload_n hx hb dc_X9_quarters_37 rfl (lv_at hl 2 rfl) ?_
        refine lv_i2l (v := (a2).toInt64) hx hb dc_X9_quarters_38 rfl ?_
        refine lv_lneg hx hb dc_X9_quarters_39 ?_
        refine lv_goto (tgt := 45) hx hb dc_X9_quarters_40 (by decide) ?_
        refine lv_ldc2 (v := (-2)) hx hb hown (hts _ kw_6_108) dc_X9_quarters_45 ?_
        obtain ⟨hq_6, hk⟩ := hk
        refine ky_cS0 (As := [.long (-((a2).toInt64)), .long ((-2 : Int64))]) F (mt_X9_nearest l (-((a2).toInt64)) ((-2 : Int64)) hq_6) ks_X9_69 ⟨⟨rfl, rfl⟩, by decide, by decide⟩ rfl hl.1 rfl (Nat.le_of_ble_eq_true rfl) ⟨Nat.le_of_ble_eq_true rfl, Nat.le_of_ble_eq_true rfl⟩ dc_X9_quarters_48 ?_
        refine ky_cIh (As := [.int (fn_X9_one ((1 : Int32))), .long (fn_X9_nearest (-((a2).toInt64)) ((-2 : Int64)))]) (wr := [(mo, .inr (5, [.int (j_1), .ref cs, .int (w.2.1), .int (w.2.2.1), .int (w.2.2.2.1)])), (cs, .inl (G.2.1 3, 6, .inr (.inr (.inr (.inr (f))))))]) F (hE.at hfr hS) hfr (mt_X8_init l G (q_3) (fn_X9_one ((1 : Int32))) (fn_X9_nearest (-((a2).toInt64)) ((-2 : Int64))) H.size ) kI_X9_29 ⟨⟨rfl, rfl⟩, by decide, by decide⟩ rfl hl.1 rfl (Nat.le_of_ble_eq_true rfl) ⟨Nat.le_of_ble_eq_true rfl, Nat.le_of_ble_eq_true rfl⟩ trivial hP hD hS hA [2] [0, 1] rfl rfl (by decide) (by decide) (by decide) dc_X9_quarters_51 ?_
        rintro v9 u9 H locs ⟨rfl, rfl⟩ hP hD hS - hz hk9
        have hP : va_P G.1 kcl [(mo, .inr (5, [.int (j_1), .ref cs, .int (w.2.1), .int (w.2.2.1), .int (w.2.2.2.1)])), (cs, .inl (G.2.1 3, 6, .inr (.inr (.inr (.inr (f)))))), (q_3, .inr (4, [.int (fn_X9_one ((1 : Int32))), .long (fn_X9_nearest (-((a2).toInt64)) ((-2 : Int64)))]))] H := hP
        have hD : va_D A [(mo, .inr (5, [.int (j_1), .ref cs, .int (w.2.1), .int (w.2.2.1), .int (w.2.2.2.1)])), (cs, .inl (G.2.1 3, 6, .inr (.inr (.inr (.inr (f)))))), (q_3, .inr (4, [.int (fn_X9_one ((1 : Int32))), .long (fn_X9_nearest (-((a2).toInt64)) ((-2 : Int64)))]))] := hD
        have hIT := hIT0.ro hAe hS
        refine W.widen (k := 1) (n := 2) (Nat.le_refl _) (Nat.le_refl _) ?_
        have hJ_8 : ky_It G q_3 ((fn_X9_one ((1 : Int32)), fn_X9_nearest (-((a2).toInt64)) ((-2 : Int64)))) H := ky_itp (hP.sub (ws' := [(q_3, .inr (4, [.int (fn_X9_one ((1 : Int32))), .long (fn_X9_nearest (-((a2).toInt64)) ((-2 : Int64)))]))]) [2] rfl)
        have hk_8 : ky_ok mo cs N q_3 := ky_ok.own hAe hIT0.1 hD 0 1 2 rfl rfl rfl (by decide) (by decide)
        refine ky_cVh (As := [.int (a1), .ref q_3]) (wr := [(q_3, .inr (4, [.int (fn_X9_one ((1 : Int32))), .long (fn_X9_nearest (-((a2).toInt64)) ((-2 : Int64)))]))]) F (hE.at hfr hS) hfr (mt_X9_give l G mo cs N (j_1, w.2.1, w.2.2.1, w.2.2.2.1, w.2.2.2.2) (f) (q_3) (fn_X9_one ((1 : Int32)), fn_X9_nearest (-((a2).toInt64)) ((-2 : Int64))) hk_8 (a1) H.size (lr_start (hj_1.symm.trans c_2))) kv_X9_63 ⟨⟨rfl, rfl⟩, by decide, by decide⟩ rfl hl.1 rfl (Nat.le_of_ble_eq_true rfl) ⟨Nat.le_of_ble_eq_true rfl, Nat.le_of_ble_eq_true rfl⟩ (va_recv hE.1 hP (ci := 5) (q0 := 0) rfl rfl) ⟨hIT, hJ_8⟩ hP hD hS hA [0, 1] [2] rfl rfl (by decide) (by decide) (by decide) dc_X9_quarters_54 ?_
        rintro v9 ⟨w_9, f_9⟩ H locs ⟨rfl, hw_9⟩ hP hD hS hIT9 hz hk9
        have hw_9 : w_9 = (fn_X9_give (a1) (fn_X9_one ((1 : Int32)), fn_X9_nearest (-((a2).toInt64)) ((-2 : Int64))) (j_1, w.2.1, w.2.2.1, w.2.2.2.1, w.2.2.2.2)).2 := hw_9
        try rw [← hw_9] at hw
        try rw [← hw_9] at hk
        have hP : va_P G.1 kcl [(q_3, .inr (4, [.int (fn_X9_one ((1 : Int32))), .long (fn_X9_nearest (-((a2).toInt64)) ((-2 : Int64)))])), (mo, .inr (5, [.int ((w_9).1), .ref cs, .int ((w_9).2.1), .int ((w_9).2.2.1), .int ((w_9).2.2.2.1)])), (cs, .inl (G.2.1 3, 6, .inr (.inr (.inr (.inr (f_9))))))] H := hP
        have hD : va_D A [(q_3, .inr (4, [.int (fn_X9_one ((1 : Int32))), .long (fn_X9_nearest (-((a2).toInt64)) ((-2 : Int64)))])), (mo, .inr (5, [.int ((w_9).1), .ref cs, .int ((w_9).2.1), .int ((w_9).2.2.1), .int ((w_9).2.2.2.1)])), (cs, .inl (G.2.1 3, 6, .inr (.inr (.inr (.inr (f_9))))))] := hD
        have hIT : ky_IT G mo cs N f_9 ((w_9).2.2.2.2) H := hIT9
        refine W.widen (k := 1) (n := 2) (Nat.le_refl _) (Nat.le_refl _) ?_
        have hP9 : va_P G.1 kcl (ky_WM G mo cs ((w_9)) (f_9)) H := hP.sub [1, 2] rfl
        have hD9 : va_D A (ky_WM G mo cs ((w_9)) (f_9)) := hD.sub [1, 2] (by decide) rfl
        refine W.widen (k := 1) (n := 2) (Nat.le_of_ble_eq_true rfl) (Nat.le_of_ble_eq_true rfl) ?_
        exact W.iret (v := (fn_X9_give (a1) (fn_X9_one ((1 : Int32)), fn_X9_nearest (-((a2).toInt64)) ((-2 : Int64))) (j_1, w.2.1, w.2.2.1, w.2.2.2.1, w.2.2.2.2)).1) hx hb hr (fun t ht hW => ⟨by rw [ht]; exact ky_endM (fun z => some (.int z)) ((fn_X9_give (a1) (fn_X9_one ((1 : Int32)), fn_X9_nearest (-((a2).toInt64)) ((-2 : Int64))) (j_1, w.2.1, w.2.2.1, w.2.2.2.1, w.2.2.2.2)).1) hw hP9 hD9 (hIT), hS.F ht⟩) hS.2.2 dc_X9_quarters_57
  · have hw := hw.trans (if_neg c_2)
    have hk := hk.2 c_2
    refine lv_iconst (v := 0) hx hb dc_X9_quarters_11 (by decide) ?_
    refine lv_goto (tgt := 57) hx hb dc_X9_quarters_12 (by decide) ?_
    have hP9 : va_P G.1 kcl (ky_WM G mo cs ((j_1, w.2.1, w.2.2.1, w.2.2.2.1, w.2.2.2.2)) (f)) H := hP.sub [0, 1] rfl
    have hD9 : va_D A (ky_WM G mo cs ((j_1, w.2.1, w.2.2.1, w.2.2.2.1, w.2.2.2.2)) (f)) := hD.sub [0, 1] (by decide) rfl
    refine W.widen (k := 1) (n := 2) (Nat.le_of_ble_eq_true rfl) (Nat.le_of_ble_eq_true rfl) ?_
    exact W.iret (v := (0 : Int32)) hx hb hr (fun t ht hW => ⟨by rw [ht]; exact ky_endM (fun z => some (.int z)) ((0 : Int32)) hw hP9 hD9 (hIT), hS.F ht⟩) hS.2.2 dc_X9_quarters_57
end
section
def fn_X9_power (a1 : Int32) (a2 : Int32) (a3 : Int32)  (w : ky_MV) : Int32 × ky_MV :=
  if (jst (fn_X9_isNo (a1))) = (0 : Int32) then (if (fn_X9_isOf (a2) ((-1100 : Int32)) ((1100 : Int32))) = (0 : Int32) then (if (jrr (jrt ((1 : Int32)) ((2 : Int32)) (jst (fn_X9_isNo (a1))))) = (0 : Int32) then (((fn_X9_give (a1) (fn_X9_one (a3), fn_X9_nearest ((1 : Int64)) ((a2).toInt64)) (jrt ((1 : Int32)) ((2 : Int32)) (jst (fn_X9_isNo (a1))), w.2.1, w.2.2.1, w.2.2.2.1, w.2.2.2.2)).1, ((fn_X9_give (a1) (fn_X9_one (a3), fn_X9_nearest ((1 : Int64)) ((a2).toInt64)) (jrt ((1 : Int32)) ((2 : Int32)) (jst (fn_X9_isNo (a1))), w.2.1, w.2.2.1, w.2.2.2.1, w.2.2.2.2)).2))) else (((0 : Int32), (jrt ((1 : Int32)) ((2 : Int32)) (jst (fn_X9_isNo (a1))), w.2.1, w.2.2.1, w.2.2.2.1, w.2.2.2.2)))) else (if (jrr (jrt ((0 : Int32)) ((2 : Int32)) (jst (fn_X9_isNo (a1))))) = (0 : Int32) then (((fn_X9_give (a1) (fn_X9_one (a3), fn_X9_nearest ((1 : Int64)) ((a2).toInt64)) (jrt ((0 : Int32)) ((2 : Int32)) (jst (fn_X9_isNo (a1))), w.2.1, w.2.2.1, w.2.2.2.1, w.2.2.2.2)).1, ((fn_X9_give (a1) (fn_X9_one (a3), fn_X9_nearest ((1 : Int64)) ((a2).toInt64)) (jrt ((0 : Int32)) ((2 : Int32)) (jst (fn_X9_isNo (a1))), w.2.1, w.2.2.1, w.2.2.2.1, w.2.2.2.2)).2))) else (((0 : Int32), (jrt ((0 : Int32)) ((2 : Int32)) (jst (fn_X9_isNo (a1))), w.2.1, w.2.2.1, w.2.2.2.1, w.2.2.2.2))))) else (((0 : Int32), (jst (fn_X9_isNo (a1)), w.2.1, w.2.2.1, w.2.2.2.1, w.2.2.2.2)))
def fk_X9_power (a1 : Int32) (a2 : Int32) (a3 : Int32)  (w : ky_MV) : Prop :=
  ((((jst (fn_X9_isNo (a1))) = (0 : Int32)) → ((((fn_X9_isOf (a2) ((-1100 : Int32)) ((1100 : Int32))) = (0 : Int32)) → ((((jrr (jrt ((1 : Int32)) ((2 : Int32)) (jst (fn_X9_isNo (a1))))) = (0 : Int32)) → ((fk_X9_nearest ((1 : Int64)) ((a2).toInt64)) ∧ (True))) ∧ (¬ ((jrr (jrt ((1 : Int32)) ((2 : Int32)) (jst (fn_X9_isNo (a1))))) = (0 : Int32)) → (True)))) ∧ (¬ ((fn_X9_isOf (a2) ((-1100 : Int32)) ((1100 : Int32))) = (0 : Int32)) → ((((jrr (jrt ((0 : Int32)) ((2 : Int32)) (jst (fn_X9_isNo (a1))))) = (0 : Int32)) → ((fk_X9_nearest ((1 : Int64)) ((a2).toInt64)) ∧ (True))) ∧ (¬ ((jrr (jrt ((0 : Int32)) ((2 : Int32)) (jst (fn_X9_isNo (a1))))) = (0 : Int32)) → (True)))))) ∧ (¬ ((jst (fn_X9_isNo (a1))) = (0 : Int32)) → (True))) ∧ True
set_option linter.constructorNameAsVariable false in
set_option maxHeartbeats 4000000 in
set_option maxRecDepth 100000 in
theorem mt_X9_power (l : Launch) (G : ky_G) (mo cs : Nat) (N : Nat → Prop) (w : ky_MV) (f : Nat → Option Nat)    (a1 : Int32) (a2 : Int32) (a3 : Int32) (sz : Nat) (hk : fk_X9_power a1 a2 a3 w) : Met l my_X9_power (.code my_X9_power prog_10_method_15_code 4 (some .int) :: ky_B) { frames := 6, cells := 1, slots := 2, locals := 127 } (ky_P G [.ref mo, .int (a1), .int (a2), .int (a3)] (ky_WM G mo cs w f) sz (fun H => ky_IT G mo cs N f w.2.2.2.2 H)) (ky_Q (S := ky_MV × (Nat → Option Nat)) G (va_A (ky_WM G mo cs w f) sz) (fun v u => v = some (.int (fn_X9_power a1 a2 a3 w).1) ∧ u.1 = (fn_X9_power a1 a2 a3 w).2) (fun u => ky_WM G mo cs u.1 u.2) (fun u H => ky_IT G mo cs N u.2 u.1.2.2.2.2 H)) 1 2 (va_A (ky_WM G mo cs w f) sz) := by
  refine ky_start (by decide) (Nat.le_of_ble_eq_true rfl) (fun p e s m below meth c F hE A hAe hsz hA hfr hP hD hS hX ls hl => ?_)
  obtain ⟨hx, hb, hml, hown, hr, hlocks, hts⟩ := id F
  have hIT0 := hX
  have hIT := hIT0
  have hl : lv_has ls 4 [(0, .ref mo), (1, .int (a1)), (2, .int (a2)), (3, .int (a3))] := hl
  have hP : va_P G.1 kcl [(mo, .inr (5, [.int (w.1), .ref cs, .int (w.2.1), .int (w.2.2.1), .int (w.2.2.2.1)])), (cs, .inl (G.2.1 3, 6, .inr (.inr (.inr (.inr (f))))))] s.heap := hP
  have hD : va_D A [(mo, .inr (5, [.int (w.1), .ref cs, .int (w.2.1), .int (w.2.2.1), .int (w.2.2.2.1)])), (cs, .inl (G.2.1 3, 6, .inr (.inr (.inr (.inr (f))))))] := hD
  have hw : fn_X9_power a1 a2 a3 w = _ := fn_X9_power.eq_1 a1 a2 a3 w
  have hk : (((jst (fn_X9_isNo (a1))) = (0 : Int32)) → ((((fn_X9_isOf (a2) ((-1100 : Int32)) ((1100 : Int32))) = (0 : Int32)) → ((((jrr (jrt ((1 : Int32)) ((2 : Int32)) (jst (fn_X9_isNo (a1))))) = (0 : Int32)) → ((fk_X9_nearest ((1 : Int64)) ((a2).toInt64)) ∧ (True))) ∧ (¬ ((jrr (jrt ((1 : Int32)) ((2 : Int32)) (jst (fn_X9_isNo (a1))))) = (0 : Int32)) → (True)))) ∧ (¬ ((fn_X9_isOf (a2) ((-1100 : Int32)) ((1100 : Int32))) = (0 : Int32)) → ((((jrr (jrt ((0 : Int32)) ((2 : Int32)) (jst (fn_X9_isNo (a1))))) = (0 : Int32)) → ((fk_X9_nearest ((1 : Int64)) ((a2).toInt64)) ∧ (True))) ∧ (¬ ((jrr (jrt ((0 : Int32)) ((2 : Int32)) (jst (fn_X9_isNo (a1))))) = (0 : Int32)) → (True)))))) ∧ (¬ ((jst (fn_X9_isNo (a1))) = (0 : Int32)) → (True)) := hk.1
  refine lv_aload_n hx hb dc_X9_power_0 rfl (lv_at hl 0 rfl) ?_
  refine lv_iload_n hx hb dc_X9_power_1 rfl (lv_at hl 1 rfl) ?_
  refine ky_cS0 (As := [.int (a1)]) F (mt_X9_isNo l (a1)) ks_X9_51 ⟨⟨rfl, rfl⟩, by decide, by decide⟩ rfl hl.1 rfl (Nat.le_of_ble_eq_true rfl) ⟨Nat.le_of_ble_eq_true rfl, Nat.le_of_ble_eq_true rfl⟩ dc_X9_power_2 ?_
  refine ky_cVh (As := [.int (fn_X9_isNo (a1))]) (wr := []) F (hE.at hfr hS) hfr (mt_X9_startJ l G (mo) (cs) ((w.1, w.2.1, w.2.2.1, w.2.2.2.1)) (f) (fn_X9_isNo (a1)) s.heap.size ) kv_X9_55 ⟨⟨rfl, rfl⟩, by decide, by decide⟩ rfl hl.1 rfl (Nat.le_of_ble_eq_true rfl) ⟨Nat.le_of_ble_eq_true rfl, Nat.le_of_ble_eq_true rfl⟩ (va_recv hE.1 hP (ci := 5) (q0 := 0) rfl rfl) trivial hP hD hS hA [0, 1] [] rfl rfl (by decide) (by decide) (by decide) dc_X9_power_5 ?_
  rintro v9 u9 H locs ⟨rfl, rfl⟩ hP hD hS - hz hk9
  obtain ⟨j_1, hj_1⟩ : ∃ j9, j9 = jst (fn_X9_isNo (a1)) := ⟨_, rfl⟩
  rw [← hj_1] at hP hD ⊢
  try rw [← hj_1] at hw
  try rw [← hj_1] at hk
  have hP : va_P G.1 kcl [(mo, .inr (5, [.int (j_1), .ref cs, .int (w.2.1), .int (w.2.2.1), .int (w.2.2.2.1)])), (cs, .inl (G.2.1 3, 6, .inr (.inr (.inr (.inr (f))))))] H := hP
  have hD : va_D A [(mo, .inr (5, [.int (j_1), .ref cs, .int (w.2.1), .int (w.2.2.1), .int (w.2.2.2.1)])), (cs, .inl (G.2.1 3, 6, .inr (.inr (.inr (.inr (f))))))] := hD
  have hIT := hIT0.ro hAe hS
  refine W.widen (k := 0) (n := 0) (Nat.le_refl _) (Nat.le_refl _) ?_
  refine lv_if_ne (tgt := 37) hx hb dc_X9_power_8 (by decide) (fun c_2 => ?_) (fun c_2 => ?_)
  · have hw := hw.trans (if_neg c_2)
    have hk := hk.2 c_2
    refine lv_iconst (v := 0) hx hb dc_X9_power_37 (by decide) ?_
    refine lv_goto (tgt := 63) hx hb dc_X9_power_38 (by decide) ?_
    have hP9 : va_P G.1 kcl (ky_WM G mo cs ((j_1, w.2.1, w.2.2.1, w.2.2.2.1, w.2.2.2.2)) (f)) H := hP.sub [0, 1] rfl
    have hD9 : va_D A (ky_WM G mo cs ((j_1, w.2.1, w.2.2.1, w.2.2.2.1, w.2.2.2.2)) (f)) := hD.sub [0, 1] (by decide) rfl
    refine W.widen (k := 1) (n := 2) (Nat.le_of_ble_eq_true rfl) (Nat.le_of_ble_eq_true rfl) ?_
    exact W.iret (v := (0 : Int32)) hx hb hr (fun t ht hW => ⟨by rw [ht]; exact ky_endM (fun z => some (.int z)) ((0 : Int32)) hw hP9 hD9 (hIT), hS.F ht⟩) hS.2.2 dc_X9_power_63
  · have hw := hw.trans (if_pos c_2)
    have hk := hk.1 c_2
    refine lv_aload_n hx hb dc_X9_power_11 rfl (lv_at hl 0 rfl) ?_
    refine lv_iload_n hx hb dc_X9_power_12 rfl (lv_at hl 2 rfl) ?_
    refine lv_sipush (v := (-1100)) hx hb dc_X9_power_13 (by decide) ?_
    refine lv_sipush (v := 1100) hx hb dc_X9_power_16 (by decide) ?_
    refine ky_cS0 (As := [.int (a2), .int ((-1100 : Int32)), .int ((1100 : Int32))]) F (mt_X9_isOf l (a2) ((-1100 : Int32)) ((1100 : Int32))) ks_X9_40 ⟨⟨rfl, rfl⟩, by decide, by decide⟩ rfl hl.1 rfl (Nat.le_of_ble_eq_true rfl) ⟨Nat.le_of_ble_eq_true rfl, Nat.le_of_ble_eq_true rfl⟩ dc_X9_power_19 ?_
    refine lv_if_ne (tgt := 29) hx hb dc_X9_power_22 (by decide) (fun c_3 => ?_) (fun c_3 => ?_)
    · have hw := hw.trans (if_neg c_3)
      have hk := hk.2 c_3
      refine lv_iconst (v := 0) hx hb dc_X9_power_29 (by decide) ?_
      refine lv_iconst (v := 2) hx hb dc_X9_power_30 (by decide) ?_
      refine ky_cVh (As := [.int ((0 : Int32)), .int ((2 : Int32))]) (wr := []) F (hE.at hfr hS) hfr (mt_X9_refuseJ l G (mo) (cs) ((j_1, w.2.1, w.2.2.1, w.2.2.2.1)) (f) ((0 : Int32)) ((2 : Int32)) H.size ) kv_X9_36 ⟨⟨rfl, rfl⟩, by decide, by decide⟩ rfl hl.1 rfl (Nat.le_of_ble_eq_true rfl) ⟨Nat.le_of_ble_eq_true rfl, Nat.le_of_ble_eq_true rfl⟩ (va_recv hE.1 hP (ci := 5) (q0 := 0) rfl rfl) trivial hP hD hS hA [0, 1] [] rfl rfl (by decide) (by decide) (by decide) dc_X9_power_31 ?_
      rintro v9 u9 H locs ⟨rfl, rfl⟩ hP hD hS - hz hk9
      obtain ⟨j_5, hj_5⟩ : ∃ j9, j9 = jrt ((0 : Int32)) ((2 : Int32)) (j_1) := ⟨_, rfl⟩
      rw [← hj_5] at hP hD ⊢
      try rw [← hj_5] at hw
      try rw [← hj_5] at hk
      have hP : va_P G.1 kcl [(mo, .inr (5, [.int (j_5), .ref cs, .int (w.2.1), .int (w.2.2.1), .int (w.2.2.2.1)])), (cs, .inl (G.2.1 3, 6, .inr (.inr (.inr (.inr (f))))))] H := hP
      have hD : va_D A [(mo, .inr (5, [.int (j_5), .ref cs, .int (w.2.1), .int (w.2.2.1), .int (w.2.2.2.1)])), (cs, .inl (G.2.1 3, 6, .inr (.inr (.inr (.inr (f))))))] := hD
      have hIT := hIT0.ro hAe hS
      refine W.widen (k := 0) (n := 0) (Nat.le_refl _) (Nat.le_refl _) ?_
      refine lv_if_eq (tgt := 41) hx hb dc_X9_power_34 (by decide) (fun c_6 => ?_) (fun c_6 => ?_)
      · have hw := hw.trans (if_pos c_6)
        have hk := hk.1 c_6
        refine lv_aload_n hx hb dc_X9_power_41 rfl (lv_at hl 0 rfl) ?_
        refine lv_iload_n hx hb dc_X9_power_42 rfl (lv_at hl 1 rfl) ?_
        refine va_new (ci := 4) (fs := [.int (0), .long (0)]) (C := RX8) (T := TX8) (N := 2) hx hb hts ki_X8 tyX8 tyX8_ok hown (hts _ kw_6_3) (hts _ kw_6_5) (hts _ kw_1_9) hE.1 hP hD hS hA rfl (fun j hj => by rcases (show j = 0 ∨ j = 1 by omega) with rfl | rfl <;> rfl) (Nat.le_of_ble_eq_true rfl) (Nat.le_of_ble_eq_true rfl) dc_X9_power_43 (fun q_7 H hP hD hS => ?_)
        have hP : va_P G.1 kcl [(mo, .inr (5, [.int (j_5), .ref cs, .int (w.2.1), .int (w.2.2.1), .int (w.2.2.2.1)])), (cs, .inl (G.2.1 3, 6, .inr (.inr (.inr (.inr (f)))))), (q_7, .inr (4, [.int (0), .long (0)]))] H := hP
        have hD : va_D A [(mo, .inr (5, [.int (j_5), .ref cs, .int (w.2.1), .int (w.2.2.1), .int (w.2.2.2.1)])), (cs, .inl (G.2.1 3, 6, .inr (.inr (.inr (.inr (f)))))), (q_7, .inr (4, [.int (0), .long (0)]))] := hD
        have hIT := hIT0.ro hAe hS
        refine W.widen (k := 1) (n := 2) (Nat.le_refl _) (Nat.le_refl _) ?_
        refine lv_dup hx hb dc_X9_power_46 rfl ?_
        refine lv_iload_n hx hb dc_X9_power_47 rfl (lv_at hl 3 rfl) ?_
        refine ky_cS0 (As := [.int (a3)]) F (mt_X9_one l (a3)) ks_X9_59 ⟨⟨rfl, rfl⟩, by decide, by decide⟩ rfl hl.1 rfl (Nat.le_of_ble_eq_true rfl) ⟨Nat.le_of_ble_eq_true rfl, Nat.le_of_ble_eq_true rfl⟩ dc_X9_power_48 ?_
        refine lv_lconst (v := 1) hx hb dc_X9_power_51 (by decide) ?_
        refine lv_iload_n hx hb dc_X9_power_52 rfl (lv_at hl 2 rfl) ?_
        refine lv_i2l (v := (a2).toInt64) hx hb dc_X9_power_53 rfl ?_
        obtain ⟨hq_8, hk⟩ := hk
        refine ky_cS0 (As := [.long ((1 : Int64)), .long ((a2).toInt64)]) F (mt_X9_nearest l ((1 : Int64)) ((a2).toInt64) hq_8) ks_X9_69 ⟨⟨rfl, rfl⟩, by decide, by decide⟩ rfl hl.1 rfl (Nat.le_of_ble_eq_true rfl) ⟨Nat.le_of_ble_eq_true rfl, Nat.le_of_ble_eq_true rfl⟩ dc_X9_power_54 ?_
        refine ky_cIh (As := [.int (fn_X9_one (a3)), .long (fn_X9_nearest ((1 : Int64)) ((a2).toInt64))]) (wr := [(mo, .inr (5, [.int (j_5), .ref cs, .int (w.2.1), .int (w.2.2.1), .int (w.2.2.2.1)])), (cs, .inl (G.2.1 3, 6, .inr (.inr (.inr (.inr (f))))))]) F (hE.at hfr hS) hfr (mt_X8_init l G (q_7) (fn_X9_one (a3)) (fn_X9_nearest ((1 : Int64)) ((a2).toInt64)) H.size ) kI_X9_29 ⟨⟨rfl, rfl⟩, by decide, by decide⟩ rfl hl.1 rfl (Nat.le_of_ble_eq_true rfl) ⟨Nat.le_of_ble_eq_true rfl, Nat.le_of_ble_eq_true rfl⟩ trivial hP hD hS hA [2] [0, 1] rfl rfl (by decide) (by decide) (by decide) dc_X9_power_57 ?_
        rintro v9 u9 H locs ⟨rfl, rfl⟩ hP hD hS - hz hk9
        have hP : va_P G.1 kcl [(mo, .inr (5, [.int (j_5), .ref cs, .int (w.2.1), .int (w.2.2.1), .int (w.2.2.2.1)])), (cs, .inl (G.2.1 3, 6, .inr (.inr (.inr (.inr (f)))))), (q_7, .inr (4, [.int (fn_X9_one (a3)), .long (fn_X9_nearest ((1 : Int64)) ((a2).toInt64))]))] H := hP
        have hD : va_D A [(mo, .inr (5, [.int (j_5), .ref cs, .int (w.2.1), .int (w.2.2.1), .int (w.2.2.2.1)])), (cs, .inl (G.2.1 3, 6, .inr (.inr (.inr (.inr (f)))))), (q_7, .inr (4, [.int (fn_X9_one (a3)), .long (fn_X9_nearest ((1 : Int64)) ((a2).toInt64))]))] := hD
        have hIT := hIT0.ro hAe hS
        refine W.widen (k := 1) (n := 2) (Nat.le_refl _) (Nat.le_refl _) ?_
        have hJ_10 : ky_It G q_7 ((fn_X9_one (a3), fn_X9_nearest ((1 : Int64)) ((a2).toInt64))) H := ky_itp (hP.sub (ws' := [(q_7, .inr (4, [.int (fn_X9_one (a3)), .long (fn_X9_nearest ((1 : Int64)) ((a2).toInt64))]))]) [2] rfl)
        have hk_10 : ky_ok mo cs N q_7 := ky_ok.own hAe hIT0.1 hD 0 1 2 rfl rfl rfl (by decide) (by decide)
        refine ky_cVh (As := [.int (a1), .ref q_7]) (wr := [(q_7, .inr (4, [.int (fn_X9_one (a3)), .long (fn_X9_nearest ((1 : Int64)) ((a2).toInt64))]))]) F (hE.at hfr hS) hfr (mt_X9_give l G mo cs N (j_5, w.2.1, w.2.2.1, w.2.2.2.1, w.2.2.2.2) (f) (q_7) (fn_X9_one (a3), fn_X9_nearest ((1 : Int64)) ((a2).toInt64)) hk_10 (a1) H.size (lr_start (hj_1.symm.trans c_2))) kv_X9_63 ⟨⟨rfl, rfl⟩, by decide, by decide⟩ rfl hl.1 rfl (Nat.le_of_ble_eq_true rfl) ⟨Nat.le_of_ble_eq_true rfl, Nat.le_of_ble_eq_true rfl⟩ (va_recv hE.1 hP (ci := 5) (q0 := 0) rfl rfl) ⟨hIT, hJ_10⟩ hP hD hS hA [0, 1] [2] rfl rfl (by decide) (by decide) (by decide) dc_X9_power_60 ?_
        rintro v9 ⟨w_11, f_11⟩ H locs ⟨rfl, hw_11⟩ hP hD hS hIT9 hz hk9
        have hw_11 : w_11 = (fn_X9_give (a1) (fn_X9_one (a3), fn_X9_nearest ((1 : Int64)) ((a2).toInt64)) (j_5, w.2.1, w.2.2.1, w.2.2.2.1, w.2.2.2.2)).2 := hw_11
        try rw [← hw_11] at hw
        try rw [← hw_11] at hk
        have hP : va_P G.1 kcl [(q_7, .inr (4, [.int (fn_X9_one (a3)), .long (fn_X9_nearest ((1 : Int64)) ((a2).toInt64))])), (mo, .inr (5, [.int ((w_11).1), .ref cs, .int ((w_11).2.1), .int ((w_11).2.2.1), .int ((w_11).2.2.2.1)])), (cs, .inl (G.2.1 3, 6, .inr (.inr (.inr (.inr (f_11))))))] H := hP
        have hD : va_D A [(q_7, .inr (4, [.int (fn_X9_one (a3)), .long (fn_X9_nearest ((1 : Int64)) ((a2).toInt64))])), (mo, .inr (5, [.int ((w_11).1), .ref cs, .int ((w_11).2.1), .int ((w_11).2.2.1), .int ((w_11).2.2.2.1)])), (cs, .inl (G.2.1 3, 6, .inr (.inr (.inr (.inr (f_11))))))] := hD
        have hIT : ky_IT G mo cs N f_11 ((w_11).2.2.2.2) H := hIT9
        refine W.widen (k := 1) (n := 2) (Nat.le_refl _) (Nat.le_refl _) ?_
        have hP9 : va_P G.1 kcl (ky_WM G mo cs ((w_11)) (f_11)) H := hP.sub [1, 2] rfl
        have hD9 : va_D A (ky_WM G mo cs ((w_11)) (f_11)) := hD.sub [1, 2] (by decide) rfl
        refine W.widen (k := 1) (n := 2) (Nat.le_of_ble_eq_true rfl) (Nat.le_of_ble_eq_true rfl) ?_
        exact W.iret (v := (fn_X9_give (a1) (fn_X9_one (a3), fn_X9_nearest ((1 : Int64)) ((a2).toInt64)) (j_5, w.2.1, w.2.2.1, w.2.2.2.1, w.2.2.2.2)).1) hx hb hr (fun t ht hW => ⟨by rw [ht]; exact ky_endM (fun z => some (.int z)) ((fn_X9_give (a1) (fn_X9_one (a3), fn_X9_nearest ((1 : Int64)) ((a2).toInt64)) (j_5, w.2.1, w.2.2.1, w.2.2.2.1, w.2.2.2.2)).1) hw hP9 hD9 (hIT), hS.F ht⟩) hS.2.2 dc_X9_power_63
      · have hw := hw.trans (if_neg c_6)
        have hk := hk.2 c_6
        refine lv_iconst (v := 0) hx hb dc_X9_power_37 (by decide) ?_
        refine lv_goto (tgt := 63) hx hb dc_X9_power_38 (by decide) ?_
        have hP9 : va_P G.1 kcl (ky_WM G mo cs ((j_5, w.2.1, w.2.2.1, w.2.2.2.1, w.2.2.2.2)) (f)) H := hP.sub [0, 1] rfl
        have hD9 : va_D A (ky_WM G mo cs ((j_5, w.2.1, w.2.2.1, w.2.2.2.1, w.2.2.2.2)) (f)) := hD.sub [0, 1] (by decide) rfl
        refine W.widen (k := 1) (n := 2) (Nat.le_of_ble_eq_true rfl) (Nat.le_of_ble_eq_true rfl) ?_
        exact W.iret (v := (0 : Int32)) hx hb hr (fun t ht hW => ⟨by rw [ht]; exact ky_endM (fun z => some (.int z)) ((0 : Int32)) hw hP9 hD9 (hIT), hS.F ht⟩) hS.2.2 dc_X9_power_63
    · have hw := hw.trans (if_pos c_3)
      have hk := hk.1 c_3
      refine lv_iconst (v := 1) hx hb dc_X9_power_25 (by decide) ?_
      refine lv_goto (tgt := 30) hx hb dc_X9_power_26 (by decide) ?_
      refine lv_iconst (v := 2) hx hb dc_X9_power_30 (by decide) ?_
      refine ky_cVh (As := [.int ((1 : Int32)), .int ((2 : Int32))]) (wr := []) F (hE.at hfr hS) hfr (mt_X9_refuseJ l G (mo) (cs) ((j_1, w.2.1, w.2.2.1, w.2.2.2.1)) (f) ((1 : Int32)) ((2 : Int32)) H.size ) kv_X9_36 ⟨⟨rfl, rfl⟩, by decide, by decide⟩ rfl hl.1 rfl (Nat.le_of_ble_eq_true rfl) ⟨Nat.le_of_ble_eq_true rfl, Nat.le_of_ble_eq_true rfl⟩ (va_recv hE.1 hP (ci := 5) (q0 := 0) rfl rfl) trivial hP hD hS hA [0, 1] [] rfl rfl (by decide) (by decide) (by decide) dc_X9_power_31 ?_
      rintro v9 u9 H locs ⟨rfl, rfl⟩ hP hD hS - hz hk9
      obtain ⟨j_5, hj_5⟩ : ∃ j9, j9 = jrt ((1 : Int32)) ((2 : Int32)) (j_1) := ⟨_, rfl⟩
      rw [← hj_5] at hP hD ⊢
      try rw [← hj_5] at hw
      try rw [← hj_5] at hk
      have hP : va_P G.1 kcl [(mo, .inr (5, [.int (j_5), .ref cs, .int (w.2.1), .int (w.2.2.1), .int (w.2.2.2.1)])), (cs, .inl (G.2.1 3, 6, .inr (.inr (.inr (.inr (f))))))] H := hP
      have hD : va_D A [(mo, .inr (5, [.int (j_5), .ref cs, .int (w.2.1), .int (w.2.2.1), .int (w.2.2.2.1)])), (cs, .inl (G.2.1 3, 6, .inr (.inr (.inr (.inr (f))))))] := hD
      have hIT := hIT0.ro hAe hS
      refine W.widen (k := 0) (n := 0) (Nat.le_refl _) (Nat.le_refl _) ?_
      refine lv_if_eq (tgt := 41) hx hb dc_X9_power_34 (by decide) (fun c_6 => ?_) (fun c_6 => ?_)
      · have hw := hw.trans (if_pos c_6)
        have hk := hk.1 c_6
        refine lv_aload_n hx hb dc_X9_power_41 rfl (lv_at hl 0 rfl) ?_
        refine lv_iload_n hx hb dc_X9_power_42 rfl (lv_at hl 1 rfl) ?_
        refine va_new (ci := 4) (fs := [.int (0), .long (0)]) (C := RX8) (T := TX8) (N := 2) hx hb hts ki_X8 tyX8 tyX8_ok hown (hts _ kw_6_3) (hts _ kw_6_5) (hts _ kw_1_9) hE.1 hP hD hS hA rfl (fun j hj => by rcases (show j = 0 ∨ j = 1 by omega) with rfl | rfl <;> rfl) (Nat.le_of_ble_eq_true rfl) (Nat.le_of_ble_eq_true rfl) dc_X9_power_43 (fun q_7 H hP hD hS => ?_)
        have hP : va_P G.1 kcl [(mo, .inr (5, [.int (j_5), .ref cs, .int (w.2.1), .int (w.2.2.1), .int (w.2.2.2.1)])), (cs, .inl (G.2.1 3, 6, .inr (.inr (.inr (.inr (f)))))), (q_7, .inr (4, [.int (0), .long (0)]))] H := hP
        have hD : va_D A [(mo, .inr (5, [.int (j_5), .ref cs, .int (w.2.1), .int (w.2.2.1), .int (w.2.2.2.1)])), (cs, .inl (G.2.1 3, 6, .inr (.inr (.inr (.inr (f)))))), (q_7, .inr (4, [.int (0), .long (0)]))] := hD
        have hIT := hIT0.ro hAe hS
        refine W.widen (k := 1) (n := 2) (Nat.le_refl _) (Nat.le_refl _) ?_
        refine lv_dup hx hb dc_X9_power_46 rfl ?_
        refine lv_iload_n hx hb dc_X9_power_47 rfl (lv_at hl 3 rfl) ?_
        refine ky_cS0 (As := [.int (a3)]) F (mt_X9_one l (a3)) ks_X9_59 ⟨⟨rfl, rfl⟩, by decide, by decide⟩ rfl hl.1 rfl (Nat.le_of_ble_eq_true rfl) ⟨Nat.le_of_ble_eq_true rfl, Nat.le_of_ble_eq_true rfl⟩ dc_X9_power_48 ?_
        refine lv_lconst (v := 1) hx hb dc_X9_power_51 (by decide) ?_
        refine lv_iload_n hx hb dc_X9_power_52 rfl (lv_at hl 2 rfl) ?_
        refine lv_i2l (v := (a2).toInt64) hx hb dc_X9_power_53 rfl ?_
        obtain ⟨hq_8, hk⟩ := hk
        refine ky_cS0 (As := [.long ((1 : Int64)), .long ((a2).toInt64)]) F (mt_X9_nearest l ((1 : Int64)) ((a2).toInt64) hq_8) ks_X9_69 ⟨⟨rfl, rfl⟩, by decide, by decide⟩ rfl hl.1 rfl (Nat.le_of_ble_eq_true rfl) ⟨Nat.le_of_ble_eq_true rfl, Nat.le_of_ble_eq_true rfl⟩ dc_X9_power_54 ?_
        refine ky_cIh (As := [.int (fn_X9_one (a3)), .long (fn_X9_nearest ((1 : Int64)) ((a2).toInt64))]) (wr := [(mo, .inr (5, [.int (j_5), .ref cs, .int (w.2.1), .int (w.2.2.1), .int (w.2.2.2.1)])), (cs, .inl (G.2.1 3, 6, .inr (.inr (.inr (.inr (f))))))]) F (hE.at hfr hS) hfr (mt_X8_init l G (q_7) (fn_X9_one (a3)) (fn_X9_nearest ((1 : Int64)) ((a2).toInt64)) H.size ) kI_X9_29 ⟨⟨rfl, rfl⟩, by decide, by decide⟩ rfl hl.1 rfl (Nat.le_of_ble_eq_true rfl) ⟨Nat.le_of_ble_eq_true rfl, Nat.le_of_ble_eq_true rfl⟩ trivial hP hD hS hA [2] [0, 1] rfl rfl (by decide) (by decide) (by decide) dc_X9_power_57 ?_
        rintro v9 u9 H locs ⟨rfl, rfl⟩ hP hD hS - hz hk9
        have hP : va_P G.1 kcl [(mo, .inr (5, [.int (j_5), .ref cs, .int (w.2.1), .int (w.2.2.1), .int (w.2.2.2.1)])), (cs, .inl (G.2.1 3, 6, .inr (.inr (.inr (.inr (f)))))), (q_7, .inr (4, [.int (fn_X9_one (a3)), .long (fn_X9_nearest ((1 : Int64)) ((a2).toInt64))]))] H := hP
        have hD : va_D A [(mo, .inr (5, [.int (j_5), .ref cs, .int (w.2.1), .int (w.2.2.1), .int (w.2.2.2.1)])), (cs, .inl (G.2.1 3, 6, .inr (.inr (.inr (.inr (f)))))), (q_7, .inr (4, [.int (fn_X9_one (a3)), .long (fn_X9_nearest ((1 : Int64)) ((a2).toInt64))]))] := hD
        have hIT := hIT0.ro hAe hS
        refine W.widen (k := 1) (n := 2) (Nat.le_refl _) (Nat.le_refl _) ?_
        have hJ_10 : ky_It G q_7 ((fn_X9_one (a3), fn_X9_nearest ((1 : Int64)) ((a2).toInt64))) H := ky_itp (hP.sub (ws' := [(q_7, .inr (4, [.int (fn_X9_one (a3)), .long (fn_X9_nearest ((1 : Int64)) ((a2).toInt64))]))]) [2] rfl)
        have hk_10 : ky_ok mo cs N q_7 := ky_ok.own hAe hIT0.1 hD 0 1 2 rfl rfl rfl (by decide) (by decide)
        refine ky_cVh (As := [.int (a1), .ref q_7]) (wr := [(q_7, .inr (4, [.int (fn_X9_one (a3)), .long (fn_X9_nearest ((1 : Int64)) ((a2).toInt64))]))]) F (hE.at hfr hS) hfr (mt_X9_give l G mo cs N (j_5, w.2.1, w.2.2.1, w.2.2.2.1, w.2.2.2.2) (f) (q_7) (fn_X9_one (a3), fn_X9_nearest ((1 : Int64)) ((a2).toInt64)) hk_10 (a1) H.size (lr_start (hj_1.symm.trans c_2))) kv_X9_63 ⟨⟨rfl, rfl⟩, by decide, by decide⟩ rfl hl.1 rfl (Nat.le_of_ble_eq_true rfl) ⟨Nat.le_of_ble_eq_true rfl, Nat.le_of_ble_eq_true rfl⟩ (va_recv hE.1 hP (ci := 5) (q0 := 0) rfl rfl) ⟨hIT, hJ_10⟩ hP hD hS hA [0, 1] [2] rfl rfl (by decide) (by decide) (by decide) dc_X9_power_60 ?_
        rintro v9 ⟨w_11, f_11⟩ H locs ⟨rfl, hw_11⟩ hP hD hS hIT9 hz hk9
        have hw_11 : w_11 = (fn_X9_give (a1) (fn_X9_one (a3), fn_X9_nearest ((1 : Int64)) ((a2).toInt64)) (j_5, w.2.1, w.2.2.1, w.2.2.2.1, w.2.2.2.2)).2 := hw_11
        try rw [← hw_11] at hw
        try rw [← hw_11] at hk
        have hP : va_P G.1 kcl [(q_7, .inr (4, [.int (fn_X9_one (a3)), .long (fn_X9_nearest ((1 : Int64)) ((a2).toInt64))])), (mo, .inr (5, [.int ((w_11).1), .ref cs, .int ((w_11).2.1), .int ((w_11).2.2.1), .int ((w_11).2.2.2.1)])), (cs, .inl (G.2.1 3, 6, .inr (.inr (.inr (.inr (f_11))))))] H := hP
        have hD : va_D A [(q_7, .inr (4, [.int (fn_X9_one (a3)), .long (fn_X9_nearest ((1 : Int64)) ((a2).toInt64))])), (mo, .inr (5, [.int ((w_11).1), .ref cs, .int ((w_11).2.1), .int ((w_11).2.2.1), .int ((w_11).2.2.2.1)])), (cs, .inl (G.2.1 3, 6, .inr (.inr (.inr (.inr (f_11))))))] := hD
        have hIT : ky_IT G mo cs N f_11 ((w_11).2.2.2.2) H := hIT9
        refine W.widen (k := 1) (n := 2) (Nat.le_refl _) (Nat.le_refl _) ?_
        have hP9 : va_P G.1 kcl (ky_WM G mo cs ((w_11)) (f_11)) H := hP.sub [1, 2] rfl
        have hD9 : va_D A (ky_WM G mo cs ((w_11)) (f_11)) := hD.sub [1, 2] (by decide) rfl
        refine W.widen (k := 1) (n := 2) (Nat.le_of_ble_eq_true rfl) (Nat.le_of_ble_eq_true rfl) ?_
        exact W.iret (v := (fn_X9_give (a1) (fn_X9_one (a3), fn_X9_nearest ((1 : Int64)) ((a2).toInt64)) (j_5, w.2.1, w.2.2.1, w.2.2.2.1, w.2.2.2.2)).1) hx hb hr (fun t ht hW => ⟨by rw [ht]; exact ky_endM (fun z => some (.int z)) ((fn_X9_give (a1) (fn_X9_one (a3), fn_X9_nearest ((1 : Int64)) ((a2).toInt64)) (j_5, w.2.1, w.2.2.1, w.2.2.2.1, w.2.2.2.2)).1) hw hP9 hD9 (hIT), hS.F ht⟩) hS.2.2 dc_X9_power_63
      · have hw := hw.trans (if_neg c_6)
        have hk := hk.2 c_6
        refine lv_iconst (v := 0) hx hb dc_X9_power_37 (by decide) ?_
        refine lv_goto (tgt := 63) hx hb dc_X9_power_38 (by decide) ?_
        have hP9 : va_P G.1 kcl (ky_WM G mo cs ((j_5, w.2.1, w.2.2.1, w.2.2.2.1, w.2.2.2.2)) (f)) H := hP.sub [0, 1] rfl
        have hD9 : va_D A (ky_WM G mo cs ((j_5, w.2.1, w.2.2.1, w.2.2.2.1, w.2.2.2.2)) (f)) := hD.sub [0, 1] (by decide) rfl
        refine W.widen (k := 1) (n := 2) (Nat.le_of_ble_eq_true rfl) (Nat.le_of_ble_eq_true rfl) ?_
        exact W.iret (v := (0 : Int32)) hx hb hr (fun t ht hW => ⟨by rw [ht]; exact ky_endM (fun z => some (.int z)) ((0 : Int32)) hw hP9 hD9 (hIT), hS.F ht⟩) hS.2.2 dc_X9_power_63
end
section
def fn_X9_take (a1 : Int32) (a2 : Int32) (a3 : Int32)  (w : ky_MV) : Int32 × ky_MV :=
  if (jst (fn_X9_areNo (a1) (a3))) = (0 : Int32) then (((fn_X9_give (a3) (fn_X8_taken (a2) ((w.2.2.2.2) (a1).toNatClampNeg)) (jst (fn_X9_areNo (a1) (a3)), w.2.1, w.2.2.1, w.2.2.2.1, w.2.2.2.2)).1, ((fn_X9_give (a3) (fn_X8_taken (a2) ((w.2.2.2.2) (a1).toNatClampNeg)) (jst (fn_X9_areNo (a1) (a3)), w.2.1, w.2.2.1, w.2.2.2.1, w.2.2.2.2)).2))) else (((0 : Int32), (jst (fn_X9_areNo (a1) (a3)), w.2.1, w.2.2.1, w.2.2.2.1, w.2.2.2.2)))
def fk_X9_take (a1 : Int32) (a2 : Int32) (a3 : Int32)  (w : ky_MV) : Prop :=
  ((((jst (fn_X9_areNo (a1) (a3))) = (0 : Int32)) → ((fk_X8_taken (a2) ((w.2.2.2.2) (a1).toNatClampNeg)) ∧ (True))) ∧ (¬ ((jst (fn_X9_areNo (a1) (a3))) = (0 : Int32)) → (True))) ∧ True
set_option linter.constructorNameAsVariable false in
set_option maxHeartbeats 4000000 in
set_option maxRecDepth 100000 in
theorem mt_X9_take (l : Launch) (G : ky_G) (mo cs : Nat) (N : Nat → Prop) (w : ky_MV) (f : Nat → Option Nat)    (a1 : Int32) (a2 : Int32) (a3 : Int32) (sz : Nat) (hk : fk_X9_take a1 a2 a3 w) : Met l my_X9_take (.code my_X9_take prog_10_method_22_code 4 (some .int) :: ky_B) { frames := 6, cells := 1, slots := 2, locals := 127 } (ky_P G [.ref mo, .int (a1), .int (a2), .int (a3)] (ky_WM G mo cs w f) sz (fun H => ky_IT G mo cs N f w.2.2.2.2 H)) (ky_Q (S := ky_MV × (Nat → Option Nat)) G (va_A (ky_WM G mo cs w f) sz) (fun v u => v = some (.int (fn_X9_take a1 a2 a3 w).1) ∧ u.1 = (fn_X9_take a1 a2 a3 w).2) (fun u => ky_WM G mo cs u.1 u.2) (fun u H => ky_IT G mo cs N u.2 u.1.2.2.2.2 H)) 1 2 (va_A (ky_WM G mo cs w f) sz) := by
  refine ky_start (by decide) (Nat.le_of_ble_eq_true rfl) (fun p e s m below meth c F hE A hAe hsz hA hfr hP hD hS hX ls hl => ?_)
  obtain ⟨hx, hb, hml, hown, hr, hlocks, hts⟩ := id F
  have hIT0 := hX
  have hIT := hIT0
  have hl : lv_has ls 4 [(0, .ref mo), (1, .int (a1)), (2, .int (a2)), (3, .int (a3))] := hl
  have hP : va_P G.1 kcl [(mo, .inr (5, [.int (w.1), .ref cs, .int (w.2.1), .int (w.2.2.1), .int (w.2.2.2.1)])), (cs, .inl (G.2.1 3, 6, .inr (.inr (.inr (.inr (f))))))] s.heap := hP
  have hD : va_D A [(mo, .inr (5, [.int (w.1), .ref cs, .int (w.2.1), .int (w.2.2.1), .int (w.2.2.2.1)])), (cs, .inl (G.2.1 3, 6, .inr (.inr (.inr (.inr (f))))))] := hD
  have hw : fn_X9_take a1 a2 a3 w = _ := fn_X9_take.eq_1 a1 a2 a3 w
  have hk : (((jst (fn_X9_areNo (a1) (a3))) = (0 : Int32)) → ((fk_X8_taken (a2) ((w.2.2.2.2) (a1).toNatClampNeg)) ∧ (True))) ∧ (¬ ((jst (fn_X9_areNo (a1) (a3))) = (0 : Int32)) → (True)) := hk.1
  refine lv_aload_n hx hb dc_X9_take_0 rfl (lv_at hl 0 rfl) ?_
  refine lv_aload_n hx hb dc_X9_take_1 rfl (lv_at hl 0 rfl) ?_
  refine lv_iload_n hx hb dc_X9_take_2 rfl (lv_at hl 1 rfl) ?_
  refine lv_iload_n hx hb dc_X9_take_3 rfl (lv_at hl 3 rfl) ?_
  refine ky_cV1 (As := [.int (a1), .int (a3)]) F (hE.at hfr hS) (mt_X9_areNo l G (mo) (a1) (a3)) kv_X9_104 ⟨⟨rfl, rfl⟩, by decide, by decide⟩ rfl hl.1 rfl (Nat.le_of_ble_eq_true rfl) ⟨Nat.le_of_ble_eq_true rfl, Nat.le_of_ble_eq_true rfl⟩ (va_recv hE.1 hP (ci := 5) (q0 := 0) rfl rfl) trivial dc_X9_take_4 ?_
  refine ky_cVh (As := [.int (fn_X9_areNo (a1) (a3))]) (wr := []) F (hE.at hfr hS) hfr (mt_X9_startJ l G (mo) (cs) ((w.1, w.2.1, w.2.2.1, w.2.2.2.1)) (f) (fn_X9_areNo (a1) (a3)) s.heap.size ) kv_X9_55 ⟨⟨rfl, rfl⟩, by decide, by decide⟩ rfl hl.1 rfl (Nat.le_of_ble_eq_true rfl) ⟨Nat.le_of_ble_eq_true rfl, Nat.le_of_ble_eq_true rfl⟩ (va_recv hE.1 hP (ci := 5) (q0 := 0) rfl rfl) trivial hP hD hS hA [0, 1] [] rfl rfl (by decide) (by decide) (by decide) dc_X9_take_7 ?_
  rintro v9 u9 H locs ⟨rfl, rfl⟩ hP hD hS - hz hk9
  obtain ⟨j_1, hj_1⟩ : ∃ j9, j9 = jst (fn_X9_areNo (a1) (a3)) := ⟨_, rfl⟩
  rw [← hj_1] at hP hD ⊢
  try rw [← hj_1] at hw
  try rw [← hj_1] at hk
  have hP : va_P G.1 kcl [(mo, .inr (5, [.int (j_1), .ref cs, .int (w.2.1), .int (w.2.2.1), .int (w.2.2.2.1)])), (cs, .inl (G.2.1 3, 6, .inr (.inr (.inr (.inr (f))))))] H := hP
  have hD : va_D A [(mo, .inr (5, [.int (j_1), .ref cs, .int (w.2.1), .int (w.2.2.1), .int (w.2.2.2.1)])), (cs, .inl (G.2.1 3, 6, .inr (.inr (.inr (.inr (f))))))] := hD
  have hIT := hIT0.ro hAe hS
  refine W.widen (k := 0) (n := 0) (Nat.le_refl _) (Nat.le_refl _) ?_
  refine lv_if_eq (tgt := 17) hx hb dc_X9_take_10 (by decide) (fun c_2 => ?_) (fun c_2 => ?_)
  · have hw := hw.trans (if_pos c_2)
    have hk := hk.1 c_2
    refine lv_aload_n hx hb dc_X9_take_17 rfl (lv_at hl 0 rfl) ?_
    refine lv_iload_n hx hb dc_X9_take_18 rfl (lv_at hl 3 rfl) ?_
    refine lv_aload_n hx hb dc_X9_take_19 rfl (lv_at hl 0 rfl) ?_
    refine va_get (D := G.1) (ci := 5) (v := .ref cs) (C := RX9) (T := TX9) (N := 5) hx hb hts ki_X9 hown hE.1 hP 0 rfl rfl 1 (by decide) (hts _ kw_6_20) (fun _ h9 => h9) rfl dc_X9_take_20 ?_
    refine lv_iload_n hx hb dc_X9_take_23 rfl (lv_at hl 1 rfl) ?_
    refine va_aldq hx hb hE.1 hP 1 3 rfl rfl (lr_startB (hj_1.symm.trans c_2)).1 dc_X9_take_24 ?_
    obtain ⟨b_3, hb_3, hI_3, ho_3⟩ := hIT.2 _ (ky_i6 (lr_startB (hj_1.symm.trans c_2)).1)
    rw [ky_rf hb_3]
    have hX_3 : ky_It G b_3 ((w.2.2.2.2) (a1).toNatClampNeg) s.heap := by obtain ⟨b9, e9, i9, -⟩ := hIT0.2 _ (ky_i6 (lr_startB (hj_1.symm.trans c_2)).1); have z9 : b9 = b_3 := Option.some.inj (e9.symm.trans hb_3); exact z9 ▸ i9
    refine lv_iload_n hx hb dc_X9_take_25 rfl (lv_at hl 2 rfl) ?_
    have hm_4 := (hP 0 _ rfl).lt
    have hc_4 := (hP 1 _ rfl).lt
    have hN_4 := hIT.1
    obtain ⟨hq_4, hk⟩ := hk
    have hs_5 := hS.1
    refine ky_cVh (As := [.int (a2)]) (wr := [(mo, .inr (5, [.int (j_1), .ref cs, .int (w.2.1), .int (w.2.2.1), .int (w.2.2.2.1)])), (cs, .inl (G.2.1 3, 6, .inr (.inr (.inr (.inr (f))))))]) F (hE.at hfr hS) hfr (mt_X8_taken l G (b_3) ((w.2.2.2.2) (a1).toNatClampNeg) (a2) H.size hq_4) kv_X9_108 ⟨⟨rfl, rfl⟩, by decide, by decide⟩ rfl hl.1 rfl (Nat.le_of_ble_eq_true rfl) ⟨Nat.le_of_ble_eq_true rfl, Nat.le_of_ble_eq_true rfl⟩ (va_recv hE.1 hI_3 (ci := 4) (q0 := 0) rfl rfl) hI_3 hP hD hS hA [] [0, 1] rfl rfl (by decide) (by decide) (by decide) dc_X9_take_26 ?_
    rintro v9 q_5 H locs rfl hP hD hS ⟨hI_5, hd_5⟩ hz hk9
    have hP : va_P G.1 kcl [(mo, .inr (5, [.int (j_1), .ref cs, .int (w.2.1), .int (w.2.2.1), .int (w.2.2.2.1)])), (cs, .inl (G.2.1 3, 6, .inr (.inr (.inr (.inr (f))))))] H := hP
    have hD : va_D A [(mo, .inr (5, [.int (j_1), .ref cs, .int (w.2.1), .int (w.2.2.1), .int (w.2.2.2.1)])), (cs, .inl (G.2.1 3, 6, .inr (.inr (.inr (.inr (f))))))] := hD
    have hI_3 := hI_3.fr hk9
    refine W.widen (k := 1) (n := 2) (Nat.le_refl _) (Nat.le_refl _) ?_
    have hIT := hIT.keep hz (fun q9 ho9 hl9 => hk9 q9 hl9 (ky_nemp hl9))
    have hk_5 := ho_3.or hm_4 hc_4 hN_4 hd_5
    refine ky_cVh (As := [.int (a3), .ref q_5]) (wr := []) F (hE.at hfr hS) hfr (mt_X9_give l G mo cs N (j_1, w.2.1, w.2.2.1, w.2.2.2.1, w.2.2.2.2) (f) (q_5) (fn_X8_taken (a2) ((w.2.2.2.2) (a1).toNatClampNeg)) hk_5 (a3) H.size (lr_startB (hj_1.symm.trans c_2)).2) kv_X9_63 ⟨⟨rfl, rfl⟩, by decide, by decide⟩ rfl hl.1 rfl (Nat.le_of_ble_eq_true rfl) ⟨Nat.le_of_ble_eq_true rfl, Nat.le_of_ble_eq_true rfl⟩ (va_recv hE.1 hP (ci := 5) (q0 := 0) rfl rfl) ⟨hIT, hI_5⟩ hP hD hS hA [0, 1] [] rfl rfl (by decide) (by decide) (by decide) dc_X9_take_29 ?_
    rintro v9 ⟨w_6, f_6⟩ H locs ⟨rfl, hw_6⟩ hP hD hS hIT9 hz hk9
    have hw_6 : w_6 = (fn_X9_give (a3) (fn_X8_taken (a2) ((w.2.2.2.2) (a1).toNatClampNeg)) (j_1, w.2.1, w.2.2.1, w.2.2.2.1, w.2.2.2.2)).2 := hw_6
    try rw [← hw_6] at hw
    try rw [← hw_6] at hk
    have hP : va_P G.1 kcl [(mo, .inr (5, [.int ((w_6).1), .ref cs, .int ((w_6).2.1), .int ((w_6).2.2.1), .int ((w_6).2.2.2.1)])), (cs, .inl (G.2.1 3, 6, .inr (.inr (.inr (.inr (f_6))))))] H := hP
    have hD : va_D A [(mo, .inr (5, [.int ((w_6).1), .ref cs, .int ((w_6).2.1), .int ((w_6).2.2.1), .int ((w_6).2.2.2.1)])), (cs, .inl (G.2.1 3, 6, .inr (.inr (.inr (.inr (f_6))))))] := hD
    have hI_3 := hI_3.keep (hk9 _ hI_3.low (ky_nwc ho_3 hI_3.low))
    have hI_5 := hI_5.keep (hk9 _ hI_5.low (ky_nwc hk_5 hI_5.low))
    have hIT : ky_IT G mo cs N f_6 ((w_6).2.2.2.2) H := hIT9
    refine W.widen (k := 1) (n := 2) (Nat.le_refl _) (Nat.le_refl _) ?_
    have hP9 : va_P G.1 kcl (ky_WM G mo cs ((w_6)) (f_6)) H := hP.sub [0, 1] rfl
    have hD9 : va_D A (ky_WM G mo cs ((w_6)) (f_6)) := hD.sub [0, 1] (by decide) rfl
    refine W.widen (k := 1) (n := 2) (Nat.le_of_ble_eq_true rfl) (Nat.le_of_ble_eq_true rfl) ?_
    exact W.iret (v := (fn_X9_give (a3) (fn_X8_taken (a2) ((w.2.2.2.2) (a1).toNatClampNeg)) (j_1, w.2.1, w.2.2.1, w.2.2.2.1, w.2.2.2.2)).1) hx hb hr (fun t ht hW => ⟨by rw [ht]; exact ky_endM (fun z => some (.int z)) ((fn_X9_give (a3) (fn_X8_taken (a2) ((w.2.2.2.2) (a1).toNatClampNeg)) (j_1, w.2.1, w.2.2.1, w.2.2.2.1, w.2.2.2.2)).1) hw hP9 hD9 (hIT), hS.F ht⟩) hS.2.2 dc_X9_take_32
  · have hw := hw.trans (if_neg c_2)
    have hk := hk.2 c_2
    refine lv_iconst (v := 0) hx hb dc_X9_take_13 (by decide) ?_
    refine lv_goto (tgt := 32) hx hb dc_X9_take_14 (by decide) ?_
    have hP9 : va_P G.1 kcl (ky_WM G mo cs ((j_1, w.2.1, w.2.2.1, w.2.2.2.1, w.2.2.2.2)) (f)) H := hP.sub [0, 1] rfl
    have hD9 : va_D A (ky_WM G mo cs ((j_1, w.2.1, w.2.2.1, w.2.2.2.1, w.2.2.2.2)) (f)) := hD.sub [0, 1] (by decide) rfl
    refine W.widen (k := 1) (n := 2) (Nat.le_of_ble_eq_true rfl) (Nat.le_of_ble_eq_true rfl) ?_
    exact W.iret (v := (0 : Int32)) hx hb hr (fun t ht hW => ⟨by rw [ht]; exact ky_endM (fun z => some (.int z)) ((0 : Int32)) hw hP9 hD9 (hIT), hS.F ht⟩) hS.2.2 dc_X9_take_32
end
section
def fn_X9_floor (a1 : Int32) (a2 : Int32)  (w : ky_MV) : Int32 × ky_MV :=
  fn_X9_take (a1) ((0 : Int32)) (a2) w
def fk_X9_floor (a1 : Int32) (a2 : Int32)  (w : ky_MV) : Prop :=
  ((fk_X9_take (a1) ((0 : Int32)) (a2) w) ∧ (True)) ∧ True
set_option linter.constructorNameAsVariable false in
set_option maxHeartbeats 4000000 in
set_option maxRecDepth 100000 in
theorem mt_X9_floor (l : Launch) (G : ky_G) (mo cs : Nat) (N : Nat → Prop) (w : ky_MV) (f : Nat → Option Nat)    (a1 : Int32) (a2 : Int32) (sz : Nat) (hk : fk_X9_floor a1 a2 w) : Met l my_X9_floor (.code my_X9_floor prog_10_method_23_code 3 (some .int) :: ky_B) { frames := 7, cells := 1, slots := 2, locals := 150 } (ky_P G [.ref mo, .int (a1), .int (a2)] (ky_WM G mo cs w f) sz (fun H => ky_IT G mo cs N f w.2.2.2.2 H)) (ky_Q (S := ky_MV × (Nat → Option Nat)) G (va_A (ky_WM G mo cs w f) sz) (fun v u => v = some (.int (fn_X9_floor a1 a2 w).1) ∧ u.1 = (fn_X9_floor a1 a2 w).2) (fun u => ky_WM G mo cs u.1 u.2) (fun u H => ky_IT G mo cs N u.2 u.1.2.2.2.2 H)) 1 2 (va_A (ky_WM G mo cs w f) sz) := by
  refine ky_start (by decide) (Nat.le_of_ble_eq_true rfl) (fun p e s m below meth c F hE A hAe hsz hA hfr hP hD hS hX ls hl => ?_)
  obtain ⟨hx, hb, hml, hown, hr, hlocks, hts⟩ := id F
  have hIT0 := hX
  have hIT := hIT0
  have hl : lv_has ls 3 [(0, .ref mo), (1, .int (a1)), (2, .int (a2))] := hl
  have hP : va_P G.1 kcl [(mo, .inr (5, [.int (w.1), .ref cs, .int (w.2.1), .int (w.2.2.1), .int (w.2.2.2.1)])), (cs, .inl (G.2.1 3, 6, .inr (.inr (.inr (.inr (f))))))] s.heap := hP
  have hD : va_D A [(mo, .inr (5, [.int (w.1), .ref cs, .int (w.2.1), .int (w.2.2.1), .int (w.2.2.2.1)])), (cs, .inl (G.2.1 3, 6, .inr (.inr (.inr (.inr (f))))))] := hD
  have hw : fn_X9_floor a1 a2 w = _ := (fn_X9_floor.eq_1 a1 a2 w).trans (ky_eta _)
  have hk : (fk_X9_take (a1) ((0 : Int32)) (a2) w) ∧ (True) := hk.1
  refine lv_aload_n hx hb dc_X9_floor_0 rfl (lv_at hl 0 rfl) ?_
  refine lv_iload_n hx hb dc_X9_floor_1 rfl (lv_at hl 1 rfl) ?_
  refine lv_iconst (v := 0) hx hb dc_X9_floor_2 (by decide) ?_
  refine lv_iload_n hx hb dc_X9_floor_3 rfl (lv_at hl 2 rfl) ?_
  obtain ⟨hq_0, hk⟩ := hk
  refine ky_cVh (As := [.int (a1), .int ((0 : Int32)), .int (a2)]) (wr := []) F (hE.at hfr hS) hfr (mt_X9_take l G mo cs N w (f)    (a1) ((0 : Int32)) (a2) s.heap.size hq_0) kv_X9_112 ⟨⟨rfl, rfl⟩, by decide, by decide⟩ rfl hl.1 rfl (Nat.le_of_ble_eq_true rfl) ⟨Nat.le_of_ble_eq_true rfl, Nat.le_of_ble_eq_true rfl⟩ (va_recv hE.1 hP (ci := 5) (q0 := 0) rfl rfl) hIT hP hD hS hA [0, 1] [] rfl rfl (by decide) (by decide) (by decide) dc_X9_floor_4 ?_
  rintro v9 ⟨w_1, f_1⟩ H locs ⟨rfl, hw_1⟩ hP hD hS hIT9 hz hk9
  have hw_1 : w_1 = (fn_X9_take (a1) ((0 : Int32)) (a2) w).2 := hw_1
  try rw [← hw_1] at hw
  try rw [← hw_1] at hk
  have hP : va_P G.1 kcl [(mo, .inr (5, [.int ((w_1).1), .ref cs, .int ((w_1).2.1), .int ((w_1).2.2.1), .int ((w_1).2.2.2.1)])), (cs, .inl (G.2.1 3, 6, .inr (.inr (.inr (.inr (f_1))))))] H := hP
  have hD : va_D A [(mo, .inr (5, [.int ((w_1).1), .ref cs, .int ((w_1).2.1), .int ((w_1).2.2.1), .int ((w_1).2.2.2.1)])), (cs, .inl (G.2.1 3, 6, .inr (.inr (.inr (.inr (f_1))))))] := hD
  have hIT : ky_IT G mo cs N f_1 ((w_1).2.2.2.2) H := hIT9
  refine W.widen (k := 1) (n := 2) (Nat.le_refl _) (Nat.le_refl _) ?_
  have hP9 : va_P G.1 kcl (ky_WM G mo cs ((w_1)) (f_1)) H := hP.sub [0, 1] rfl
  have hD9 : va_D A (ky_WM G mo cs ((w_1)) (f_1)) := hD.sub [0, 1] (by decide) rfl
  refine W.widen (k := 1) (n := 2) (Nat.le_of_ble_eq_true rfl) (Nat.le_of_ble_eq_true rfl) ?_
  exact W.iret (v := (fn_X9_take (a1) ((0 : Int32)) (a2) w).1) hx hb hr (fun t ht hW => ⟨by rw [ht]; exact ky_endM (fun z => some (.int z)) ((fn_X9_take (a1) ((0 : Int32)) (a2) w).1) hw hP9 hD9 (hIT), hS.F ht⟩) hS.2.2 dc_X9_floor_7
end
section
def fn_X9_ceil (a1 : Int32) (a2 : Int32)  (w : ky_MV) : Int32 × ky_MV :=
  fn_X9_take (a1) ((1 : Int32)) (a2) w
def fk_X9_ceil (a1 : Int32) (a2 : Int32)  (w : ky_MV) : Prop :=
  ((fk_X9_take (a1) ((1 : Int32)) (a2) w) ∧ (True)) ∧ True
set_option linter.constructorNameAsVariable false in
set_option maxHeartbeats 4000000 in
set_option maxRecDepth 100000 in
theorem mt_X9_ceil (l : Launch) (G : ky_G) (mo cs : Nat) (N : Nat → Prop) (w : ky_MV) (f : Nat → Option Nat)    (a1 : Int32) (a2 : Int32) (sz : Nat) (hk : fk_X9_ceil a1 a2 w) : Met l my_X9_ceil (.code my_X9_ceil prog_10_method_24_code 3 (some .int) :: ky_B) { frames := 7, cells := 1, slots := 2, locals := 150 } (ky_P G [.ref mo, .int (a1), .int (a2)] (ky_WM G mo cs w f) sz (fun H => ky_IT G mo cs N f w.2.2.2.2 H)) (ky_Q (S := ky_MV × (Nat → Option Nat)) G (va_A (ky_WM G mo cs w f) sz) (fun v u => v = some (.int (fn_X9_ceil a1 a2 w).1) ∧ u.1 = (fn_X9_ceil a1 a2 w).2) (fun u => ky_WM G mo cs u.1 u.2) (fun u H => ky_IT G mo cs N u.2 u.1.2.2.2.2 H)) 1 2 (va_A (ky_WM G mo cs w f) sz) := by
  refine ky_start (by decide) (Nat.le_of_ble_eq_true rfl) (fun p e s m below meth c F hE A hAe hsz hA hfr hP hD hS hX ls hl => ?_)
  obtain ⟨hx, hb, hml, hown, hr, hlocks, hts⟩ := id F
  have hIT0 := hX
  have hIT := hIT0
  have hl : lv_has ls 3 [(0, .ref mo), (1, .int (a1)), (2, .int (a2))] := hl
  have hP : va_P G.1 kcl [(mo, .inr (5, [.int (w.1), .ref cs, .int (w.2.1), .int (w.2.2.1), .int (w.2.2.2.1)])), (cs, .inl (G.2.1 3, 6, .inr (.inr (.inr (.inr (f))))))] s.heap := hP
  have hD : va_D A [(mo, .inr (5, [.int (w.1), .ref cs, .int (w.2.1), .int (w.2.2.1), .int (w.2.2.2.1)])), (cs, .inl (G.2.1 3, 6, .inr (.inr (.inr (.inr (f))))))] := hD
  have hw : fn_X9_ceil a1 a2 w = _ := (fn_X9_ceil.eq_1 a1 a2 w).trans (ky_eta _)
  have hk : (fk_X9_take (a1) ((1 : Int32)) (a2) w) ∧ (True) := hk.1
  refine lv_aload_n hx hb dc_X9_ceil_0 rfl (lv_at hl 0 rfl) ?_
  refine lv_iload_n hx hb dc_X9_ceil_1 rfl (lv_at hl 1 rfl) ?_
  refine lv_iconst (v := 1) hx hb dc_X9_ceil_2 (by decide) ?_
  refine lv_iload_n hx hb dc_X9_ceil_3 rfl (lv_at hl 2 rfl) ?_
  obtain ⟨hq_0, hk⟩ := hk
  refine ky_cVh (As := [.int (a1), .int ((1 : Int32)), .int (a2)]) (wr := []) F (hE.at hfr hS) hfr (mt_X9_take l G mo cs N w (f)    (a1) ((1 : Int32)) (a2) s.heap.size hq_0) kv_X9_112 ⟨⟨rfl, rfl⟩, by decide, by decide⟩ rfl hl.1 rfl (Nat.le_of_ble_eq_true rfl) ⟨Nat.le_of_ble_eq_true rfl, Nat.le_of_ble_eq_true rfl⟩ (va_recv hE.1 hP (ci := 5) (q0 := 0) rfl rfl) hIT hP hD hS hA [0, 1] [] rfl rfl (by decide) (by decide) (by decide) dc_X9_ceil_4 ?_
  rintro v9 ⟨w_1, f_1⟩ H locs ⟨rfl, hw_1⟩ hP hD hS hIT9 hz hk9
  have hw_1 : w_1 = (fn_X9_take (a1) ((1 : Int32)) (a2) w).2 := hw_1
  try rw [← hw_1] at hw
  try rw [← hw_1] at hk
  have hP : va_P G.1 kcl [(mo, .inr (5, [.int ((w_1).1), .ref cs, .int ((w_1).2.1), .int ((w_1).2.2.1), .int ((w_1).2.2.2.1)])), (cs, .inl (G.2.1 3, 6, .inr (.inr (.inr (.inr (f_1))))))] H := hP
  have hD : va_D A [(mo, .inr (5, [.int ((w_1).1), .ref cs, .int ((w_1).2.1), .int ((w_1).2.2.1), .int ((w_1).2.2.2.1)])), (cs, .inl (G.2.1 3, 6, .inr (.inr (.inr (.inr (f_1))))))] := hD
  have hIT : ky_IT G mo cs N f_1 ((w_1).2.2.2.2) H := hIT9
  refine W.widen (k := 1) (n := 2) (Nat.le_refl _) (Nat.le_refl _) ?_
  have hP9 : va_P G.1 kcl (ky_WM G mo cs ((w_1)) (f_1)) H := hP.sub [0, 1] rfl
  have hD9 : va_D A (ky_WM G mo cs ((w_1)) (f_1)) := hD.sub [0, 1] (by decide) rfl
  refine W.widen (k := 1) (n := 2) (Nat.le_of_ble_eq_true rfl) (Nat.le_of_ble_eq_true rfl) ?_
  exact W.iret (v := (fn_X9_take (a1) ((1 : Int32)) (a2) w).1) hx hb hr (fun t ht hW => ⟨by rw [ht]; exact ky_endM (fun z => some (.int z)) ((fn_X9_take (a1) ((1 : Int32)) (a2) w).1) hw hP9 hD9 (hIT), hS.F ht⟩) hS.2.2 dc_X9_ceil_7
end
section
def fn_X9_rint (a1 : Int32) (a2 : Int32)  (w : ky_MV) : Int32 × ky_MV :=
  fn_X9_take (a1) ((2 : Int32)) (a2) w
def fk_X9_rint (a1 : Int32) (a2 : Int32)  (w : ky_MV) : Prop :=
  ((fk_X9_take (a1) ((2 : Int32)) (a2) w) ∧ (True)) ∧ True
set_option linter.constructorNameAsVariable false in
set_option maxHeartbeats 4000000 in
set_option maxRecDepth 100000 in
theorem mt_X9_rint (l : Launch) (G : ky_G) (mo cs : Nat) (N : Nat → Prop) (w : ky_MV) (f : Nat → Option Nat)    (a1 : Int32) (a2 : Int32) (sz : Nat) (hk : fk_X9_rint a1 a2 w) : Met l my_X9_rint (.code my_X9_rint prog_10_method_25_code 3 (some .int) :: ky_B) { frames := 7, cells := 1, slots := 2, locals := 150 } (ky_P G [.ref mo, .int (a1), .int (a2)] (ky_WM G mo cs w f) sz (fun H => ky_IT G mo cs N f w.2.2.2.2 H)) (ky_Q (S := ky_MV × (Nat → Option Nat)) G (va_A (ky_WM G mo cs w f) sz) (fun v u => v = some (.int (fn_X9_rint a1 a2 w).1) ∧ u.1 = (fn_X9_rint a1 a2 w).2) (fun u => ky_WM G mo cs u.1 u.2) (fun u H => ky_IT G mo cs N u.2 u.1.2.2.2.2 H)) 1 2 (va_A (ky_WM G mo cs w f) sz) := by
  refine ky_start (by decide) (Nat.le_of_ble_eq_true rfl) (fun p e s m below meth c F hE A hAe hsz hA hfr hP hD hS hX ls hl => ?_)
  obtain ⟨hx, hb, hml, hown, hr, hlocks, hts⟩ := id F
  have hIT0 := hX
  have hIT := hIT0
  have hl : lv_has ls 3 [(0, .ref mo), (1, .int (a1)), (2, .int (a2))] := hl
  have hP : va_P G.1 kcl [(mo, .inr (5, [.int (w.1), .ref cs, .int (w.2.1), .int (w.2.2.1), .int (w.2.2.2.1)])), (cs, .inl (G.2.1 3, 6, .inr (.inr (.inr (.inr (f))))))] s.heap := hP
  have hD : va_D A [(mo, .inr (5, [.int (w.1), .ref cs, .int (w.2.1), .int (w.2.2.1), .int (w.2.2.2.1)])), (cs, .inl (G.2.1 3, 6, .inr (.inr (.inr (.inr (f))))))] := hD
  have hw : fn_X9_rint a1 a2 w = _ := (fn_X9_rint.eq_1 a1 a2 w).trans (ky_eta _)
  have hk : (fk_X9_take (a1) ((2 : Int32)) (a2) w) ∧ (True) := hk.1
  refine lv_aload_n hx hb dc_X9_rint_0 rfl (lv_at hl 0 rfl) ?_
  refine lv_iload_n hx hb dc_X9_rint_1 rfl (lv_at hl 1 rfl) ?_
  refine lv_iconst (v := 2) hx hb dc_X9_rint_2 (by decide) ?_
  refine lv_iload_n hx hb dc_X9_rint_3 rfl (lv_at hl 2 rfl) ?_
  obtain ⟨hq_0, hk⟩ := hk
  refine ky_cVh (As := [.int (a1), .int ((2 : Int32)), .int (a2)]) (wr := []) F (hE.at hfr hS) hfr (mt_X9_take l G mo cs N w (f)    (a1) ((2 : Int32)) (a2) s.heap.size hq_0) kv_X9_112 ⟨⟨rfl, rfl⟩, by decide, by decide⟩ rfl hl.1 rfl (Nat.le_of_ble_eq_true rfl) ⟨Nat.le_of_ble_eq_true rfl, Nat.le_of_ble_eq_true rfl⟩ (va_recv hE.1 hP (ci := 5) (q0 := 0) rfl rfl) hIT hP hD hS hA [0, 1] [] rfl rfl (by decide) (by decide) (by decide) dc_X9_rint_4 ?_
  rintro v9 ⟨w_1, f_1⟩ H locs ⟨rfl, hw_1⟩ hP hD hS hIT9 hz hk9
  have hw_1 : w_1 = (fn_X9_take (a1) ((2 : Int32)) (a2) w).2 := hw_1
  try rw [← hw_1] at hw
  try rw [← hw_1] at hk
  have hP : va_P G.1 kcl [(mo, .inr (5, [.int ((w_1).1), .ref cs, .int ((w_1).2.1), .int ((w_1).2.2.1), .int ((w_1).2.2.2.1)])), (cs, .inl (G.2.1 3, 6, .inr (.inr (.inr (.inr (f_1))))))] H := hP
  have hD : va_D A [(mo, .inr (5, [.int ((w_1).1), .ref cs, .int ((w_1).2.1), .int ((w_1).2.2.1), .int ((w_1).2.2.2.1)])), (cs, .inl (G.2.1 3, 6, .inr (.inr (.inr (.inr (f_1))))))] := hD
  have hIT : ky_IT G mo cs N f_1 ((w_1).2.2.2.2) H := hIT9
  refine W.widen (k := 1) (n := 2) (Nat.le_refl _) (Nat.le_refl _) ?_
  have hP9 : va_P G.1 kcl (ky_WM G mo cs ((w_1)) (f_1)) H := hP.sub [0, 1] rfl
  have hD9 : va_D A (ky_WM G mo cs ((w_1)) (f_1)) := hD.sub [0, 1] (by decide) rfl
  refine W.widen (k := 1) (n := 2) (Nat.le_of_ble_eq_true rfl) (Nat.le_of_ble_eq_true rfl) ?_
  exact W.iret (v := (fn_X9_take (a1) ((2 : Int32)) (a2) w).1) hx hb hr (fun t ht hW => ⟨by rw [ht]; exact ky_endM (fun z => some (.int z)) ((fn_X9_take (a1) ((2 : Int32)) (a2) w).1) hw hP9 hD9 (hIT), hS.F ht⟩) hS.2.2 dc_X9_rint_7
end
section
def fn_X9_sign (a1 : Int32) (a2 : Int32)  (w : ky_MV) : Int32 × ky_MV :=
  if (jst (fn_X9_areNo (a1) (a2))) = (0 : Int32) then (((fn_X9_give (a2) (fn_X8_sign ((w.2.2.2.2) (a1).toNatClampNeg)) (jst (fn_X9_areNo (a1) (a2)), w.2.1, w.2.2.1, w.2.2.2.1, w.2.2.2.2)).1, ((fn_X9_give (a2) (fn_X8_sign ((w.2.2.2.2) (a1).toNatClampNeg)) (jst (fn_X9_areNo (a1) (a2)), w.2.1, w.2.2.1, w.2.2.2.1, w.2.2.2.2)).2))) else (((0 : Int32), (jst (fn_X9_areNo (a1) (a2)), w.2.1, w.2.2.1, w.2.2.2.1, w.2.2.2.2)))
def fk_X9_sign (a1 : Int32) (a2 : Int32)  (w : ky_MV) : Prop :=
  ((((jst (fn_X9_areNo (a1) (a2))) = (0 : Int32)) → ((fk_X8_sign ((w.2.2.2.2) (a1).toNatClampNeg)) ∧ (True))) ∧ (¬ ((jst (fn_X9_areNo (a1) (a2))) = (0 : Int32)) → (True))) ∧ True
set_option linter.constructorNameAsVariable false in
set_option maxHeartbeats 4000000 in
set_option maxRecDepth 100000 in
theorem mt_X9_sign (l : Launch) (G : ky_G) (mo cs : Nat) (N : Nat → Prop) (w : ky_MV) (f : Nat → Option Nat)    (a1 : Int32) (a2 : Int32) (sz : Nat) (hk : fk_X9_sign a1 a2 w) : Met l my_X9_sign (.code my_X9_sign prog_10_method_28_code 3 (some .int) :: ky_B) { frames := 6, cells := 1, slots := 2, locals := 127 } (ky_P G [.ref mo, .int (a1), .int (a2)] (ky_WM G mo cs w f) sz (fun H => ky_IT G mo cs N f w.2.2.2.2 H)) (ky_Q (S := ky_MV × (Nat → Option Nat)) G (va_A (ky_WM G mo cs w f) sz) (fun v u => v = some (.int (fn_X9_sign a1 a2 w).1) ∧ u.1 = (fn_X9_sign a1 a2 w).2) (fun u => ky_WM G mo cs u.1 u.2) (fun u H => ky_IT G mo cs N u.2 u.1.2.2.2.2 H)) 1 2 (va_A (ky_WM G mo cs w f) sz) := by
  refine ky_start (by decide) (Nat.le_of_ble_eq_true rfl) (fun p e s m below meth c F hE A hAe hsz hA hfr hP hD hS hX ls hl => ?_)
  obtain ⟨hx, hb, hml, hown, hr, hlocks, hts⟩ := id F
  have hIT0 := hX
  have hIT := hIT0
  have hl : lv_has ls 3 [(0, .ref mo), (1, .int (a1)), (2, .int (a2))] := hl
  have hP : va_P G.1 kcl [(mo, .inr (5, [.int (w.1), .ref cs, .int (w.2.1), .int (w.2.2.1), .int (w.2.2.2.1)])), (cs, .inl (G.2.1 3, 6, .inr (.inr (.inr (.inr (f))))))] s.heap := hP
  have hD : va_D A [(mo, .inr (5, [.int (w.1), .ref cs, .int (w.2.1), .int (w.2.2.1), .int (w.2.2.2.1)])), (cs, .inl (G.2.1 3, 6, .inr (.inr (.inr (.inr (f))))))] := hD
  have hw : fn_X9_sign a1 a2 w = _ := fn_X9_sign.eq_1 a1 a2 w
  have hk : (((jst (fn_X9_areNo (a1) (a2))) = (0 : Int32)) → ((fk_X8_sign ((w.2.2.2.2) (a1).toNatClampNeg)) ∧ (True))) ∧ (¬ ((jst (fn_X9_areNo (a1) (a2))) = (0 : Int32)) → (True)) := hk.1
  refine lv_aload_n hx hb dc_X9_sign_0 rfl (lv_at hl 0 rfl) ?_
  refine lv_aload_n hx hb dc_X9_sign_1 rfl (lv_at hl 0 rfl) ?_
  refine lv_iload_n hx hb dc_X9_sign_2 rfl (lv_at hl 1 rfl) ?_
  refine lv_iload_n hx hb dc_X9_sign_3 rfl (lv_at hl 2 rfl) ?_
  refine ky_cV1 (As := [.int (a1), .int (a2)]) F (hE.at hfr hS) (mt_X9_areNo l G (mo) (a1) (a2)) kv_X9_104 ⟨⟨rfl, rfl⟩, by decide, by decide⟩ rfl hl.1 rfl (Nat.le_of_ble_eq_true rfl) ⟨Nat.le_of_ble_eq_true rfl, Nat.le_of_ble_eq_true rfl⟩ (va_recv hE.1 hP (ci := 5) (q0 := 0) rfl rfl) trivial dc_X9_sign_4 ?_
  refine ky_cVh (As := [.int (fn_X9_areNo (a1) (a2))]) (wr := []) F (hE.at hfr hS) hfr (mt_X9_startJ l G (mo) (cs) ((w.1, w.2.1, w.2.2.1, w.2.2.2.1)) (f) (fn_X9_areNo (a1) (a2)) s.heap.size ) kv_X9_55 ⟨⟨rfl, rfl⟩, by decide, by decide⟩ rfl hl.1 rfl (Nat.le_of_ble_eq_true rfl) ⟨Nat.le_of_ble_eq_true rfl, Nat.le_of_ble_eq_true rfl⟩ (va_recv hE.1 hP (ci := 5) (q0 := 0) rfl rfl) trivial hP hD hS hA [0, 1] [] rfl rfl (by decide) (by decide) (by decide) dc_X9_sign_7 ?_
  rintro v9 u9 H locs ⟨rfl, rfl⟩ hP hD hS - hz hk9
  obtain ⟨j_1, hj_1⟩ : ∃ j9, j9 = jst (fn_X9_areNo (a1) (a2)) := ⟨_, rfl⟩
  rw [← hj_1] at hP hD ⊢
  try rw [← hj_1] at hw
  try rw [← hj_1] at hk
  have hP : va_P G.1 kcl [(mo, .inr (5, [.int (j_1), .ref cs, .int (w.2.1), .int (w.2.2.1), .int (w.2.2.2.1)])), (cs, .inl (G.2.1 3, 6, .inr (.inr (.inr (.inr (f))))))] H := hP
  have hD : va_D A [(mo, .inr (5, [.int (j_1), .ref cs, .int (w.2.1), .int (w.2.2.1), .int (w.2.2.2.1)])), (cs, .inl (G.2.1 3, 6, .inr (.inr (.inr (.inr (f))))))] := hD
  have hIT := hIT0.ro hAe hS
  refine W.widen (k := 0) (n := 0) (Nat.le_refl _) (Nat.le_refl _) ?_
  refine lv_if_eq (tgt := 17) hx hb dc_X9_sign_10 (by decide) (fun c_2 => ?_) (fun c_2 => ?_)
  · have hw := hw.trans (if_pos c_2)
    have hk := hk.1 c_2
    refine lv_aload_n hx hb dc_X9_sign_17 rfl (lv_at hl 0 rfl) ?_
    refine lv_iload_n hx hb dc_X9_sign_18 rfl (lv_at hl 2 rfl) ?_
    refine lv_aload_n hx hb dc_X9_sign_19 rfl (lv_at hl 0 rfl) ?_
    refine va_get (D := G.1) (ci := 5) (v := .ref cs) (C := RX9) (T := TX9) (N := 5) hx hb hts ki_X9 hown hE.1 hP 0 rfl rfl 1 (by decide) (hts _ kw_6_20) (fun _ h9 => h9) rfl dc_X9_sign_20 ?_
    refine lv_iload_n hx hb dc_X9_sign_23 rfl (lv_at hl 1 rfl) ?_
    refine va_aldq hx hb hE.1 hP 1 3 rfl rfl (lr_startB (hj_1.symm.trans c_2)).1 dc_X9_sign_24 ?_
    obtain ⟨b_3, hb_3, hI_3, ho_3⟩ := hIT.2 _ (ky_i6 (lr_startB (hj_1.symm.trans c_2)).1)
    rw [ky_rf hb_3]
    have hX_3 : ky_It G b_3 ((w.2.2.2.2) (a1).toNatClampNeg) s.heap := by obtain ⟨b9, e9, i9, -⟩ := hIT0.2 _ (ky_i6 (lr_startB (hj_1.symm.trans c_2)).1); have z9 : b9 = b_3 := Option.some.inj (e9.symm.trans hb_3); exact z9 ▸ i9
    have hm_4 := (hP 0 _ rfl).lt
    have hc_4 := (hP 1 _ rfl).lt
    have hN_4 := hIT.1
    obtain ⟨hq_4, hk⟩ := hk
    have hs_5 := hS.1
    refine ky_cVh (As := []) (wr := [(mo, .inr (5, [.int (j_1), .ref cs, .int (w.2.1), .int (w.2.2.1), .int (w.2.2.2.1)])), (cs, .inl (G.2.1 3, 6, .inr (.inr (.inr (.inr (f))))))]) F (hE.at hfr hS) hfr (mt_X8_sign l G (b_3) ((w.2.2.2.2) (a1).toNatClampNeg)  H.size hq_4) kv_X9_124 ⟨⟨rfl, rfl⟩, by decide, by decide⟩ rfl hl.1 rfl (Nat.le_of_ble_eq_true rfl) ⟨Nat.le_of_ble_eq_true rfl, Nat.le_of_ble_eq_true rfl⟩ (va_recv hE.1 hI_3 (ci := 4) (q0 := 0) rfl rfl) hI_3 hP hD hS hA [] [0, 1] rfl rfl (by decide) (by decide) (by decide) dc_X9_sign_25 ?_
    rintro v9 q_5 H locs rfl hP hD hS ⟨hI_5, hd_5⟩ hz hk9
    have hP : va_P G.1 kcl [(mo, .inr (5, [.int (j_1), .ref cs, .int (w.2.1), .int (w.2.2.1), .int (w.2.2.2.1)])), (cs, .inl (G.2.1 3, 6, .inr (.inr (.inr (.inr (f))))))] H := hP
    have hD : va_D A [(mo, .inr (5, [.int (j_1), .ref cs, .int (w.2.1), .int (w.2.2.1), .int (w.2.2.2.1)])), (cs, .inl (G.2.1 3, 6, .inr (.inr (.inr (.inr (f))))))] := hD
    have hI_3 := hI_3.fr hk9
    refine W.widen (k := 1) (n := 2) (Nat.le_refl _) (Nat.le_refl _) ?_
    have hIT := hIT.keep hz (fun q9 ho9 hl9 => hk9 q9 hl9 (ky_nemp hl9))
    have hk_5 := ho_3.or hm_4 hc_4 hN_4 hd_5
    refine ky_cVh (As := [.int (a2), .ref q_5]) (wr := []) F (hE.at hfr hS) hfr (mt_X9_give l G mo cs N (j_1, w.2.1, w.2.2.1, w.2.2.2.1, w.2.2.2.2) (f) (q_5) (fn_X8_sign ((w.2.2.2.2) (a1).toNatClampNeg)) hk_5 (a2) H.size (lr_startB (hj_1.symm.trans c_2)).2) kv_X9_63 ⟨⟨rfl, rfl⟩, by decide, by decide⟩ rfl hl.1 rfl (Nat.le_of_ble_eq_true rfl) ⟨Nat.le_of_ble_eq_true rfl, Nat.le_of_ble_eq_true rfl⟩ (va_recv hE.1 hP (ci := 5) (q0 := 0) rfl rfl) ⟨hIT, hI_5⟩ hP hD hS hA [0, 1] [] rfl rfl (by decide) (by decide) (by decide) dc_X9_sign_28 ?_
    rintro v9 ⟨w_6, f_6⟩ H locs ⟨rfl, hw_6⟩ hP hD hS hIT9 hz hk9
    have hw_6 : w_6 = (fn_X9_give (a2) (fn_X8_sign ((w.2.2.2.2) (a1).toNatClampNeg)) (j_1, w.2.1, w.2.2.1, w.2.2.2.1, w.2.2.2.2)).2 := hw_6
    try rw [← hw_6] at hw
    try rw [← hw_6] at hk
    have hP : va_P G.1 kcl [(mo, .inr (5, [.int ((w_6).1), .ref cs, .int ((w_6).2.1), .int ((w_6).2.2.1), .int ((w_6).2.2.2.1)])), (cs, .inl (G.2.1 3, 6, .inr (.inr (.inr (.inr (f_6))))))] H := hP
    have hD : va_D A [(mo, .inr (5, [.int ((w_6).1), .ref cs, .int ((w_6).2.1), .int ((w_6).2.2.1), .int ((w_6).2.2.2.1)])), (cs, .inl (G.2.1 3, 6, .inr (.inr (.inr (.inr (f_6))))))] := hD
    have hI_3 := hI_3.keep (hk9 _ hI_3.low (ky_nwc ho_3 hI_3.low))
    have hI_5 := hI_5.keep (hk9 _ hI_5.low (ky_nwc hk_5 hI_5.low))
    have hIT : ky_IT G mo cs N f_6 ((w_6).2.2.2.2) H := hIT9
    refine W.widen (k := 1) (n := 2) (Nat.le_refl _) (Nat.le_refl _) ?_
    have hP9 : va_P G.1 kcl (ky_WM G mo cs ((w_6)) (f_6)) H := hP.sub [0, 1] rfl
    have hD9 : va_D A (ky_WM G mo cs ((w_6)) (f_6)) := hD.sub [0, 1] (by decide) rfl
    refine W.widen (k := 1) (n := 2) (Nat.le_of_ble_eq_true rfl) (Nat.le_of_ble_eq_true rfl) ?_
    exact W.iret (v := (fn_X9_give (a2) (fn_X8_sign ((w.2.2.2.2) (a1).toNatClampNeg)) (j_1, w.2.1, w.2.2.1, w.2.2.2.1, w.2.2.2.2)).1) hx hb hr (fun t ht hW => ⟨by rw [ht]; exact ky_endM (fun z => some (.int z)) ((fn_X9_give (a2) (fn_X8_sign ((w.2.2.2.2) (a1).toNatClampNeg)) (j_1, w.2.1, w.2.2.1, w.2.2.2.1, w.2.2.2.2)).1) hw hP9 hD9 (hIT), hS.F ht⟩) hS.2.2 dc_X9_sign_31
  · have hw := hw.trans (if_neg c_2)
    have hk := hk.2 c_2
    refine lv_iconst (v := 0) hx hb dc_X9_sign_13 (by decide) ?_
    refine lv_goto (tgt := 31) hx hb dc_X9_sign_14 (by decide) ?_
    have hP9 : va_P G.1 kcl (ky_WM G mo cs ((j_1, w.2.1, w.2.2.1, w.2.2.2.1, w.2.2.2.2)) (f)) H := hP.sub [0, 1] rfl
    have hD9 : va_D A (ky_WM G mo cs ((j_1, w.2.1, w.2.2.1, w.2.2.2.1, w.2.2.2.2)) (f)) := hD.sub [0, 1] (by decide) rfl
    refine W.widen (k := 1) (n := 2) (Nat.le_of_ble_eq_true rfl) (Nat.le_of_ble_eq_true rfl) ?_
    exact W.iret (v := (0 : Int32)) hx hb hr (fun t ht hW => ⟨by rw [ht]; exact ky_endM (fun z => some (.int z)) ((0 : Int32)) hw hP9 hD9 (hIT), hS.F ht⟩) hS.2.2 dc_X9_sign_31
end
section
def fn_X9_step (a1 : Int32) (a2 : Int32)  (w : ky_MV) : Int32 × ky_MV :=
  if (jst (fn_X9_areNo (a1) (a2))) = (0 : Int32) then (((fn_X9_give (a2) (fn_X8_step ((w.2.2.2.2) (a1).toNatClampNeg)) (jst (fn_X9_areNo (a1) (a2)), w.2.1, w.2.2.1, w.2.2.2.1, w.2.2.2.2)).1, ((fn_X9_give (a2) (fn_X8_step ((w.2.2.2.2) (a1).toNatClampNeg)) (jst (fn_X9_areNo (a1) (a2)), w.2.1, w.2.2.1, w.2.2.2.1, w.2.2.2.2)).2))) else (((0 : Int32), (jst (fn_X9_areNo (a1) (a2)), w.2.1, w.2.2.1, w.2.2.2.1, w.2.2.2.2)))
def fk_X9_step (a1 : Int32) (a2 : Int32)  (w : ky_MV) : Prop :=
  ((((jst (fn_X9_areNo (a1) (a2))) = (0 : Int32)) → ((fk_X8_step ((w.2.2.2.2) (a1).toNatClampNeg)) ∧ (True))) ∧ (¬ ((jst (fn_X9_areNo (a1) (a2))) = (0 : Int32)) → (True))) ∧ True
set_option linter.constructorNameAsVariable false in
set_option maxHeartbeats 4000000 in
set_option maxRecDepth 100000 in
theorem mt_X9_step (l : Launch) (G : ky_G) (mo cs : Nat) (N : Nat → Prop) (w : ky_MV) (f : Nat → Option Nat)    (a1 : Int32) (a2 : Int32) (sz : Nat) (hk : fk_X9_step a1 a2 w) : Met l my_X9_step (.code my_X9_step prog_10_method_31_code 3 (some .int) :: ky_B) { frames := 6, cells := 1, slots := 2, locals := 127 } (ky_P G [.ref mo, .int (a1), .int (a2)] (ky_WM G mo cs w f) sz (fun H => ky_IT G mo cs N f w.2.2.2.2 H)) (ky_Q (S := ky_MV × (Nat → Option Nat)) G (va_A (ky_WM G mo cs w f) sz) (fun v u => v = some (.int (fn_X9_step a1 a2 w).1) ∧ u.1 = (fn_X9_step a1 a2 w).2) (fun u => ky_WM G mo cs u.1 u.2) (fun u H => ky_IT G mo cs N u.2 u.1.2.2.2.2 H)) 1 2 (va_A (ky_WM G mo cs w f) sz) := by
  refine ky_start (by decide) (Nat.le_of_ble_eq_true rfl) (fun p e s m below meth c F hE A hAe hsz hA hfr hP hD hS hX ls hl => ?_)
  obtain ⟨hx, hb, hml, hown, hr, hlocks, hts⟩ := id F
  have hIT0 := hX
  have hIT := hIT0
  have hl : lv_has ls 3 [(0, .ref mo), (1, .int (a1)), (2, .int (a2))] := hl
  have hP : va_P G.1 kcl [(mo, .inr (5, [.int (w.1), .ref cs, .int (w.2.1), .int (w.2.2.1), .int (w.2.2.2.1)])), (cs, .inl (G.2.1 3, 6, .inr (.inr (.inr (.inr (f))))))] s.heap := hP
  have hD : va_D A [(mo, .inr (5, [.int (w.1), .ref cs, .int (w.2.1), .int (w.2.2.1), .int (w.2.2.2.1)])), (cs, .inl (G.2.1 3, 6, .inr (.inr (.inr (.inr (f))))))] := hD
  have hw : fn_X9_step a1 a2 w = _ := fn_X9_step.eq_1 a1 a2 w
  have hk : (((jst (fn_X9_areNo (a1) (a2))) = (0 : Int32)) → ((fk_X8_step ((w.2.2.2.2) (a1).toNatClampNeg)) ∧ (True))) ∧ (¬ ((jst (fn_X9_areNo (a1) (a2))) = (0 : Int32)) → (True)) := hk.1
  refine lv_aload_n hx hb dc_X9_step_0 rfl (lv_at hl 0 rfl) ?_
  refine lv_aload_n hx hb dc_X9_step_1 rfl (lv_at hl 0 rfl) ?_
  refine lv_iload_n hx hb dc_X9_step_2 rfl (lv_at hl 1 rfl) ?_
  refine lv_iload_n hx hb dc_X9_step_3 rfl (lv_at hl 2 rfl) ?_
  refine ky_cV1 (As := [.int (a1), .int (a2)]) F (hE.at hfr hS) (mt_X9_areNo l G (mo) (a1) (a2)) kv_X9_104 ⟨⟨rfl, rfl⟩, by decide, by decide⟩ rfl hl.1 rfl (Nat.le_of_ble_eq_true rfl) ⟨Nat.le_of_ble_eq_true rfl, Nat.le_of_ble_eq_true rfl⟩ (va_recv hE.1 hP (ci := 5) (q0 := 0) rfl rfl) trivial dc_X9_step_4 ?_
  refine ky_cVh (As := [.int (fn_X9_areNo (a1) (a2))]) (wr := []) F (hE.at hfr hS) hfr (mt_X9_startJ l G (mo) (cs) ((w.1, w.2.1, w.2.2.1, w.2.2.2.1)) (f) (fn_X9_areNo (a1) (a2)) s.heap.size ) kv_X9_55 ⟨⟨rfl, rfl⟩, by decide, by decide⟩ rfl hl.1 rfl (Nat.le_of_ble_eq_true rfl) ⟨Nat.le_of_ble_eq_true rfl, Nat.le_of_ble_eq_true rfl⟩ (va_recv hE.1 hP (ci := 5) (q0 := 0) rfl rfl) trivial hP hD hS hA [0, 1] [] rfl rfl (by decide) (by decide) (by decide) dc_X9_step_7 ?_
  rintro v9 u9 H locs ⟨rfl, rfl⟩ hP hD hS - hz hk9
  obtain ⟨j_1, hj_1⟩ : ∃ j9, j9 = jst (fn_X9_areNo (a1) (a2)) := ⟨_, rfl⟩
  rw [← hj_1] at hP hD ⊢
  try rw [← hj_1] at hw
  try rw [← hj_1] at hk
  have hP : va_P G.1 kcl [(mo, .inr (5, [.int (j_1), .ref cs, .int (w.2.1), .int (w.2.2.1), .int (w.2.2.2.1)])), (cs, .inl (G.2.1 3, 6, .inr (.inr (.inr (.inr (f))))))] H := hP
  have hD : va_D A [(mo, .inr (5, [.int (j_1), .ref cs, .int (w.2.1), .int (w.2.2.1), .int (w.2.2.2.1)])), (cs, .inl (G.2.1 3, 6, .inr (.inr (.inr (.inr (f))))))] := hD
  have hIT := hIT0.ro hAe hS
  refine W.widen (k := 0) (n := 0) (Nat.le_refl _) (Nat.le_refl _) ?_
  refine lv_if_eq (tgt := 17) hx hb dc_X9_step_10 (by decide) (fun c_2 => ?_) (fun c_2 => ?_)
  · have hw := hw.trans (if_pos c_2)
    have hk := hk.1 c_2
    refine lv_aload_n hx hb dc_X9_step_17 rfl (lv_at hl 0 rfl) ?_
    refine lv_iload_n hx hb dc_X9_step_18 rfl (lv_at hl 2 rfl) ?_
    refine lv_aload_n hx hb dc_X9_step_19 rfl (lv_at hl 0 rfl) ?_
    refine va_get (D := G.1) (ci := 5) (v := .ref cs) (C := RX9) (T := TX9) (N := 5) hx hb hts ki_X9 hown hE.1 hP 0 rfl rfl 1 (by decide) (hts _ kw_6_20) (fun _ h9 => h9) rfl dc_X9_step_20 ?_
    refine lv_iload_n hx hb dc_X9_step_23 rfl (lv_at hl 1 rfl) ?_
    refine va_aldq hx hb hE.1 hP 1 3 rfl rfl (lr_startB (hj_1.symm.trans c_2)).1 dc_X9_step_24 ?_
    obtain ⟨b_3, hb_3, hI_3, ho_3⟩ := hIT.2 _ (ky_i6 (lr_startB (hj_1.symm.trans c_2)).1)
    rw [ky_rf hb_3]
    have hX_3 : ky_It G b_3 ((w.2.2.2.2) (a1).toNatClampNeg) s.heap := by obtain ⟨b9, e9, i9, -⟩ := hIT0.2 _ (ky_i6 (lr_startB (hj_1.symm.trans c_2)).1); have z9 : b9 = b_3 := Option.some.inj (e9.symm.trans hb_3); exact z9 ▸ i9
    have hm_4 := (hP 0 _ rfl).lt
    have hc_4 := (hP 1 _ rfl).lt
    have hN_4 := hIT.1
    obtain ⟨hq_4, hk⟩ := hk
    have hs_5 := hS.1
    refine ky_cVh (As := []) (wr := [(mo, .inr (5, [.int (j_1), .ref cs, .int (w.2.1), .int (w.2.2.1), .int (w.2.2.2.1)])), (cs, .inl (G.2.1 3, 6, .inr (.inr (.inr (.inr (f))))))]) F (hE.at hfr hS) hfr (mt_X8_step l G (b_3) ((w.2.2.2.2) (a1).toNatClampNeg)  H.size hq_4) kv_X9_134 ⟨⟨rfl, rfl⟩, by decide, by decide⟩ rfl hl.1 rfl (Nat.le_of_ble_eq_true rfl) ⟨Nat.le_of_ble_eq_true rfl, Nat.le_of_ble_eq_true rfl⟩ (va_recv hE.1 hI_3 (ci := 4) (q0 := 0) rfl rfl) hI_3 hP hD hS hA [] [0, 1] rfl rfl (by decide) (by decide) (by decide) dc_X9_step_25 ?_
    rintro v9 q_5 H locs rfl hP hD hS ⟨hI_5, hd_5⟩ hz hk9
    have hP : va_P G.1 kcl [(mo, .inr (5, [.int (j_1), .ref cs, .int (w.2.1), .int (w.2.2.1), .int (w.2.2.2.1)])), (cs, .inl (G.2.1 3, 6, .inr (.inr (.inr (.inr (f))))))] H := hP
    have hD : va_D A [(mo, .inr (5, [.int (j_1), .ref cs, .int (w.2.1), .int (w.2.2.1), .int (w.2.2.2.1)])), (cs, .inl (G.2.1 3, 6, .inr (.inr (.inr (.inr (f))))))] := hD
    have hI_3 := hI_3.fr hk9
    refine W.widen (k := 1) (n := 2) (Nat.le_refl _) (Nat.le_refl _) ?_
    have hIT := hIT.keep hz (fun q9 ho9 hl9 => hk9 q9 hl9 (ky_nemp hl9))
    have hk_5 := ho_3.or hm_4 hc_4 hN_4 hd_5
    refine ky_cVh (As := [.int (a2), .ref q_5]) (wr := []) F (hE.at hfr hS) hfr (mt_X9_give l G mo cs N (j_1, w.2.1, w.2.2.1, w.2.2.2.1, w.2.2.2.2) (f) (q_5) (fn_X8_step ((w.2.2.2.2) (a1).toNatClampNeg)) hk_5 (a2) H.size (lr_startB (hj_1.symm.trans c_2)).2) kv_X9_63 ⟨⟨rfl, rfl⟩, by decide, by decide⟩ rfl hl.1 rfl (Nat.le_of_ble_eq_true rfl) ⟨Nat.le_of_ble_eq_true rfl, Nat.le_of_ble_eq_true rfl⟩ (va_recv hE.1 hP (ci := 5) (q0 := 0) rfl rfl) ⟨hIT, hI_5⟩ hP hD hS hA [0, 1] [] rfl rfl (by decide) (by decide) (by decide) dc_X9_step_28 ?_
    rintro v9 ⟨w_6, f_6⟩ H locs ⟨rfl, hw_6⟩ hP hD hS hIT9 hz hk9
    have hw_6 : w_6 = (fn_X9_give (a2) (fn_X8_step ((w.2.2.2.2) (a1).toNatClampNeg)) (j_1, w.2.1, w.2.2.1, w.2.2.2.1, w.2.2.2.2)).2 := hw_6
    try rw [← hw_6] at hw
    try rw [← hw_6] at hk
    have hP : va_P G.1 kcl [(mo, .inr (5, [.int ((w_6).1), .ref cs, .int ((w_6).2.1), .int ((w_6).2.2.1), .int ((w_6).2.2.2.1)])), (cs, .inl (G.2.1 3, 6, .inr (.inr (.inr (.inr (f_6))))))] H := hP
    have hD : va_D A [(mo, .inr (5, [.int ((w_6).1), .ref cs, .int ((w_6).2.1), .int ((w_6).2.2.1), .int ((w_6).2.2.2.1)])), (cs, .inl (G.2.1 3, 6, .inr (.inr (.inr (.inr (f_6))))))] := hD
    have hI_3 := hI_3.keep (hk9 _ hI_3.low (ky_nwc ho_3 hI_3.low))
    have hI_5 := hI_5.keep (hk9 _ hI_5.low (ky_nwc hk_5 hI_5.low))
    have hIT : ky_IT G mo cs N f_6 ((w_6).2.2.2.2) H := hIT9
    refine W.widen (k := 1) (n := 2) (Nat.le_refl _) (Nat.le_refl _) ?_
    have hP9 : va_P G.1 kcl (ky_WM G mo cs ((w_6)) (f_6)) H := hP.sub [0, 1] rfl
    have hD9 : va_D A (ky_WM G mo cs ((w_6)) (f_6)) := hD.sub [0, 1] (by decide) rfl
    refine W.widen (k := 1) (n := 2) (Nat.le_of_ble_eq_true rfl) (Nat.le_of_ble_eq_true rfl) ?_
    exact W.iret (v := (fn_X9_give (a2) (fn_X8_step ((w.2.2.2.2) (a1).toNatClampNeg)) (j_1, w.2.1, w.2.2.1, w.2.2.2.1, w.2.2.2.2)).1) hx hb hr (fun t ht hW => ⟨by rw [ht]; exact ky_endM (fun z => some (.int z)) ((fn_X9_give (a2) (fn_X8_step ((w.2.2.2.2) (a1).toNatClampNeg)) (j_1, w.2.1, w.2.2.1, w.2.2.2.1, w.2.2.2.2)).1) hw hP9 hD9 (hIT), hS.F ht⟩) hS.2.2 dc_X9_step_31
  · have hw := hw.trans (if_neg c_2)
    have hk := hk.2 c_2
    refine lv_iconst (v := 0) hx hb dc_X9_step_13 (by decide) ?_
    refine lv_goto (tgt := 31) hx hb dc_X9_step_14 (by decide) ?_
    have hP9 : va_P G.1 kcl (ky_WM G mo cs ((j_1, w.2.1, w.2.2.1, w.2.2.2.1, w.2.2.2.2)) (f)) H := hP.sub [0, 1] rfl
    have hD9 : va_D A (ky_WM G mo cs ((j_1, w.2.1, w.2.2.1, w.2.2.2.1, w.2.2.2.2)) (f)) := hD.sub [0, 1] (by decide) rfl
    refine W.widen (k := 1) (n := 2) (Nat.le_of_ble_eq_true rfl) (Nat.le_of_ble_eq_true rfl) ?_
    exact W.iret (v := (0 : Int32)) hx hb hr (fun t ht hW => ⟨by rw [ht]; exact ky_endM (fun z => some (.int z)) ((0 : Int32)) hw hP9 hD9 (hIT), hS.F ht⟩) hS.2.2 dc_X9_step_31
end
section
def fn_X9_unit (a1 : Int32) (a2 : Int32)  (w : ky_MV) : Int32 × ky_MV :=
  if (jst (fn_X9_areNo (a1) (a2))) = (0 : Int32) then (((fn_X9_give (a2) (fn_X8_times ((-(fn_X8_exponent ((w.2.2.2.2) (a1).toNatClampNeg))).toInt64) ((w.2.2.2.2) (a1).toNatClampNeg)) (jst (fn_X9_areNo (a1) (a2)), w.2.1, w.2.2.1, w.2.2.2.1, w.2.2.2.2)).1, ((fn_X9_give (a2) (fn_X8_times ((-(fn_X8_exponent ((w.2.2.2.2) (a1).toNatClampNeg))).toInt64) ((w.2.2.2.2) (a1).toNatClampNeg)) (jst (fn_X9_areNo (a1) (a2)), w.2.1, w.2.2.1, w.2.2.2.1, w.2.2.2.2)).2))) else (((0 : Int32), (jst (fn_X9_areNo (a1) (a2)), w.2.1, w.2.2.1, w.2.2.2.1, w.2.2.2.2)))
def fk_X9_unit (a1 : Int32) (a2 : Int32)  (w : ky_MV) : Prop :=
  ((((jst (fn_X9_areNo (a1) (a2))) = (0 : Int32)) → ((fk_X8_times ((-(fn_X8_exponent ((w.2.2.2.2) (a1).toNatClampNeg))).toInt64) ((w.2.2.2.2) (a1).toNatClampNeg)) ∧ (True))) ∧ (¬ ((jst (fn_X9_areNo (a1) (a2))) = (0 : Int32)) → (True))) ∧ True
set_option linter.constructorNameAsVariable false in
set_option maxHeartbeats 4000000 in
set_option maxRecDepth 100000 in
theorem mt_X9_unit (l : Launch) (G : ky_G) (mo cs : Nat) (N : Nat → Prop) (w : ky_MV) (f : Nat → Option Nat)    (a1 : Int32) (a2 : Int32) (sz : Nat) (hk : fk_X9_unit a1 a2 w) : Met l my_X9_unit (.code my_X9_unit prog_10_method_32_code 3 (some .int) :: ky_B) { frames := 6, cells := 1, slots := 2, locals := 127 } (ky_P G [.ref mo, .int (a1), .int (a2)] (ky_WM G mo cs w f) sz (fun H => ky_IT G mo cs N f w.2.2.2.2 H)) (ky_Q (S := ky_MV × (Nat → Option Nat)) G (va_A (ky_WM G mo cs w f) sz) (fun v u => v = some (.int (fn_X9_unit a1 a2 w).1) ∧ u.1 = (fn_X9_unit a1 a2 w).2) (fun u => ky_WM G mo cs u.1 u.2) (fun u H => ky_IT G mo cs N u.2 u.1.2.2.2.2 H)) 1 2 (va_A (ky_WM G mo cs w f) sz) := by
  refine ky_start (by decide) (Nat.le_of_ble_eq_true rfl) (fun p e s m below meth c F hE A hAe hsz hA hfr hP hD hS hX ls hl => ?_)
  obtain ⟨hx, hb, hml, hown, hr, hlocks, hts⟩ := id F
  have hIT0 := hX
  have hIT := hIT0
  have hl : lv_has ls 3 [(0, .ref mo), (1, .int (a1)), (2, .int (a2))] := hl
  have hP : va_P G.1 kcl [(mo, .inr (5, [.int (w.1), .ref cs, .int (w.2.1), .int (w.2.2.1), .int (w.2.2.2.1)])), (cs, .inl (G.2.1 3, 6, .inr (.inr (.inr (.inr (f))))))] s.heap := hP
  have hD : va_D A [(mo, .inr (5, [.int (w.1), .ref cs, .int (w.2.1), .int (w.2.2.1), .int (w.2.2.2.1)])), (cs, .inl (G.2.1 3, 6, .inr (.inr (.inr (.inr (f))))))] := hD
  have hw : fn_X9_unit a1 a2 w = _ := fn_X9_unit.eq_1 a1 a2 w
  have hk : (((jst (fn_X9_areNo (a1) (a2))) = (0 : Int32)) → ((fk_X8_times ((-(fn_X8_exponent ((w.2.2.2.2) (a1).toNatClampNeg))).toInt64) ((w.2.2.2.2) (a1).toNatClampNeg)) ∧ (True))) ∧ (¬ ((jst (fn_X9_areNo (a1) (a2))) = (0 : Int32)) → (True)) := hk.1
  refine lv_aload_n hx hb dc_X9_unit_0 rfl (lv_at hl 0 rfl) ?_
  refine lv_aload_n hx hb dc_X9_unit_1 rfl (lv_at hl 0 rfl) ?_
  refine lv_iload_n hx hb dc_X9_unit_2 rfl (lv_at hl 1 rfl) ?_
  refine lv_iload_n hx hb dc_X9_unit_3 rfl (lv_at hl 2 rfl) ?_
  refine ky_cV1 (As := [.int (a1), .int (a2)]) F (hE.at hfr hS) (mt_X9_areNo l G (mo) (a1) (a2)) kv_X9_104 ⟨⟨rfl, rfl⟩, by decide, by decide⟩ rfl hl.1 rfl (Nat.le_of_ble_eq_true rfl) ⟨Nat.le_of_ble_eq_true rfl, Nat.le_of_ble_eq_true rfl⟩ (va_recv hE.1 hP (ci := 5) (q0 := 0) rfl rfl) trivial dc_X9_unit_4 ?_
  refine ky_cVh (As := [.int (fn_X9_areNo (a1) (a2))]) (wr := []) F (hE.at hfr hS) hfr (mt_X9_startJ l G (mo) (cs) ((w.1, w.2.1, w.2.2.1, w.2.2.2.1)) (f) (fn_X9_areNo (a1) (a2)) s.heap.size ) kv_X9_55 ⟨⟨rfl, rfl⟩, by decide, by decide⟩ rfl hl.1 rfl (Nat.le_of_ble_eq_true rfl) ⟨Nat.le_of_ble_eq_true rfl, Nat.le_of_ble_eq_true rfl⟩ (va_recv hE.1 hP (ci := 5) (q0 := 0) rfl rfl) trivial hP hD hS hA [0, 1] [] rfl rfl (by decide) (by decide) (by decide) dc_X9_unit_7 ?_
  rintro v9 u9 H locs ⟨rfl, rfl⟩ hP hD hS - hz hk9
  obtain ⟨j_1, hj_1⟩ : ∃ j9, j9 = jst (fn_X9_areNo (a1) (a2)) := ⟨_, rfl⟩
  rw [← hj_1] at hP hD ⊢
  try rw [← hj_1] at hw
  try rw [← hj_1] at hk
  have hP : va_P G.1 kcl [(mo, .inr (5, [.int (j_1), .ref cs, .int (w.2.1), .int (w.2.2.1), .int (w.2.2.2.1)])), (cs, .inl (G.2.1 3, 6, .inr (.inr (.inr (.inr (f))))))] H := hP
  have hD : va_D A [(mo, .inr (5, [.int (j_1), .ref cs, .int (w.2.1), .int (w.2.2.1), .int (w.2.2.2.1)])), (cs, .inl (G.2.1 3, 6, .inr (.inr (.inr (.inr (f))))))] := hD
  have hIT := hIT0.ro hAe hS
  refine W.widen (k := 0) (n := 0) (Nat.le_refl _) (Nat.le_refl _) ?_
  refine lv_if_eq (tgt := 17) hx hb dc_X9_unit_10 (by decide) (fun c_2 => ?_) (fun c_2 => ?_)
  · have hw := hw.trans (if_pos c_2)
    have hk := hk.1 c_2
    refine lv_aload_n hx hb dc_X9_unit_17 rfl (lv_at hl 0 rfl) ?_
    refine lv_iload_n hx hb dc_X9_unit_18 rfl (lv_at hl 2 rfl) ?_
    refine lv_aload_n hx hb dc_X9_unit_19 rfl (lv_at hl 0 rfl) ?_
    refine va_get (D := G.1) (ci := 5) (v := .ref cs) (C := RX9) (T := TX9) (N := 5) hx hb hts ki_X9 hown hE.1 hP 0 rfl rfl 1 (by decide) (hts _ kw_6_20) (fun _ h9 => h9) rfl dc_X9_unit_20 ?_
    refine lv_iload_n hx hb dc_X9_unit_23 rfl (lv_at hl 1 rfl) ?_
    refine va_aldq hx hb hE.1 hP 1 3 rfl rfl (lr_startB (hj_1.symm.trans c_2)).1 dc_X9_unit_24 ?_
    obtain ⟨b_3, hb_3, hI_3, ho_3⟩ := hIT.2 _ (ky_i6 (lr_startB (hj_1.symm.trans c_2)).1)
    rw [ky_rf hb_3]
    have hX_3 : ky_It G b_3 ((w.2.2.2.2) (a1).toNatClampNeg) s.heap := by obtain ⟨b9, e9, i9, -⟩ := hIT0.2 _ (ky_i6 (lr_startB (hj_1.symm.trans c_2)).1); have z9 : b9 = b_3 := Option.some.inj (e9.symm.trans hb_3); exact z9 ▸ i9
    refine lv_aload_n hx hb dc_X9_unit_25 rfl (lv_at hl 0 rfl) ?_
    refine va_get (D := G.1) (ci := 5) (v := .ref cs) (C := RX9) (T := TX9) (N := 5) hx hb hts ki_X9 hown hE.1 hP 0 rfl rfl 1 (by decide) (hts _ kw_6_20) (fun _ h9 => h9) rfl dc_X9_unit_26 ?_
    refine lv_iload_n hx hb dc_X9_unit_29 rfl (lv_at hl 1 rfl) ?_
    refine va_aldq hx hb hE.1 hP 1 3 rfl rfl (lr_startB (hj_1.symm.trans c_2)).1 dc_X9_unit_30 ?_
    obtain ⟨b_4, hb_4, hI_4, ho_4⟩ := hIT.2 _ (ky_i6 (lr_startB (hj_1.symm.trans c_2)).1)
    rw [ky_rf hb_4]
    have hX_4 : ky_It G b_4 ((w.2.2.2.2) (a1).toNatClampNeg) s.heap := by obtain ⟨b9, e9, i9, -⟩ := hIT0.2 _ (ky_i6 (lr_startB (hj_1.symm.trans c_2)).1); have z9 : b9 = b_4 := Option.some.inj (e9.symm.trans hb_4); exact z9 ▸ i9
    refine ky_cV1 (As := []) F (hE.at hfr hS) (mt_X8_exponent l G (b_4) (((w.2.2.2.2) (a1).toNatClampNeg)) ) kv_X9_137 ⟨⟨rfl, rfl⟩, by decide, by decide⟩ rfl hl.1 rfl (Nat.le_of_ble_eq_true rfl) ⟨Nat.le_of_ble_eq_true rfl, Nat.le_of_ble_eq_true rfl⟩ (va_recv hE.1 hI_4 (ci := 4) (q0 := 0) rfl rfl) hI_4 dc_X9_unit_31 ?_
    refine lv_ineg hx hb dc_X9_unit_34 ?_
    refine lv_i2l (v := (-(fn_X8_exponent ((w.2.2.2.2) (a1).toNatClampNeg))).toInt64) hx hb dc_X9_unit_35 rfl ?_
    have hm_5 := (hP 0 _ rfl).lt
    have hc_5 := (hP 1 _ rfl).lt
    have hN_5 := hIT.1
    obtain ⟨hq_5, hk⟩ := hk
    have hs_6 := hS.1
    refine ky_cVh (As := [.long ((-(fn_X8_exponent ((w.2.2.2.2) (a1).toNatClampNeg))).toInt64)]) (wr := [(mo, .inr (5, [.int (j_1), .ref cs, .int (w.2.1), .int (w.2.2.1), .int (w.2.2.2.1)])), (cs, .inl (G.2.1 3, 6, .inr (.inr (.inr (.inr (f))))))]) F (hE.at hfr hS) hfr (mt_X8_times l G (b_3) ((w.2.2.2.2) (a1).toNatClampNeg) ((-(fn_X8_exponent ((w.2.2.2.2) (a1).toNatClampNeg))).toInt64) H.size hq_5) kv_X9_140 ⟨⟨rfl, rfl⟩, by decide, by decide⟩ rfl hl.1 rfl (Nat.le_of_ble_eq_true rfl) ⟨Nat.le_of_ble_eq_true rfl, Nat.le_of_ble_eq_true rfl⟩ (va_recv hE.1 hI_3 (ci := 4) (q0 := 0) rfl rfl) hI_3 hP hD hS hA [] [0, 1] rfl rfl (by decide) (by decide) (by decide) dc_X9_unit_36 ?_
    rintro v9 q_6 H locs rfl hP hD hS ⟨hI_6, hd_6⟩ hz hk9
    have hP : va_P G.1 kcl [(mo, .inr (5, [.int (j_1), .ref cs, .int (w.2.1), .int (w.2.2.1), .int (w.2.2.2.1)])), (cs, .inl (G.2.1 3, 6, .inr (.inr (.inr (.inr (f))))))] H := hP
    have hD : va_D A [(mo, .inr (5, [.int (j_1), .ref cs, .int (w.2.1), .int (w.2.2.1), .int (w.2.2.2.1)])), (cs, .inl (G.2.1 3, 6, .inr (.inr (.inr (.inr (f))))))] := hD
    have hI_3 := hI_3.fr hk9
    have hI_4 := hI_4.fr hk9
    refine W.widen (k := 1) (n := 2) (Nat.le_refl _) (Nat.le_refl _) ?_
    have hIT := hIT.keep hz (fun q9 ho9 hl9 => hk9 q9 hl9 (ky_nemp hl9))
    have hk_6 := ho_3.or hm_5 hc_5 hN_5 hd_6
    refine ky_cVh (As := [.int (a2), .ref q_6]) (wr := []) F (hE.at hfr hS) hfr (mt_X9_give l G mo cs N (j_1, w.2.1, w.2.2.1, w.2.2.2.1, w.2.2.2.2) (f) (q_6) (fn_X8_times ((-(fn_X8_exponent ((w.2.2.2.2) (a1).toNatClampNeg))).toInt64) ((w.2.2.2.2) (a1).toNatClampNeg)) hk_6 (a2) H.size (lr_startB (hj_1.symm.trans c_2)).2) kv_X9_63 ⟨⟨rfl, rfl⟩, by decide, by decide⟩ rfl hl.1 rfl (Nat.le_of_ble_eq_true rfl) ⟨Nat.le_of_ble_eq_true rfl, Nat.le_of_ble_eq_true rfl⟩ (va_recv hE.1 hP (ci := 5) (q0 := 0) rfl rfl) ⟨hIT, hI_6⟩ hP hD hS hA [0, 1] [] rfl rfl (by decide) (by decide) (by decide) dc_X9_unit_39 ?_
    rintro v9 ⟨w_7, f_7⟩ H locs ⟨rfl, hw_7⟩ hP hD hS hIT9 hz hk9
    have hw_7 : w_7 = (fn_X9_give (a2) (fn_X8_times ((-(fn_X8_exponent ((w.2.2.2.2) (a1).toNatClampNeg))).toInt64) ((w.2.2.2.2) (a1).toNatClampNeg)) (j_1, w.2.1, w.2.2.1, w.2.2.2.1, w.2.2.2.2)).2 := hw_7
    try rw [← hw_7] at hw
    try rw [← hw_7] at hk
    have hP : va_P G.1 kcl [(mo, .inr (5, [.int ((w_7).1), .ref cs, .int ((w_7).2.1), .int ((w_7).2.2.1), .int ((w_7).2.2.2.1)])), (cs, .inl (G.2.1 3, 6, .inr (.inr (.inr (.inr (f_7))))))] H := hP
    have hD : va_D A [(mo, .inr (5, [.int ((w_7).1), .ref cs, .int ((w_7).2.1), .int ((w_7).2.2.1), .int ((w_7).2.2.2.1)])), (cs, .inl (G.2.1 3, 6, .inr (.inr (.inr (.inr (f_7))))))] := hD
    have hI_3 := hI_3.keep (hk9 _ hI_3.low (ky_nwc ho_3 hI_3.low))
    have hI_4 := hI_4.keep (hk9 _ hI_4.low (ky_nwc ho_4 hI_4.low))
    have hI_6 := hI_6.keep (hk9 _ hI_6.low (ky_nwc hk_6 hI_6.low))
    have hIT : ky_IT G mo cs N f_7 ((w_7).2.2.2.2) H := hIT9
    refine W.widen (k := 1) (n := 2) (Nat.le_refl _) (Nat.le_refl _) ?_
    have hP9 : va_P G.1 kcl (ky_WM G mo cs ((w_7)) (f_7)) H := hP.sub [0, 1] rfl
    have hD9 : va_D A (ky_WM G mo cs ((w_7)) (f_7)) := hD.sub [0, 1] (by decide) rfl
    refine W.widen (k := 1) (n := 2) (Nat.le_of_ble_eq_true rfl) (Nat.le_of_ble_eq_true rfl) ?_
    exact W.iret (v := (fn_X9_give (a2) (fn_X8_times ((-(fn_X8_exponent ((w.2.2.2.2) (a1).toNatClampNeg))).toInt64) ((w.2.2.2.2) (a1).toNatClampNeg)) (j_1, w.2.1, w.2.2.1, w.2.2.2.1, w.2.2.2.2)).1) hx hb hr (fun t ht hW => ⟨by rw [ht]; exact ky_endM (fun z => some (.int z)) ((fn_X9_give (a2) (fn_X8_times ((-(fn_X8_exponent ((w.2.2.2.2) (a1).toNatClampNeg))).toInt64) ((w.2.2.2.2) (a1).toNatClampNeg)) (j_1, w.2.1, w.2.2.1, w.2.2.2.1, w.2.2.2.2)).1) hw hP9 hD9 (hIT), hS.F ht⟩) hS.2.2 dc_X9_unit_42
  · have hw := hw.trans (if_neg c_2)
    have hk := hk.2 c_2
    refine lv_iconst (v := 0) hx hb dc_X9_unit_13 (by decide) ?_
    refine lv_goto (tgt := 42) hx hb dc_X9_unit_14 (by decide) ?_
    have hP9 : va_P G.1 kcl (ky_WM G mo cs ((j_1, w.2.1, w.2.2.1, w.2.2.2.1, w.2.2.2.2)) (f)) H := hP.sub [0, 1] rfl
    have hD9 : va_D A (ky_WM G mo cs ((j_1, w.2.1, w.2.2.1, w.2.2.2.1, w.2.2.2.2)) (f)) := hD.sub [0, 1] (by decide) rfl
    refine W.widen (k := 1) (n := 2) (Nat.le_of_ble_eq_true rfl) (Nat.le_of_ble_eq_true rfl) ?_
    exact W.iret (v := (0 : Int32)) hx hb hr (fun t ht hW => ⟨by rw [ht]; exact ky_endM (fun z => some (.int z)) ((0 : Int32)) hw hP9 hD9 (hIT), hS.F ht⟩) hS.2.2 dc_X9_unit_42
end
section
def fn_X9_times (a1 : Int32) (a2 : Int32) (a3 : Int32)  (w : ky_MV) : Int32 × ky_MV :=
  if (jst (fn_X9_areNo (a1) (a3))) = (0 : Int32) then (((fn_X9_give (a3) (fn_X8_times ((a2).toInt64) ((w.2.2.2.2) (a1).toNatClampNeg)) (jst (fn_X9_areNo (a1) (a3)), w.2.1, w.2.2.1, w.2.2.2.1, w.2.2.2.2)).1, ((fn_X9_give (a3) (fn_X8_times ((a2).toInt64) ((w.2.2.2.2) (a1).toNatClampNeg)) (jst (fn_X9_areNo (a1) (a3)), w.2.1, w.2.2.1, w.2.2.2.1, w.2.2.2.2)).2))) else (((0 : Int32), (jst (fn_X9_areNo (a1) (a3)), w.2.1, w.2.2.1, w.2.2.2.1, w.2.2.2.2)))
def fk_X9_times (a1 : Int32) (a2 : Int32) (a3 : Int32)  (w : ky_MV) : Prop :=
  ((((jst (fn_X9_areNo (a1) (a3))) = (0 : Int32)) → ((fk_X8_times ((a2).toInt64) ((w.2.2.2.2) (a1).toNatClampNeg)) ∧ (True))) ∧ (¬ ((jst (fn_X9_areNo (a1) (a3))) = (0 : Int32)) → (True))) ∧ True
set_option linter.constructorNameAsVariable false in
set_option maxHeartbeats 4000000 in
set_option maxRecDepth 100000 in
theorem mt_X9_times (l : Launch) (G : ky_G) (mo cs : Nat) (N : Nat → Prop) (w : ky_MV) (f : Nat → Option Nat)    (a1 : Int32) (a2 : Int32) (a3 : Int32) (sz : Nat) (hk : fk_X9_times a1 a2 a3 w) : Met l my_X9_times (.code my_X9_times prog_10_method_33_code 4 (some .int) :: ky_B) { frames := 6, cells := 1, slots := 2, locals := 127 } (ky_P G [.ref mo, .int (a1), .int (a2), .int (a3)] (ky_WM G mo cs w f) sz (fun H => ky_IT G mo cs N f w.2.2.2.2 H)) (ky_Q (S := ky_MV × (Nat → Option Nat)) G (va_A (ky_WM G mo cs w f) sz) (fun v u => v = some (.int (fn_X9_times a1 a2 a3 w).1) ∧ u.1 = (fn_X9_times a1 a2 a3 w).2) (fun u => ky_WM G mo cs u.1 u.2) (fun u H => ky_IT G mo cs N u.2 u.1.2.2.2.2 H)) 1 2 (va_A (ky_WM G mo cs w f) sz) := by
  refine ky_start (by decide) (Nat.le_of_ble_eq_true rfl) (fun p e s m below meth c F hE A hAe hsz hA hfr hP hD hS hX ls hl => ?_)
  obtain ⟨hx, hb, hml, hown, hr, hlocks, hts⟩ := id F
  have hIT0 := hX
  have hIT := hIT0
  have hl : lv_has ls 4 [(0, .ref mo), (1, .int (a1)), (2, .int (a2)), (3, .int (a3))] := hl
  have hP : va_P G.1 kcl [(mo, .inr (5, [.int (w.1), .ref cs, .int (w.2.1), .int (w.2.2.1), .int (w.2.2.2.1)])), (cs, .inl (G.2.1 3, 6, .inr (.inr (.inr (.inr (f))))))] s.heap := hP
  have hD : va_D A [(mo, .inr (5, [.int (w.1), .ref cs, .int (w.2.1), .int (w.2.2.1), .int (w.2.2.2.1)])), (cs, .inl (G.2.1 3, 6, .inr (.inr (.inr (.inr (f))))))] := hD
  have hw : fn_X9_times a1 a2 a3 w = _ := fn_X9_times.eq_1 a1 a2 a3 w
  have hk : (((jst (fn_X9_areNo (a1) (a3))) = (0 : Int32)) → ((fk_X8_times ((a2).toInt64) ((w.2.2.2.2) (a1).toNatClampNeg)) ∧ (True))) ∧ (¬ ((jst (fn_X9_areNo (a1) (a3))) = (0 : Int32)) → (True)) := hk.1
  refine lv_aload_n hx hb dc_X9_times_0 rfl (lv_at hl 0 rfl) ?_
  refine lv_aload_n hx hb dc_X9_times_1 rfl (lv_at hl 0 rfl) ?_
  refine lv_iload_n hx hb dc_X9_times_2 rfl (lv_at hl 1 rfl) ?_
  refine lv_iload_n hx hb dc_X9_times_3 rfl (lv_at hl 3 rfl) ?_
  refine ky_cV1 (As := [.int (a1), .int (a3)]) F (hE.at hfr hS) (mt_X9_areNo l G (mo) (a1) (a3)) kv_X9_104 ⟨⟨rfl, rfl⟩, by decide, by decide⟩ rfl hl.1 rfl (Nat.le_of_ble_eq_true rfl) ⟨Nat.le_of_ble_eq_true rfl, Nat.le_of_ble_eq_true rfl⟩ (va_recv hE.1 hP (ci := 5) (q0 := 0) rfl rfl) trivial dc_X9_times_4 ?_
  refine ky_cVh (As := [.int (fn_X9_areNo (a1) (a3))]) (wr := []) F (hE.at hfr hS) hfr (mt_X9_startJ l G (mo) (cs) ((w.1, w.2.1, w.2.2.1, w.2.2.2.1)) (f) (fn_X9_areNo (a1) (a3)) s.heap.size ) kv_X9_55 ⟨⟨rfl, rfl⟩, by decide, by decide⟩ rfl hl.1 rfl (Nat.le_of_ble_eq_true rfl) ⟨Nat.le_of_ble_eq_true rfl, Nat.le_of_ble_eq_true rfl⟩ (va_recv hE.1 hP (ci := 5) (q0 := 0) rfl rfl) trivial hP hD hS hA [0, 1] [] rfl rfl (by decide) (by decide) (by decide) dc_X9_times_7 ?_
  rintro v9 u9 H locs ⟨rfl, rfl⟩ hP hD hS - hz hk9
  obtain ⟨j_1, hj_1⟩ : ∃ j9, j9 = jst (fn_X9_areNo (a1) (a3)) := ⟨_, rfl⟩
  rw [← hj_1] at hP hD ⊢
  try rw [← hj_1] at hw
  try rw [← hj_1] at hk
  have hP : va_P G.1 kcl [(mo, .inr (5, [.int (j_1), .ref cs, .int (w.2.1), .int (w.2.2.1), .int (w.2.2.2.1)])), (cs, .inl (G.2.1 3, 6, .inr (.inr (.inr (.inr (f))))))] H := hP
  have hD : va_D A [(mo, .inr (5, [.int (j_1), .ref cs, .int (w.2.1), .int (w.2.2.1), .int (w.2.2.2.1)])), (cs, .inl (G.2.1 3, 6, .inr (.inr (.inr (.inr (f))))))] := hD
  have hIT := hIT0.ro hAe hS
  refine W.widen (k := 0) (n := 0) (Nat.le_refl _) (Nat.le_refl _) ?_
  refine lv_if_eq (tgt := 17) hx hb dc_X9_times_10 (by decide) (fun c_2 => ?_) (fun c_2 => ?_)
  · have hw := hw.trans (if_pos c_2)
    have hk := hk.1 c_2
    refine lv_aload_n hx hb dc_X9_times_17 rfl (lv_at hl 0 rfl) ?_
    refine lv_iload_n hx hb dc_X9_times_18 rfl (lv_at hl 3 rfl) ?_
    refine lv_aload_n hx hb dc_X9_times_19 rfl (lv_at hl 0 rfl) ?_
    refine va_get (D := G.1) (ci := 5) (v := .ref cs) (C := RX9) (T := TX9) (N := 5) hx hb hts ki_X9 hown hE.1 hP 0 rfl rfl 1 (by decide) (hts _ kw_6_20) (fun _ h9 => h9) rfl dc_X9_times_20 ?_
    refine lv_iload_n hx hb dc_X9_times_23 rfl (lv_at hl 1 rfl) ?_
    refine va_aldq hx hb hE.1 hP 1 3 rfl rfl (lr_startB (hj_1.symm.trans c_2)).1 dc_X9_times_24 ?_
    obtain ⟨b_3, hb_3, hI_3, ho_3⟩ := hIT.2 _ (ky_i6 (lr_startB (hj_1.symm.trans c_2)).1)
    rw [ky_rf hb_3]
    have hX_3 : ky_It G b_3 ((w.2.2.2.2) (a1).toNatClampNeg) s.heap := by obtain ⟨b9, e9, i9, -⟩ := hIT0.2 _ (ky_i6 (lr_startB (hj_1.symm.trans c_2)).1); have z9 : b9 = b_3 := Option.some.inj (e9.symm.trans hb_3); exact z9 ▸ i9
    refine lv_iload_n hx hb dc_X9_times_25 rfl (lv_at hl 2 rfl) ?_
    refine lv_i2l (v := (a2).toInt64) hx hb dc_X9_times_26 rfl ?_
    have hm_4 := (hP 0 _ rfl).lt
    have hc_4 := (hP 1 _ rfl).lt
    have hN_4 := hIT.1
    obtain ⟨hq_4, hk⟩ := hk
    have hs_5 := hS.1
    refine ky_cVh (As := [.long ((a2).toInt64)]) (wr := [(mo, .inr (5, [.int (j_1), .ref cs, .int (w.2.1), .int (w.2.2.1), .int (w.2.2.2.1)])), (cs, .inl (G.2.1 3, 6, .inr (.inr (.inr (.inr (f))))))]) F (hE.at hfr hS) hfr (mt_X8_times l G (b_3) ((w.2.2.2.2) (a1).toNatClampNeg) ((a2).toInt64) H.size hq_4) kv_X9_140 ⟨⟨rfl, rfl⟩, by decide, by decide⟩ rfl hl.1 rfl (Nat.le_of_ble_eq_true rfl) ⟨Nat.le_of_ble_eq_true rfl, Nat.le_of_ble_eq_true rfl⟩ (va_recv hE.1 hI_3 (ci := 4) (q0 := 0) rfl rfl) hI_3 hP hD hS hA [] [0, 1] rfl rfl (by decide) (by decide) (by decide) dc_X9_times_27 ?_
    rintro v9 q_5 H locs rfl hP hD hS ⟨hI_5, hd_5⟩ hz hk9
    have hP : va_P G.1 kcl [(mo, .inr (5, [.int (j_1), .ref cs, .int (w.2.1), .int (w.2.2.1), .int (w.2.2.2.1)])), (cs, .inl (G.2.1 3, 6, .inr (.inr (.inr (.inr (f))))))] H := hP
    have hD : va_D A [(mo, .inr (5, [.int (j_1), .ref cs, .int (w.2.1), .int (w.2.2.1), .int (w.2.2.2.1)])), (cs, .inl (G.2.1 3, 6, .inr (.inr (.inr (.inr (f))))))] := hD
    have hI_3 := hI_3.fr hk9
    refine W.widen (k := 1) (n := 2) (Nat.le_refl _) (Nat.le_refl _) ?_
    have hIT := hIT.keep hz (fun q9 ho9 hl9 => hk9 q9 hl9 (ky_nemp hl9))
    have hk_5 := ho_3.or hm_4 hc_4 hN_4 hd_5
    refine ky_cVh (As := [.int (a3), .ref q_5]) (wr := []) F (hE.at hfr hS) hfr (mt_X9_give l G mo cs N (j_1, w.2.1, w.2.2.1, w.2.2.2.1, w.2.2.2.2) (f) (q_5) (fn_X8_times ((a2).toInt64) ((w.2.2.2.2) (a1).toNatClampNeg)) hk_5 (a3) H.size (lr_startB (hj_1.symm.trans c_2)).2) kv_X9_63 ⟨⟨rfl, rfl⟩, by decide, by decide⟩ rfl hl.1 rfl (Nat.le_of_ble_eq_true rfl) ⟨Nat.le_of_ble_eq_true rfl, Nat.le_of_ble_eq_true rfl⟩ (va_recv hE.1 hP (ci := 5) (q0 := 0) rfl rfl) ⟨hIT, hI_5⟩ hP hD hS hA [0, 1] [] rfl rfl (by decide) (by decide) (by decide) dc_X9_times_30 ?_
    rintro v9 ⟨w_6, f_6⟩ H locs ⟨rfl, hw_6⟩ hP hD hS hIT9 hz hk9
    have hw_6 : w_6 = (fn_X9_give (a3) (fn_X8_times ((a2).toInt64) ((w.2.2.2.2) (a1).toNatClampNeg)) (j_1, w.2.1, w.2.2.1, w.2.2.2.1, w.2.2.2.2)).2 := hw_6
    try rw [← hw_6] at hw
    try rw [← hw_6] at hk
    have hP : va_P G.1 kcl [(mo, .inr (5, [.int ((w_6).1), .ref cs, .int ((w_6).2.1), .int ((w_6).2.2.1), .int ((w_6).2.2.2.1)])), (cs, .inl (G.2.1 3, 6, .inr (.inr (.inr (.inr (f_6))))))] H := hP
    have hD : va_D A [(mo, .inr (5, [.int ((w_6).1), .ref cs, .int ((w_6).2.1), .int ((w_6).2.2.1), .int ((w_6).2.2.2.1)])), (cs, .inl (G.2.1 3, 6, .inr (.inr (.inr (.inr (f_6))))))] := hD
    have hI_3 := hI_3.keep (hk9 _ hI_3.low (ky_nwc ho_3 hI_3.low))
    have hI_5 := hI_5.keep (hk9 _ hI_5.low (ky_nwc hk_5 hI_5.low))
    have hIT : ky_IT G mo cs N f_6 ((w_6).2.2.2.2) H := hIT9
    refine W.widen (k := 1) (n := 2) (Nat.le_refl _) (Nat.le_refl _) ?_
    have hP9 : va_P G.1 kcl (ky_WM G mo cs ((w_6)) (f_6)) H := hP.sub [0, 1] rfl
    have hD9 : va_D A (ky_WM G mo cs ((w_6)) (f_6)) := hD.sub [0, 1] (by decide) rfl
    refine W.widen (k := 1) (n := 2) (Nat.le_of_ble_eq_true rfl) (Nat.le_of_ble_eq_true rfl) ?_
    exact W.iret (v := (fn_X9_give (a3) (fn_X8_times ((a2).toInt64) ((w.2.2.2.2) (a1).toNatClampNeg)) (j_1, w.2.1, w.2.2.1, w.2.2.2.1, w.2.2.2.2)).1) hx hb hr (fun t ht hW => ⟨by rw [ht]; exact ky_endM (fun z => some (.int z)) ((fn_X9_give (a3) (fn_X8_times ((a2).toInt64) ((w.2.2.2.2) (a1).toNatClampNeg)) (j_1, w.2.1, w.2.2.1, w.2.2.2.1, w.2.2.2.2)).1) hw hP9 hD9 (hIT), hS.F ht⟩) hS.2.2 dc_X9_times_33
  · have hw := hw.trans (if_neg c_2)
    have hk := hk.2 c_2
    refine lv_iconst (v := 0) hx hb dc_X9_times_13 (by decide) ?_
    refine lv_goto (tgt := 33) hx hb dc_X9_times_14 (by decide) ?_
    have hP9 : va_P G.1 kcl (ky_WM G mo cs ((j_1, w.2.1, w.2.2.1, w.2.2.2.1, w.2.2.2.2)) (f)) H := hP.sub [0, 1] rfl
    have hD9 : va_D A (ky_WM G mo cs ((j_1, w.2.1, w.2.2.1, w.2.2.2.1, w.2.2.2.2)) (f)) := hD.sub [0, 1] (by decide) rfl
    refine W.widen (k := 1) (n := 2) (Nat.le_of_ble_eq_true rfl) (Nat.le_of_ble_eq_true rfl) ?_
    exact W.iret (v := (0 : Int32)) hx hb hr (fun t ht hW => ⟨by rw [ht]; exact ky_endM (fun z => some (.int z)) ((0 : Int32)) hw hP9 hD9 (hIT), hS.F ht⟩) hS.2.2 dc_X9_times_33
end
section
def fn_X9_max (a1 : Int32) (a2 : Int32) (a3 : Int32)  (w : ky_MV) : Int32 × ky_MV :=
  if (fn_X9_areNo (a1) (a2)) = (0 : Int32) then (if (fn_X9_isNo (a3)) = (0 : Int32) then (((fn_X9_give (a3) (fn_X9_last (a1) (a2) ((1 : Int32)) (jst ((0 : Int32)), w.2.1, w.2.2.1, w.2.2.2.1, w.2.2.2.2)) (jst ((0 : Int32)), w.2.1, w.2.2.1, w.2.2.2.1, w.2.2.2.2)).1, ((fn_X9_give (a3) (fn_X9_last (a1) (a2) ((1 : Int32)) (jst ((0 : Int32)), w.2.1, w.2.2.1, w.2.2.2.1, w.2.2.2.2)) (jst ((0 : Int32)), w.2.1, w.2.2.1, w.2.2.2.1, w.2.2.2.2)).2))) else (((0 : Int32), (jst ((1 : Int32)), w.2.1, w.2.2.1, w.2.2.2.1, w.2.2.2.2)))) else (((0 : Int32), (jst ((1 : Int32)), w.2.1, w.2.2.1, w.2.2.2.1, w.2.2.2.2)))
set_option linter.constructorNameAsVariable false in
set_option maxHeartbeats 4000000 in
set_option maxRecDepth 100000 in
theorem mt_X9_max (l : Launch) (G : ky_G) (mo cs : Nat) (N : Nat → Prop) (w : ky_MV) (f : Nat → Option Nat)    (a1 : Int32) (a2 : Int32) (a3 : Int32) (sz : Nat) : Met l my_X9_max (.code my_X9_max prog_10_method_36_code 4 (some .int) :: ky_B) { frames := 6, cells := 0, slots := 0, locals := 127 } (ky_P G [.ref mo, .int (a1), .int (a2), .int (a3)] (ky_WM G mo cs w f) sz (fun H => ky_IT G mo cs N f w.2.2.2.2 H)) (ky_Q (S := ky_MV × (Nat → Option Nat)) G (va_A (ky_WM G mo cs w f) sz) (fun v u => v = some (.int (fn_X9_max a1 a2 a3 w).1) ∧ u.1 = (fn_X9_max a1 a2 a3 w).2) (fun u => ky_WM G mo cs u.1 u.2) (fun u H => ky_IT G mo cs N u.2 u.1.2.2.2.2 H)) 0 0 (va_A (ky_WM G mo cs w f) sz) := by
  refine ky_start (by decide) (Nat.le_of_ble_eq_true rfl) (fun p e s m below meth c F hE A hAe hsz hA hfr hP hD hS hX ls hl => ?_)
  obtain ⟨hx, hb, hml, hown, hr, hlocks, hts⟩ := id F
  have hIT0 := hX
  have hIT := hIT0
  have hl : lv_has ls 4 [(0, .ref mo), (1, .int (a1)), (2, .int (a2)), (3, .int (a3))] := hl
  have hP : va_P G.1 kcl [(mo, .inr (5, [.int (w.1), .ref cs, .int (w.2.1), .int (w.2.2.1), .int (w.2.2.2.1)])), (cs, .inl (G.2.1 3, 6, .inr (.inr (.inr (.inr (f))))))] s.heap := hP
  have hD : va_D A [(mo, .inr (5, [.int (w.1), .ref cs, .int (w.2.1), .int (w.2.2.1), .int (w.2.2.2.1)])), (cs, .inl (G.2.1 3, 6, .inr (.inr (.inr (.inr (f))))))] := hD
  have hw : fn_X9_max a1 a2 a3 w = _ := fn_X9_max.eq_1 a1 a2 a3 w
  refine lv_aload_n hx hb dc_X9_max_0 rfl (lv_at hl 0 rfl) ?_
  refine lv_aload_n hx hb dc_X9_max_1 rfl (lv_at hl 0 rfl) ?_
  refine lv_iload_n hx hb dc_X9_max_2 rfl (lv_at hl 1 rfl) ?_
  refine lv_iload_n hx hb dc_X9_max_3 rfl (lv_at hl 2 rfl) ?_
  refine ky_cV1 (As := [.int (a1), .int (a2)]) F (hE.at hfr hS) (mt_X9_areNo l G (mo) (a1) (a2)) kv_X9_104 ⟨⟨rfl, rfl⟩, by decide, by decide⟩ rfl hl.1 rfl (Nat.le_of_ble_eq_true rfl) ⟨Nat.le_of_ble_eq_true rfl, Nat.le_of_ble_eq_true rfl⟩ (va_recv hE.1 hP (ci := 5) (q0 := 0) rfl rfl) trivial dc_X9_max_4 ?_
  refine lv_if_ne (tgt := 17) hx hb dc_X9_max_7 (by decide) (fun c_0 => ?_) (fun c_0 => ?_)
  · have hw := hw.trans (if_neg c_0)
    refine lv_iconst (v := 1) hx hb dc_X9_max_17 (by decide) ?_
    refine lv_goto (tgt := 22) hx hb dc_X9_max_18 (by decide) ?_
    refine ky_cVh (As := [.int ((1 : Int32))]) (wr := []) F (hE.at hfr hS) hfr (mt_X9_startJ l G (mo) (cs) ((w.1, w.2.1, w.2.2.1, w.2.2.2.1)) (f) ((1 : Int32)) s.heap.size ) kv_X9_55 ⟨⟨rfl, rfl⟩, by decide, by decide⟩ rfl hl.1 rfl (Nat.le_of_ble_eq_true rfl) ⟨Nat.le_of_ble_eq_true rfl, Nat.le_of_ble_eq_true rfl⟩ (va_recv hE.1 hP (ci := 5) (q0 := 0) rfl rfl) trivial hP hD hS hA [0, 1] [] rfl rfl (by decide) (by decide) (by decide) dc_X9_max_22 ?_
    rintro v9 u9 H locs ⟨rfl, rfl⟩ hP hD hS - hz hk9
    have hP : va_P G.1 kcl [(mo, .inr (5, [.int (jst ((1 : Int32))), .ref cs, .int (w.2.1), .int (w.2.2.1), .int (w.2.2.2.1)])), (cs, .inl (G.2.1 3, 6, .inr (.inr (.inr (.inr (f))))))] H := hP
    have hD : va_D A [(mo, .inr (5, [.int (jst ((1 : Int32))), .ref cs, .int (w.2.1), .int (w.2.2.1), .int (w.2.2.2.1)])), (cs, .inl (G.2.1 3, 6, .inr (.inr (.inr (.inr (f))))))] := hD
    have hIT := hIT0.ro hAe hS
    refine W.widen (k := 0) (n := 0) (Nat.le_refl _) (Nat.le_refl _) ?_
    refine lv_if_eq (tgt := 32) hx hb dc_X9_max_25 (by decide) (fun c_2 => absurd c_2 (by decide)) (fun _ => ?_)
    refine lv_iconst (v := 0) hx hb dc_X9_max_28 (by decide) ?_
    refine lv_goto (tgt := 44) hx hb dc_X9_max_29 (by decide) ?_
    have hP9 : va_P G.1 kcl (ky_WM G mo cs ((jst ((1 : Int32)), w.2.1, w.2.2.1, w.2.2.2.1, w.2.2.2.2)) (f)) H := hP.sub [0, 1] rfl
    have hD9 : va_D A (ky_WM G mo cs ((jst ((1 : Int32)), w.2.1, w.2.2.1, w.2.2.2.1, w.2.2.2.2)) (f)) := hD.sub [0, 1] (by decide) rfl
    refine W.widen (k := 0) (n := 0) (Nat.le_of_ble_eq_true rfl) (Nat.le_of_ble_eq_true rfl) ?_
    exact W.iret (v := (0 : Int32)) hx hb hr (fun t ht hW => ⟨by rw [ht]; exact ky_endM (fun z => some (.int z)) ((0 : Int32)) hw hP9 hD9 (hIT), hS.F ht⟩) hS.2.2 dc_X9_max_44
  · have hw := hw.trans (if_pos c_0)
    refine lv_iload_n hx hb dc_X9_max_10 rfl (lv_at hl 3 rfl) ?_
    refine ky_cS0 (As := [.int (a3)]) F (mt_X9_isNo l (a3)) ks_X9_51 ⟨⟨rfl, rfl⟩, by decide, by decide⟩ rfl hl.1 rfl (Nat.le_of_ble_eq_true rfl) ⟨Nat.le_of_ble_eq_true rfl, Nat.le_of_ble_eq_true rfl⟩ dc_X9_max_11 ?_
    refine lv_if_eq (tgt := 21) hx hb dc_X9_max_14 (by decide) (fun c_1 => ?_) (fun c_1 => ?_)
    · have hw := hw.trans (if_pos c_1)
      refine lv_iconst (v := 0) hx hb dc_X9_max_21 (by decide) ?_
      refine ky_cVh (As := [.int ((0 : Int32))]) (wr := []) F (hE.at hfr hS) hfr (mt_X9_startJ l G (mo) (cs) ((w.1, w.2.1, w.2.2.1, w.2.2.2.1)) (f) ((0 : Int32)) s.heap.size ) kv_X9_55 ⟨⟨rfl, rfl⟩, by decide, by decide⟩ rfl hl.1 rfl (Nat.le_of_ble_eq_true rfl) ⟨Nat.le_of_ble_eq_true rfl, Nat.le_of_ble_eq_true rfl⟩ (va_recv hE.1 hP (ci := 5) (q0 := 0) rfl rfl) trivial hP hD hS hA [0, 1] [] rfl rfl (by decide) (by decide) (by decide) dc_X9_max_22 ?_
      rintro v9 u9 H locs ⟨rfl, rfl⟩ hP hD hS - hz hk9
      have hP : va_P G.1 kcl [(mo, .inr (5, [.int (jst ((0 : Int32))), .ref cs, .int (w.2.1), .int (w.2.2.1), .int (w.2.2.2.1)])), (cs, .inl (G.2.1 3, 6, .inr (.inr (.inr (.inr (f))))))] H := hP
      have hD : va_D A [(mo, .inr (5, [.int (jst ((0 : Int32))), .ref cs, .int (w.2.1), .int (w.2.2.1), .int (w.2.2.2.1)])), (cs, .inl (G.2.1 3, 6, .inr (.inr (.inr (.inr (f))))))] := hD
      have hIT := hIT0.ro hAe hS
      refine W.widen (k := 0) (n := 0) (Nat.le_refl _) (Nat.le_refl _) ?_
      refine lv_if_eq (tgt := 32) hx hb dc_X9_max_25 (by decide) (fun _ => ?_) (fun c_3 => absurd c_3 (by decide))
      refine lv_aload_n hx hb dc_X9_max_32 rfl (lv_at hl 0 rfl) ?_
      refine lv_iload_n hx hb dc_X9_max_33 rfl (lv_at hl 3 rfl) ?_
      refine lv_aload_n hx hb dc_X9_max_34 rfl (lv_at hl 0 rfl) ?_
      refine lv_iload_n hx hb dc_X9_max_35 rfl (lv_at hl 1 rfl) ?_
      refine lv_iload_n hx hb dc_X9_max_36 rfl (lv_at hl 2 rfl) ?_
      refine lv_iconst (v := 1) hx hb dc_X9_max_37 (by decide) ?_
      refine ky_cVh (As := [.int (a1), .int (a2), .int ((1 : Int32))]) (wr := []) F (hE.at hfr hS) hfr (mt_X9_last l G mo cs N (jst ((0 : Int32)), w.2.1, w.2.2.1, w.2.2.2.1, w.2.2.2.2) (f)    (a1) (a2) ((1 : Int32)) H.size (lr_areNo c_0).1 (lr_areNo c_0).2) kv_X9_151 ⟨⟨rfl, rfl⟩, by decide, by decide⟩ rfl hl.1 rfl (Nat.le_of_ble_eq_true rfl) ⟨Nat.le_of_ble_eq_true rfl, Nat.le_of_ble_eq_true rfl⟩ (va_recv hE.1 hP (ci := 5) (q0 := 0) rfl rfl) hIT hP hD hS hA [0, 1] [] rfl rfl (by decide) (by decide) (by decide) dc_X9_max_38 ?_
      rintro v9 b_4 H locs rfl hP hD hS ⟨hI_4, ho_4⟩ hz hk9
      have hP : va_P G.1 kcl [(mo, .inr (5, [.int (jst ((0 : Int32))), .ref cs, .int (w.2.1), .int (w.2.2.1), .int (w.2.2.2.1)])), (cs, .inl (G.2.1 3, 6, .inr (.inr (.inr (.inr (f))))))] H := hP
      have hD : va_D A [(mo, .inr (5, [.int (jst ((0 : Int32))), .ref cs, .int (w.2.1), .int (w.2.2.1), .int (w.2.2.2.1)])), (cs, .inl (G.2.1 3, 6, .inr (.inr (.inr (.inr (f))))))] := hD
      have hIT := hIT.keep hz (fun q9 ho9 hl9 => hk9 q9 hl9 (ky_nwc ho9 hl9))
      refine W.widen (k := 0) (n := 0) (Nat.le_refl _) (Nat.le_refl _) ?_
      refine ky_cVh (As := [.int (a3), .ref b_4]) (wr := []) F (hE.at hfr hS) hfr (mt_X9_give l G mo cs N (jst ((0 : Int32)), w.2.1, w.2.2.1, w.2.2.2.1, w.2.2.2.2) (f) (b_4) (fn_X9_last (a1) (a2) ((1 : Int32)) (jst ((0 : Int32)), w.2.1, w.2.2.1, w.2.2.2.1, w.2.2.2.2)) ho_4 (a3) H.size (lr_isNo c_1)) kv_X9_63 ⟨⟨rfl, rfl⟩, by decide, by decide⟩ rfl hl.1 rfl (Nat.le_of_ble_eq_true rfl) ⟨Nat.le_of_ble_eq_true rfl, Nat.le_of_ble_eq_true rfl⟩ (va_recv hE.1 hP (ci := 5) (q0 := 0) rfl rfl) ⟨hIT, hI_4⟩ hP hD hS hA [0, 1] [] rfl rfl (by decide) (by decide) (by decide) dc_X9_max_41 ?_
      rintro v9 ⟨w_5, f_5⟩ H locs ⟨rfl, hw_5⟩ hP hD hS hIT9 hz hk9
      have hw_5 : w_5 = (fn_X9_give (a3) (fn_X9_last (a1) (a2) ((1 : Int32)) (jst ((0 : Int32)), w.2.1, w.2.2.1, w.2.2.2.1, w.2.2.2.2)) (jst ((0 : Int32)), w.2.1, w.2.2.1, w.2.2.2.1, w.2.2.2.2)).2 := hw_5
      try rw [← hw_5] at hw
      have hP : va_P G.1 kcl [(mo, .inr (5, [.int ((w_5).1), .ref cs, .int ((w_5).2.1), .int ((w_5).2.2.1), .int ((w_5).2.2.2.1)])), (cs, .inl (G.2.1 3, 6, .inr (.inr (.inr (.inr (f_5))))))] H := hP
      have hD : va_D A [(mo, .inr (5, [.int ((w_5).1), .ref cs, .int ((w_5).2.1), .int ((w_5).2.2.1), .int ((w_5).2.2.2.1)])), (cs, .inl (G.2.1 3, 6, .inr (.inr (.inr (.inr (f_5))))))] := hD
      have hI_4 := hI_4.keep (hk9 _ hI_4.low (ky_nwc ho_4 hI_4.low))
      have hIT : ky_IT G mo cs N f_5 ((w_5).2.2.2.2) H := hIT9
      refine W.widen (k := 0) (n := 0) (Nat.le_refl _) (Nat.le_refl _) ?_
      have hP9 : va_P G.1 kcl (ky_WM G mo cs ((w_5)) (f_5)) H := hP.sub [0, 1] rfl
      have hD9 : va_D A (ky_WM G mo cs ((w_5)) (f_5)) := hD.sub [0, 1] (by decide) rfl
      refine W.widen (k := 0) (n := 0) (Nat.le_of_ble_eq_true rfl) (Nat.le_of_ble_eq_true rfl) ?_
      exact W.iret (v := (fn_X9_give (a3) (fn_X9_last (a1) (a2) ((1 : Int32)) (jst ((0 : Int32)), w.2.1, w.2.2.1, w.2.2.2.1, w.2.2.2.2)) (jst ((0 : Int32)), w.2.1, w.2.2.1, w.2.2.2.1, w.2.2.2.2)).1) hx hb hr (fun t ht hW => ⟨by rw [ht]; exact ky_endM (fun z => some (.int z)) ((fn_X9_give (a3) (fn_X9_last (a1) (a2) ((1 : Int32)) (jst ((0 : Int32)), w.2.1, w.2.2.1, w.2.2.2.1, w.2.2.2.2)) (jst ((0 : Int32)), w.2.1, w.2.2.1, w.2.2.2.1, w.2.2.2.2)).1) hw hP9 hD9 (hIT), hS.F ht⟩) hS.2.2 dc_X9_max_44
    · have hw := hw.trans (if_neg c_1)
      refine lv_iconst (v := 1) hx hb dc_X9_max_17 (by decide) ?_
      refine lv_goto (tgt := 22) hx hb dc_X9_max_18 (by decide) ?_
      refine ky_cVh (As := [.int ((1 : Int32))]) (wr := []) F (hE.at hfr hS) hfr (mt_X9_startJ l G (mo) (cs) ((w.1, w.2.1, w.2.2.1, w.2.2.2.1)) (f) ((1 : Int32)) s.heap.size ) kv_X9_55 ⟨⟨rfl, rfl⟩, by decide, by decide⟩ rfl hl.1 rfl (Nat.le_of_ble_eq_true rfl) ⟨Nat.le_of_ble_eq_true rfl, Nat.le_of_ble_eq_true rfl⟩ (va_recv hE.1 hP (ci := 5) (q0 := 0) rfl rfl) trivial hP hD hS hA [0, 1] [] rfl rfl (by decide) (by decide) (by decide) dc_X9_max_22 ?_
      rintro v9 u9 H locs ⟨rfl, rfl⟩ hP hD hS - hz hk9
      have hP : va_P G.1 kcl [(mo, .inr (5, [.int (jst ((1 : Int32))), .ref cs, .int (w.2.1), .int (w.2.2.1), .int (w.2.2.2.1)])), (cs, .inl (G.2.1 3, 6, .inr (.inr (.inr (.inr (f))))))] H := hP
      have hD : va_D A [(mo, .inr (5, [.int (jst ((1 : Int32))), .ref cs, .int (w.2.1), .int (w.2.2.1), .int (w.2.2.2.1)])), (cs, .inl (G.2.1 3, 6, .inr (.inr (.inr (.inr (f))))))] := hD
      have hIT := hIT0.ro hAe hS
      refine W.widen (k := 0) (n := 0) (Nat.le_refl _) (Nat.le_refl _) ?_
      refine lv_if_eq (tgt := 32) hx hb dc_X9_max_25 (by decide) (fun c_3 => absurd c_3 (by decide)) (fun _ => ?_)
      refine lv_iconst (v := 0) hx hb dc_X9_max_28 (by decide) ?_
      refine lv_goto (tgt := 44) hx hb dc_X9_max_29 (by decide) ?_
      have hP9 : va_P G.1 kcl (ky_WM G mo cs ((jst ((1 : Int32)), w.2.1, w.2.2.1, w.2.2.2.1, w.2.2.2.2)) (f)) H := hP.sub [0, 1] rfl
      have hD9 : va_D A (ky_WM G mo cs ((jst ((1 : Int32)), w.2.1, w.2.2.1, w.2.2.2.1, w.2.2.2.2)) (f)) := hD.sub [0, 1] (by decide) rfl
      refine W.widen (k := 0) (n := 0) (Nat.le_of_ble_eq_true rfl) (Nat.le_of_ble_eq_true rfl) ?_
      exact W.iret (v := (0 : Int32)) hx hb hr (fun t ht hW => ⟨by rw [ht]; exact ky_endM (fun z => some (.int z)) ((0 : Int32)) hw hP9 hD9 (hIT), hS.F ht⟩) hS.2.2 dc_X9_max_44
end
section
def fn_X9_min (a1 : Int32) (a2 : Int32) (a3 : Int32)  (w : ky_MV) : Int32 × ky_MV :=
  if (fn_X9_areNo (a1) (a2)) = (0 : Int32) then (if (fn_X9_isNo (a3)) = (0 : Int32) then (((fn_X9_give (a3) (fn_X9_last (a1) (a2) ((0 : Int32)) (jst ((0 : Int32)), w.2.1, w.2.2.1, w.2.2.2.1, w.2.2.2.2)) (jst ((0 : Int32)), w.2.1, w.2.2.1, w.2.2.2.1, w.2.2.2.2)).1, ((fn_X9_give (a3) (fn_X9_last (a1) (a2) ((0 : Int32)) (jst ((0 : Int32)), w.2.1, w.2.2.1, w.2.2.2.1, w.2.2.2.2)) (jst ((0 : Int32)), w.2.1, w.2.2.1, w.2.2.2.1, w.2.2.2.2)).2))) else (((0 : Int32), (jst ((1 : Int32)), w.2.1, w.2.2.1, w.2.2.2.1, w.2.2.2.2)))) else (((0 : Int32), (jst ((1 : Int32)), w.2.1, w.2.2.1, w.2.2.2.1, w.2.2.2.2)))
set_option linter.constructorNameAsVariable false in
set_option maxHeartbeats 4000000 in
set_option maxRecDepth 100000 in
theorem mt_X9_min (l : Launch) (G : ky_G) (mo cs : Nat) (N : Nat → Prop) (w : ky_MV) (f : Nat → Option Nat)    (a1 : Int32) (a2 : Int32) (a3 : Int32) (sz : Nat) : Met l my_X9_min (.code my_X9_min prog_10_method_37_code 4 (some .int) :: ky_B) { frames := 6, cells := 0, slots := 0, locals := 127 } (ky_P G [.ref mo, .int (a1), .int (a2), .int (a3)] (ky_WM G mo cs w f) sz (fun H => ky_IT G mo cs N f w.2.2.2.2 H)) (ky_Q (S := ky_MV × (Nat → Option Nat)) G (va_A (ky_WM G mo cs w f) sz) (fun v u => v = some (.int (fn_X9_min a1 a2 a3 w).1) ∧ u.1 = (fn_X9_min a1 a2 a3 w).2) (fun u => ky_WM G mo cs u.1 u.2) (fun u H => ky_IT G mo cs N u.2 u.1.2.2.2.2 H)) 0 0 (va_A (ky_WM G mo cs w f) sz) := by
  refine ky_start (by decide) (Nat.le_of_ble_eq_true rfl) (fun p e s m below meth c F hE A hAe hsz hA hfr hP hD hS hX ls hl => ?_)
  obtain ⟨hx, hb, hml, hown, hr, hlocks, hts⟩ := id F
  have hIT0 := hX
  have hIT := hIT0
  have hl : lv_has ls 4 [(0, .ref mo), (1, .int (a1)), (2, .int (a2)), (3, .int (a3))] := hl
  have hP : va_P G.1 kcl [(mo, .inr (5, [.int (w.1), .ref cs, .int (w.2.1), .int (w.2.2.1), .int (w.2.2.2.1)])), (cs, .inl (G.2.1 3, 6, .inr (.inr (.inr (.inr (f))))))] s.heap := hP
  have hD : va_D A [(mo, .inr (5, [.int (w.1), .ref cs, .int (w.2.1), .int (w.2.2.1), .int (w.2.2.2.1)])), (cs, .inl (G.2.1 3, 6, .inr (.inr (.inr (.inr (f))))))] := hD
  have hw : fn_X9_min a1 a2 a3 w = _ := fn_X9_min.eq_1 a1 a2 a3 w
  refine lv_aload_n hx hb dc_X9_min_0 rfl (lv_at hl 0 rfl) ?_
  refine lv_aload_n hx hb dc_X9_min_1 rfl (lv_at hl 0 rfl) ?_
  refine lv_iload_n hx hb dc_X9_min_2 rfl (lv_at hl 1 rfl) ?_
  refine lv_iload_n hx hb dc_X9_min_3 rfl (lv_at hl 2 rfl) ?_
  refine ky_cV1 (As := [.int (a1), .int (a2)]) F (hE.at hfr hS) (mt_X9_areNo l G (mo) (a1) (a2)) kv_X9_104 ⟨⟨rfl, rfl⟩, by decide, by decide⟩ rfl hl.1 rfl (Nat.le_of_ble_eq_true rfl) ⟨Nat.le_of_ble_eq_true rfl, Nat.le_of_ble_eq_true rfl⟩ (va_recv hE.1 hP (ci := 5) (q0 := 0) rfl rfl) trivial dc_X9_min_4 ?_
  refine lv_if_ne (tgt := 17) hx hb dc_X9_min_7 (by decide) (fun c_0 => ?_) (fun c_0 => ?_)
  · have hw := hw.trans (if_neg c_0)
    refine lv_iconst (v := 1) hx hb dc_X9_min_17 (by decide) ?_
    refine lv_goto (tgt := 22) hx hb dc_X9_min_18 (by decide) ?_
    refine ky_cVh (As := [.int ((1 : Int32))]) (wr := []) F (hE.at hfr hS) hfr (mt_X9_startJ l G (mo) (cs) ((w.1, w.2.1, w.2.2.1, w.2.2.2.1)) (f) ((1 : Int32)) s.heap.size ) kv_X9_55 ⟨⟨rfl, rfl⟩, by decide, by decide⟩ rfl hl.1 rfl (Nat.le_of_ble_eq_true rfl) ⟨Nat.le_of_ble_eq_true rfl, Nat.le_of_ble_eq_true rfl⟩ (va_recv hE.1 hP (ci := 5) (q0 := 0) rfl rfl) trivial hP hD hS hA [0, 1] [] rfl rfl (by decide) (by decide) (by decide) dc_X9_min_22 ?_
    rintro v9 u9 H locs ⟨rfl, rfl⟩ hP hD hS - hz hk9
    have hP : va_P G.1 kcl [(mo, .inr (5, [.int (jst ((1 : Int32))), .ref cs, .int (w.2.1), .int (w.2.2.1), .int (w.2.2.2.1)])), (cs, .inl (G.2.1 3, 6, .inr (.inr (.inr (.inr (f))))))] H := hP
    have hD : va_D A [(mo, .inr (5, [.int (jst ((1 : Int32))), .ref cs, .int (w.2.1), .int (w.2.2.1), .int (w.2.2.2.1)])), (cs, .inl (G.2.1 3, 6, .inr (.inr (.inr (.inr (f))))))] := hD
    have hIT := hIT0.ro hAe hS
    refine W.widen (k := 0) (n := 0) (Nat.le_refl _) (Nat.le_refl _) ?_
    refine lv_if_eq (tgt := 32) hx hb dc_X9_min_25 (by decide) (fun c_2 => absurd c_2 (by decide)) (fun _ => ?_)
    refine lv_iconst (v := 0) hx hb dc_X9_min_28 (by decide) ?_
    refine lv_goto (tgt := 44) hx hb dc_X9_min_29 (by decide) ?_
    have hP9 : va_P G.1 kcl (ky_WM G mo cs ((jst ((1 : Int32)), w.2.1, w.2.2.1, w.2.2.2.1, w.2.2.2.2)) (f)) H := hP.sub [0, 1] rfl
    have hD9 : va_D A (ky_WM G mo cs ((jst ((1 : Int32)), w.2.1, w.2.2.1, w.2.2.2.1, w.2.2.2.2)) (f)) := hD.sub [0, 1] (by decide) rfl
    refine W.widen (k := 0) (n := 0) (Nat.le_of_ble_eq_true rfl) (Nat.le_of_ble_eq_true rfl) ?_
    exact W.iret (v := (0 : Int32)) hx hb hr (fun t ht hW => ⟨by rw [ht]; exact ky_endM (fun z => some (.int z)) ((0 : Int32)) hw hP9 hD9 (hIT), hS.F ht⟩) hS.2.2 dc_X9_min_44
  · have hw := hw.trans (if_pos c_0)
    refine lv_iload_n hx hb dc_X9_min_10 rfl (lv_at hl 3 rfl) ?_
    refine ky_cS0 (As := [.int (a3)]) F (mt_X9_isNo l (a3)) ks_X9_51 ⟨⟨rfl, rfl⟩, by decide, by decide⟩ rfl hl.1 rfl (Nat.le_of_ble_eq_true rfl) ⟨Nat.le_of_ble_eq_true rfl, Nat.le_of_ble_eq_true rfl⟩ dc_X9_min_11 ?_
    refine lv_if_eq (tgt := 21) hx hb dc_X9_min_14 (by decide) (fun c_1 => ?_) (fun c_1 => ?_)
    · have hw := hw.trans (if_pos c_1)
      refine lv_iconst (v := 0) hx hb dc_X9_min_21 (by decide) ?_
      refine ky_cVh (As := [.int ((0 : Int32))]) (wr := []) F (hE.at hfr hS) hfr (mt_X9_startJ l G (mo) (cs) ((w.1, w.2.1, w.2.2.1, w.2.2.2.1)) (f) ((0 : Int32)) s.heap.size ) kv_X9_55 ⟨⟨rfl, rfl⟩, by decide, by decide⟩ rfl hl.1 rfl (Nat.le_of_ble_eq_true rfl) ⟨Nat.le_of_ble_eq_true rfl, Nat.le_of_ble_eq_true rfl⟩ (va_recv hE.1 hP (ci := 5) (q0 := 0) rfl rfl) trivial hP hD hS hA [0, 1] [] rfl rfl (by decide) (by decide) (by decide) dc_X9_min_22 ?_
      rintro v9 u9 H locs ⟨rfl, rfl⟩ hP hD hS - hz hk9
      have hP : va_P G.1 kcl [(mo, .inr (5, [.int (jst ((0 : Int32))), .ref cs, .int (w.2.1), .int (w.2.2.1), .int (w.2.2.2.1)])), (cs, .inl (G.2.1 3, 6, .inr (.inr (.inr (.inr (f))))))] H := hP
      have hD : va_D A [(mo, .inr (5, [.int (jst ((0 : Int32))), .ref cs, .int (w.2.1), .int (w.2.2.1), .int (w.2.2.2.1)])), (cs, .inl (G.2.1 3, 6, .inr (.inr (.inr (.inr (f))))))] := hD
      have hIT := hIT0.ro hAe hS
      refine W.widen (k := 0) (n := 0) (Nat.le_refl _) (Nat.le_refl _) ?_
      refine lv_if_eq (tgt := 32) hx hb dc_X9_min_25 (by decide) (fun _ => ?_) (fun c_3 => absurd c_3 (by decide))
      refine lv_aload_n hx hb dc_X9_min_32 rfl (lv_at hl 0 rfl) ?_
      refine lv_iload_n hx hb dc_X9_min_33 rfl (lv_at hl 3 rfl) ?_
      refine lv_aload_n hx hb dc_X9_min_34 rfl (lv_at hl 0 rfl) ?_
      refine lv_iload_n hx hb dc_X9_min_35 rfl (lv_at hl 1 rfl) ?_
      refine lv_iload_n hx hb dc_X9_min_36 rfl (lv_at hl 2 rfl) ?_
      refine lv_iconst (v := 0) hx hb dc_X9_min_37 (by decide) ?_
      refine ky_cVh (As := [.int (a1), .int (a2), .int ((0 : Int32))]) (wr := []) F (hE.at hfr hS) hfr (mt_X9_last l G mo cs N (jst ((0 : Int32)), w.2.1, w.2.2.1, w.2.2.2.1, w.2.2.2.2) (f)    (a1) (a2) ((0 : Int32)) H.size (lr_areNo c_0).1 (lr_areNo c_0).2) kv_X9_151 ⟨⟨rfl, rfl⟩, by decide, by decide⟩ rfl hl.1 rfl (Nat.le_of_ble_eq_true rfl) ⟨Nat.le_of_ble_eq_true rfl, Nat.le_of_ble_eq_true rfl⟩ (va_recv hE.1 hP (ci := 5) (q0 := 0) rfl rfl) hIT hP hD hS hA [0, 1] [] rfl rfl (by decide) (by decide) (by decide) dc_X9_min_38 ?_
      rintro v9 b_4 H locs rfl hP hD hS ⟨hI_4, ho_4⟩ hz hk9
      have hP : va_P G.1 kcl [(mo, .inr (5, [.int (jst ((0 : Int32))), .ref cs, .int (w.2.1), .int (w.2.2.1), .int (w.2.2.2.1)])), (cs, .inl (G.2.1 3, 6, .inr (.inr (.inr (.inr (f))))))] H := hP
      have hD : va_D A [(mo, .inr (5, [.int (jst ((0 : Int32))), .ref cs, .int (w.2.1), .int (w.2.2.1), .int (w.2.2.2.1)])), (cs, .inl (G.2.1 3, 6, .inr (.inr (.inr (.inr (f))))))] := hD
      have hIT := hIT.keep hz (fun q9 ho9 hl9 => hk9 q9 hl9 (ky_nwc ho9 hl9))
      refine W.widen (k := 0) (n := 0) (Nat.le_refl _) (Nat.le_refl _) ?_
      refine ky_cVh (As := [.int (a3), .ref b_4]) (wr := []) F (hE.at hfr hS) hfr (mt_X9_give l G mo cs N (jst ((0 : Int32)), w.2.1, w.2.2.1, w.2.2.2.1, w.2.2.2.2) (f) (b_4) (fn_X9_last (a1) (a2) ((0 : Int32)) (jst ((0 : Int32)), w.2.1, w.2.2.1, w.2.2.2.1, w.2.2.2.2)) ho_4 (a3) H.size (lr_isNo c_1)) kv_X9_63 ⟨⟨rfl, rfl⟩, by decide, by decide⟩ rfl hl.1 rfl (Nat.le_of_ble_eq_true rfl) ⟨Nat.le_of_ble_eq_true rfl, Nat.le_of_ble_eq_true rfl⟩ (va_recv hE.1 hP (ci := 5) (q0 := 0) rfl rfl) ⟨hIT, hI_4⟩ hP hD hS hA [0, 1] [] rfl rfl (by decide) (by decide) (by decide) dc_X9_min_41 ?_
      rintro v9 ⟨w_5, f_5⟩ H locs ⟨rfl, hw_5⟩ hP hD hS hIT9 hz hk9
      have hw_5 : w_5 = (fn_X9_give (a3) (fn_X9_last (a1) (a2) ((0 : Int32)) (jst ((0 : Int32)), w.2.1, w.2.2.1, w.2.2.2.1, w.2.2.2.2)) (jst ((0 : Int32)), w.2.1, w.2.2.1, w.2.2.2.1, w.2.2.2.2)).2 := hw_5
      try rw [← hw_5] at hw
      have hP : va_P G.1 kcl [(mo, .inr (5, [.int ((w_5).1), .ref cs, .int ((w_5).2.1), .int ((w_5).2.2.1), .int ((w_5).2.2.2.1)])), (cs, .inl (G.2.1 3, 6, .inr (.inr (.inr (.inr (f_5))))))] H := hP
      have hD : va_D A [(mo, .inr (5, [.int ((w_5).1), .ref cs, .int ((w_5).2.1), .int ((w_5).2.2.1), .int ((w_5).2.2.2.1)])), (cs, .inl (G.2.1 3, 6, .inr (.inr (.inr (.inr (f_5))))))] := hD
      have hI_4 := hI_4.keep (hk9 _ hI_4.low (ky_nwc ho_4 hI_4.low))
      have hIT : ky_IT G mo cs N f_5 ((w_5).2.2.2.2) H := hIT9
      refine W.widen (k := 0) (n := 0) (Nat.le_refl _) (Nat.le_refl _) ?_
      have hP9 : va_P G.1 kcl (ky_WM G mo cs ((w_5)) (f_5)) H := hP.sub [0, 1] rfl
      have hD9 : va_D A (ky_WM G mo cs ((w_5)) (f_5)) := hD.sub [0, 1] (by decide) rfl
      refine W.widen (k := 0) (n := 0) (Nat.le_of_ble_eq_true rfl) (Nat.le_of_ble_eq_true rfl) ?_
      exact W.iret (v := (fn_X9_give (a3) (fn_X9_last (a1) (a2) ((0 : Int32)) (jst ((0 : Int32)), w.2.1, w.2.2.1, w.2.2.2.1, w.2.2.2.2)) (jst ((0 : Int32)), w.2.1, w.2.2.1, w.2.2.2.1, w.2.2.2.2)).1) hx hb hr (fun t ht hW => ⟨by rw [ht]; exact ky_endM (fun z => some (.int z)) ((fn_X9_give (a3) (fn_X9_last (a1) (a2) ((0 : Int32)) (jst ((0 : Int32)), w.2.1, w.2.2.1, w.2.2.2.1, w.2.2.2.2)) (jst ((0 : Int32)), w.2.1, w.2.2.1, w.2.2.2.1, w.2.2.2.2)).1) hw hP9 hD9 (hIT), hS.F ht⟩) hS.2.2 dc_X9_min_44
    · have hw := hw.trans (if_neg c_1)
      refine lv_iconst (v := 1) hx hb dc_X9_min_17 (by decide) ?_
      refine lv_goto (tgt := 22) hx hb dc_X9_min_18 (by decide) ?_
      refine ky_cVh (As := [.int ((1 : Int32))]) (wr := []) F (hE.at hfr hS) hfr (mt_X9_startJ l G (mo) (cs) ((w.1, w.2.1, w.2.2.1, w.2.2.2.1)) (f) ((1 : Int32)) s.heap.size ) kv_X9_55 ⟨⟨rfl, rfl⟩, by decide, by decide⟩ rfl hl.1 rfl (Nat.le_of_ble_eq_true rfl) ⟨Nat.le_of_ble_eq_true rfl, Nat.le_of_ble_eq_true rfl⟩ (va_recv hE.1 hP (ci := 5) (q0 := 0) rfl rfl) trivial hP hD hS hA [0, 1] [] rfl rfl (by decide) (by decide) (by decide) dc_X9_min_22 ?_
      rintro v9 u9 H locs ⟨rfl, rfl⟩ hP hD hS - hz hk9
      have hP : va_P G.1 kcl [(mo, .inr (5, [.int (jst ((1 : Int32))), .ref cs, .int (w.2.1), .int (w.2.2.1), .int (w.2.2.2.1)])), (cs, .inl (G.2.1 3, 6, .inr (.inr (.inr (.inr (f))))))] H := hP
      have hD : va_D A [(mo, .inr (5, [.int (jst ((1 : Int32))), .ref cs, .int (w.2.1), .int (w.2.2.1), .int (w.2.2.2.1)])), (cs, .inl (G.2.1 3, 6, .inr (.inr (.inr (.inr (f))))))] := hD
      have hIT := hIT0.ro hAe hS
      refine W.widen (k := 0) (n := 0) (Nat.le_refl _) (Nat.le_refl _) ?_
      refine lv_if_eq (tgt := 32) hx hb dc_X9_min_25 (by decide) (fun c_3 => absurd c_3 (by decide)) (fun _ => ?_)
      refine lv_iconst (v := 0) hx hb dc_X9_min_28 (by decide) ?_
      refine lv_goto (tgt := 44) hx hb dc_X9_min_29 (by decide) ?_
      have hP9 : va_P G.1 kcl (ky_WM G mo cs ((jst ((1 : Int32)), w.2.1, w.2.2.1, w.2.2.2.1, w.2.2.2.2)) (f)) H := hP.sub [0, 1] rfl
      have hD9 : va_D A (ky_WM G mo cs ((jst ((1 : Int32)), w.2.1, w.2.2.1, w.2.2.2.1, w.2.2.2.2)) (f)) := hD.sub [0, 1] (by decide) rfl
      refine W.widen (k := 0) (n := 0) (Nat.le_of_ble_eq_true rfl) (Nat.le_of_ble_eq_true rfl) ?_
      exact W.iret (v := (0 : Int32)) hx hb hr (fun t ht hW => ⟨by rw [ht]; exact ky_endM (fun z => some (.int z)) ((0 : Int32)) hw hP9 hD9 (hIT), hS.F ht⟩) hS.2.2 dc_X9_min_44
end
section
def fn_X9_digit (a1 : Int32) (a2 : Int32)  (w : ky_MV) : Int32 × ky_MV :=
  if ((2 : Int32)) ≤ (a2) then (if (a2) = ((2 : Int32)) then (((jlshr (fn_X8_low ((w.2.2.2.2) (a1).toNatClampNeg)) ((32 : Int32))).toInt32, w)) else (((fn_X8_low ((w.2.2.2.2) (a1).toNatClampNeg)).toInt32, w))) else (if (a2) = (0 : Int32) then ((((w.2.2.2.2) (a1).toNatClampNeg).1, w)) else ((fn_X8_high ((w.2.2.2.2) (a1).toNatClampNeg), w)))
set_option linter.constructorNameAsVariable false in
set_option maxHeartbeats 4000000 in
set_option maxRecDepth 100000 in
theorem mt_X9_digit (l : Launch) (G : ky_G) (mo cs : Nat) (N : Nat → Prop) (w : ky_MV) (f : Nat → Option Nat)    (a1 : Int32) (a2 : Int32) (sz : Nat) (h1 : vp_in (a1) 6) : Met l my_X9_digit (.code my_X9_digit prog_10_method_40_code 4 (some .int) :: ky_B) { frames := 1, cells := 0, slots := 0, locals := 20 } (ky_P G [.ref mo, .int (a1), .int (a2)] (ky_WM G mo cs w f) sz (fun H => ky_IT G mo cs N f w.2.2.2.2 H)) (ky_Q (S := ky_MV × (Nat → Option Nat)) G (va_A (ky_WM G mo cs w f) sz) (fun v u => v = some (.int (fn_X9_digit a1 a2 w).1) ∧ u.1 = (fn_X9_digit a1 a2 w).2) (fun u => ky_WM G mo cs u.1 u.2) (fun u H => ky_IT G mo cs N u.2 u.1.2.2.2.2 H)) 0 0 (va_A (ky_WM G mo cs w f) sz) := by
  refine ky_start (by decide) (Nat.le_of_ble_eq_true rfl) (fun p e s m below meth c F hE A hAe hsz hA hfr hP hD hS hX ls hl => ?_)
  obtain ⟨hx, hb, hml, hown, hr, hlocks, hts⟩ := id F
  have hIT0 := hX
  have hIT := hIT0
  have hl : lv_has ls 4 [(0, .ref mo), (1, .int (a1)), (2, .int (a2))] := hl
  have hP : va_P G.1 kcl [(mo, .inr (5, [.int (w.1), .ref cs, .int (w.2.1), .int (w.2.2.1), .int (w.2.2.2.1)])), (cs, .inl (G.2.1 3, 6, .inr (.inr (.inr (.inr (f))))))] s.heap := hP
  have hD : va_D A [(mo, .inr (5, [.int (w.1), .ref cs, .int (w.2.1), .int (w.2.2.1), .int (w.2.2.2.1)])), (cs, .inl (G.2.1 3, 6, .inr (.inr (.inr (.inr (f))))))] := hD
  have hw : fn_X9_digit a1 a2 w = _ := fn_X9_digit.eq_1 a1 a2 w
  refine lv_aload_n hx hb dc_X9_digit_0 rfl (lv_at hl 0 rfl) ?_
  refine va_get (D := G.1) (ci := 5) (v := .ref cs) (C := RX9) (T := TX9) (N := 5) hx hb hts ki_X9 hown hE.1 hP 0 rfl rfl 1 (by decide) (hts _ kw_6_20) (fun _ h9 => h9) rfl dc_X9_digit_1 ?_
  refine lv_iload_n hx hb dc_X9_digit_4 rfl (lv_at hl 1 rfl) ?_
  refine va_aldq hx hb hE.1 hP 1 3 rfl rfl h1 dc_X9_digit_5 ?_
  obtain ⟨b_0, hb_0, hI_0, ho_0⟩ := hIT.2 _ (ky_i6 h1)
  rw [ky_rf hb_0]
  have hX_0 : ky_It G b_0 ((w.2.2.2.2) (a1).toNatClampNeg) s.heap := by obtain ⟨b9, e9, i9, -⟩ := hIT0.2 _ (ky_i6 h1); have z9 : b9 = b_0 := Option.some.inj (e9.symm.trans hb_0); exact z9 ▸ i9
  refine lv_astore_n (lv' := [(3, .ref b_0), (0, .ref mo), (1, .int (a1)), (2, .int (a2))]) hx hb dc_X9_digit_6 rfl hl (by decide) rfl (fun ls hl => ?_)
  refine lv_iload_n hx hb dc_X9_digit_7 rfl (lv_at hl 3 rfl) ?_
  refine lv_iconst (v := 2) hx hb dc_X9_digit_8 (by decide) ?_
  refine lv_icmp_ge (tgt := 28) hx hb dc_X9_digit_9 (by decide) (fun c_1 => ?_) (fun c_1 => ?_)
  · have hw := hw.trans (if_pos c_1)
    refine lv_iload_n hx hb dc_X9_digit_28 rfl (lv_at hl 3 rfl) ?_
    refine lv_iconst (v := 2) hx hb dc_X9_digit_29 (by decide) ?_
    refine lv_icmp_ne (tgt := 44) hx hb dc_X9_digit_30 (by decide) (fun c_2 => ?_) (fun c_2 => ?_)
    · have hw := hw.trans (if_neg c_2)
      refine lv_aload_n hx hb dc_X9_digit_44 rfl (lv_at hl 0 rfl) ?_
      refine ky_cV1 (As := []) F (hE.at hfr hS) (mt_X8_low l G (b_0) (((w.2.2.2.2) (a1).toNatClampNeg)) ) kv_X9_164 ⟨⟨rfl, rfl⟩, by decide, by decide⟩ rfl hl.1 rfl (Nat.le_of_ble_eq_true rfl) ⟨Nat.le_of_ble_eq_true rfl, Nat.le_of_ble_eq_true rfl⟩ (va_recv hE.1 hI_0 (ci := 4) (q0 := 0) rfl rfl) hI_0 dc_X9_digit_45 ?_
      refine lv_l2i (v := (fn_X8_low ((w.2.2.2.2) (a1).toNatClampNeg)).toInt32) hx hb dc_X9_digit_48 rfl ?_
      have hP9 : va_P G.1 kcl (ky_WM G mo cs (w) (f)) s.heap := hP.sub [0, 1] rfl
      have hD9 : va_D A (ky_WM G mo cs (w) (f)) := hD.sub [0, 1] (by decide) rfl
      refine W.widen (k := 0) (n := 0) (Nat.le_of_ble_eq_true rfl) (Nat.le_of_ble_eq_true rfl) ?_
      exact W.iret (v := (fn_X8_low ((w.2.2.2.2) (a1).toNatClampNeg)).toInt32) hx hb hr (fun t ht hW => ⟨by rw [ht]; exact ky_endM (fun z => some (.int z)) ((fn_X8_low ((w.2.2.2.2) (a1).toNatClampNeg)).toInt32) hw hP9 hD9 (hIT), hS.F ht⟩) hS.2.2 dc_X9_digit_49
    · have hw := hw.trans (if_pos c_2)
      refine lv_aload_n hx hb dc_X9_digit_33 rfl (lv_at hl 0 rfl) ?_
      refine ky_cV1 (As := []) F (hE.at hfr hS) (mt_X8_low l G (b_0) (((w.2.2.2.2) (a1).toNatClampNeg)) ) kv_X9_164 ⟨⟨rfl, rfl⟩, by decide, by decide⟩ rfl hl.1 rfl (Nat.le_of_ble_eq_true rfl) ⟨Nat.le_of_ble_eq_true rfl, Nat.le_of_ble_eq_true rfl⟩ (va_recv hE.1 hI_0 (ci := 4) (q0 := 0) rfl rfl) hI_0 dc_X9_digit_34 ?_
      refine lv_bipush (v := 32) hx hb dc_X9_digit_37 (by decide) ?_
      refine lv_lshr (v := jlshr (fn_X8_low ((w.2.2.2.2) (a1).toNatClampNeg)) ((32 : Int32))) hx hb dc_X9_digit_39 rfl ?_
      refine lv_l2i (v := (jlshr (fn_X8_low ((w.2.2.2.2) (a1).toNatClampNeg)) ((32 : Int32))).toInt32) hx hb dc_X9_digit_40 rfl ?_
      refine lv_goto (tgt := 49) hx hb dc_X9_digit_41 (by decide) ?_
      have hP9 : va_P G.1 kcl (ky_WM G mo cs (w) (f)) s.heap := hP.sub [0, 1] rfl
      have hD9 : va_D A (ky_WM G mo cs (w) (f)) := hD.sub [0, 1] (by decide) rfl
      refine W.widen (k := 0) (n := 0) (Nat.le_of_ble_eq_true rfl) (Nat.le_of_ble_eq_true rfl) ?_
      exact W.iret (v := (jlshr (fn_X8_low ((w.2.2.2.2) (a1).toNatClampNeg)) ((32 : Int32))).toInt32) hx hb hr (fun t ht hW => ⟨by rw [ht]; exact ky_endM (fun z => some (.int z)) ((jlshr (fn_X8_low ((w.2.2.2.2) (a1).toNatClampNeg)) ((32 : Int32))).toInt32) hw hP9 hD9 (hIT), hS.F ht⟩) hS.2.2 dc_X9_digit_49
  · have hw := hw.trans (if_neg c_1)
    refine lv_iload_n hx hb dc_X9_digit_12 rfl (lv_at hl 3 rfl) ?_
    refine lv_if_ne (tgt := 23) hx hb dc_X9_digit_13 (by decide) (fun c_2 => ?_) (fun c_2 => ?_)
    · have hw := hw.trans (if_neg c_2)
      refine lv_aload_n hx hb dc_X9_digit_23 rfl (lv_at hl 0 rfl) ?_
      refine ky_cV1 (As := []) F (hE.at hfr hS) (mt_X8_high l G (b_0) (((w.2.2.2.2) (a1).toNatClampNeg)) ) kv_X9_161 ⟨⟨rfl, rfl⟩, by decide, by decide⟩ rfl hl.1 rfl (Nat.le_of_ble_eq_true rfl) ⟨Nat.le_of_ble_eq_true rfl, Nat.le_of_ble_eq_true rfl⟩ (va_recv hE.1 hI_0 (ci := 4) (q0 := 0) rfl rfl) hI_0 dc_X9_digit_24 ?_
      have hP9 : va_P G.1 kcl (ky_WM G mo cs (w) (f)) s.heap := hP.sub [0, 1] rfl
      have hD9 : va_D A (ky_WM G mo cs (w) (f)) := hD.sub [0, 1] (by decide) rfl
      refine W.widen (k := 0) (n := 0) (Nat.le_of_ble_eq_true rfl) (Nat.le_of_ble_eq_true rfl) ?_
      exact W.iret (v := fn_X8_high ((w.2.2.2.2) (a1).toNatClampNeg)) hx hb hr (fun t ht hW => ⟨by rw [ht]; exact ky_endM (fun z => some (.int z)) (fn_X8_high ((w.2.2.2.2) (a1).toNatClampNeg)) hw hP9 hD9 (hIT), hS.F ht⟩) hS.2.2 dc_X9_digit_27
    · have hw := hw.trans (if_pos c_2)
      refine lv_aload_n hx hb dc_X9_digit_16 rfl (lv_at hl 0 rfl) ?_
      refine va_get (D := G.1) (ci := 4) (v := .int (((w.2.2.2.2) (a1).toNatClampNeg).1)) (C := RX8) (T := TX8) (N := 2) hx hb hts ki_X8 hown hE.1 hI_0 0 rfl rfl 0 (by decide) (hts _ kw_6_11) (fun _ h9 => h9) rfl dc_X9_digit_17 ?_
      refine lv_goto (tgt := 27) hx hb dc_X9_digit_20 (by decide) ?_
      have hP9 : va_P G.1 kcl (ky_WM G mo cs (w) (f)) s.heap := hP.sub [0, 1] rfl
      have hD9 : va_D A (ky_WM G mo cs (w) (f)) := hD.sub [0, 1] (by decide) rfl
      refine W.widen (k := 0) (n := 0) (Nat.le_of_ble_eq_true rfl) (Nat.le_of_ble_eq_true rfl) ?_
      exact W.iret (v := ((w.2.2.2.2) (a1).toNatClampNeg).1) hx hb hr (fun t ht hW => ⟨by rw [ht]; exact ky_endM (fun z => some (.int z)) (((w.2.2.2.2) (a1).toNatClampNeg).1) hw hP9 hD9 (hIT), hS.F ht⟩) hS.2.2 dc_X9_digit_27
end
section
def fn_X9_digits (a1 : Int32) (a2 : Int32)  (w : ky_MV) : Int32 × ky_MV :=
  if (jst (fn_X9_isNo (a1))) = (0 : Int32) then (if (fn_X9_isOf (a2) ((0 : Int32)) ((3 : Int32))) = (0 : Int32) then (if (jrr (jrt ((1 : Int32)) ((2 : Int32)) (jst (fn_X9_isNo (a1))))) = (0 : Int32) then (((fn_X9_digit (a1) (a2) (jrt ((1 : Int32)) ((2 : Int32)) (jst (fn_X9_isNo (a1))), w.2.1, w.2.2.1, w.2.2.2.1, w.2.2.2.2)).1, ((fn_X9_digit (a1) (a2) (jrt ((1 : Int32)) ((2 : Int32)) (jst (fn_X9_isNo (a1))), w.2.1, w.2.2.1, w.2.2.2.1, w.2.2.2.2)).2))) else (((0 : Int32), (jrt ((1 : Int32)) ((2 : Int32)) (jst (fn_X9_isNo (a1))), w.2.1, w.2.2.1, w.2.2.2.1, w.2.2.2.2)))) else (if (jrr (jrt ((0 : Int32)) ((2 : Int32)) (jst (fn_X9_isNo (a1))))) = (0 : Int32) then (((fn_X9_digit (a1) (a2) (jrt ((0 : Int32)) ((2 : Int32)) (jst (fn_X9_isNo (a1))), w.2.1, w.2.2.1, w.2.2.2.1, w.2.2.2.2)).1, ((fn_X9_digit (a1) (a2) (jrt ((0 : Int32)) ((2 : Int32)) (jst (fn_X9_isNo (a1))), w.2.1, w.2.2.1, w.2.2.2.1, w.2.2.2.2)).2))) else (((0 : Int32), (jrt ((0 : Int32)) ((2 : Int32)) (jst (fn_X9_isNo (a1))), w.2.1, w.2.2.1, w.2.2.2.1, w.2.2.2.2))))) else (((0 : Int32), (jst (fn_X9_isNo (a1)), w.2.1, w.2.2.1, w.2.2.2.1, w.2.2.2.2)))
set_option linter.constructorNameAsVariable false in
set_option maxHeartbeats 4000000 in
set_option maxRecDepth 100000 in
theorem mt_X9_digits (l : Launch) (G : ky_G) (mo cs : Nat) (N : Nat → Prop) (w : ky_MV) (f : Nat → Option Nat)    (a1 : Int32) (a2 : Int32) (sz : Nat) : Met l my_X9_digits (.code my_X9_digits prog_10_method_41_code 3 (some .int) :: ky_B) { frames := 2, cells := 0, slots := 0, locals := 43 } (ky_P G [.ref mo, .int (a1), .int (a2)] (ky_WM G mo cs w f) sz (fun H => ky_IT G mo cs N f w.2.2.2.2 H)) (ky_Q (S := ky_MV × (Nat → Option Nat)) G (va_A (ky_WM G mo cs w f) sz) (fun v u => v = some (.int (fn_X9_digits a1 a2 w).1) ∧ u.1 = (fn_X9_digits a1 a2 w).2) (fun u => ky_WM G mo cs u.1 u.2) (fun u H => ky_IT G mo cs N u.2 u.1.2.2.2.2 H)) 0 0 (va_A (ky_WM G mo cs w f) sz) := by
  refine ky_start (by decide) (Nat.le_of_ble_eq_true rfl) (fun p e s m below meth c F hE A hAe hsz hA hfr hP hD hS hX ls hl => ?_)
  obtain ⟨hx, hb, hml, hown, hr, hlocks, hts⟩ := id F
  have hIT0 := hX
  have hIT := hIT0
  have hl : lv_has ls 3 [(0, .ref mo), (1, .int (a1)), (2, .int (a2))] := hl
  have hP : va_P G.1 kcl [(mo, .inr (5, [.int (w.1), .ref cs, .int (w.2.1), .int (w.2.2.1), .int (w.2.2.2.1)])), (cs, .inl (G.2.1 3, 6, .inr (.inr (.inr (.inr (f))))))] s.heap := hP
  have hD : va_D A [(mo, .inr (5, [.int (w.1), .ref cs, .int (w.2.1), .int (w.2.2.1), .int (w.2.2.2.1)])), (cs, .inl (G.2.1 3, 6, .inr (.inr (.inr (.inr (f))))))] := hD
  have hw : fn_X9_digits a1 a2 w = _ := fn_X9_digits.eq_1 a1 a2 w
  refine lv_aload_n hx hb dc_X9_digits_0 rfl (lv_at hl 0 rfl) ?_
  refine lv_iload_n hx hb dc_X9_digits_1 rfl (lv_at hl 1 rfl) ?_
  refine ky_cS0 (As := [.int (a1)]) F (mt_X9_isNo l (a1)) ks_X9_51 ⟨⟨rfl, rfl⟩, by decide, by decide⟩ rfl hl.1 rfl (Nat.le_of_ble_eq_true rfl) ⟨Nat.le_of_ble_eq_true rfl, Nat.le_of_ble_eq_true rfl⟩ dc_X9_digits_2 ?_
  refine ky_cVh (As := [.int (fn_X9_isNo (a1))]) (wr := []) F (hE.at hfr hS) hfr (mt_X9_startJ l G (mo) (cs) ((w.1, w.2.1, w.2.2.1, w.2.2.2.1)) (f) (fn_X9_isNo (a1)) s.heap.size ) kv_X9_55 ⟨⟨rfl, rfl⟩, by decide, by decide⟩ rfl hl.1 rfl (Nat.le_of_ble_eq_true rfl) ⟨Nat.le_of_ble_eq_true rfl, Nat.le_of_ble_eq_true rfl⟩ (va_recv hE.1 hP (ci := 5) (q0 := 0) rfl rfl) trivial hP hD hS hA [0, 1] [] rfl rfl (by decide) (by decide) (by decide) dc_X9_digits_5 ?_
  rintro v9 u9 H locs ⟨rfl, rfl⟩ hP hD hS - hz hk9
  obtain ⟨j_1, hj_1⟩ : ∃ j9, j9 = jst (fn_X9_isNo (a1)) := ⟨_, rfl⟩
  rw [← hj_1] at hP hD ⊢
  try rw [← hj_1] at hw
  have hP : va_P G.1 kcl [(mo, .inr (5, [.int (j_1), .ref cs, .int (w.2.1), .int (w.2.2.1), .int (w.2.2.2.1)])), (cs, .inl (G.2.1 3, 6, .inr (.inr (.inr (.inr (f))))))] H := hP
  have hD : va_D A [(mo, .inr (5, [.int (j_1), .ref cs, .int (w.2.1), .int (w.2.2.1), .int (w.2.2.2.1)])), (cs, .inl (G.2.1 3, 6, .inr (.inr (.inr (.inr (f))))))] := hD
  have hIT := hIT0.ro hAe hS
  refine W.widen (k := 0) (n := 0) (Nat.le_refl _) (Nat.le_refl _) ?_
  refine lv_if_ne (tgt := 33) hx hb dc_X9_digits_8 (by decide) (fun c_2 => ?_) (fun c_2 => ?_)
  · have hw := hw.trans (if_neg c_2)
    refine lv_iconst (v := 0) hx hb dc_X9_digits_33 (by decide) ?_
    refine lv_goto (tgt := 43) hx hb dc_X9_digits_34 (by decide) ?_
    have hP9 : va_P G.1 kcl (ky_WM G mo cs ((j_1, w.2.1, w.2.2.1, w.2.2.2.1, w.2.2.2.2)) (f)) H := hP.sub [0, 1] rfl
    have hD9 : va_D A (ky_WM G mo cs ((j_1, w.2.1, w.2.2.1, w.2.2.2.1, w.2.2.2.2)) (f)) := hD.sub [0, 1] (by decide) rfl
    refine W.widen (k := 0) (n := 0) (Nat.le_of_ble_eq_true rfl) (Nat.le_of_ble_eq_true rfl) ?_
    exact W.iret (v := (0 : Int32)) hx hb hr (fun t ht hW => ⟨by rw [ht]; exact ky_endM (fun z => some (.int z)) ((0 : Int32)) hw hP9 hD9 (hIT), hS.F ht⟩) hS.2.2 dc_X9_digits_43
  · have hw := hw.trans (if_pos c_2)
    refine lv_aload_n hx hb dc_X9_digits_11 rfl (lv_at hl 0 rfl) ?_
    refine lv_iload_n hx hb dc_X9_digits_12 rfl (lv_at hl 2 rfl) ?_
    refine lv_iconst (v := 0) hx hb dc_X9_digits_13 (by decide) ?_
    refine lv_iconst (v := 3) hx hb dc_X9_digits_14 (by decide) ?_
    refine ky_cS0 (As := [.int (a2), .int ((0 : Int32)), .int ((3 : Int32))]) F (mt_X9_isOf l (a2) ((0 : Int32)) ((3 : Int32))) ks_X9_40 ⟨⟨rfl, rfl⟩, by decide, by decide⟩ rfl hl.1 rfl (Nat.le_of_ble_eq_true rfl) ⟨Nat.le_of_ble_eq_true rfl, Nat.le_of_ble_eq_true rfl⟩ dc_X9_digits_15 ?_
    refine lv_if_ne (tgt := 25) hx hb dc_X9_digits_18 (by decide) (fun c_3 => ?_) (fun c_3 => ?_)
    · have hw := hw.trans (if_neg c_3)
      refine lv_iconst (v := 0) hx hb dc_X9_digits_25 (by decide) ?_
      refine lv_iconst (v := 2) hx hb dc_X9_digits_26 (by decide) ?_
      refine ky_cVh (As := [.int ((0 : Int32)), .int ((2 : Int32))]) (wr := []) F (hE.at hfr hS) hfr (mt_X9_refuseJ l G (mo) (cs) ((j_1, w.2.1, w.2.2.1, w.2.2.2.1)) (f) ((0 : Int32)) ((2 : Int32)) H.size ) kv_X9_36 ⟨⟨rfl, rfl⟩, by decide, by decide⟩ rfl hl.1 rfl (Nat.le_of_ble_eq_true rfl) ⟨Nat.le_of_ble_eq_true rfl, Nat.le_of_ble_eq_true rfl⟩ (va_recv hE.1 hP (ci := 5) (q0 := 0) rfl rfl) trivial hP hD hS hA [0, 1] [] rfl rfl (by decide) (by decide) (by decide) dc_X9_digits_27 ?_
      rintro v9 u9 H locs ⟨rfl, rfl⟩ hP hD hS - hz hk9
      obtain ⟨j_5, hj_5⟩ : ∃ j9, j9 = jrt ((0 : Int32)) ((2 : Int32)) (j_1) := ⟨_, rfl⟩
      rw [← hj_5] at hP hD ⊢
      try rw [← hj_5] at hw
      have hP : va_P G.1 kcl [(mo, .inr (5, [.int (j_5), .ref cs, .int (w.2.1), .int (w.2.2.1), .int (w.2.2.2.1)])), (cs, .inl (G.2.1 3, 6, .inr (.inr (.inr (.inr (f))))))] H := hP
      have hD : va_D A [(mo, .inr (5, [.int (j_5), .ref cs, .int (w.2.1), .int (w.2.2.1), .int (w.2.2.2.1)])), (cs, .inl (G.2.1 3, 6, .inr (.inr (.inr (.inr (f))))))] := hD
      have hIT := hIT0.ro hAe hS
      refine W.widen (k := 0) (n := 0) (Nat.le_refl _) (Nat.le_refl _) ?_
      refine lv_if_eq (tgt := 37) hx hb dc_X9_digits_30 (by decide) (fun c_6 => ?_) (fun c_6 => ?_)
      · have hw := hw.trans (if_pos c_6)
        refine lv_aload_n hx hb dc_X9_digits_37 rfl (lv_at hl 0 rfl) ?_
        refine lv_iload_n hx hb dc_X9_digits_38 rfl (lv_at hl 1 rfl) ?_
        refine lv_iload_n hx hb dc_X9_digits_39 rfl (lv_at hl 2 rfl) ?_
        refine ky_cVh (As := [.int (a1), .int (a2)]) (wr := []) F (hE.at hfr hS) hfr (mt_X9_digit l G mo cs N (j_5, w.2.1, w.2.2.1, w.2.2.2.1, w.2.2.2.2) (f)    (a1) (a2) H.size (lr_start (hj_1.symm.trans c_2))) kv_X9_167 ⟨⟨rfl, rfl⟩, by decide, by decide⟩ rfl hl.1 rfl (Nat.le_of_ble_eq_true rfl) ⟨Nat.le_of_ble_eq_true rfl, Nat.le_of_ble_eq_true rfl⟩ (va_recv hE.1 hP (ci := 5) (q0 := 0) rfl rfl) hIT hP hD hS hA [0, 1] [] rfl rfl (by decide) (by decide) (by decide) dc_X9_digits_40 ?_
        rintro v9 ⟨w_7, f_7⟩ H locs ⟨rfl, hw_7⟩ hP hD hS hIT9 hz hk9
        have hw_7 : w_7 = (fn_X9_digit (a1) (a2) (j_5, w.2.1, w.2.2.1, w.2.2.2.1, w.2.2.2.2)).2 := hw_7
        try rw [← hw_7] at hw
        have hP : va_P G.1 kcl [(mo, .inr (5, [.int ((w_7).1), .ref cs, .int ((w_7).2.1), .int ((w_7).2.2.1), .int ((w_7).2.2.2.1)])), (cs, .inl (G.2.1 3, 6, .inr (.inr (.inr (.inr (f_7))))))] H := hP
        have hD : va_D A [(mo, .inr (5, [.int ((w_7).1), .ref cs, .int ((w_7).2.1), .int ((w_7).2.2.1), .int ((w_7).2.2.2.1)])), (cs, .inl (G.2.1 3, 6, .inr (.inr (.inr (.inr (f_7))))))] := hD
        have hIT : ky_IT G mo cs N f_7 ((w_7).2.2.2.2) H := hIT9
        refine W.widen (k := 0) (n := 0) (Nat.le_refl _) (Nat.le_refl _) ?_
        have hP9 : va_P G.1 kcl (ky_WM G mo cs ((w_7)) (f_7)) H := hP.sub [0, 1] rfl
        have hD9 : va_D A (ky_WM G mo cs ((w_7)) (f_7)) := hD.sub [0, 1] (by decide) rfl
        refine W.widen (k := 0) (n := 0) (Nat.le_of_ble_eq_true rfl) (Nat.le_of_ble_eq_true rfl) ?_
        exact W.iret (v := (fn_X9_digit (a1) (a2) (j_5, w.2.1, w.2.2.1, w.2.2.2.1, w.2.2.2.2)).1) hx hb hr (fun t ht hW => ⟨by rw [ht]; exact ky_endM (fun z => some (.int z)) ((fn_X9_digit (a1) (a2) (j_5, w.2.1, w.2.2.1, w.2.2.2.1, w.2.2.2.2)).1) hw hP9 hD9 (hIT), hS.F ht⟩) hS.2.2 dc_X9_digits_43
      · have hw := hw.trans (if_neg c_6)
        refine lv_iconst (v := 0) hx hb dc_X9_digits_33 (by decide) ?_
        refine lv_goto (tgt := 43) hx hb dc_X9_digits_34 (by decide) ?_
        have hP9 : va_P G.1 kcl (ky_WM G mo cs ((j_5, w.2.1, w.2.2.1, w.2.2.2.1, w.2.2.2.2)) (f)) H := hP.sub [0, 1] rfl
        have hD9 : va_D A (ky_WM G mo cs ((j_5, w.2.1, w.2.2.1, w.2.2.2.1, w.2.2.2.2)) (f)) := hD.sub [0, 1] (by decide) rfl
        refine W.widen (k := 0) (n := 0) (Nat.le_of_ble_eq_true rfl) (Nat.le_of_ble_eq_true rfl) ?_
        exact W.iret (v := (0 : Int32)) hx hb hr (fun t ht hW => ⟨by rw [ht]; exact ky_endM (fun z => some (.int z)) ((0 : Int32)) hw hP9 hD9 (hIT), hS.F ht⟩) hS.2.2 dc_X9_digits_43
    · have hw := hw.trans (if_pos c_3)
      refine lv_iconst (v := 1) hx hb dc_X9_digits_21 (by decide) ?_
      refine lv_goto (tgt := 26) hx hb dc_X9_digits_22 (by decide) ?_
      refine lv_iconst (v := 2) hx hb dc_X9_digits_26 (by decide) ?_
      refine ky_cVh (As := [.int ((1 : Int32)), .int ((2 : Int32))]) (wr := []) F (hE.at hfr hS) hfr (mt_X9_refuseJ l G (mo) (cs) ((j_1, w.2.1, w.2.2.1, w.2.2.2.1)) (f) ((1 : Int32)) ((2 : Int32)) H.size ) kv_X9_36 ⟨⟨rfl, rfl⟩, by decide, by decide⟩ rfl hl.1 rfl (Nat.le_of_ble_eq_true rfl) ⟨Nat.le_of_ble_eq_true rfl, Nat.le_of_ble_eq_true rfl⟩ (va_recv hE.1 hP (ci := 5) (q0 := 0) rfl rfl) trivial hP hD hS hA [0, 1] [] rfl rfl (by decide) (by decide) (by decide) dc_X9_digits_27 ?_
      rintro v9 u9 H locs ⟨rfl, rfl⟩ hP hD hS - hz hk9
      obtain ⟨j_5, hj_5⟩ : ∃ j9, j9 = jrt ((1 : Int32)) ((2 : Int32)) (j_1) := ⟨_, rfl⟩
      rw [← hj_5] at hP hD ⊢
      try rw [← hj_5] at hw
      have hP : va_P G.1 kcl [(mo, .inr (5, [.int (j_5), .ref cs, .int (w.2.1), .int (w.2.2.1), .int (w.2.2.2.1)])), (cs, .inl (G.2.1 3, 6, .inr (.inr (.inr (.inr (f))))))] H := hP
      have hD : va_D A [(mo, .inr (5, [.int (j_5), .ref cs, .int (w.2.1), .int (w.2.2.1), .int (w.2.2.2.1)])), (cs, .inl (G.2.1 3, 6, .inr (.inr (.inr (.inr (f))))))] := hD
      have hIT := hIT0.ro hAe hS
      refine W.widen (k := 0) (n := 0) (Nat.le_refl _) (Nat.le_refl _) ?_
      refine lv_if_eq (tgt := 37) hx hb dc_X9_digits_30 (by decide) (fun c_6 => ?_) (fun c_6 => ?_)
      · have hw := hw.trans (if_pos c_6)
        refine lv_aload_n hx hb dc_X9_digits_37 rfl (lv_at hl 0 rfl) ?_
        refine lv_iload_n hx hb dc_X9_digits_38 rfl (lv_at hl 1 rfl) ?_
        refine lv_iload_n hx hb dc_X9_digits_39 rfl (lv_at hl 2 rfl) ?_
        refine ky_cVh (As := [.int (a1), .int (a2)]) (wr := []) F (hE.at hfr hS) hfr (mt_X9_digit l G mo cs N (j_5, w.2.1, w.2.2.1, w.2.2.2.1, w.2.2.2.2) (f)    (a1) (a2) H.size (lr_start (hj_1.symm.trans c_2))) kv_X9_167 ⟨⟨rfl, rfl⟩, by decide, by decide⟩ rfl hl.1 rfl (Nat.le_of_ble_eq_true rfl) ⟨Nat.le_of_ble_eq_true rfl, Nat.le_of_ble_eq_true rfl⟩ (va_recv hE.1 hP (ci := 5) (q0 := 0) rfl rfl) hIT hP hD hS hA [0, 1] [] rfl rfl (by decide) (by decide) (by decide) dc_X9_digits_40 ?_
        rintro v9 ⟨w_7, f_7⟩ H locs ⟨rfl, hw_7⟩ hP hD hS hIT9 hz hk9
        have hw_7 : w_7 = (fn_X9_digit (a1) (a2) (j_5, w.2.1, w.2.2.1, w.2.2.2.1, w.2.2.2.2)).2 := hw_7
        try rw [← hw_7] at hw
        have hP : va_P G.1 kcl [(mo, .inr (5, [.int ((w_7).1), .ref cs, .int ((w_7).2.1), .int ((w_7).2.2.1), .int ((w_7).2.2.2.1)])), (cs, .inl (G.2.1 3, 6, .inr (.inr (.inr (.inr (f_7))))))] H := hP
        have hD : va_D A [(mo, .inr (5, [.int ((w_7).1), .ref cs, .int ((w_7).2.1), .int ((w_7).2.2.1), .int ((w_7).2.2.2.1)])), (cs, .inl (G.2.1 3, 6, .inr (.inr (.inr (.inr (f_7))))))] := hD
        have hIT : ky_IT G mo cs N f_7 ((w_7).2.2.2.2) H := hIT9
        refine W.widen (k := 0) (n := 0) (Nat.le_refl _) (Nat.le_refl _) ?_
        have hP9 : va_P G.1 kcl (ky_WM G mo cs ((w_7)) (f_7)) H := hP.sub [0, 1] rfl
        have hD9 : va_D A (ky_WM G mo cs ((w_7)) (f_7)) := hD.sub [0, 1] (by decide) rfl
        refine W.widen (k := 0) (n := 0) (Nat.le_of_ble_eq_true rfl) (Nat.le_of_ble_eq_true rfl) ?_
        exact W.iret (v := (fn_X9_digit (a1) (a2) (j_5, w.2.1, w.2.2.1, w.2.2.2.1, w.2.2.2.2)).1) hx hb hr (fun t ht hW => ⟨by rw [ht]; exact ky_endM (fun z => some (.int z)) ((fn_X9_digit (a1) (a2) (j_5, w.2.1, w.2.2.1, w.2.2.2.1, w.2.2.2.2)).1) hw hP9 hD9 (hIT), hS.F ht⟩) hS.2.2 dc_X9_digits_43
      · have hw := hw.trans (if_neg c_6)
        refine lv_iconst (v := 0) hx hb dc_X9_digits_33 (by decide) ?_
        refine lv_goto (tgt := 43) hx hb dc_X9_digits_34 (by decide) ?_
        have hP9 : va_P G.1 kcl (ky_WM G mo cs ((j_5, w.2.1, w.2.2.1, w.2.2.2.1, w.2.2.2.2)) (f)) H := hP.sub [0, 1] rfl
        have hD9 : va_D A (ky_WM G mo cs ((j_5, w.2.1, w.2.2.1, w.2.2.2.1, w.2.2.2.2)) (f)) := hD.sub [0, 1] (by decide) rfl
        refine W.widen (k := 0) (n := 0) (Nat.le_of_ble_eq_true rfl) (Nat.le_of_ble_eq_true rfl) ?_
        exact W.iret (v := (0 : Int32)) hx hb hr (fun t ht hW => ⟨by rw [ht]; exact ky_endM (fun z => some (.int z)) ((0 : Int32)) hw hP9 hD9 (hIT), hS.F ht⟩) hS.2.2 dc_X9_digits_43
end
section
def fn_X9_part (a1 : Int32) (a2 : Int32)  (w : ky_MV) : Int32 × ky_MV :=
  if (a2) = (0 : Int32) then (((jlshr (fn_X8_rounded ((0 : Int32)) ((w.2.2.2.2) (a1).toNatClampNeg)) ((0 : Int32))).toInt32, w)) else (((jlshr (fn_X8_rounded ((0 : Int32)) ((w.2.2.2.2) (a1).toNatClampNeg)) ((32 : Int32))).toInt32, w))
set_option linter.constructorNameAsVariable false in
set_option maxHeartbeats 4000000 in
set_option maxRecDepth 100000 in
theorem mt_X9_part (l : Launch) (G : ky_G) (mo cs : Nat) (N : Nat → Prop) (w : ky_MV) (f : Nat → Option Nat)    (a1 : Int32) (a2 : Int32) (sz : Nat) (h1 : vp_in (a1) 6) : Met l my_X9_part (.code my_X9_part prog_10_method_44_code 3 (some .int) :: ky_B) { frames := 5, cells := 0, slots := 0, locals := 110 } (ky_P G [.ref mo, .int (a1), .int (a2)] (ky_WM G mo cs w f) sz (fun H => ky_IT G mo cs N f w.2.2.2.2 H)) (ky_Q (S := ky_MV × (Nat → Option Nat)) G (va_A (ky_WM G mo cs w f) sz) (fun v u => v = some (.int (fn_X9_part a1 a2 w).1) ∧ u.1 = (fn_X9_part a1 a2 w).2) (fun u => ky_WM G mo cs u.1 u.2) (fun u H => ky_IT G mo cs N u.2 u.1.2.2.2.2 H)) 0 0 (va_A (ky_WM G mo cs w f) sz) := by
  refine ky_start (by decide) (Nat.le_of_ble_eq_true rfl) (fun p e s m below meth c F hE A hAe hsz hA hfr hP hD hS hX ls hl => ?_)
  obtain ⟨hx, hb, hml, hown, hr, hlocks, hts⟩ := id F
  have hIT0 := hX
  have hIT := hIT0
  have hl : lv_has ls 3 [(0, .ref mo), (1, .int (a1)), (2, .int (a2))] := hl
  have hP : va_P G.1 kcl [(mo, .inr (5, [.int (w.1), .ref cs, .int (w.2.1), .int (w.2.2.1), .int (w.2.2.2.1)])), (cs, .inl (G.2.1 3, 6, .inr (.inr (.inr (.inr (f))))))] s.heap := hP
  have hD : va_D A [(mo, .inr (5, [.int (w.1), .ref cs, .int (w.2.1), .int (w.2.2.1), .int (w.2.2.2.1)])), (cs, .inl (G.2.1 3, 6, .inr (.inr (.inr (.inr (f))))))] := hD
  have hw : fn_X9_part a1 a2 w = _ := fn_X9_part.eq_1 a1 a2 w
  refine lv_aload_n hx hb dc_X9_part_0 rfl (lv_at hl 0 rfl) ?_
  refine va_get (D := G.1) (ci := 5) (v := .ref cs) (C := RX9) (T := TX9) (N := 5) hx hb hts ki_X9 hown hE.1 hP 0 rfl rfl 1 (by decide) (hts _ kw_6_20) (fun _ h9 => h9) rfl dc_X9_part_1 ?_
  refine lv_iload_n hx hb dc_X9_part_4 rfl (lv_at hl 1 rfl) ?_
  refine va_aldq hx hb hE.1 hP 1 3 rfl rfl h1 dc_X9_part_5 ?_
  obtain ⟨b_0, hb_0, hI_0, ho_0⟩ := hIT.2 _ (ky_i6 h1)
  rw [ky_rf hb_0]
  have hX_0 : ky_It G b_0 ((w.2.2.2.2) (a1).toNatClampNeg) s.heap := by obtain ⟨b9, e9, i9, -⟩ := hIT0.2 _ (ky_i6 h1); have z9 : b9 = b_0 := Option.some.inj (e9.symm.trans hb_0); exact z9 ▸ i9
  refine lv_iconst (v := 0) hx hb dc_X9_part_6 (by decide) ?_
  refine ky_cV1 (As := [.int ((0 : Int32))]) F (hE.at hfr hS) (mt_X8_rounded l G (b_0) (((w.2.2.2.2) (a1).toNatClampNeg)) ((0 : Int32))) kv_X9_177 ⟨⟨rfl, rfl⟩, by decide, by decide⟩ rfl hl.1 rfl (Nat.le_of_ble_eq_true rfl) ⟨Nat.le_of_ble_eq_true rfl, Nat.le_of_ble_eq_true rfl⟩ (va_recv hE.1 hI_0 (ci := 4) (q0 := 0) rfl rfl) hI_0 dc_X9_part_7 ?_
  refine lv_iload_n hx hb dc_X9_part_10 rfl (lv_at hl 2 rfl) ?_
  refine lv_if_eq (tgt := 19) hx hb dc_X9_part_11 (by decide) (fun c_1 => ?_) (fun c_1 => ?_)
  · have hw := hw.trans (if_pos c_1)
    refine lv_iconst (v := 0) hx hb dc_X9_part_19 (by decide) ?_
    refine lv_lshr (v := jlshr (fn_X8_rounded ((0 : Int32)) ((w.2.2.2.2) (a1).toNatClampNeg)) ((0 : Int32))) hx hb dc_X9_part_20 rfl ?_
    refine lv_l2i (v := (jlshr (fn_X8_rounded ((0 : Int32)) ((w.2.2.2.2) (a1).toNatClampNeg)) ((0 : Int32))).toInt32) hx hb dc_X9_part_21 rfl ?_
    have hP9 : va_P G.1 kcl (ky_WM G mo cs (w) (f)) s.heap := hP.sub [0, 1] rfl
    have hD9 : va_D A (ky_WM G mo cs (w) (f)) := hD.sub [0, 1] (by decide) rfl
    refine W.widen (k := 0) (n := 0) (Nat.le_of_ble_eq_true rfl) (Nat.le_of_ble_eq_true rfl) ?_
    exact W.iret (v := (jlshr (fn_X8_rounded ((0 : Int32)) ((w.2.2.2.2) (a1).toNatClampNeg)) ((0 : Int32))).toInt32) hx hb hr (fun t ht hW => ⟨by rw [ht]; exact ky_endM (fun z => some (.int z)) ((jlshr (fn_X8_rounded ((0 : Int32)) ((w.2.2.2.2) (a1).toNatClampNeg)) ((0 : Int32))).toInt32) hw hP9 hD9 (hIT), hS.F ht⟩) hS.2.2 dc_X9_part_22
  · have hw := hw.trans (if_neg c_1)
    refine lv_bipush (v := 32) hx hb dc_X9_part_14 (by decide) ?_
    refine lv_goto (tgt := 20) hx hb dc_X9_part_16 (by decide) ?_
    refine lv_lshr (v := jlshr (fn_X8_rounded ((0 : Int32)) ((w.2.2.2.2) (a1).toNatClampNeg)) ((32 : Int32))) hx hb dc_X9_part_20 rfl ?_
    refine lv_l2i (v := (jlshr (fn_X8_rounded ((0 : Int32)) ((w.2.2.2.2) (a1).toNatClampNeg)) ((32 : Int32))).toInt32) hx hb dc_X9_part_21 rfl ?_
    have hP9 : va_P G.1 kcl (ky_WM G mo cs (w) (f)) s.heap := hP.sub [0, 1] rfl
    have hD9 : va_D A (ky_WM G mo cs (w) (f)) := hD.sub [0, 1] (by decide) rfl
    refine W.widen (k := 0) (n := 0) (Nat.le_of_ble_eq_true rfl) (Nat.le_of_ble_eq_true rfl) ?_
    exact W.iret (v := (jlshr (fn_X8_rounded ((0 : Int32)) ((w.2.2.2.2) (a1).toNatClampNeg)) ((32 : Int32))).toInt32) hx hb hr (fun t ht hW => ⟨by rw [ht]; exact ky_endM (fun z => some (.int z)) ((jlshr (fn_X8_rounded ((0 : Int32)) ((w.2.2.2.2) (a1).toNatClampNeg)) ((32 : Int32))).toInt32) hw hP9 hD9 (hIT), hS.F ht⟩) hS.2.2 dc_X9_part_22
end
section
def fn_X9_round (a1 : Int32) (a2 : Int32)  (w : ky_MV) : Int32 × ky_MV :=
  if (jst (fn_X9_isNo (a1))) = (0 : Int32) then (((fn_X9_part (a1) (a2) (jst (fn_X9_isNo (a1)), w.2.1, w.2.2.1, w.2.2.2.1, w.2.2.2.2)).1, ((fn_X9_part (a1) (a2) (jst (fn_X9_isNo (a1)), w.2.1, w.2.2.1, w.2.2.2.1, w.2.2.2.2)).2))) else (((0 : Int32), (jst (fn_X9_isNo (a1)), w.2.1, w.2.2.1, w.2.2.2.1, w.2.2.2.2)))
set_option linter.constructorNameAsVariable false in
set_option maxHeartbeats 4000000 in
set_option maxRecDepth 100000 in
theorem mt_X9_round (l : Launch) (G : ky_G) (mo cs : Nat) (N : Nat → Prop) (w : ky_MV) (f : Nat → Option Nat)    (a1 : Int32) (a2 : Int32) (sz : Nat) : Met l my_X9_round (.code my_X9_round prog_10_method_45_code 3 (some .int) :: ky_B) { frames := 6, cells := 0, slots := 0, locals := 132 } (ky_P G [.ref mo, .int (a1), .int (a2)] (ky_WM G mo cs w f) sz (fun H => ky_IT G mo cs N f w.2.2.2.2 H)) (ky_Q (S := ky_MV × (Nat → Option Nat)) G (va_A (ky_WM G mo cs w f) sz) (fun v u => v = some (.int (fn_X9_round a1 a2 w).1) ∧ u.1 = (fn_X9_round a1 a2 w).2) (fun u => ky_WM G mo cs u.1 u.2) (fun u H => ky_IT G mo cs N u.2 u.1.2.2.2.2 H)) 0 0 (va_A (ky_WM G mo cs w f) sz) := by
  refine ky_start (by decide) (Nat.le_of_ble_eq_true rfl) (fun p e s m below meth c F hE A hAe hsz hA hfr hP hD hS hX ls hl => ?_)
  obtain ⟨hx, hb, hml, hown, hr, hlocks, hts⟩ := id F
  have hIT0 := hX
  have hIT := hIT0
  have hl : lv_has ls 3 [(0, .ref mo), (1, .int (a1)), (2, .int (a2))] := hl
  have hP : va_P G.1 kcl [(mo, .inr (5, [.int (w.1), .ref cs, .int (w.2.1), .int (w.2.2.1), .int (w.2.2.2.1)])), (cs, .inl (G.2.1 3, 6, .inr (.inr (.inr (.inr (f))))))] s.heap := hP
  have hD : va_D A [(mo, .inr (5, [.int (w.1), .ref cs, .int (w.2.1), .int (w.2.2.1), .int (w.2.2.2.1)])), (cs, .inl (G.2.1 3, 6, .inr (.inr (.inr (.inr (f))))))] := hD
  have hw : fn_X9_round a1 a2 w = _ := fn_X9_round.eq_1 a1 a2 w
  refine lv_aload_n hx hb dc_X9_round_0 rfl (lv_at hl 0 rfl) ?_
  refine lv_iload_n hx hb dc_X9_round_1 rfl (lv_at hl 1 rfl) ?_
  refine ky_cS0 (As := [.int (a1)]) F (mt_X9_isNo l (a1)) ks_X9_51 ⟨⟨rfl, rfl⟩, by decide, by decide⟩ rfl hl.1 rfl (Nat.le_of_ble_eq_true rfl) ⟨Nat.le_of_ble_eq_true rfl, Nat.le_of_ble_eq_true rfl⟩ dc_X9_round_2 ?_
  refine ky_cVh (As := [.int (fn_X9_isNo (a1))]) (wr := []) F (hE.at hfr hS) hfr (mt_X9_startJ l G (mo) (cs) ((w.1, w.2.1, w.2.2.1, w.2.2.2.1)) (f) (fn_X9_isNo (a1)) s.heap.size ) kv_X9_55 ⟨⟨rfl, rfl⟩, by decide, by decide⟩ rfl hl.1 rfl (Nat.le_of_ble_eq_true rfl) ⟨Nat.le_of_ble_eq_true rfl, Nat.le_of_ble_eq_true rfl⟩ (va_recv hE.1 hP (ci := 5) (q0 := 0) rfl rfl) trivial hP hD hS hA [0, 1] [] rfl rfl (by decide) (by decide) (by decide) dc_X9_round_5 ?_
  rintro v9 u9 H locs ⟨rfl, rfl⟩ hP hD hS - hz hk9
  obtain ⟨j_1, hj_1⟩ : ∃ j9, j9 = jst (fn_X9_isNo (a1)) := ⟨_, rfl⟩
  rw [← hj_1] at hP hD ⊢
  try rw [← hj_1] at hw
  have hP : va_P G.1 kcl [(mo, .inr (5, [.int (j_1), .ref cs, .int (w.2.1), .int (w.2.2.1), .int (w.2.2.2.1)])), (cs, .inl (G.2.1 3, 6, .inr (.inr (.inr (.inr (f))))))] H := hP
  have hD : va_D A [(mo, .inr (5, [.int (j_1), .ref cs, .int (w.2.1), .int (w.2.2.1), .int (w.2.2.2.1)])), (cs, .inl (G.2.1 3, 6, .inr (.inr (.inr (.inr (f))))))] := hD
  have hIT := hIT0.ro hAe hS
  refine W.widen (k := 0) (n := 0) (Nat.le_refl _) (Nat.le_refl _) ?_
  refine lv_if_eq (tgt := 15) hx hb dc_X9_round_8 (by decide) (fun c_2 => ?_) (fun c_2 => ?_)
  · have hw := hw.trans (if_pos c_2)
    refine lv_aload_n hx hb dc_X9_round_15 rfl (lv_at hl 0 rfl) ?_
    refine lv_iload_n hx hb dc_X9_round_16 rfl (lv_at hl 1 rfl) ?_
    refine lv_iload_n hx hb dc_X9_round_17 rfl (lv_at hl 2 rfl) ?_
    refine ky_cVh (As := [.int (a1), .int (a2)]) (wr := []) F (hE.at hfr hS) hfr (mt_X9_part l G mo cs N (j_1, w.2.1, w.2.2.1, w.2.2.2.1, w.2.2.2.2) (f)    (a1) (a2) H.size (lr_start (hj_1.symm.trans c_2))) kv_X9_181 ⟨⟨rfl, rfl⟩, by decide, by decide⟩ rfl hl.1 rfl (Nat.le_of_ble_eq_true rfl) ⟨Nat.le_of_ble_eq_true rfl, Nat.le_of_ble_eq_true rfl⟩ (va_recv hE.1 hP (ci := 5) (q0 := 0) rfl rfl) hIT hP hD hS hA [0, 1] [] rfl rfl (by decide) (by decide) (by decide) dc_X9_round_18 ?_
    rintro v9 ⟨w_3, f_3⟩ H locs ⟨rfl, hw_3⟩ hP hD hS hIT9 hz hk9
    have hw_3 : w_3 = (fn_X9_part (a1) (a2) (j_1, w.2.1, w.2.2.1, w.2.2.2.1, w.2.2.2.2)).2 := hw_3
    try rw [← hw_3] at hw
    have hP : va_P G.1 kcl [(mo, .inr (5, [.int ((w_3).1), .ref cs, .int ((w_3).2.1), .int ((w_3).2.2.1), .int ((w_3).2.2.2.1)])), (cs, .inl (G.2.1 3, 6, .inr (.inr (.inr (.inr (f_3))))))] H := hP
    have hD : va_D A [(mo, .inr (5, [.int ((w_3).1), .ref cs, .int ((w_3).2.1), .int ((w_3).2.2.1), .int ((w_3).2.2.2.1)])), (cs, .inl (G.2.1 3, 6, .inr (.inr (.inr (.inr (f_3))))))] := hD
    have hIT : ky_IT G mo cs N f_3 ((w_3).2.2.2.2) H := hIT9
    refine W.widen (k := 0) (n := 0) (Nat.le_refl _) (Nat.le_refl _) ?_
    have hP9 : va_P G.1 kcl (ky_WM G mo cs ((w_3)) (f_3)) H := hP.sub [0, 1] rfl
    have hD9 : va_D A (ky_WM G mo cs ((w_3)) (f_3)) := hD.sub [0, 1] (by decide) rfl
    refine W.widen (k := 0) (n := 0) (Nat.le_of_ble_eq_true rfl) (Nat.le_of_ble_eq_true rfl) ?_
    exact W.iret (v := (fn_X9_part (a1) (a2) (j_1, w.2.1, w.2.2.1, w.2.2.2.1, w.2.2.2.2)).1) hx hb hr (fun t ht hW => ⟨by rw [ht]; exact ky_endM (fun z => some (.int z)) ((fn_X9_part (a1) (a2) (j_1, w.2.1, w.2.2.1, w.2.2.2.1, w.2.2.2.2)).1) hw hP9 hD9 (hIT), hS.F ht⟩) hS.2.2 dc_X9_round_21
  · have hw := hw.trans (if_neg c_2)
    refine lv_iconst (v := 0) hx hb dc_X9_round_11 (by decide) ?_
    refine lv_goto (tgt := 21) hx hb dc_X9_round_12 (by decide) ?_
    have hP9 : va_P G.1 kcl (ky_WM G mo cs ((j_1, w.2.1, w.2.2.1, w.2.2.2.1, w.2.2.2.2)) (f)) H := hP.sub [0, 1] rfl
    have hD9 : va_D A (ky_WM G mo cs ((j_1, w.2.1, w.2.2.1, w.2.2.2.1, w.2.2.2.2)) (f)) := hD.sub [0, 1] (by decide) rfl
    refine W.widen (k := 0) (n := 0) (Nat.le_of_ble_eq_true rfl) (Nat.le_of_ble_eq_true rfl) ?_
    exact W.iret (v := (0 : Int32)) hx hb hr (fun t ht hW => ⟨by rw [ht]; exact ky_endM (fun z => some (.int z)) ((0 : Int32)) hw hP9 hD9 (hIT), hS.F ht⟩) hS.2.2 dc_X9_round_21
end
section
def fn_X9_shortNow (a1 : Int32)  (w : ky_MV) : Int32 × ky_MV :=
  ((jlmax ((-2147483648 : Int64)) (jlmin ((2147483647 : Int64)) (fn_X8_rounded ((1 : Int32)) ((w.2.2.2.2) (a1).toNatClampNeg)))).toInt32, w)
set_option linter.constructorNameAsVariable false in
set_option maxHeartbeats 4000000 in
set_option maxRecDepth 100000 in
theorem mt_X9_shortNow (l : Launch) (G : ky_G) (mo cs : Nat) (N : Nat → Prop) (w : ky_MV) (f : Nat → Option Nat)    (a1 : Int32) (sz : Nat) (h1 : vp_in (a1) 6) : Met l my_X9_shortNow (.code my_X9_shortNow prog_10_method_49_code 2 (some .int) :: ky_B) { frames := 5, cells := 0, slots := 0, locals := 110 } (ky_P G [.ref mo, .int (a1)] (ky_WM G mo cs w f) sz (fun H => ky_IT G mo cs N f w.2.2.2.2 H)) (ky_Q (S := ky_MV × (Nat → Option Nat)) G (va_A (ky_WM G mo cs w f) sz) (fun v u => v = some (.int (fn_X9_shortNow a1 w).1) ∧ u.1 = (fn_X9_shortNow a1 w).2) (fun u => ky_WM G mo cs u.1 u.2) (fun u H => ky_IT G mo cs N u.2 u.1.2.2.2.2 H)) 0 0 (va_A (ky_WM G mo cs w f) sz) := by
  refine ky_start (by decide) (Nat.le_of_ble_eq_true rfl) (fun p e s m below meth c F hE A hAe hsz hA hfr hP hD hS hX ls hl => ?_)
  obtain ⟨hx, hb, hml, hown, hr, hlocks, hts⟩ := id F
  have hIT0 := hX
  have hIT := hIT0
  have hl : lv_has ls 2 [(0, .ref mo), (1, .int (a1))] := hl
  have hP : va_P G.1 kcl [(mo, .inr (5, [.int (w.1), .ref cs, .int (w.2.1), .int (w.2.2.1), .int (w.2.2.2.1)])), (cs, .inl (G.2.1 3, 6, .inr (.inr (.inr (.inr (f))))))] s.heap := hP
  have hD : va_D A [(mo, .inr (5, [.int (w.1), .ref cs, .int (w.2.1), .int (w.2.2.1), .int (w.2.2.2.1)])), (cs, .inl (G.2.1 3, 6, .inr (.inr (.inr (.inr (f))))))] := hD
  have hw : fn_X9_shortNow a1 w = _ := fn_X9_shortNow.eq_1 a1 w
  refine lv_ldc2 (v := (-2147483648)) hx hb hown (hts _ kw_7_133) dc_X9_shortNow_0 ?_
  refine lv_ldc2 (v := 2147483647) hx hb hown (hts _ kw_7_134) dc_X9_shortNow_3 ?_
  refine lv_aload_n hx hb dc_X9_shortNow_6 rfl (lv_at hl 0 rfl) ?_
  refine va_get (D := G.1) (ci := 5) (v := .ref cs) (C := RX9) (T := TX9) (N := 5) hx hb hts ki_X9 hown hE.1 hP 0 rfl rfl 1 (by decide) (hts _ kw_6_20) (fun _ h9 => h9) rfl dc_X9_shortNow_7 ?_
  refine lv_iload_n hx hb dc_X9_shortNow_10 rfl (lv_at hl 1 rfl) ?_
  refine va_aldq hx hb hE.1 hP 1 3 rfl rfl h1 dc_X9_shortNow_11 ?_
  obtain ⟨b_0, hb_0, hI_0, ho_0⟩ := hIT.2 _ (ky_i6 h1)
  rw [ky_rf hb_0]
  have hX_0 : ky_It G b_0 ((w.2.2.2.2) (a1).toNatClampNeg) s.heap := by obtain ⟨b9, e9, i9, -⟩ := hIT0.2 _ (ky_i6 h1); have z9 : b9 = b_0 := Option.some.inj (e9.symm.trans hb_0); exact z9 ▸ i9
  refine lv_iconst (v := 1) hx hb dc_X9_shortNow_12 (by decide) ?_
  refine ky_cV1 (As := [.int ((1 : Int32))]) F (hE.at hfr hS) (mt_X8_rounded l G (b_0) (((w.2.2.2.2) (a1).toNatClampNeg)) ((1 : Int32))) kv_X9_177 ⟨⟨rfl, rfl⟩, by decide, by decide⟩ rfl hl.1 rfl (Nat.le_of_ble_eq_true rfl) ⟨Nat.le_of_ble_eq_true rfl, Nat.le_of_ble_eq_true rfl⟩ (va_recv hE.1 hI_0 (ci := 4) (q0 := 0) rfl rfl) hI_0 dc_X9_shortNow_13 ?_
  refine ky_lmin F ⟨kw_7_135, kw_4_32, kw_1_16, kw_4_33⟩ hl.1 (Nat.le_of_ble_eq_true rfl) (Nat.le_of_ble_eq_true rfl) ⟨Nat.le_of_ble_eq_true rfl, Nat.le_of_ble_eq_true rfl⟩ dc_X9_shortNow_16 ?_
  refine ky_lmax F ⟨kw_7_136, kw_4_35, kw_1_16, kw_4_36⟩ hl.1 (Nat.le_of_ble_eq_true rfl) (Nat.le_of_ble_eq_true rfl) ⟨Nat.le_of_ble_eq_true rfl, Nat.le_of_ble_eq_true rfl⟩ dc_X9_shortNow_19 ?_
  refine lv_l2i (v := (jlmax ((-2147483648 : Int64)) (jlmin ((2147483647 : Int64)) (fn_X8_rounded ((1 : Int32)) ((w.2.2.2.2) (a1).toNatClampNeg)))).toInt32) hx hb dc_X9_shortNow_22 rfl ?_
  have hP9 : va_P G.1 kcl (ky_WM G mo cs (w) (f)) s.heap := hP.sub [0, 1] rfl
  have hD9 : va_D A (ky_WM G mo cs (w) (f)) := hD.sub [0, 1] (by decide) rfl
  refine W.widen (k := 0) (n := 0) (Nat.le_of_ble_eq_true rfl) (Nat.le_of_ble_eq_true rfl) ?_
  exact W.iret (v := (jlmax ((-2147483648 : Int64)) (jlmin ((2147483647 : Int64)) (fn_X8_rounded ((1 : Int32)) ((w.2.2.2.2) (a1).toNatClampNeg)))).toInt32) hx hb hr (fun t ht hW => ⟨by rw [ht]; exact ky_endM (fun z => some (.int z)) ((jlmax ((-2147483648 : Int64)) (jlmin ((2147483647 : Int64)) (fn_X8_rounded ((1 : Int32)) ((w.2.2.2.2) (a1).toNatClampNeg)))).toInt32) hw hP9 hD9 (hIT), hS.F ht⟩) hS.2.2 dc_X9_shortNow_23
end
section
def fn_X9_shortened (a1 : Int32)  (w : ky_MV) : Int32 × ky_MV :=
  if (jst (fn_X9_isNo (a1))) = (0 : Int32) then (((fn_X9_shortNow (a1) (jst (fn_X9_isNo (a1)), w.2.1, w.2.2.1, w.2.2.2.1, w.2.2.2.2)).1, ((fn_X9_shortNow (a1) (jst (fn_X9_isNo (a1)), w.2.1, w.2.2.1, w.2.2.2.1, w.2.2.2.2)).2))) else (((0 : Int32), (jst (fn_X9_isNo (a1)), w.2.1, w.2.2.1, w.2.2.2.1, w.2.2.2.2)))
set_option linter.constructorNameAsVariable false in
set_option maxHeartbeats 4000000 in
set_option maxRecDepth 100000 in
theorem mt_X9_shortened (l : Launch) (G : ky_G) (mo cs : Nat) (N : Nat → Prop) (w : ky_MV) (f : Nat → Option Nat)    (a1 : Int32) (sz : Nat) : Met l my_X9_shortened (.code my_X9_shortened prog_10_method_50_code 2 (some .int) :: ky_B) { frames := 6, cells := 0, slots := 0, locals := 131 } (ky_P G [.ref mo, .int (a1)] (ky_WM G mo cs w f) sz (fun H => ky_IT G mo cs N f w.2.2.2.2 H)) (ky_Q (S := ky_MV × (Nat → Option Nat)) G (va_A (ky_WM G mo cs w f) sz) (fun v u => v = some (.int (fn_X9_shortened a1 w).1) ∧ u.1 = (fn_X9_shortened a1 w).2) (fun u => ky_WM G mo cs u.1 u.2) (fun u H => ky_IT G mo cs N u.2 u.1.2.2.2.2 H)) 0 0 (va_A (ky_WM G mo cs w f) sz) := by
  refine ky_start (by decide) (Nat.le_of_ble_eq_true rfl) (fun p e s m below meth c F hE A hAe hsz hA hfr hP hD hS hX ls hl => ?_)
  obtain ⟨hx, hb, hml, hown, hr, hlocks, hts⟩ := id F
  have hIT0 := hX
  have hIT := hIT0
  have hl : lv_has ls 2 [(0, .ref mo), (1, .int (a1))] := hl
  have hP : va_P G.1 kcl [(mo, .inr (5, [.int (w.1), .ref cs, .int (w.2.1), .int (w.2.2.1), .int (w.2.2.2.1)])), (cs, .inl (G.2.1 3, 6, .inr (.inr (.inr (.inr (f))))))] s.heap := hP
  have hD : va_D A [(mo, .inr (5, [.int (w.1), .ref cs, .int (w.2.1), .int (w.2.2.1), .int (w.2.2.2.1)])), (cs, .inl (G.2.1 3, 6, .inr (.inr (.inr (.inr (f))))))] := hD
  have hw : fn_X9_shortened a1 w = _ := fn_X9_shortened.eq_1 a1 w
  refine lv_aload_n hx hb dc_X9_shortened_0 rfl (lv_at hl 0 rfl) ?_
  refine lv_iload_n hx hb dc_X9_shortened_1 rfl (lv_at hl 1 rfl) ?_
  refine ky_cS0 (As := [.int (a1)]) F (mt_X9_isNo l (a1)) ks_X9_51 ⟨⟨rfl, rfl⟩, by decide, by decide⟩ rfl hl.1 rfl (Nat.le_of_ble_eq_true rfl) ⟨Nat.le_of_ble_eq_true rfl, Nat.le_of_ble_eq_true rfl⟩ dc_X9_shortened_2 ?_
  refine ky_cVh (As := [.int (fn_X9_isNo (a1))]) (wr := []) F (hE.at hfr hS) hfr (mt_X9_startJ l G (mo) (cs) ((w.1, w.2.1, w.2.2.1, w.2.2.2.1)) (f) (fn_X9_isNo (a1)) s.heap.size ) kv_X9_55 ⟨⟨rfl, rfl⟩, by decide, by decide⟩ rfl hl.1 rfl (Nat.le_of_ble_eq_true rfl) ⟨Nat.le_of_ble_eq_true rfl, Nat.le_of_ble_eq_true rfl⟩ (va_recv hE.1 hP (ci := 5) (q0 := 0) rfl rfl) trivial hP hD hS hA [0, 1] [] rfl rfl (by decide) (by decide) (by decide) dc_X9_shortened_5 ?_
  rintro v9 u9 H locs ⟨rfl, rfl⟩ hP hD hS - hz hk9
  obtain ⟨j_1, hj_1⟩ : ∃ j9, j9 = jst (fn_X9_isNo (a1)) := ⟨_, rfl⟩
  rw [← hj_1] at hP hD ⊢
  try rw [← hj_1] at hw
  have hP : va_P G.1 kcl [(mo, .inr (5, [.int (j_1), .ref cs, .int (w.2.1), .int (w.2.2.1), .int (w.2.2.2.1)])), (cs, .inl (G.2.1 3, 6, .inr (.inr (.inr (.inr (f))))))] H := hP
  have hD : va_D A [(mo, .inr (5, [.int (j_1), .ref cs, .int (w.2.1), .int (w.2.2.1), .int (w.2.2.2.1)])), (cs, .inl (G.2.1 3, 6, .inr (.inr (.inr (.inr (f))))))] := hD
  have hIT := hIT0.ro hAe hS
  refine W.widen (k := 0) (n := 0) (Nat.le_refl _) (Nat.le_refl _) ?_
  refine lv_if_eq (tgt := 15) hx hb dc_X9_shortened_8 (by decide) (fun c_2 => ?_) (fun c_2 => ?_)
  · have hw := hw.trans (if_pos c_2)
    refine lv_aload_n hx hb dc_X9_shortened_15 rfl (lv_at hl 0 rfl) ?_
    refine lv_iload_n hx hb dc_X9_shortened_16 rfl (lv_at hl 1 rfl) ?_
    refine ky_cVh (As := [.int (a1)]) (wr := []) F (hE.at hfr hS) hfr (mt_X9_shortNow l G mo cs N (j_1, w.2.1, w.2.2.1, w.2.2.2.1, w.2.2.2.2) (f)    (a1) H.size (lr_start (hj_1.symm.trans c_2))) kv_X9_214 ⟨⟨rfl, rfl⟩, by decide, by decide⟩ rfl hl.1 rfl (Nat.le_of_ble_eq_true rfl) ⟨Nat.le_of_ble_eq_true rfl, Nat.le_of_ble_eq_true rfl⟩ (va_recv hE.1 hP (ci := 5) (q0 := 0) rfl rfl) hIT hP hD hS hA [0, 1] [] rfl rfl (by decide) (by decide) (by decide) dc_X9_shortened_17 ?_
    rintro v9 ⟨w_3, f_3⟩ H locs ⟨rfl, hw_3⟩ hP hD hS hIT9 hz hk9
    have hw_3 : w_3 = (fn_X9_shortNow (a1) (j_1, w.2.1, w.2.2.1, w.2.2.2.1, w.2.2.2.2)).2 := hw_3
    try rw [← hw_3] at hw
    have hP : va_P G.1 kcl [(mo, .inr (5, [.int ((w_3).1), .ref cs, .int ((w_3).2.1), .int ((w_3).2.2.1), .int ((w_3).2.2.2.1)])), (cs, .inl (G.2.1 3, 6, .inr (.inr (.inr (.inr (f_3))))))] H := hP
    have hD : va_D A [(mo, .inr (5, [.int ((w_3).1), .ref cs, .int ((w_3).2.1), .int ((w_3).2.2.1), .int ((w_3).2.2.2.1)])), (cs, .inl (G.2.1 3, 6, .inr (.inr (.inr (.inr (f_3))))))] := hD
    have hIT : ky_IT G mo cs N f_3 ((w_3).2.2.2.2) H := hIT9
    refine W.widen (k := 0) (n := 0) (Nat.le_refl _) (Nat.le_refl _) ?_
    have hP9 : va_P G.1 kcl (ky_WM G mo cs ((w_3)) (f_3)) H := hP.sub [0, 1] rfl
    have hD9 : va_D A (ky_WM G mo cs ((w_3)) (f_3)) := hD.sub [0, 1] (by decide) rfl
    refine W.widen (k := 0) (n := 0) (Nat.le_of_ble_eq_true rfl) (Nat.le_of_ble_eq_true rfl) ?_
    exact W.iret (v := (fn_X9_shortNow (a1) (j_1, w.2.1, w.2.2.1, w.2.2.2.1, w.2.2.2.2)).1) hx hb hr (fun t ht hW => ⟨by rw [ht]; exact ky_endM (fun z => some (.int z)) ((fn_X9_shortNow (a1) (j_1, w.2.1, w.2.2.1, w.2.2.2.1, w.2.2.2.2)).1) hw hP9 hD9 (hIT), hS.F ht⟩) hS.2.2 dc_X9_shortened_20
  · have hw := hw.trans (if_neg c_2)
    refine lv_iconst (v := 0) hx hb dc_X9_shortened_11 (by decide) ?_
    refine lv_goto (tgt := 20) hx hb dc_X9_shortened_12 (by decide) ?_
    have hP9 : va_P G.1 kcl (ky_WM G mo cs ((j_1, w.2.1, w.2.2.1, w.2.2.2.1, w.2.2.2.2)) (f)) H := hP.sub [0, 1] rfl
    have hD9 : va_D A (ky_WM G mo cs ((j_1, w.2.1, w.2.2.1, w.2.2.2.1, w.2.2.2.2)) (f)) := hD.sub [0, 1] (by decide) rfl
    refine W.widen (k := 0) (n := 0) (Nat.le_of_ble_eq_true rfl) (Nat.le_of_ble_eq_true rfl) ?_
    exact W.iret (v := (0 : Int32)) hx hb hr (fun t ht hW => ⟨by rw [ht]; exact ky_endM (fun z => some (.int z)) ((0 : Int32)) hw hP9 hD9 (hIT), hS.F ht⟩) hS.2.2 dc_X9_shortened_20
end
