section KYLC
variable {p : Program} {l : Launch} {e : Env} {s : State} {m : MethodId} {below : List Frame} {meth : Method} {c : Code} {H : Heap} {locs : List Loc} {cells slots : Nat} {Q : State → Prop} {ls : Array Slot} {A : Nat → Prop} {G : ky_G} {b L : Nat} {xs : Nat → Int32}
variable {x cs sc pf fg bb tk o mo ms : Nat} {r : Nat → Nat} {u : ky_BS} {t : ky_SV} {g : Nat → Nat → Int64} {nn : Int64} {sv : Value} {w : ky_MV} {f : Nat → Option Nat}
set_option linter.constructorNameAsVariable false in
set_option maxHeartbeats 4000000 in
set_option maxRecDepth 100000 in
theorem lc_16 (hl9 : l.stackTraces = false) (F : ky_F p s m meth c "ExactdoublesLaw" code 7 ret #[Value.ref b]) (hE : ky_E G s) (hfr : ∀ q, A q → ky_fr G q) (hA : ∀ q, s.heap.size ≤ q → A q)
    (hXX : va_X b L xs s s.heap) (hbl : b < s.heap.size) (hbA : ¬ A b) {i : Int32} (h1 : vp_in ((i) + ((1 : Int32))) L) (h2 : vp_in ((i) + ((2 : Int32))) L) (h3 : vp_in ((i) + ((3 : Int32))) L) (hl : lv_has ls 7 [(0, .ref b), (1, .ref x), (2, .ref mo), (3, .ref o), (4, .int (i))])
    (hsk : ky_sok t) (hsi : ky_SI u w) (hP : va_P G.1 kcl (ky_LW G x cs sc pf fg bb tk o mo ms r u t g nn sv w f) H) (hD : va_D A (ky_LW G x cs sc pf fg bb tk o mo ms r u t g nn sv w f)) (hS : va_S A s.heap H locs) (hIT : ky_IT G mo ms (fun _ => False) f w.2.2.2.2 H) (hcc : cells + 544 ≤ 602769) (hss : slots + 12088 ≤ 7287796)
    (KK : ∀ (u : ky_BS) (t : ky_SV) (g : Nat → Nat → Int64) (nn : Int64) (sv : Value) (w : ky_MV) (f : Nat → Option Nat) (H : Heap) (locs : List Loc) (ls : Array Slot), ky_sok t → ky_SI u w → lv_has ls 7 [(0, .ref b), (1, .ref x), (2, .ref mo), (3, .ref o), (4, .int (i))] → va_P G.1 kcl (ky_LW G x cs sc pf fg bb tk o mo ms r u t g nn sv w f) H → va_D A (ky_LW G x cs sc pf fg bb tk o mo ms r u t g nn sv w f) → va_S A s.heap H locs → ky_IT G mo ms (fun _ => False) f w.2.2.2.2 H →
      W p l e room_1 s m #[Value.ref b] below meth c H locs (cells + 544) (slots + 12088) Q (F0 m 2294 ls [])) : W p l e room_1 s m #[Value.ref b] below meth c H locs cells slots Q (F0 m 1008 ls []) := by
  obtain ⟨hx, hb, hml, hown, hr, hlocks, hts⟩ := id F
  refine lv_aload_n hx hb dc_L_law_1008 rfl (lv_at hl 1 rfl) ?_
  refine lv_aload_n hx hb dc_L_law_1009 rfl (lv_at hl 0 rfl) ?_
  refine lv_iload hx hb dc_L_law_1010 (lv_at hl 4 rfl) ?_
  refine lv_iconst (v := 1) hx hb dc_L_law_1012 (by decide) ?_
  refine lv_iadd hx hb dc_L_law_1013 ?_
  refine va_sld hx hb hXX hbl hbA hS h1 dc_L_law_1014 ?_
  generalize hy1 : xs (((i) + ((1 : Int32)))).toNatClampNeg = y1
  refine lv_aload_n hx hb dc_L_law_1015 rfl (lv_at hl 0 rfl) ?_
  refine lv_iload hx hb dc_L_law_1016 (lv_at hl 4 rfl) ?_
  refine lv_iconst (v := 2) hx hb dc_L_law_1018 (by decide) ?_
  refine lv_iadd hx hb dc_L_law_1019 ?_
  refine va_sld hx hb hXX hbl hbA hS h2 dc_L_law_1020 ?_
  generalize hy2 : xs (((i) + ((2 : Int32)))).toNatClampNeg = y2
  refine lv_aload_n hx hb dc_L_law_1021 rfl (lv_at hl 3 rfl) ?_
  refine cl_num (As := [.ref x, .int (y1), .int (y2), .ref o]) F hE hfr hA (mt_L_step l hl9 G x cs sc pf u o nn sv (y1) (y2) H.size) kH_L_236 ⟨⟨rfl, rfl⟩, Nat.le_of_ble_eq_true rfl, Nat.le_of_ble_eq_true rfl⟩ rfl hl.1 rfl (Nat.le_of_ble_eq_true rfl) ⟨by show (_ : Nat) ≤ 602769; omega, by show (_ : Nat) ≤ 7287796; omega⟩ hP hD hS hIT dc_L_law_1022 ?_
  rintro v9 ⟨u_0, n_0⟩ H locs ⟨rfl, hz_0⟩ hP hD hS hIT
  have hP : va_P G.1 kcl (ky_LW G x cs sc pf fg bb tk o mo ms r u_0 t g n_0 sv w f) H := hP
  have hD : va_D A (ky_LW G x cs sc pf fg bb tk o mo ms r u_0 t g n_0 sv w f) := hD
  have hu_0 : u_0 = (ky_lw (fn_X6_step (y1) (y2) u) u nn).2.1 := congrArg Prod.fst hz_0
  generalize hj_0 : (ky_lw (fn_X6_step (y1) (y2) u) u nn).1 = j_0
  refine W.widen (k := cells + 2) (n := slots + 12) (by omega) (by omega) ?_
  refine lv_istore (lv' := [(5, .int (j_0)), (0, .ref b), (1, .ref x), (2, .ref mo), (3, .ref o), (4, .int (i))]) hx hb dc_L_law_1025 hl (by decide) rfl (fun ls hl => ?_)
  refine lv_aload_n hx hb dc_L_law_1027 rfl (lv_at hl 3 rfl) ?_
  refine lv_aload_n hx hb dc_L_law_1028 rfl (lv_at hl 1 rfl) ?_
  refine lv_iload hx hb dc_L_law_1029 (lv_at hl 5 rfl) ?_
  refine lv_iconst (v := 1) hx hb dc_L_law_1031 (by decide) ?_
  refine lv_iadd hx hb dc_L_law_1032 ?_
  refine va_sld hx hb hXX hbl hbA hS h1 dc_L_law_1033 ?_
  rw [hy1]
  refine lv_aload_n hx hb dc_L_law_1034 rfl (lv_at hl 1 rfl) ?_
  refine lv_iload hx hb dc_L_law_1035 (lv_at hl 5 rfl) ?_
  refine lv_iconst (v := 2) hx hb dc_L_law_1037 (by decide) ?_
  refine lv_iadd hx hb dc_L_law_1038 ?_
  refine va_sld hx hb hXX hbl hbA hS h2 dc_L_law_1039 ?_
  rw [hy2]
  refine cl_mm (As := [.int (y1), .int (y2)]) F hE hfr hA (mt_X9_step l G mo ms (fun _ => False) w f (y1) (y2) H.size (ok_X9_step (y1) (y2) w)) kv_L_238 ⟨⟨rfl, rfl⟩, Nat.le_of_ble_eq_true rfl, Nat.le_of_ble_eq_true rfl⟩ rfl hl.1 rfl (Nat.le_of_ble_eq_true rfl) ⟨by show (_ : Nat) ≤ 602769; omega, by show (_ : Nat) ≤ 7287796; omega⟩ hP hD hS hIT rfl dc_L_law_1040 ?_
  rintro v9 ⟨w_1, f_1⟩ H locs ⟨rfl, hz_1⟩ hP hD hS hIT
  have hP : va_P G.1 kcl (ky_LW G x cs sc pf fg bb tk o mo ms r u_0 t g n_0 sv w_1 f_1) H := hP
  have hD : va_D A (ky_LW G x cs sc pf fg bb tk o mo ms r u_0 t g n_0 sv w_1 f_1) := hD
  generalize hj_1 : (fn_X9_step (y1) (y2) w).1 = j_1
  have hsi_1 : ky_SI u_0 w_1 := by rw [hu_0, show w_1 = (fn_X9_step (y1) (y2) w).2 from hz_1]; exact si_step (y1) (y2) u nn w hsi
  have hP : va_P G.1 kcl (ky_LW G x cs sc pf fg bb tk o mo ms r u_0 t g n_0 sv w_1 f_1) H := hP
  have hD : va_D A (ky_LW G x cs sc pf fg bb tk o mo ms r u_0 t g n_0 sv w_1 f_1) := hD
  refine W.widen (k := cells + 3) (n := slots + 14) (by omega) (by omega) ?_
  refine lv_istore (lv' := [(6, .int (j_1)), (5, .int (j_0)), (0, .ref b), (1, .ref x), (2, .ref mo), (3, .ref o), (4, .int (i))]) hx hb dc_L_law_1043 hl (by decide) rfl (fun ls hl => ?_)
  refine lv_goto (tgt := 2294) hx hb dc_L_law_1045 (by decide) ?_
  refine W.widen (k := cells + 544) (n := slots + 12088) (by omega) (by omega) ?_
  exact KK _ _ _ _ _ _ _ _ _ _ hsk hsi_1 (lv_sub hl [2, 3, 4, 5, 6] rfl) hP hD hS hIT
set_option linter.constructorNameAsVariable false in
set_option maxHeartbeats 4000000 in
set_option maxRecDepth 100000 in
theorem lc_17 (hl9 : l.stackTraces = false) (F : ky_F p s m meth c "ExactdoublesLaw" code 7 ret #[Value.ref b]) (hE : ky_E G s) (hfr : ∀ q, A q → ky_fr G q) (hA : ∀ q, s.heap.size ≤ q → A q)
    (hXX : va_X b L xs s s.heap) (hbl : b < s.heap.size) (hbA : ¬ A b) {i : Int32} (h1 : vp_in ((i) + ((1 : Int32))) L) (h2 : vp_in ((i) + ((2 : Int32))) L) (h3 : vp_in ((i) + ((3 : Int32))) L) (hl : lv_has ls 7 [(0, .ref b), (1, .ref x), (2, .ref mo), (3, .ref o), (4, .int (i))])
    (hsk : ky_sok t) (hsi : ky_SI u w) (hP : va_P G.1 kcl (ky_LW G x cs sc pf fg bb tk o mo ms r u t g nn sv w f) H) (hD : va_D A (ky_LW G x cs sc pf fg bb tk o mo ms r u t g nn sv w f)) (hS : va_S A s.heap H locs) (hIT : ky_IT G mo ms (fun _ => False) f w.2.2.2.2 H) (hcc : cells + 544 ≤ 602769) (hss : slots + 12088 ≤ 7287796)
    (KK : ∀ (u : ky_BS) (t : ky_SV) (g : Nat → Nat → Int64) (nn : Int64) (sv : Value) (w : ky_MV) (f : Nat → Option Nat) (H : Heap) (locs : List Loc) (ls : Array Slot), ky_sok t → ky_SI u w → lv_has ls 7 [(0, .ref b), (1, .ref x), (2, .ref mo), (3, .ref o), (4, .int (i))] → va_P G.1 kcl (ky_LW G x cs sc pf fg bb tk o mo ms r u t g nn sv w f) H → va_D A (ky_LW G x cs sc pf fg bb tk o mo ms r u t g nn sv w f) → va_S A s.heap H locs → ky_IT G mo ms (fun _ => False) f w.2.2.2.2 H →
      W p l e room_1 s m #[Value.ref b] below meth c H locs (cells + 544) (slots + 12088) Q (F0 m 2294 ls [])) : W p l e room_1 s m #[Value.ref b] below meth c H locs cells slots Q (F0 m 1048 ls []) := by
  obtain ⟨hx, hb, hml, hown, hr, hlocks, hts⟩ := id F
  refine lv_aload_n hx hb dc_L_law_1048 rfl (lv_at hl 1 rfl) ?_
  refine lv_aload_n hx hb dc_L_law_1049 rfl (lv_at hl 0 rfl) ?_
  refine lv_iload hx hb dc_L_law_1050 (lv_at hl 4 rfl) ?_
  refine lv_iconst (v := 1) hx hb dc_L_law_1052 (by decide) ?_
  refine lv_iadd hx hb dc_L_law_1053 ?_
  refine va_sld hx hb hXX hbl hbA hS h1 dc_L_law_1054 ?_
  generalize hy1 : xs (((i) + ((1 : Int32)))).toNatClampNeg = y1
  refine lv_aload_n hx hb dc_L_law_1055 rfl (lv_at hl 0 rfl) ?_
  refine lv_iload hx hb dc_L_law_1056 (lv_at hl 4 rfl) ?_
  refine lv_iconst (v := 2) hx hb dc_L_law_1058 (by decide) ?_
  refine lv_iadd hx hb dc_L_law_1059 ?_
  refine va_sld hx hb hXX hbl hbA hS h2 dc_L_law_1060 ?_
  generalize hy2 : xs (((i) + ((2 : Int32)))).toNatClampNeg = y2
  refine lv_aload_n hx hb dc_L_law_1061 rfl (lv_at hl 3 rfl) ?_
  refine cl_num (As := [.ref x, .int (y1), .int (y2), .ref o]) F hE hfr hA (mt_L_unit l hl9 G x cs sc pf u o nn sv (y1) (y2) H.size) kH_L_239 ⟨⟨rfl, rfl⟩, Nat.le_of_ble_eq_true rfl, Nat.le_of_ble_eq_true rfl⟩ rfl hl.1 rfl (Nat.le_of_ble_eq_true rfl) ⟨by show (_ : Nat) ≤ 602769; omega, by show (_ : Nat) ≤ 7287796; omega⟩ hP hD hS hIT dc_L_law_1062 ?_
  rintro v9 ⟨u_0, n_0⟩ H locs ⟨rfl, hz_0⟩ hP hD hS hIT
  have hP : va_P G.1 kcl (ky_LW G x cs sc pf fg bb tk o mo ms r u_0 t g n_0 sv w f) H := hP
  have hD : va_D A (ky_LW G x cs sc pf fg bb tk o mo ms r u_0 t g n_0 sv w f) := hD
  have hu_0 : u_0 = (ky_lw (fn_X6_unit (y1) (y2) u) u nn).2.1 := congrArg Prod.fst hz_0
  generalize hj_0 : (ky_lw (fn_X6_unit (y1) (y2) u) u nn).1 = j_0
  refine W.widen (k := cells + 2) (n := slots + 12) (by omega) (by omega) ?_
  refine lv_istore (lv' := [(5, .int (j_0)), (0, .ref b), (1, .ref x), (2, .ref mo), (3, .ref o), (4, .int (i))]) hx hb dc_L_law_1065 hl (by decide) rfl (fun ls hl => ?_)
  refine lv_aload_n hx hb dc_L_law_1067 rfl (lv_at hl 3 rfl) ?_
  refine lv_aload_n hx hb dc_L_law_1068 rfl (lv_at hl 1 rfl) ?_
  refine lv_iload hx hb dc_L_law_1069 (lv_at hl 5 rfl) ?_
  refine lv_iconst (v := 1) hx hb dc_L_law_1071 (by decide) ?_
  refine lv_iadd hx hb dc_L_law_1072 ?_
  refine va_sld hx hb hXX hbl hbA hS h1 dc_L_law_1073 ?_
  rw [hy1]
  refine lv_aload_n hx hb dc_L_law_1074 rfl (lv_at hl 1 rfl) ?_
  refine lv_iload hx hb dc_L_law_1075 (lv_at hl 5 rfl) ?_
  refine lv_iconst (v := 2) hx hb dc_L_law_1077 (by decide) ?_
  refine lv_iadd hx hb dc_L_law_1078 ?_
  refine va_sld hx hb hXX hbl hbA hS h2 dc_L_law_1079 ?_
  rw [hy2]
  refine cl_mm (As := [.int (y1), .int (y2)]) F hE hfr hA (mt_X9_unit l G mo ms (fun _ => False) w f (y1) (y2) H.size (ok_X9_unit (y1) (y2) w)) kv_L_241 ⟨⟨rfl, rfl⟩, Nat.le_of_ble_eq_true rfl, Nat.le_of_ble_eq_true rfl⟩ rfl hl.1 rfl (Nat.le_of_ble_eq_true rfl) ⟨by show (_ : Nat) ≤ 602769; omega, by show (_ : Nat) ≤ 7287796; omega⟩ hP hD hS hIT rfl dc_L_law_1080 ?_
  rintro v9 ⟨w_1, f_1⟩ H locs ⟨rfl, hz_1⟩ hP hD hS hIT
  have hP : va_P G.1 kcl (ky_LW G x cs sc pf fg bb tk o mo ms r u_0 t g n_0 sv w_1 f_1) H := hP
  have hD : va_D A (ky_LW G x cs sc pf fg bb tk o mo ms r u_0 t g n_0 sv w_1 f_1) := hD
  generalize hj_1 : (fn_X9_unit (y1) (y2) w).1 = j_1
  have hsi_1 : ky_SI u_0 w_1 := by rw [hu_0, show w_1 = (fn_X9_unit (y1) (y2) w).2 from hz_1]; exact si_unit (y1) (y2) u nn w hsi
  have hP : va_P G.1 kcl (ky_LW G x cs sc pf fg bb tk o mo ms r u_0 t g n_0 sv w_1 f_1) H := hP
  have hD : va_D A (ky_LW G x cs sc pf fg bb tk o mo ms r u_0 t g n_0 sv w_1 f_1) := hD
  refine W.widen (k := cells + 3) (n := slots + 14) (by omega) (by omega) ?_
  refine lv_istore (lv' := [(6, .int (j_1)), (5, .int (j_0)), (0, .ref b), (1, .ref x), (2, .ref mo), (3, .ref o), (4, .int (i))]) hx hb dc_L_law_1083 hl (by decide) rfl (fun ls hl => ?_)
  refine lv_goto (tgt := 2294) hx hb dc_L_law_1085 (by decide) ?_
  refine W.widen (k := cells + 544) (n := slots + 12088) (by omega) (by omega) ?_
  exact KK _ _ _ _ _ _ _ _ _ _ hsk hsi_1 (lv_sub hl [2, 3, 4, 5, 6] rfl) hP hD hS hIT
set_option linter.constructorNameAsVariable false in
set_option maxHeartbeats 4000000 in
set_option maxRecDepth 100000 in
theorem lc_18 (hl9 : l.stackTraces = false) (F : ky_F p s m meth c "ExactdoublesLaw" code 7 ret #[Value.ref b]) (hE : ky_E G s) (hfr : ∀ q, A q → ky_fr G q) (hA : ∀ q, s.heap.size ≤ q → A q)
    (hXX : va_X b L xs s s.heap) (hbl : b < s.heap.size) (hbA : ¬ A b) {i : Int32} (h1 : vp_in ((i) + ((1 : Int32))) L) (h2 : vp_in ((i) + ((2 : Int32))) L) (h3 : vp_in ((i) + ((3 : Int32))) L) (hl : lv_has ls 7 [(0, .ref b), (1, .ref x), (2, .ref mo), (3, .ref o), (4, .int (i))])
    (hsk : ky_sok t) (hsi : ky_SI u w) (hP : va_P G.1 kcl (ky_LW G x cs sc pf fg bb tk o mo ms r u t g nn sv w f) H) (hD : va_D A (ky_LW G x cs sc pf fg bb tk o mo ms r u t g nn sv w f)) (hS : va_S A s.heap H locs) (hIT : ky_IT G mo ms (fun _ => False) f w.2.2.2.2 H) (hcc : cells + 544 ≤ 602769) (hss : slots + 12088 ≤ 7287796)
    (KK : ∀ (u : ky_BS) (t : ky_SV) (g : Nat → Nat → Int64) (nn : Int64) (sv : Value) (w : ky_MV) (f : Nat → Option Nat) (H : Heap) (locs : List Loc) (ls : Array Slot), ky_sok t → ky_SI u w → lv_has ls 7 [(0, .ref b), (1, .ref x), (2, .ref mo), (3, .ref o), (4, .int (i))] → va_P G.1 kcl (ky_LW G x cs sc pf fg bb tk o mo ms r u t g nn sv w f) H → va_D A (ky_LW G x cs sc pf fg bb tk o mo ms r u t g nn sv w f) → va_S A s.heap H locs → ky_IT G mo ms (fun _ => False) f w.2.2.2.2 H →
      W p l e room_1 s m #[Value.ref b] below meth c H locs (cells + 544) (slots + 12088) Q (F0 m 2294 ls [])) : W p l e room_1 s m #[Value.ref b] below meth c H locs cells slots Q (F0 m 1088 ls []) := by
  obtain ⟨hx, hb, hml, hown, hr, hlocks, hts⟩ := id F
  refine lv_aload_n hx hb dc_L_law_1088 rfl (lv_at hl 1 rfl) ?_
  refine lv_aload_n hx hb dc_L_law_1089 rfl (lv_at hl 0 rfl) ?_
  refine lv_iload hx hb dc_L_law_1090 (lv_at hl 4 rfl) ?_
  refine lv_iconst (v := 1) hx hb dc_L_law_1092 (by decide) ?_
  refine lv_iadd hx hb dc_L_law_1093 ?_
  refine va_sld hx hb hXX hbl hbA hS h1 dc_L_law_1094 ?_
  generalize hy1 : xs (((i) + ((1 : Int32)))).toNatClampNeg = y1
  refine lv_aload_n hx hb dc_L_law_1095 rfl (lv_at hl 0 rfl) ?_
  refine lv_iload hx hb dc_L_law_1096 (lv_at hl 4 rfl) ?_
  refine lv_iconst (v := 2) hx hb dc_L_law_1098 (by decide) ?_
  refine lv_iadd hx hb dc_L_law_1099 ?_
  refine va_sld hx hb hXX hbl hbA hS h2 dc_L_law_1100 ?_
  generalize hy2 : xs (((i) + ((2 : Int32)))).toNatClampNeg = y2
  refine lv_aload_n hx hb dc_L_law_1101 rfl (lv_at hl 0 rfl) ?_
  refine lv_iload hx hb dc_L_law_1102 (lv_at hl 4 rfl) ?_
  refine lv_iconst (v := 3) hx hb dc_L_law_1104 (by decide) ?_
  refine lv_iadd hx hb dc_L_law_1105 ?_
  refine va_sld hx hb hXX hbl hbA hS h3 dc_L_law_1106 ?_
  generalize hy3 : xs (((i) + ((3 : Int32)))).toNatClampNeg = y3
  refine lv_aload_n hx hb dc_L_law_1107 rfl (lv_at hl 3 rfl) ?_
  refine cl_num (As := [.ref x, .int (y1), .int (y2), .int (y3), .ref o]) F hE hfr hA (mt_L_times l hl9 G x cs sc pf u o nn sv (y1) (y2) (y3) H.size) kH_L_242 ⟨⟨rfl, rfl⟩, Nat.le_of_ble_eq_true rfl, Nat.le_of_ble_eq_true rfl⟩ rfl hl.1 rfl (Nat.le_of_ble_eq_true rfl) ⟨by show (_ : Nat) ≤ 602769; omega, by show (_ : Nat) ≤ 7287796; omega⟩ hP hD hS hIT dc_L_law_1108 ?_
  rintro v9 ⟨u_0, n_0⟩ H locs ⟨rfl, hz_0⟩ hP hD hS hIT
  have hP : va_P G.1 kcl (ky_LW G x cs sc pf fg bb tk o mo ms r u_0 t g n_0 sv w f) H := hP
  have hD : va_D A (ky_LW G x cs sc pf fg bb tk o mo ms r u_0 t g n_0 sv w f) := hD
  have hu_0 : u_0 = (ky_lw (fn_X6_times (y1) (y2) (y3) u) u nn).2.1 := congrArg Prod.fst hz_0
  generalize hj_0 : (ky_lw (fn_X6_times (y1) (y2) (y3) u) u nn).1 = j_0
  refine W.widen (k := cells + 2) (n := slots + 12) (by omega) (by omega) ?_
  refine lv_istore (lv' := [(5, .int (j_0)), (0, .ref b), (1, .ref x), (2, .ref mo), (3, .ref o), (4, .int (i))]) hx hb dc_L_law_1111 hl (by decide) rfl (fun ls hl => ?_)
  refine lv_aload_n hx hb dc_L_law_1113 rfl (lv_at hl 3 rfl) ?_
  refine lv_aload_n hx hb dc_L_law_1114 rfl (lv_at hl 1 rfl) ?_
  refine lv_iload hx hb dc_L_law_1115 (lv_at hl 5 rfl) ?_
  refine lv_iconst (v := 1) hx hb dc_L_law_1117 (by decide) ?_
  refine lv_iadd hx hb dc_L_law_1118 ?_
  refine va_sld hx hb hXX hbl hbA hS h1 dc_L_law_1119 ?_
  rw [hy1]
  refine lv_aload_n hx hb dc_L_law_1120 rfl (lv_at hl 1 rfl) ?_
  refine lv_iload hx hb dc_L_law_1121 (lv_at hl 5 rfl) ?_
  refine lv_iconst (v := 2) hx hb dc_L_law_1123 (by decide) ?_
  refine lv_iadd hx hb dc_L_law_1124 ?_
  refine va_sld hx hb hXX hbl hbA hS h2 dc_L_law_1125 ?_
  rw [hy2]
  refine lv_aload_n hx hb dc_L_law_1126 rfl (lv_at hl 1 rfl) ?_
  refine lv_iload hx hb dc_L_law_1127 (lv_at hl 5 rfl) ?_
  refine lv_iconst (v := 3) hx hb dc_L_law_1129 (by decide) ?_
  refine lv_iadd hx hb dc_L_law_1130 ?_
  refine va_sld hx hb hXX hbl hbA hS h3 dc_L_law_1131 ?_
  rw [hy3]
  refine cl_mm (As := [.int (y1), .int (y2), .int (y3)]) F hE hfr hA (mt_X9_times l G mo ms (fun _ => False) w f (y1) (y2) (y3) H.size (ok_X9_times (y1) (y2) (y3) w)) kv_L_244 ⟨⟨rfl, rfl⟩, Nat.le_of_ble_eq_true rfl, Nat.le_of_ble_eq_true rfl⟩ rfl hl.1 rfl (Nat.le_of_ble_eq_true rfl) ⟨by show (_ : Nat) ≤ 602769; omega, by show (_ : Nat) ≤ 7287796; omega⟩ hP hD hS hIT rfl dc_L_law_1132 ?_
  rintro v9 ⟨w_1, f_1⟩ H locs ⟨rfl, hz_1⟩ hP hD hS hIT
  have hP : va_P G.1 kcl (ky_LW G x cs sc pf fg bb tk o mo ms r u_0 t g n_0 sv w_1 f_1) H := hP
  have hD : va_D A (ky_LW G x cs sc pf fg bb tk o mo ms r u_0 t g n_0 sv w_1 f_1) := hD
  generalize hj_1 : (fn_X9_times (y1) (y2) (y3) w).1 = j_1
  have hsi_1 : ky_SI u_0 w_1 := by rw [hu_0, show w_1 = (fn_X9_times (y1) (y2) (y3) w).2 from hz_1]; exact si_times (y1) (y2) (y3) u nn w hsi
  have hP : va_P G.1 kcl (ky_LW G x cs sc pf fg bb tk o mo ms r u_0 t g n_0 sv w_1 f_1) H := hP
  have hD : va_D A (ky_LW G x cs sc pf fg bb tk o mo ms r u_0 t g n_0 sv w_1 f_1) := hD
  refine W.widen (k := cells + 3) (n := slots + 14) (by omega) (by omega) ?_
  refine lv_istore (lv' := [(6, .int (j_1)), (5, .int (j_0)), (0, .ref b), (1, .ref x), (2, .ref mo), (3, .ref o), (4, .int (i))]) hx hb dc_L_law_1135 hl (by decide) rfl (fun ls hl => ?_)
  refine lv_goto (tgt := 2294) hx hb dc_L_law_1137 (by decide) ?_
  refine W.widen (k := cells + 544) (n := slots + 12088) (by omega) (by omega) ?_
  exact KK _ _ _ _ _ _ _ _ _ _ hsk hsi_1 (lv_sub hl [2, 3, 4, 5, 6] rfl) hP hD hS hIT
set_option linter.constructorNameAsVariable false in
set_option maxHeartbeats 4000000 in
set_option maxRecDepth 100000 in
theorem lc_19 (hl9 : l.stackTraces = false) (F : ky_F p s m meth c "ExactdoublesLaw" code 7 ret #[Value.ref b]) (hE : ky_E G s) (hfr : ∀ q, A q → ky_fr G q) (hA : ∀ q, s.heap.size ≤ q → A q)
    (hXX : va_X b L xs s s.heap) (hbl : b < s.heap.size) (hbA : ¬ A b) {i : Int32} (h1 : vp_in ((i) + ((1 : Int32))) L) (h2 : vp_in ((i) + ((2 : Int32))) L) (h3 : vp_in ((i) + ((3 : Int32))) L) (hl : lv_has ls 7 [(0, .ref b), (1, .ref x), (2, .ref mo), (3, .ref o), (4, .int (i))])
    (hsk : ky_sok t) (hsi : ky_SI u w) (hP : va_P G.1 kcl (ky_LW G x cs sc pf fg bb tk o mo ms r u t g nn sv w f) H) (hD : va_D A (ky_LW G x cs sc pf fg bb tk o mo ms r u t g nn sv w f)) (hS : va_S A s.heap H locs) (hIT : ky_IT G mo ms (fun _ => False) f w.2.2.2.2 H) (hcc : cells + 544 ≤ 602769) (hss : slots + 12088 ≤ 7287796)
    (KK : ∀ (u : ky_BS) (t : ky_SV) (g : Nat → Nat → Int64) (nn : Int64) (sv : Value) (w : ky_MV) (f : Nat → Option Nat) (H : Heap) (locs : List Loc) (ls : Array Slot), ky_sok t → ky_SI u w → lv_has ls 7 [(0, .ref b), (1, .ref x), (2, .ref mo), (3, .ref o), (4, .int (i))] → va_P G.1 kcl (ky_LW G x cs sc pf fg bb tk o mo ms r u t g nn sv w f) H → va_D A (ky_LW G x cs sc pf fg bb tk o mo ms r u t g nn sv w f) → va_S A s.heap H locs → ky_IT G mo ms (fun _ => False) f w.2.2.2.2 H →
      W p l e room_1 s m #[Value.ref b] below meth c H locs (cells + 544) (slots + 12088) Q (F0 m 2294 ls [])) : W p l e room_1 s m #[Value.ref b] below meth c H locs cells slots Q (F0 m 1140 ls []) := by
  obtain ⟨hx, hb, hml, hown, hr, hlocks, hts⟩ := id F
  refine lv_aload_n hx hb dc_L_law_1140 rfl (lv_at hl 1 rfl) ?_
  refine lv_aload_n hx hb dc_L_law_1141 rfl (lv_at hl 0 rfl) ?_
  refine lv_iload hx hb dc_L_law_1142 (lv_at hl 4 rfl) ?_
  refine lv_iconst (v := 1) hx hb dc_L_law_1144 (by decide) ?_
  refine lv_iadd hx hb dc_L_law_1145 ?_
  refine va_sld hx hb hXX hbl hbA hS h1 dc_L_law_1146 ?_
  generalize hy1 : xs (((i) + ((1 : Int32)))).toNatClampNeg = y1
  refine lv_aload_n hx hb dc_L_law_1147 rfl (lv_at hl 0 rfl) ?_
  refine lv_iload hx hb dc_L_law_1148 (lv_at hl 4 rfl) ?_
  refine lv_iconst (v := 2) hx hb dc_L_law_1150 (by decide) ?_
  refine lv_iadd hx hb dc_L_law_1151 ?_
  refine va_sld hx hb hXX hbl hbA hS h2 dc_L_law_1152 ?_
  generalize hy2 : xs (((i) + ((2 : Int32)))).toNatClampNeg = y2
  refine lv_aload_n hx hb dc_L_law_1153 rfl (lv_at hl 0 rfl) ?_
  refine lv_iload hx hb dc_L_law_1154 (lv_at hl 4 rfl) ?_
  refine lv_iconst (v := 3) hx hb dc_L_law_1156 (by decide) ?_
  refine lv_iadd hx hb dc_L_law_1157 ?_
  refine va_sld hx hb hXX hbl hbA hS h3 dc_L_law_1158 ?_
  generalize hy3 : xs (((i) + ((3 : Int32)))).toNatClampNeg = y3
  refine lv_aload_n hx hb dc_L_law_1159 rfl (lv_at hl 3 rfl) ?_
  refine cl_num (As := [.ref x, .int (y1), .int (y2), .int (y3), .ref o]) F hE hfr hA (mt_L_side l hl9 G x cs sc pf u o nn sv (y1) (y2) (y3) H.size) kH_L_245 ⟨⟨rfl, rfl⟩, Nat.le_of_ble_eq_true rfl, Nat.le_of_ble_eq_true rfl⟩ rfl hl.1 rfl (Nat.le_of_ble_eq_true rfl) ⟨by show (_ : Nat) ≤ 602769; omega, by show (_ : Nat) ≤ 7287796; omega⟩ hP hD hS hIT dc_L_law_1160 ?_
  rintro v9 ⟨u_0, n_0⟩ H locs ⟨rfl, hz_0⟩ hP hD hS hIT
  have hP : va_P G.1 kcl (ky_LW G x cs sc pf fg bb tk o mo ms r u_0 t g n_0 sv w f) H := hP
  have hD : va_D A (ky_LW G x cs sc pf fg bb tk o mo ms r u_0 t g n_0 sv w f) := hD
  have hu_0 : u_0 = (ky_lw (fn_X6_side (y1) (y2) (y3) u) u nn).2.1 := congrArg Prod.fst hz_0
  generalize hj_0 : (ky_lw (fn_X6_side (y1) (y2) (y3) u) u nn).1 = j_0
  refine W.widen (k := cells + 3) (n := slots + 18) (by omega) (by omega) ?_
  refine lv_istore (lv' := [(5, .int (j_0)), (0, .ref b), (1, .ref x), (2, .ref mo), (3, .ref o), (4, .int (i))]) hx hb dc_L_law_1163 hl (by decide) rfl (fun ls hl => ?_)
  refine lv_aload_n hx hb dc_L_law_1165 rfl (lv_at hl 3 rfl) ?_
  refine lv_aload_n hx hb dc_L_law_1166 rfl (lv_at hl 1 rfl) ?_
  refine lv_iload hx hb dc_L_law_1167 (lv_at hl 5 rfl) ?_
  refine lv_iconst (v := 1) hx hb dc_L_law_1169 (by decide) ?_
  refine lv_iadd hx hb dc_L_law_1170 ?_
  refine va_sld hx hb hXX hbl hbA hS h1 dc_L_law_1171 ?_
  rw [hy1]
  refine lv_aload_n hx hb dc_L_law_1172 rfl (lv_at hl 1 rfl) ?_
  refine lv_iload hx hb dc_L_law_1173 (lv_at hl 5 rfl) ?_
  refine lv_iconst (v := 2) hx hb dc_L_law_1175 (by decide) ?_
  refine lv_iadd hx hb dc_L_law_1176 ?_
  refine va_sld hx hb hXX hbl hbA hS h2 dc_L_law_1177 ?_
  rw [hy2]
  refine lv_aload_n hx hb dc_L_law_1178 rfl (lv_at hl 1 rfl) ?_
  refine lv_iload hx hb dc_L_law_1179 (lv_at hl 5 rfl) ?_
  refine lv_iconst (v := 3) hx hb dc_L_law_1181 (by decide) ?_
  refine lv_iadd hx hb dc_L_law_1182 ?_
  refine va_sld hx hb hXX hbl hbA hS h3 dc_L_law_1183 ?_
  rw [hy3]
  refine cl_mm (As := [.int (y1), .int (y2), .int (y3)]) F hE hfr hA (mt_X9_side l G mo ms (fun _ => False) w f (y1) (y2) (y3) H.size) kv_L_247 ⟨⟨rfl, rfl⟩, Nat.le_of_ble_eq_true rfl, Nat.le_of_ble_eq_true rfl⟩ rfl hl.1 rfl (Nat.le_of_ble_eq_true rfl) ⟨by show (_ : Nat) ≤ 602769; omega, by show (_ : Nat) ≤ 7287796; omega⟩ hP hD hS hIT rfl dc_L_law_1184 ?_
  rintro v9 ⟨w_1, f_1⟩ H locs ⟨rfl, hz_1⟩ hP hD hS hIT
  have hP : va_P G.1 kcl (ky_LW G x cs sc pf fg bb tk o mo ms r u_0 t g n_0 sv w_1 f_1) H := hP
  have hD : va_D A (ky_LW G x cs sc pf fg bb tk o mo ms r u_0 t g n_0 sv w_1 f_1) := hD
  generalize hj_1 : (fn_X9_side (y1) (y2) (y3) w).1 = j_1
  have hsi_1 : ky_SI u_0 w_1 := by rw [hu_0, show w_1 = (fn_X9_side (y1) (y2) (y3) w).2 from hz_1]; exact si_side (y1) (y2) (y3) u nn w hsi
  have hP : va_P G.1 kcl (ky_LW G x cs sc pf fg bb tk o mo ms r u_0 t g n_0 sv w_1 f_1) H := hP
  have hD : va_D A (ky_LW G x cs sc pf fg bb tk o mo ms r u_0 t g n_0 sv w_1 f_1) := hD
  refine W.widen (k := cells + 4) (n := slots + 20) (by omega) (by omega) ?_
  refine lv_istore (lv' := [(6, .int (j_1)), (5, .int (j_0)), (0, .ref b), (1, .ref x), (2, .ref mo), (3, .ref o), (4, .int (i))]) hx hb dc_L_law_1187 hl (by decide) rfl (fun ls hl => ?_)
  refine lv_goto (tgt := 2294) hx hb dc_L_law_1189 (by decide) ?_
  refine W.widen (k := cells + 544) (n := slots + 12088) (by omega) (by omega) ?_
  exact KK _ _ _ _ _ _ _ _ _ _ hsk hsi_1 (lv_sub hl [2, 3, 4, 5, 6] rfl) hP hD hS hIT
set_option linter.constructorNameAsVariable false in
set_option maxHeartbeats 4000000 in
set_option maxRecDepth 100000 in
theorem lc_20 (hl9 : l.stackTraces = false) (F : ky_F p s m meth c "ExactdoublesLaw" code 7 ret #[Value.ref b]) (hE : ky_E G s) (hfr : ∀ q, A q → ky_fr G q) (hA : ∀ q, s.heap.size ≤ q → A q)
    (hXX : va_X b L xs s s.heap) (hbl : b < s.heap.size) (hbA : ¬ A b) {i : Int32} (h1 : vp_in ((i) + ((1 : Int32))) L) (h2 : vp_in ((i) + ((2 : Int32))) L) (h3 : vp_in ((i) + ((3 : Int32))) L) (hl : lv_has ls 7 [(0, .ref b), (1, .ref x), (2, .ref mo), (3, .ref o), (4, .int (i))])
    (hsk : ky_sok t) (hsi : ky_SI u w) (hP : va_P G.1 kcl (ky_LW G x cs sc pf fg bb tk o mo ms r u t g nn sv w f) H) (hD : va_D A (ky_LW G x cs sc pf fg bb tk o mo ms r u t g nn sv w f)) (hS : va_S A s.heap H locs) (hIT : ky_IT G mo ms (fun _ => False) f w.2.2.2.2 H) (hcc : cells + 544 ≤ 602769) (hss : slots + 12088 ≤ 7287796)
    (KK : ∀ (u : ky_BS) (t : ky_SV) (g : Nat → Nat → Int64) (nn : Int64) (sv : Value) (w : ky_MV) (f : Nat → Option Nat) (H : Heap) (locs : List Loc) (ls : Array Slot), ky_sok t → ky_SI u w → lv_has ls 7 [(0, .ref b), (1, .ref x), (2, .ref mo), (3, .ref o), (4, .int (i))] → va_P G.1 kcl (ky_LW G x cs sc pf fg bb tk o mo ms r u t g nn sv w f) H → va_D A (ky_LW G x cs sc pf fg bb tk o mo ms r u t g nn sv w f) → va_S A s.heap H locs → ky_IT G mo ms (fun _ => False) f w.2.2.2.2 H →
      W p l e room_1 s m #[Value.ref b] below meth c H locs (cells + 544) (slots + 12088) Q (F0 m 2294 ls [])) : W p l e room_1 s m #[Value.ref b] below meth c H locs cells slots Q (F0 m 1192 ls []) := by
  obtain ⟨hx, hb, hml, hown, hr, hlocks, hts⟩ := id F
  refine lv_aload_n hx hb dc_L_law_1192 rfl (lv_at hl 1 rfl) ?_
  refine lv_aload_n hx hb dc_L_law_1193 rfl (lv_at hl 0 rfl) ?_
  refine lv_iload hx hb dc_L_law_1194 (lv_at hl 4 rfl) ?_
  refine lv_iconst (v := 1) hx hb dc_L_law_1196 (by decide) ?_
  refine lv_iadd hx hb dc_L_law_1197 ?_
  refine va_sld hx hb hXX hbl hbA hS h1 dc_L_law_1198 ?_
  generalize hy1 : xs (((i) + ((1 : Int32)))).toNatClampNeg = y1
  refine lv_aload_n hx hb dc_L_law_1199 rfl (lv_at hl 0 rfl) ?_
  refine lv_iload hx hb dc_L_law_1200 (lv_at hl 4 rfl) ?_
  refine lv_iconst (v := 2) hx hb dc_L_law_1202 (by decide) ?_
  refine lv_iadd hx hb dc_L_law_1203 ?_
  refine va_sld hx hb hXX hbl hbA hS h2 dc_L_law_1204 ?_
  generalize hy2 : xs (((i) + ((2 : Int32)))).toNatClampNeg = y2
  refine lv_aload_n hx hb dc_L_law_1205 rfl (lv_at hl 0 rfl) ?_
  refine lv_iload hx hb dc_L_law_1206 (lv_at hl 4 rfl) ?_
  refine lv_iconst (v := 3) hx hb dc_L_law_1208 (by decide) ?_
  refine lv_iadd hx hb dc_L_law_1209 ?_
  refine va_sld hx hb hXX hbl hbA hS h3 dc_L_law_1210 ?_
  generalize hy3 : xs (((i) + ((3 : Int32)))).toNatClampNeg = y3
  refine lv_aload_n hx hb dc_L_law_1211 rfl (lv_at hl 3 rfl) ?_
  refine cl_num (As := [.ref x, .int (y1), .int (y2), .int (y3), .ref o]) F hE hfr hA (mt_L_max l hl9 G x cs sc pf u o nn sv (y1) (y2) (y3) H.size) kH_L_248 ⟨⟨rfl, rfl⟩, Nat.le_of_ble_eq_true rfl, Nat.le_of_ble_eq_true rfl⟩ rfl hl.1 rfl (Nat.le_of_ble_eq_true rfl) ⟨by show (_ : Nat) ≤ 602769; omega, by show (_ : Nat) ≤ 7287796; omega⟩ hP hD hS hIT dc_L_law_1212 ?_
  rintro v9 ⟨u_0, n_0⟩ H locs ⟨rfl, hz_0⟩ hP hD hS hIT
  have hP : va_P G.1 kcl (ky_LW G x cs sc pf fg bb tk o mo ms r u_0 t g n_0 sv w f) H := hP
  have hD : va_D A (ky_LW G x cs sc pf fg bb tk o mo ms r u_0 t g n_0 sv w f) := hD
  have hu_0 : u_0 = (ky_lw (fn_X6_max (y1) (y2) (y3) u) u nn).2.1 := congrArg Prod.fst hz_0
  generalize hj_0 : (ky_lw (fn_X6_max (y1) (y2) (y3) u) u nn).1 = j_0
  refine W.widen (k := cells + 3) (n := slots + 18) (by omega) (by omega) ?_
  refine lv_istore (lv' := [(5, .int (j_0)), (0, .ref b), (1, .ref x), (2, .ref mo), (3, .ref o), (4, .int (i))]) hx hb dc_L_law_1215 hl (by decide) rfl (fun ls hl => ?_)
  refine lv_aload_n hx hb dc_L_law_1217 rfl (lv_at hl 3 rfl) ?_
  refine lv_aload_n hx hb dc_L_law_1218 rfl (lv_at hl 1 rfl) ?_
  refine lv_iload hx hb dc_L_law_1219 (lv_at hl 5 rfl) ?_
  refine lv_iconst (v := 1) hx hb dc_L_law_1221 (by decide) ?_
  refine lv_iadd hx hb dc_L_law_1222 ?_
  refine va_sld hx hb hXX hbl hbA hS h1 dc_L_law_1223 ?_
  rw [hy1]
  refine lv_aload_n hx hb dc_L_law_1224 rfl (lv_at hl 1 rfl) ?_
  refine lv_iload hx hb dc_L_law_1225 (lv_at hl 5 rfl) ?_
  refine lv_iconst (v := 2) hx hb dc_L_law_1227 (by decide) ?_
  refine lv_iadd hx hb dc_L_law_1228 ?_
  refine va_sld hx hb hXX hbl hbA hS h2 dc_L_law_1229 ?_
  rw [hy2]
  refine lv_aload_n hx hb dc_L_law_1230 rfl (lv_at hl 1 rfl) ?_
  refine lv_iload hx hb dc_L_law_1231 (lv_at hl 5 rfl) ?_
  refine lv_iconst (v := 3) hx hb dc_L_law_1233 (by decide) ?_
  refine lv_iadd hx hb dc_L_law_1234 ?_
  refine va_sld hx hb hXX hbl hbA hS h3 dc_L_law_1235 ?_
  rw [hy3]
  refine cl_mm (As := [.int (y1), .int (y2), .int (y3)]) F hE hfr hA (mt_X9_max l G mo ms (fun _ => False) w f (y1) (y2) (y3) H.size) kv_L_250 ⟨⟨rfl, rfl⟩, Nat.le_of_ble_eq_true rfl, Nat.le_of_ble_eq_true rfl⟩ rfl hl.1 rfl (Nat.le_of_ble_eq_true rfl) ⟨by show (_ : Nat) ≤ 602769; omega, by show (_ : Nat) ≤ 7287796; omega⟩ hP hD hS hIT rfl dc_L_law_1236 ?_
  rintro v9 ⟨w_1, f_1⟩ H locs ⟨rfl, hz_1⟩ hP hD hS hIT
  have hP : va_P G.1 kcl (ky_LW G x cs sc pf fg bb tk o mo ms r u_0 t g n_0 sv w_1 f_1) H := hP
  have hD : va_D A (ky_LW G x cs sc pf fg bb tk o mo ms r u_0 t g n_0 sv w_1 f_1) := hD
  generalize hj_1 : (fn_X9_max (y1) (y2) (y3) w).1 = j_1
  have hsi_1 : ky_SI u_0 w_1 := by rw [hu_0, show w_1 = (fn_X9_max (y1) (y2) (y3) w).2 from hz_1]; exact si_max (y1) (y2) (y3) u nn w hsi
  have hP : va_P G.1 kcl (ky_LW G x cs sc pf fg bb tk o mo ms r u_0 t g n_0 sv w_1 f_1) H := hP
  have hD : va_D A (ky_LW G x cs sc pf fg bb tk o mo ms r u_0 t g n_0 sv w_1 f_1) := hD
  refine W.widen (k := cells + 3) (n := slots + 18) (by omega) (by omega) ?_
  refine lv_istore (lv' := [(6, .int (j_1)), (5, .int (j_0)), (0, .ref b), (1, .ref x), (2, .ref mo), (3, .ref o), (4, .int (i))]) hx hb dc_L_law_1239 hl (by decide) rfl (fun ls hl => ?_)
  refine lv_goto (tgt := 2294) hx hb dc_L_law_1241 (by decide) ?_
  refine W.widen (k := cells + 544) (n := slots + 12088) (by omega) (by omega) ?_
  exact KK _ _ _ _ _ _ _ _ _ _ hsk hsi_1 (lv_sub hl [2, 3, 4, 5, 6] rfl) hP hD hS hIT
set_option linter.constructorNameAsVariable false in
set_option maxHeartbeats 4000000 in
set_option maxRecDepth 100000 in
theorem lc_21 (hl9 : l.stackTraces = false) (F : ky_F p s m meth c "ExactdoublesLaw" code 7 ret #[Value.ref b]) (hE : ky_E G s) (hfr : ∀ q, A q → ky_fr G q) (hA : ∀ q, s.heap.size ≤ q → A q)
    (hXX : va_X b L xs s s.heap) (hbl : b < s.heap.size) (hbA : ¬ A b) {i : Int32} (h1 : vp_in ((i) + ((1 : Int32))) L) (h2 : vp_in ((i) + ((2 : Int32))) L) (h3 : vp_in ((i) + ((3 : Int32))) L) (hl : lv_has ls 7 [(0, .ref b), (1, .ref x), (2, .ref mo), (3, .ref o), (4, .int (i))])
    (hsk : ky_sok t) (hsi : ky_SI u w) (hP : va_P G.1 kcl (ky_LW G x cs sc pf fg bb tk o mo ms r u t g nn sv w f) H) (hD : va_D A (ky_LW G x cs sc pf fg bb tk o mo ms r u t g nn sv w f)) (hS : va_S A s.heap H locs) (hIT : ky_IT G mo ms (fun _ => False) f w.2.2.2.2 H) (hcc : cells + 544 ≤ 602769) (hss : slots + 12088 ≤ 7287796)
    (KK : ∀ (u : ky_BS) (t : ky_SV) (g : Nat → Nat → Int64) (nn : Int64) (sv : Value) (w : ky_MV) (f : Nat → Option Nat) (H : Heap) (locs : List Loc) (ls : Array Slot), ky_sok t → ky_SI u w → lv_has ls 7 [(0, .ref b), (1, .ref x), (2, .ref mo), (3, .ref o), (4, .int (i))] → va_P G.1 kcl (ky_LW G x cs sc pf fg bb tk o mo ms r u t g nn sv w f) H → va_D A (ky_LW G x cs sc pf fg bb tk o mo ms r u t g nn sv w f) → va_S A s.heap H locs → ky_IT G mo ms (fun _ => False) f w.2.2.2.2 H →
      W p l e room_1 s m #[Value.ref b] below meth c H locs (cells + 544) (slots + 12088) Q (F0 m 2294 ls [])) : W p l e room_1 s m #[Value.ref b] below meth c H locs cells slots Q (F0 m 1244 ls []) := by
  obtain ⟨hx, hb, hml, hown, hr, hlocks, hts⟩ := id F
  refine lv_aload_n hx hb dc_L_law_1244 rfl (lv_at hl 1 rfl) ?_
  refine lv_aload_n hx hb dc_L_law_1245 rfl (lv_at hl 0 rfl) ?_
  refine lv_iload hx hb dc_L_law_1246 (lv_at hl 4 rfl) ?_
  refine lv_iconst (v := 1) hx hb dc_L_law_1248 (by decide) ?_
  refine lv_iadd hx hb dc_L_law_1249 ?_
  refine va_sld hx hb hXX hbl hbA hS h1 dc_L_law_1250 ?_
  generalize hy1 : xs (((i) + ((1 : Int32)))).toNatClampNeg = y1
  refine lv_aload_n hx hb dc_L_law_1251 rfl (lv_at hl 0 rfl) ?_
  refine lv_iload hx hb dc_L_law_1252 (lv_at hl 4 rfl) ?_
  refine lv_iconst (v := 2) hx hb dc_L_law_1254 (by decide) ?_
  refine lv_iadd hx hb dc_L_law_1255 ?_
  refine va_sld hx hb hXX hbl hbA hS h2 dc_L_law_1256 ?_
  generalize hy2 : xs (((i) + ((2 : Int32)))).toNatClampNeg = y2
  refine lv_aload_n hx hb dc_L_law_1257 rfl (lv_at hl 0 rfl) ?_
  refine lv_iload hx hb dc_L_law_1258 (lv_at hl 4 rfl) ?_
  refine lv_iconst (v := 3) hx hb dc_L_law_1260 (by decide) ?_
  refine lv_iadd hx hb dc_L_law_1261 ?_
  refine va_sld hx hb hXX hbl hbA hS h3 dc_L_law_1262 ?_
  generalize hy3 : xs (((i) + ((3 : Int32)))).toNatClampNeg = y3
  refine lv_aload_n hx hb dc_L_law_1263 rfl (lv_at hl 3 rfl) ?_
  refine cl_num (As := [.ref x, .int (y1), .int (y2), .int (y3), .ref o]) F hE hfr hA (mt_L_min l hl9 G x cs sc pf u o nn sv (y1) (y2) (y3) H.size) kH_L_251 ⟨⟨rfl, rfl⟩, Nat.le_of_ble_eq_true rfl, Nat.le_of_ble_eq_true rfl⟩ rfl hl.1 rfl (Nat.le_of_ble_eq_true rfl) ⟨by show (_ : Nat) ≤ 602769; omega, by show (_ : Nat) ≤ 7287796; omega⟩ hP hD hS hIT dc_L_law_1264 ?_
  rintro v9 ⟨u_0, n_0⟩ H locs ⟨rfl, hz_0⟩ hP hD hS hIT
  have hP : va_P G.1 kcl (ky_LW G x cs sc pf fg bb tk o mo ms r u_0 t g n_0 sv w f) H := hP
  have hD : va_D A (ky_LW G x cs sc pf fg bb tk o mo ms r u_0 t g n_0 sv w f) := hD
  have hu_0 : u_0 = (ky_lw (fn_X6_min (y1) (y2) (y3) u) u nn).2.1 := congrArg Prod.fst hz_0
  generalize hj_0 : (ky_lw (fn_X6_min (y1) (y2) (y3) u) u nn).1 = j_0
  refine W.widen (k := cells + 3) (n := slots + 18) (by omega) (by omega) ?_
  refine lv_istore (lv' := [(5, .int (j_0)), (0, .ref b), (1, .ref x), (2, .ref mo), (3, .ref o), (4, .int (i))]) hx hb dc_L_law_1267 hl (by decide) rfl (fun ls hl => ?_)
  refine lv_aload_n hx hb dc_L_law_1269 rfl (lv_at hl 3 rfl) ?_
  refine lv_aload_n hx hb dc_L_law_1270 rfl (lv_at hl 1 rfl) ?_
  refine lv_iload hx hb dc_L_law_1271 (lv_at hl 5 rfl) ?_
  refine lv_iconst (v := 1) hx hb dc_L_law_1273 (by decide) ?_
  refine lv_iadd hx hb dc_L_law_1274 ?_
  refine va_sld hx hb hXX hbl hbA hS h1 dc_L_law_1275 ?_
  rw [hy1]
  refine lv_aload_n hx hb dc_L_law_1276 rfl (lv_at hl 1 rfl) ?_
  refine lv_iload hx hb dc_L_law_1277 (lv_at hl 5 rfl) ?_
  refine lv_iconst (v := 2) hx hb dc_L_law_1279 (by decide) ?_
  refine lv_iadd hx hb dc_L_law_1280 ?_
  refine va_sld hx hb hXX hbl hbA hS h2 dc_L_law_1281 ?_
  rw [hy2]
  refine lv_aload_n hx hb dc_L_law_1282 rfl (lv_at hl 1 rfl) ?_
  refine lv_iload hx hb dc_L_law_1283 (lv_at hl 5 rfl) ?_
  refine lv_iconst (v := 3) hx hb dc_L_law_1285 (by decide) ?_
  refine lv_iadd hx hb dc_L_law_1286 ?_
  refine va_sld hx hb hXX hbl hbA hS h3 dc_L_law_1287 ?_
  rw [hy3]
  refine cl_mm (As := [.int (y1), .int (y2), .int (y3)]) F hE hfr hA (mt_X9_min l G mo ms (fun _ => False) w f (y1) (y2) (y3) H.size) kv_L_253 ⟨⟨rfl, rfl⟩, Nat.le_of_ble_eq_true rfl, Nat.le_of_ble_eq_true rfl⟩ rfl hl.1 rfl (Nat.le_of_ble_eq_true rfl) ⟨by show (_ : Nat) ≤ 602769; omega, by show (_ : Nat) ≤ 7287796; omega⟩ hP hD hS hIT rfl dc_L_law_1288 ?_
  rintro v9 ⟨w_1, f_1⟩ H locs ⟨rfl, hz_1⟩ hP hD hS hIT
  have hP : va_P G.1 kcl (ky_LW G x cs sc pf fg bb tk o mo ms r u_0 t g n_0 sv w_1 f_1) H := hP
  have hD : va_D A (ky_LW G x cs sc pf fg bb tk o mo ms r u_0 t g n_0 sv w_1 f_1) := hD
  generalize hj_1 : (fn_X9_min (y1) (y2) (y3) w).1 = j_1
  have hsi_1 : ky_SI u_0 w_1 := by rw [hu_0, show w_1 = (fn_X9_min (y1) (y2) (y3) w).2 from hz_1]; exact si_min (y1) (y2) (y3) u nn w hsi
  have hP : va_P G.1 kcl (ky_LW G x cs sc pf fg bb tk o mo ms r u_0 t g n_0 sv w_1 f_1) H := hP
  have hD : va_D A (ky_LW G x cs sc pf fg bb tk o mo ms r u_0 t g n_0 sv w_1 f_1) := hD
  refine W.widen (k := cells + 3) (n := slots + 18) (by omega) (by omega) ?_
  refine lv_istore (lv' := [(6, .int (j_1)), (5, .int (j_0)), (0, .ref b), (1, .ref x), (2, .ref mo), (3, .ref o), (4, .int (i))]) hx hb dc_L_law_1291 hl (by decide) rfl (fun ls hl => ?_)
  refine lv_goto (tgt := 2294) hx hb dc_L_law_1293 (by decide) ?_
  refine W.widen (k := cells + 544) (n := slots + 12088) (by omega) (by omega) ?_
  exact KK _ _ _ _ _ _ _ _ _ _ hsk hsi_1 (lv_sub hl [2, 3, 4, 5, 6] rfl) hP hD hS hIT
set_option linter.constructorNameAsVariable false in
set_option maxHeartbeats 4000000 in
set_option maxRecDepth 100000 in
theorem lc_22 (hl9 : l.stackTraces = false) (F : ky_F p s m meth c "ExactdoublesLaw" code 7 ret #[Value.ref b]) (hE : ky_E G s) (hfr : ∀ q, A q → ky_fr G q) (hA : ∀ q, s.heap.size ≤ q → A q)
    (hXX : va_X b L xs s s.heap) (hbl : b < s.heap.size) (hbA : ¬ A b) {i : Int32} (h1 : vp_in ((i) + ((1 : Int32))) L) (h2 : vp_in ((i) + ((2 : Int32))) L) (h3 : vp_in ((i) + ((3 : Int32))) L) (hl : lv_has ls 7 [(0, .ref b), (1, .ref x), (2, .ref mo), (3, .ref o), (4, .int (i))])
    (hsk : ky_sok t) (hsi : ky_SI u w) (hP : va_P G.1 kcl (ky_LW G x cs sc pf fg bb tk o mo ms r u t g nn sv w f) H) (hD : va_D A (ky_LW G x cs sc pf fg bb tk o mo ms r u t g nn sv w f)) (hS : va_S A s.heap H locs) (hIT : ky_IT G mo ms (fun _ => False) f w.2.2.2.2 H) (hcc : cells + 544 ≤ 602769) (hss : slots + 12088 ≤ 7287796)
    (KK : ∀ (u : ky_BS) (t : ky_SV) (g : Nat → Nat → Int64) (nn : Int64) (sv : Value) (w : ky_MV) (f : Nat → Option Nat) (H : Heap) (locs : List Loc) (ls : Array Slot), ky_sok t → ky_SI u w → lv_has ls 7 [(0, .ref b), (1, .ref x), (2, .ref mo), (3, .ref o), (4, .int (i))] → va_P G.1 kcl (ky_LW G x cs sc pf fg bb tk o mo ms r u t g nn sv w f) H → va_D A (ky_LW G x cs sc pf fg bb tk o mo ms r u t g nn sv w f) → va_S A s.heap H locs → ky_IT G mo ms (fun _ => False) f w.2.2.2.2 H →
      W p l e room_1 s m #[Value.ref b] below meth c H locs (cells + 544) (slots + 12088) Q (F0 m 2294 ls [])) : W p l e room_1 s m #[Value.ref b] below meth c H locs cells slots Q (F0 m 1296 ls []) := by
  obtain ⟨hx, hb, hml, hown, hr, hlocks, hts⟩ := id F
  refine lv_aload_n hx hb dc_L_law_1296 rfl (lv_at hl 1 rfl) ?_
  refine lv_aload_n hx hb dc_L_law_1297 rfl (lv_at hl 0 rfl) ?_
  refine lv_iload hx hb dc_L_law_1298 (lv_at hl 4 rfl) ?_
  refine lv_iconst (v := 1) hx hb dc_L_law_1300 (by decide) ?_
  refine lv_iadd hx hb dc_L_law_1301 ?_
  refine va_sld hx hb hXX hbl hbA hS h1 dc_L_law_1302 ?_
  generalize hy1 : xs (((i) + ((1 : Int32)))).toNatClampNeg = y1
  refine lv_aload_n hx hb dc_L_law_1303 rfl (lv_at hl 0 rfl) ?_
  refine lv_iload hx hb dc_L_law_1304 (lv_at hl 4 rfl) ?_
  refine lv_iconst (v := 2) hx hb dc_L_law_1306 (by decide) ?_
  refine lv_iadd hx hb dc_L_law_1307 ?_
  refine va_sld hx hb hXX hbl hbA hS h2 dc_L_law_1308 ?_
  generalize hy2 : xs (((i) + ((2 : Int32)))).toNatClampNeg = y2
  refine lv_aload_n hx hb dc_L_law_1309 rfl (lv_at hl 3 rfl) ?_
  refine cl_num (As := [.ref x, .int (y1), .int (y2), .ref o]) F hE hfr hA (mt_L_walk l hl9 G x cs sc pf u o nn sv (y1) (y2) H.size) kH_L_254 ⟨⟨rfl, rfl⟩, Nat.le_of_ble_eq_true rfl, Nat.le_of_ble_eq_true rfl⟩ rfl hl.1 rfl (Nat.le_of_ble_eq_true rfl) ⟨by show (_ : Nat) ≤ 602769; omega, by show (_ : Nat) ≤ 7287796; omega⟩ hP hD hS hIT dc_L_law_1310 ?_
  rintro v9 ⟨u_0, n_0⟩ H locs ⟨rfl, hz_0⟩ hP hD hS hIT
  have hP : va_P G.1 kcl (ky_LW G x cs sc pf fg bb tk o mo ms r u_0 t g n_0 sv w f) H := hP
  have hD : va_D A (ky_LW G x cs sc pf fg bb tk o mo ms r u_0 t g n_0 sv w f) := hD
  have hu_0 : u_0 = (ky_lw (fn_X6_walk (y1) (y2) u) u nn).2.1 := congrArg Prod.fst hz_0
  generalize hj_0 : (ky_lw (fn_X6_walk (y1) (y2) u) u nn).1 = j_0
  refine W.widen (k := cells + 2) (n := slots + 12) (by omega) (by omega) ?_
  refine lv_istore (lv' := [(5, .int (j_0)), (0, .ref b), (1, .ref x), (2, .ref mo), (3, .ref o), (4, .int (i))]) hx hb dc_L_law_1313 hl (by decide) rfl (fun ls hl => ?_)
  refine lv_aload_n hx hb dc_L_law_1315 rfl (lv_at hl 3 rfl) ?_
  refine lv_aload_n hx hb dc_L_law_1316 rfl (lv_at hl 1 rfl) ?_
  refine lv_iload hx hb dc_L_law_1317 (lv_at hl 5 rfl) ?_
  refine lv_iconst (v := 1) hx hb dc_L_law_1319 (by decide) ?_
  refine lv_iadd hx hb dc_L_law_1320 ?_
  refine va_sld hx hb hXX hbl hbA hS h1 dc_L_law_1321 ?_
  rw [hy1]
  refine lv_aload_n hx hb dc_L_law_1322 rfl (lv_at hl 1 rfl) ?_
  refine lv_iload hx hb dc_L_law_1323 (lv_at hl 5 rfl) ?_
  refine lv_iconst (v := 2) hx hb dc_L_law_1325 (by decide) ?_
  refine lv_iadd hx hb dc_L_law_1326 ?_
  refine va_sld hx hb hXX hbl hbA hS h2 dc_L_law_1327 ?_
  rw [hy2]
  refine cl_mm (As := [.int (y1), .int (y2)]) F hE hfr hA (mt_X9_walk l G mo ms (fun _ => False) w f (y1) (y2) H.size) kv_L_256 ⟨⟨rfl, rfl⟩, Nat.le_of_ble_eq_true rfl, Nat.le_of_ble_eq_true rfl⟩ rfl hl.1 rfl (Nat.le_of_ble_eq_true rfl) ⟨by show (_ : Nat) ≤ 602769; omega, by show (_ : Nat) ≤ 7287796; omega⟩ hP hD hS hIT rfl dc_L_law_1328 ?_
  rintro v9 ⟨w_1, f_1⟩ H locs ⟨rfl, hz_1⟩ hP hD hS hIT
  have hP : va_P G.1 kcl (ky_LW G x cs sc pf fg bb tk o mo ms r u_0 t g n_0 sv w_1 f_1) H := hP
  have hD : va_D A (ky_LW G x cs sc pf fg bb tk o mo ms r u_0 t g n_0 sv w_1 f_1) := hD
  generalize hj_1 : (fn_X9_walk (y1) (y2) w).1 = j_1
  have hsi_1 : ky_SI u_0 w_1 := by rw [hu_0, show w_1 = (fn_X9_walk (y1) (y2) w).2 from hz_1]; exact si_walk (y1) (y2) u nn w hsi
  have hP : va_P G.1 kcl (ky_LW G x cs sc pf fg bb tk o mo ms r u_0 t g n_0 sv w_1 f_1) H := hP
  have hD : va_D A (ky_LW G x cs sc pf fg bb tk o mo ms r u_0 t g n_0 sv w_1 f_1) := hD
  refine W.widen (k := cells + 122) (n := slots + 252) (by omega) (by omega) ?_
  refine lv_istore (lv' := [(6, .int (j_1)), (5, .int (j_0)), (0, .ref b), (1, .ref x), (2, .ref mo), (3, .ref o), (4, .int (i))]) hx hb dc_L_law_1331 hl (by decide) rfl (fun ls hl => ?_)
  refine lv_goto (tgt := 2294) hx hb dc_L_law_1333 (by decide) ?_
  refine W.widen (k := cells + 544) (n := slots + 12088) (by omega) (by omega) ?_
  exact KK _ _ _ _ _ _ _ _ _ _ hsk hsi_1 (lv_sub hl [2, 3, 4, 5, 6] rfl) hP hD hS hIT
set_option linter.constructorNameAsVariable false in
set_option maxHeartbeats 4000000 in
set_option maxRecDepth 100000 in
theorem lc_23 (hl9 : l.stackTraces = false) (F : ky_F p s m meth c "ExactdoublesLaw" code 7 ret #[Value.ref b]) (hE : ky_E G s) (hfr : ∀ q, A q → ky_fr G q) (hA : ∀ q, s.heap.size ≤ q → A q)
    (hXX : va_X b L xs s s.heap) (hbl : b < s.heap.size) (hbA : ¬ A b) {i : Int32} (h1 : vp_in ((i) + ((1 : Int32))) L) (h2 : vp_in ((i) + ((2 : Int32))) L) (h3 : vp_in ((i) + ((3 : Int32))) L) (hl : lv_has ls 7 [(0, .ref b), (1, .ref x), (2, .ref mo), (3, .ref o), (4, .int (i))])
    (hsk : ky_sok t) (hsi : ky_SI u w) (hP : va_P G.1 kcl (ky_LW G x cs sc pf fg bb tk o mo ms r u t g nn sv w f) H) (hD : va_D A (ky_LW G x cs sc pf fg bb tk o mo ms r u t g nn sv w f)) (hS : va_S A s.heap H locs) (hIT : ky_IT G mo ms (fun _ => False) f w.2.2.2.2 H) (hcc : cells + 544 ≤ 602769) (hss : slots + 12088 ≤ 7287796)
    (KK : ∀ (u : ky_BS) (t : ky_SV) (g : Nat → Nat → Int64) (nn : Int64) (sv : Value) (w : ky_MV) (f : Nat → Option Nat) (H : Heap) (locs : List Loc) (ls : Array Slot), ky_sok t → ky_SI u w → lv_has ls 7 [(0, .ref b), (1, .ref x), (2, .ref mo), (3, .ref o), (4, .int (i))] → va_P G.1 kcl (ky_LW G x cs sc pf fg bb tk o mo ms r u t g nn sv w f) H → va_D A (ky_LW G x cs sc pf fg bb tk o mo ms r u t g nn sv w f) → va_S A s.heap H locs → ky_IT G mo ms (fun _ => False) f w.2.2.2.2 H →
      W p l e room_1 s m #[Value.ref b] below meth c H locs (cells + 544) (slots + 12088) Q (F0 m 2294 ls [])) : W p l e room_1 s m #[Value.ref b] below meth c H locs cells slots Q (F0 m 1336 ls []) := by
  obtain ⟨hx, hb, hml, hown, hr, hlocks, hts⟩ := id F
  refine lv_aload_n hx hb dc_L_law_1336 rfl (lv_at hl 1 rfl) ?_
  refine lv_aload_n hx hb dc_L_law_1337 rfl (lv_at hl 0 rfl) ?_
  refine lv_iload hx hb dc_L_law_1338 (lv_at hl 4 rfl) ?_
  refine lv_iconst (v := 1) hx hb dc_L_law_1340 (by decide) ?_
  refine lv_iadd hx hb dc_L_law_1341 ?_
  refine va_sld hx hb hXX hbl hbA hS h1 dc_L_law_1342 ?_
  generalize hy1 : xs (((i) + ((1 : Int32)))).toNatClampNeg = y1
  refine lv_aload_n hx hb dc_L_law_1343 rfl (lv_at hl 3 rfl) ?_
  refine cl_num (As := [.ref x, .int (y1), .ref o]) F hE hfr hA (mt_L_kind l hl9 G x cs sc pf u o nn sv (y1) H.size) kH_L_257 ⟨⟨rfl, rfl⟩, Nat.le_of_ble_eq_true rfl, Nat.le_of_ble_eq_true rfl⟩ rfl hl.1 rfl (Nat.le_of_ble_eq_true rfl) ⟨by show (_ : Nat) ≤ 602769; omega, by show (_ : Nat) ≤ 7287796; omega⟩ hP hD hS hIT dc_L_law_1344 ?_
  rintro v9 ⟨u_0, n_0⟩ H locs ⟨rfl, hz_0⟩ hP hD hS hIT
  have hP : va_P G.1 kcl (ky_LW G x cs sc pf fg bb tk o mo ms r u_0 t g n_0 sv w f) H := hP
  have hD : va_D A (ky_LW G x cs sc pf fg bb tk o mo ms r u_0 t g n_0 sv w f) := hD
  have hu_0 : u_0 = (ky_lw (fn_X6_kind (y1) u) u nn).2.1 := congrArg Prod.fst hz_0
  generalize hj_0 : (ky_lw (fn_X6_kind (y1) u) u nn).1 = j_0
  refine W.widen (k := cells + 1) (n := slots + 6) (by omega) (by omega) ?_
  refine lv_istore (lv' := [(5, .int (j_0)), (0, .ref b), (1, .ref x), (2, .ref mo), (3, .ref o), (4, .int (i))]) hx hb dc_L_law_1347 hl (by decide) rfl (fun ls hl => ?_)
  refine lv_aload_n hx hb dc_L_law_1349 rfl (lv_at hl 3 rfl) ?_
  refine lv_aload_n hx hb dc_L_law_1350 rfl (lv_at hl 1 rfl) ?_
  refine lv_iload hx hb dc_L_law_1351 (lv_at hl 5 rfl) ?_
  refine lv_iconst (v := 1) hx hb dc_L_law_1353 (by decide) ?_
  refine lv_iadd hx hb dc_L_law_1354 ?_
  refine va_sld hx hb hXX hbl hbA hS h1 dc_L_law_1355 ?_
  rw [hy1]
  refine cl_mm (As := [.int (y1)]) F hE hfr hA (mt_X9_kind l G mo ms (fun _ => False) w f (y1) H.size) kv_L_260 ⟨⟨rfl, rfl⟩, Nat.le_of_ble_eq_true rfl, Nat.le_of_ble_eq_true rfl⟩ rfl hl.1 rfl (Nat.le_of_ble_eq_true rfl) ⟨by show (_ : Nat) ≤ 602769; omega, by show (_ : Nat) ≤ 7287796; omega⟩ hP hD hS hIT rfl dc_L_law_1356 ?_
  rintro v9 ⟨w_1, f_1⟩ H locs ⟨rfl, hz_1⟩ hP hD hS hIT
  have hP : va_P G.1 kcl (ky_LW G x cs sc pf fg bb tk o mo ms r u_0 t g n_0 sv w_1 f_1) H := hP
  have hD : va_D A (ky_LW G x cs sc pf fg bb tk o mo ms r u_0 t g n_0 sv w_1 f_1) := hD
  generalize hj_1 : (fn_X9_kind (y1) w).1 = j_1
  have hsi_1 : ky_SI u_0 w_1 := by rw [hu_0, show w_1 = (fn_X9_kind (y1) w).2 from hz_1]; exact si_kind (y1) u nn w hsi
  have hP : va_P G.1 kcl (ky_LW G x cs sc pf fg bb tk o mo ms r u_0 t g n_0 sv w_1 f_1) H := hP
  have hD : va_D A (ky_LW G x cs sc pf fg bb tk o mo ms r u_0 t g n_0 sv w_1 f_1) := hD
  refine W.widen (k := cells + 1) (n := slots + 6) (by omega) (by omega) ?_
  refine lv_istore (lv' := [(6, .int (j_1)), (5, .int (j_0)), (0, .ref b), (1, .ref x), (2, .ref mo), (3, .ref o), (4, .int (i))]) hx hb dc_L_law_1359 hl (by decide) rfl (fun ls hl => ?_)
  refine lv_goto (tgt := 2294) hx hb dc_L_law_1361 (by decide) ?_
  refine W.widen (k := cells + 544) (n := slots + 12088) (by omega) (by omega) ?_
  exact KK _ _ _ _ _ _ _ _ _ _ hsk hsi_1 (lv_sub hl [2, 3, 4, 5, 6] rfl) hP hD hS hIT
end KYLC
