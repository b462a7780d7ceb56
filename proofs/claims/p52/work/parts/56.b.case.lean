section KYLC
variable {p : Program} {l : Launch} {e : Env} {s : State} {m : MethodId} {below : List Frame} {meth : Method} {c : Code} {H : Heap} {locs : List Loc} {cells slots : Nat} {Q : State → Prop} {ls : Array Slot} {A : Nat → Prop} {G : ky_G} {b L : Nat} {xs : Nat → Int32}
variable {x cs sc pf fg bb tk o mo ms : Nat} {r : Nat → Nat} {u : ky_BS} {t : ky_SV} {g : Nat → Nat → Int64} {nn : Int64} {sv : Value} {w : ky_MV} {f : Nat → Option Nat}
set_option linter.constructorNameAsVariable false in
set_option maxHeartbeats 4000000 in
set_option maxRecDepth 100000 in
theorem lc_8 (hl9 : l.stackTraces = false) (F : ky_F p s m meth c "ExactdoublesLaw" code 7 ret #[Value.ref b]) (hE : ky_E G s) (hfr : ∀ q, A q → ky_fr G q) (hA : ∀ q, s.heap.size ≤ q → A q)
    (hXX : va_X b L xs s s.heap) (hbl : b < s.heap.size) (hbA : ¬ A b) {i : Int32} (h1 : vp_in ((i) + ((1 : Int32))) L) (h2 : vp_in ((i) + ((2 : Int32))) L) (h3 : vp_in ((i) + ((3 : Int32))) L) (hl : lv_has ls 7 [(0, .ref b), (1, .ref x), (2, .ref mo), (3, .ref o), (4, .int (i))])
    (hsk : ky_sok t) (hsi : ky_SI u w) (hP : va_P G.1 kcl (ky_LW G x cs sc pf fg bb tk o mo ms r u t g nn sv w f) H) (hD : va_D A (ky_LW G x cs sc pf fg bb tk o mo ms r u t g nn sv w f)) (hS : va_S A s.heap H locs) (hIT : ky_IT G mo ms (fun _ => False) f w.2.2.2.2 H) (hcc : cells + 544 ≤ 602769) (hss : slots + 12088 ≤ 7287796)
    (KK : ∀ (u : ky_BS) (t : ky_SV) (g : Nat → Nat → Int64) (nn : Int64) (sv : Value) (w : ky_MV) (f : Nat → Option Nat) (H : Heap) (locs : List Loc) (ls : Array Slot), ky_sok t → ky_SI u w → lv_has ls 7 [(0, .ref b), (1, .ref x), (2, .ref mo), (3, .ref o), (4, .int (i))] → va_P G.1 kcl (ky_LW G x cs sc pf fg bb tk o mo ms r u t g nn sv w f) H → va_D A (ky_LW G x cs sc pf fg bb tk o mo ms r u t g nn sv w f) → va_S A s.heap H locs → ky_IT G mo ms (fun _ => False) f w.2.2.2.2 H →
      W p l e room_1 s m #[Value.ref b] below meth c H locs (cells + 544) (slots + 12088) Q (F0 m 2294 ls [])) : W p l e room_1 s m #[Value.ref b] below meth c H locs cells slots Q (F0 m 688 ls []) := by
  obtain ⟨hx, hb, hml, hown, hr, hlocks, hts⟩ := id F
  refine lv_aload_n hx hb dc_L_law_688 rfl (lv_at hl 1 rfl) ?_
  refine lv_aload_n hx hb dc_L_law_689 rfl (lv_at hl 0 rfl) ?_
  refine lv_iload hx hb dc_L_law_690 (lv_at hl 4 rfl) ?_
  refine lv_iconst (v := 1) hx hb dc_L_law_692 (by decide) ?_
  refine lv_iadd hx hb dc_L_law_693 ?_
  refine va_sld hx hb hXX hbl hbA hS h1 dc_L_law_694 ?_
  generalize hy1 : xs (((i) + ((1 : Int32)))).toNatClampNeg = y1
  refine lv_aload_n hx hb dc_L_law_695 rfl (lv_at hl 0 rfl) ?_
  refine lv_iload hx hb dc_L_law_696 (lv_at hl 4 rfl) ?_
  refine lv_iconst (v := 2) hx hb dc_L_law_698 (by decide) ?_
  refine lv_iadd hx hb dc_L_law_699 ?_
  refine va_sld hx hb hXX hbl hbA hS h2 dc_L_law_700 ?_
  generalize hy2 : xs (((i) + ((2 : Int32)))).toNatClampNeg = y2
  refine lv_aload_n hx hb dc_L_law_701 rfl (lv_at hl 3 rfl) ?_
  refine cl_num (As := [.ref x, .int (y1), .int (y2), .ref o]) F hE hfr hA (mt_L_floor l hl9 G x cs sc pf u o nn sv (y1) (y2) H.size) kH_L_212 ⟨⟨rfl, rfl⟩, Nat.le_of_ble_eq_true rfl, Nat.le_of_ble_eq_true rfl⟩ rfl hl.1 rfl (Nat.le_of_ble_eq_true rfl) ⟨by show (_ : Nat) ≤ 602769; omega, by show (_ : Nat) ≤ 7287796; omega⟩ hP hD hS hIT dc_L_law_702 ?_
  rintro v9 ⟨u_0, n_0⟩ H locs ⟨rfl, hz_0⟩ hP hD hS hIT
  have hP : va_P G.1 kcl (ky_LW G x cs sc pf fg bb tk o mo ms r u_0 t g n_0 sv w f) H := hP
  have hD : va_D A (ky_LW G x cs sc pf fg bb tk o mo ms r u_0 t g n_0 sv w f) := hD
  have hu_0 : u_0 = (ky_lw (fn_X6_floor (y1) (y2) u) u nn).2.1 := congrArg Prod.fst hz_0
  generalize hj_0 : (ky_lw (fn_X6_floor (y1) (y2) u) u nn).1 = j_0
  refine W.widen (k := cells + 2) (n := slots + 12) (by omega) (by omega) ?_
  refine lv_istore (lv' := [(5, .int (j_0)), (0, .ref b), (1, .ref x), (2, .ref mo), (3, .ref o), (4, .int (i))]) hx hb dc_L_law_705 hl (by decide) rfl (fun ls hl => ?_)
  refine lv_aload_n hx hb dc_L_law_707 rfl (lv_at hl 3 rfl) ?_
  refine lv_aload_n hx hb dc_L_law_708 rfl (lv_at hl 1 rfl) ?_
  refine lv_iload hx hb dc_L_law_709 (lv_at hl 5 rfl) ?_
  refine lv_iconst (v := 1) hx hb dc_L_law_711 (by decide) ?_
  refine lv_iadd hx hb dc_L_law_712 ?_
  refine va_sld hx hb hXX hbl hbA hS h1 dc_L_law_713 ?_
  rw [hy1]
  refine lv_aload_n hx hb dc_L_law_714 rfl (lv_at hl 1 rfl) ?_
  refine lv_iload hx hb dc_L_law_715 (lv_at hl 5 rfl) ?_
  refine lv_iconst (v := 2) hx hb dc_L_law_717 (by decide) ?_
  refine lv_iadd hx hb dc_L_law_718 ?_
  refine va_sld hx hb hXX hbl hbA hS h2 dc_L_law_719 ?_
  rw [hy2]
  refine cl_mm (As := [.int (y1), .int (y2)]) F hE hfr hA (mt_X9_floor l G mo ms (fun _ => False) w f (y1) (y2) H.size (ok_X9_floor (y1) (y2) w)) kv_L_214 ⟨⟨rfl, rfl⟩, Nat.le_of_ble_eq_true rfl, Nat.le_of_ble_eq_true rfl⟩ rfl hl.1 rfl (Nat.le_of_ble_eq_true rfl) ⟨by show (_ : Nat) ≤ 602769; omega, by show (_ : Nat) ≤ 7287796; omega⟩ hP hD hS hIT rfl dc_L_law_720 ?_
  rintro v9 ⟨w_1, f_1⟩ H locs ⟨rfl, hz_1⟩ hP hD hS hIT
  have hP : va_P G.1 kcl (ky_LW G x cs sc pf fg bb tk o mo ms r u_0 t g n_0 sv w_1 f_1) H := hP
  have hD : va_D A (ky_LW G x cs sc pf fg bb tk o mo ms r u_0 t g n_0 sv w_1 f_1) := hD
  generalize hj_1 : (fn_X9_floor (y1) (y2) w).1 = j_1
  have hsi_1 : ky_SI u_0 w_1 := by rw [hu_0, show w_1 = (fn_X9_floor (y1) (y2) w).2 from hz_1]; exact si_floor (y1) (y2) u nn w hsi
  have hP : va_P G.1 kcl (ky_LW G x cs sc pf fg bb tk o mo ms r u_0 t g n_0 sv w_1 f_1) H := hP
  have hD : va_D A (ky_LW G x cs sc pf fg bb tk o mo ms r u_0 t g n_0 sv w_1 f_1) := hD
  refine W.widen (k := cells + 3) (n := slots + 14) (by omega) (by omega) ?_
  refine lv_istore (lv' := [(6, .int (j_1)), (5, .int (j_0)), (0, .ref b), (1, .ref x), (2, .ref mo), (3, .ref o), (4, .int (i))]) hx hb dc_L_law_723 hl (by decide) rfl (fun ls hl => ?_)
  refine lv_goto (tgt := 2294) hx hb dc_L_law_725 (by decide) ?_
  refine W.widen (k := cells + 544) (n := slots + 12088) (by omega) (by omega) ?_
  exact KK _ _ _ _ _ _ _ _ _ _ hsk hsi_1 (lv_sub hl [2, 3, 4, 5, 6] rfl) hP hD hS hIT
set_option linter.constructorNameAsVariable false in
set_option maxHeartbeats 4000000 in
set_option maxRecDepth 100000 in
theorem lc_9 (hl9 : l.stackTraces = false) (F : ky_F p s m meth c "ExactdoublesLaw" code 7 ret #[Value.ref b]) (hE : ky_E G s) (hfr : ∀ q, A q → ky_fr G q) (hA : ∀ q, s.heap.size ≤ q → A q)
    (hXX : va_X b L xs s s.heap) (hbl : b < s.heap.size) (hbA : ¬ A b) {i : Int32} (h1 : vp_in ((i) + ((1 : Int32))) L) (h2 : vp_in ((i) + ((2 : Int32))) L) (h3 : vp_in ((i) + ((3 : Int32))) L) (hl : lv_has ls 7 [(0, .ref b), (1, .ref x), (2, .ref mo), (3, .ref o), (4, .int (i))])
    (hsk : ky_sok t) (hsi : ky_SI u w) (hP : va_P G.1 kcl (ky_LW G x cs sc pf fg bb tk o mo ms r u t g nn sv w f) H) (hD : va_D A (ky_LW G x cs sc pf fg bb tk o mo ms r u t g nn sv w f)) (hS : va_S A s.heap H locs) (hIT : ky_IT G mo ms (fun _ => False) f w.2.2.2.2 H) (hcc : cells + 544 ≤ 602769) (hss : slots + 12088 ≤ 7287796)
    (KK : ∀ (u : ky_BS) (t : ky_SV) (g : Nat → Nat → Int64) (nn : Int64) (sv : Value) (w : ky_MV) (f : Nat → Option Nat) (H : Heap) (locs : List Loc) (ls : Array Slot), ky_sok t → ky_SI u w → lv_has ls 7 [(0, .ref b), (1, .ref x), (2, .ref mo), (3, .ref o), (4, .int (i))] → va_P G.1 kcl (ky_LW G x cs sc pf fg bb tk o mo ms r u t g nn sv w f) H → va_D A (ky_LW G x cs sc pf fg bb tk o mo ms r u t g nn sv w f) → va_S A s.heap H locs → ky_IT G mo ms (fun _ => False) f w.2.2.2.2 H →
      W p l e room_1 s m #[Value.ref b] below meth c H locs (cells + 544) (slots + 12088) Q (F0 m 2294 ls [])) : W p l e room_1 s m #[Value.ref b] below meth c H locs cells slots Q (F0 m 728 ls []) := by
  obtain ⟨hx, hb, hml, hown, hr, hlocks, hts⟩ := id F
  refine lv_aload_n hx hb dc_L_law_728 rfl (lv_at hl 1 rfl) ?_
  refine lv_aload_n hx hb dc_L_law_729 rfl (lv_at hl 0 rfl) ?_
  refine lv_iload hx hb dc_L_law_730 (lv_at hl 4 rfl) ?_
  refine lv_iconst (v := 1) hx hb dc_L_law_732 (by decide) ?_
  refine lv_iadd hx hb dc_L_law_733 ?_
  refine va_sld hx hb hXX hbl hbA hS h1 dc_L_law_734 ?_
  generalize hy1 : xs (((i) + ((1 : Int32)))).toNatClampNeg = y1
  refine lv_aload_n hx hb dc_L_law_735 rfl (lv_at hl 0 rfl) ?_
  refine lv_iload hx hb dc_L_law_736 (lv_at hl 4 rfl) ?_
  refine lv_iconst (v := 2) hx hb dc_L_law_738 (by decide) ?_
  refine lv_iadd hx hb dc_L_law_739 ?_
  refine va_sld hx hb hXX hbl hbA hS h2 dc_L_law_740 ?_
  generalize hy2 : xs (((i) + ((2 : Int32)))).toNatClampNeg = y2
  refine lv_aload_n hx hb dc_L_law_741 rfl (lv_at hl 3 rfl) ?_
  refine cl_num (As := [.ref x, .int (y1), .int (y2), .ref o]) F hE hfr hA (mt_L_ceil l hl9 G x cs sc pf u o nn sv (y1) (y2) H.size) kH_L_215 ⟨⟨rfl, rfl⟩, Nat.le_of_ble_eq_true rfl, Nat.le_of_ble_eq_true rfl⟩ rfl hl.1 rfl (Nat.le_of_ble_eq_true rfl) ⟨by show (_ : Nat) ≤ 602769; omega, by show (_ : Nat) ≤ 7287796; omega⟩ hP hD hS hIT dc_L_law_742 ?_
  rintro v9 ⟨u_0, n_0⟩ H locs ⟨rfl, hz_0⟩ hP hD hS hIT
  have hP : va_P G.1 kcl (ky_LW G x cs sc pf fg bb tk o mo ms r u_0 t g n_0 sv w f) H := hP
  have hD : va_D A (ky_LW G x cs sc pf fg bb tk o mo ms r u_0 t g n_0 sv w f) := hD
  have hu_0 : u_0 = (ky_lw (fn_X6_ceil (y1) (y2) u) u nn).2.1 := congrArg Prod.fst hz_0
  generalize hj_0 : (ky_lw (fn_X6_ceil (y1) (y2) u) u nn).1 = j_0
  refine W.widen (k := cells + 2) (n := slots + 12) (by omega) (by omega) ?_
  refine lv_istore (lv' := [(5, .int (j_0)), (0, .ref b), (1, .ref x), (2, .ref mo), (3, .ref o), (4, .int (i))]) hx hb dc_L_law_745 hl (by decide) rfl (fun ls hl => ?_)
  refine lv_aload_n hx hb dc_L_law_747 rfl (lv_at hl 3 rfl) ?_
  refine lv_aload_n hx hb dc_L_law_748 rfl (lv_at hl 1 rfl) ?_
  refine lv_iload hx hb dc_L_law_749 (lv_at hl 5 rfl) ?_
  refine lv_iconst (v := 1) hx hb dc_L_law_751 (by decide) ?_
  refine lv_iadd hx hb dc_L_law_752 ?_
  refine va_sld hx hb hXX hbl hbA hS h1 dc_L_law_753 ?_
  rw [hy1]
  refine lv_aload_n hx hb dc_L_law_754 rfl (lv_at hl 1 rfl) ?_
  refine lv_iload hx hb dc_L_law_755 (lv_at hl 5 rfl) ?_
  refine lv_iconst (v := 2) hx hb dc_L_law_757 (by decide) ?_
  refine lv_iadd hx hb dc_L_law_758 ?_
  refine va_sld hx hb hXX hbl hbA hS h2 dc_L_law_759 ?_
  rw [hy2]
  refine cl_mm (As := [.int (y1), .int (y2)]) F hE hfr hA (mt_X9_ceil l G mo ms (fun _ => False) w f (y1) (y2) H.size (ok_X9_ceil (y1) (y2) w)) kv_L_217 ⟨⟨rfl, rfl⟩, Nat.le_of_ble_eq_true rfl, Nat.le_of_ble_eq_true rfl⟩ rfl hl.1 rfl (Nat.le_of_ble_eq_true rfl) ⟨by show (_ : Nat) ≤ 602769; omega, by show (_ : Nat) ≤ 7287796; omega⟩ hP hD hS hIT rfl dc_L_law_760 ?_
  rintro v9 ⟨w_1, f_1⟩ H locs ⟨rfl, hz_1⟩ hP hD hS hIT
  have hP : va_P G.1 kcl (ky_LW G x cs sc pf fg bb tk o mo ms r u_0 t g n_0 sv w_1 f_1) H := hP
  have hD : va_D A (ky_LW G x cs sc pf fg bb tk o mo ms r u_0 t g n_0 sv w_1 f_1) := hD
  generalize hj_1 : (fn_X9_ceil (y1) (y2) w).1 = j_1
  have hsi_1 : ky_SI u_0 w_1 := by rw [hu_0, show w_1 = (fn_X9_ceil (y1) (y2) w).2 from hz_1]; exact si_ceil (y1) (y2) u nn w hsi
  have hP : va_P G.1 kcl (ky_LW G x cs sc pf fg bb tk o mo ms r u_0 t g n_0 sv w_1 f_1) H := hP
  have hD : va_D A (ky_LW G x cs sc pf fg bb tk o mo ms r u_0 t g n_0 sv w_1 f_1) := hD
  refine W.widen (k := cells + 3) (n := slots + 14) (by omega) (by omega) ?_
  refine lv_istore (lv' := [(6, .int (j_1)), (5, .int (j_0)), (0, .ref b), (1, .ref x), (2, .ref mo), (3, .ref o), (4, .int (i))]) hx hb dc_L_law_763 hl (by decide) rfl (fun ls hl => ?_)
  refine lv_goto (tgt := 2294) hx hb dc_L_law_765 (by decide) ?_
  refine W.widen (k := cells + 544) (n := slots + 12088) (by omega) (by omega) ?_
  exact KK _ _ _ _ _ _ _ _ _ _ hsk hsi_1 (lv_sub hl [2, 3, 4, 5, 6] rfl) hP hD hS hIT
set_option linter.constructorNameAsVariable false in
set_option maxHeartbeats 4000000 in
set_option maxRecDepth 100000 in
theorem lc_10 (hl9 : l.stackTraces = false) (F : ky_F p s m meth c "ExactdoublesLaw" code 7 ret #[Value.ref b]) (hE : ky_E G s) (hfr : ∀ q, A q → ky_fr G q) (hA : ∀ q, s.heap.size ≤ q → A q)
    (hXX : va_X b L xs s s.heap) (hbl : b < s.heap.size) (hbA : ¬ A b) {i : Int32} (h1 : vp_in ((i) + ((1 : Int32))) L) (h2 : vp_in ((i) + ((2 : Int32))) L) (h3 : vp_in ((i) + ((3 : Int32))) L) (hl : lv_has ls 7 [(0, .ref b), (1, .ref x), (2, .ref mo), (3, .ref o), (4, .int (i))])
    (hsk : ky_sok t) (hsi : ky_SI u w) (hP : va_P G.1 kcl (ky_LW G x cs sc pf fg bb tk o mo ms r u t g nn sv w f) H) (hD : va_D A (ky_LW G x cs sc pf fg bb tk o mo ms r u t g nn sv w f)) (hS : va_S A s.heap H locs) (hIT : ky_IT G mo ms (fun _ => False) f w.2.2.2.2 H) (hcc : cells + 544 ≤ 602769) (hss : slots + 12088 ≤ 7287796)
    (KK : ∀ (u : ky_BS) (t : ky_SV) (g : Nat → Nat → Int64) (nn : Int64) (sv : Value) (w : ky_MV) (f : Nat → Option Nat) (H : Heap) (locs : List Loc) (ls : Array Slot), ky_sok t → ky_SI u w → lv_has ls 7 [(0, .ref b), (1, .ref x), (2, .ref mo), (3, .ref o), (4, .int (i))] → va_P G.1 kcl (ky_LW G x cs sc pf fg bb tk o mo ms r u t g nn sv w f) H → va_D A (ky_LW G x cs sc pf fg bb tk o mo ms r u t g nn sv w f) → va_S A s.heap H locs → ky_IT G mo ms (fun _ => False) f w.2.2.2.2 H →
      W p l e room_1 s m #[Value.ref b] below meth c H locs (cells + 544) (slots + 12088) Q (F0 m 2294 ls [])) : W p l e room_1 s m #[Value.ref b] below meth c H locs cells slots Q (F0 m 768 ls []) := by
  obtain ⟨hx, hb, hml, hown, hr, hlocks, hts⟩ := id F
  refine lv_aload_n hx hb dc_L_law_768 rfl (lv_at hl 1 rfl) ?_
  refine lv_aload_n hx hb dc_L_law_769 rfl (lv_at hl 0 rfl) ?_
  refine lv_iload hx hb dc_L_law_770 (lv_at hl 4 rfl) ?_
  refine lv_iconst (v := 1) hx hb dc_L_law_772 (by decide) ?_
  refine lv_iadd hx hb dc_L_law_773 ?_
  refine va_sld hx hb hXX hbl hbA hS h1 dc_L_law_774 ?_
  generalize hy1 : xs (((i) + ((1 : Int32)))).toNatClampNeg = y1
  refine lv_aload_n hx hb dc_L_law_775 rfl (lv_at hl 0 rfl) ?_
  refine lv_iload hx hb dc_L_law_776 (lv_at hl 4 rfl) ?_
  refine lv_iconst (v := 2) hx hb dc_L_law_778 (by decide) ?_
  refine lv_iadd hx hb dc_L_law_779 ?_
  refine va_sld hx hb hXX hbl hbA hS h2 dc_L_law_780 ?_
  generalize hy2 : xs (((i) + ((2 : Int32)))).toNatClampNeg = y2
  refine lv_aload_n hx hb dc_L_law_781 rfl (lv_at hl 3 rfl) ?_
  refine cl_num (As := [.ref x, .int (y1), .int (y2), .ref o]) F hE hfr hA (mt_L_rint l hl9 G x cs sc pf u o nn sv (y1) (y2) H.size) kH_L_218 ⟨⟨rfl, rfl⟩, Nat.le_of_ble_eq_true rfl, Nat.le_of_ble_eq_true rfl⟩ rfl hl.1 rfl (Nat.le_of_ble_eq_true rfl) ⟨by show (_ : Nat) ≤ 602769; omega, by show (_ : Nat) ≤ 7287796; omega⟩ hP hD hS hIT dc_L_law_782 ?_
  rintro v9 ⟨u_0, n_0⟩ H locs ⟨rfl, hz_0⟩ hP hD hS hIT
  have hP : va_P G.1 kcl (ky_LW G x cs sc pf fg bb tk o mo ms r u_0 t g n_0 sv w f) H := hP
  have hD : va_D A (ky_LW G x cs sc pf fg bb tk o mo ms r u_0 t g n_0 sv w f) := hD
  have hu_0 : u_0 = (ky_lw (fn_X6_rint (y1) (y2) u) u nn).2.1 := congrArg Prod.fst hz_0
  generalize hj_0 : (ky_lw (fn_X6_rint (y1) (y2) u) u nn).1 = j_0
  refine W.widen (k := cells + 2) (n := slots + 12) (by omega) (by omega) ?_
  refine lv_istore (lv' := [(5, .int (j_0)), (0, .ref b), (1, .ref x), (2, .ref mo), (3, .ref o), (4, .int (i))]) hx hb dc_L_law_785 hl (by decide) rfl (fun ls hl => ?_)
  refine lv_aload_n hx hb dc_L_law_787 rfl (lv_at hl 3 rfl) ?_
  refine lv_aload_n hx hb dc_L_law_788 rfl (lv_at hl 1 rfl) ?_
  refine lv_iload hx hb dc_L_law_789 (lv_at hl 5 rfl) ?_
  refine lv_iconst (v := 1) hx hb dc_L_law_791 (by decide) ?_
  refine lv_iadd hx hb dc_L_law_792 ?_
  refine va_sld hx hb hXX hbl hbA hS h1 dc_L_law_793 ?_
  rw [hy1]
  refine lv_aload_n hx hb dc_L_law_794 rfl (lv_at hl 1 rfl) ?_
  refine lv_iload hx hb dc_L_law_795 (lv_at hl 5 rfl) ?_
  refine lv_iconst (v := 2) hx hb dc_L_law_797 (by decide) ?_
  refine lv_iadd hx hb dc_L_law_798 ?_
  refine va_sld hx hb hXX hbl hbA hS h2 dc_L_law_799 ?_
  rw [hy2]
  refine cl_mm (As := [.int (y1), .int (y2)]) F hE hfr hA (mt_X9_rint l G mo ms (fun _ => False) w f (y1) (y2) H.size (ok_X9_rint (y1) (y2) w)) kv_L_220 ⟨⟨rfl, rfl⟩, Nat.le_of_ble_eq_true rfl, Nat.le_of_ble_eq_true rfl⟩ rfl hl.1 rfl (Nat.le_of_ble_eq_true rfl) ⟨by show (_ : Nat) ≤ 602769; omega, by show (_ : Nat) ≤ 7287796; omega⟩ hP hD hS hIT rfl dc_L_law_800 ?_
  rintro v9 ⟨w_1, f_1⟩ H locs ⟨rfl, hz_1⟩ hP hD hS hIT
  have hP : va_P G.1 kcl (ky_LW G x cs sc pf fg bb tk o mo ms r u_0 t g n_0 sv w_1 f_1) H := hP
  have hD : va_D A (ky_LW G x cs sc pf fg bb tk o mo ms r u_0 t g n_0 sv w_1 f_1) := hD
  generalize hj_1 : (fn_X9_rint (y1) (y2) w).1 = j_1
  have hsi_1 : ky_SI u_0 w_1 := by rw [hu_0, show w_1 = (fn_X9_rint (y1) (y2) w).2 from hz_1]; exact si_rint (y1) (y2) u nn w hsi
  have hP : va_P G.1 kcl (ky_LW G x cs sc pf fg bb tk o mo ms r u_0 t g n_0 sv w_1 f_1) H := hP
  have hD : va_D A (ky_LW G x cs sc pf fg bb tk o mo ms r u_0 t g n_0 sv w_1 f_1) := hD
  refine W.widen (k := cells + 3) (n := slots + 14) (by omega) (by omega) ?_
  refine lv_istore (lv' := [(6, .int (j_1)), (5, .int (j_0)), (0, .ref b), (1, .ref x), (2, .ref mo), (3, .ref o), (4, .int (i))]) hx hb dc_L_law_803 hl (by decide) rfl (fun ls hl => ?_)
  refine lv_goto (tgt := 2294) hx hb dc_L_law_805 (by decide) ?_
  refine W.widen (k := cells + 544) (n := slots + 12088) (by omega) (by omega) ?_
  exact KK _ _ _ _ _ _ _ _ _ _ hsk hsi_1 (lv_sub hl [2, 3, 4, 5, 6] rfl) hP hD hS hIT
set_option linter.constructorNameAsVariable false in
set_option maxHeartbeats 4000000 in
set_option maxRecDepth 100000 in
theorem lc_11 (hl9 : l.stackTraces = false) (F : ky_F p s m meth c "ExactdoublesLaw" code 7 ret #[Value.ref b]) (hE : ky_E G s) (hfr : ∀ q, A q → ky_fr G q) (hA : ∀ q, s.heap.size ≤ q → A q)
    (hXX : va_X b L xs s s.heap) (hbl : b < s.heap.size) (hbA : ¬ A b) {i : Int32} (h1 : vp_in ((i) + ((1 : Int32))) L) (h2 : vp_in ((i) + ((2 : Int32))) L) (h3 : vp_in ((i) + ((3 : Int32))) L) (hl : lv_has ls 7 [(0, .ref b), (1, .ref x), (2, .ref mo), (3, .ref o), (4, .int (i))])
    (hsk : ky_sok t) (hsi : ky_SI u w) (hP : va_P G.1 kcl (ky_LW G x cs sc pf fg bb tk o mo ms r u t g nn sv w f) H) (hD : va_D A (ky_LW G x cs sc pf fg bb tk o mo ms r u t g nn sv w f)) (hS : va_S A s.heap H locs) (hIT : ky_IT G mo ms (fun _ => False) f w.2.2.2.2 H) (hcc : cells + 544 ≤ 602769) (hss : slots + 12088 ≤ 7287796)
    (KK : ∀ (u : ky_BS) (t : ky_SV) (g : Nat → Nat → Int64) (nn : Int64) (sv : Value) (w : ky_MV) (f : Nat → Option Nat) (H : Heap) (locs : List Loc) (ls : Array Slot), ky_sok t → ky_SI u w → lv_has ls 7 [(0, .ref b), (1, .ref x), (2, .ref mo), (3, .ref o), (4, .int (i))] → va_P G.1 kcl (ky_LW G x cs sc pf fg bb tk o mo ms r u t g nn sv w f) H → va_D A (ky_LW G x cs sc pf fg bb tk o mo ms r u t g nn sv w f) → va_S A s.heap H locs → ky_IT G mo ms (fun _ => False) f w.2.2.2.2 H →
      W p l e room_1 s m #[Value.ref b] below meth c H locs (cells + 544) (slots + 12088) Q (F0 m 2294 ls [])) : W p l e room_1 s m #[Value.ref b] below meth c H locs cells slots Q (F0 m 808 ls []) := by
  obtain ⟨hx, hb, hml, hown, hr, hlocks, hts⟩ := id F
  refine lv_aload_n hx hb dc_L_law_808 rfl (lv_at hl 1 rfl) ?_
  refine lv_aload_n hx hb dc_L_law_809 rfl (lv_at hl 0 rfl) ?_
  refine lv_iload hx hb dc_L_law_810 (lv_at hl 4 rfl) ?_
  refine lv_iconst (v := 1) hx hb dc_L_law_812 (by decide) ?_
  refine lv_iadd hx hb dc_L_law_813 ?_
  refine va_sld hx hb hXX hbl hbA hS h1 dc_L_law_814 ?_
  generalize hy1 : xs (((i) + ((1 : Int32)))).toNatClampNeg = y1
  refine lv_aload_n hx hb dc_L_law_815 rfl (lv_at hl 0 rfl) ?_
  refine lv_iload hx hb dc_L_law_816 (lv_at hl 4 rfl) ?_
  refine lv_iconst (v := 2) hx hb dc_L_law_818 (by decide) ?_
  refine lv_iadd hx hb dc_L_law_819 ?_
  refine va_sld hx hb hXX hbl hbA hS h2 dc_L_law_820 ?_
  generalize hy2 : xs (((i) + ((2 : Int32)))).toNatClampNeg = y2
  refine lv_aload_n hx hb dc_L_law_821 rfl (lv_at hl 3 rfl) ?_
  refine cl_num (As := [.ref x, .int (y1), .int (y2), .ref o]) F hE hfr hA (mt_L_size l hl9 G x cs sc pf u o nn sv (y1) (y2) H.size) kH_L_221 ⟨⟨rfl, rfl⟩, Nat.le_of_ble_eq_true rfl, Nat.le_of_ble_eq_true rfl⟩ rfl hl.1 rfl (Nat.le_of_ble_eq_true rfl) ⟨by show (_ : Nat) ≤ 602769; omega, by show (_ : Nat) ≤ 7287796; omega⟩ hP hD hS hIT dc_L_law_822 ?_
  rintro v9 ⟨u_0, n_0⟩ H locs ⟨rfl, hz_0⟩ hP hD hS hIT
  have hP : va_P G.1 kcl (ky_LW G x cs sc pf fg bb tk o mo ms r u_0 t g n_0 sv w f) H := hP
  have hD : va_D A (ky_LW G x cs sc pf fg bb tk o mo ms r u_0 t g n_0 sv w f) := hD
  have hu_0 : u_0 = (ky_lw (fn_X6_size (y1) (y2) u) u nn).2.1 := congrArg Prod.fst hz_0
  generalize hj_0 : (ky_lw (fn_X6_size (y1) (y2) u) u nn).1 = j_0
  refine W.widen (k := cells + 2) (n := slots + 12) (by omega) (by omega) ?_
  refine lv_istore (lv' := [(5, .int (j_0)), (0, .ref b), (1, .ref x), (2, .ref mo), (3, .ref o), (4, .int (i))]) hx hb dc_L_law_825 hl (by decide) rfl (fun ls hl => ?_)
  refine lv_aload_n hx hb dc_L_law_827 rfl (lv_at hl 3 rfl) ?_
  refine lv_aload_n hx hb dc_L_law_828 rfl (lv_at hl 1 rfl) ?_
  refine lv_iload hx hb dc_L_law_829 (lv_at hl 5 rfl) ?_
  refine lv_iconst (v := 1) hx hb dc_L_law_831 (by decide) ?_
  refine lv_iadd hx hb dc_L_law_832 ?_
  refine va_sld hx hb hXX hbl hbA hS h1 dc_L_law_833 ?_
  rw [hy1]
  refine lv_aload_n hx hb dc_L_law_834 rfl (lv_at hl 1 rfl) ?_
  refine lv_iload hx hb dc_L_law_835 (lv_at hl 5 rfl) ?_
  refine lv_iconst (v := 2) hx hb dc_L_law_837 (by decide) ?_
  refine lv_iadd hx hb dc_L_law_838 ?_
  refine va_sld hx hb hXX hbl hbA hS h2 dc_L_law_839 ?_
  rw [hy2]
  refine cl_mm (As := [.int (y1), .int (y2)]) F hE hfr hA (mt_X9_size l G mo ms (fun _ => False) w f (y1) (y2) H.size) kv_L_223 ⟨⟨rfl, rfl⟩, Nat.le_of_ble_eq_true rfl, Nat.le_of_ble_eq_true rfl⟩ rfl hl.1 rfl (Nat.le_of_ble_eq_true rfl) ⟨by show (_ : Nat) ≤ 602769; omega, by show (_ : Nat) ≤ 7287796; omega⟩ hP hD hS hIT rfl dc_L_law_840 ?_
  rintro v9 ⟨w_1, f_1⟩ H locs ⟨rfl, hz_1⟩ hP hD hS hIT
  have hP : va_P G.1 kcl (ky_LW G x cs sc pf fg bb tk o mo ms r u_0 t g n_0 sv w_1 f_1) H := hP
  have hD : va_D A (ky_LW G x cs sc pf fg bb tk o mo ms r u_0 t g n_0 sv w_1 f_1) := hD
  generalize hj_1 : (fn_X9_size (y1) (y2) w).1 = j_1
  have hsi_1 : ky_SI u_0 w_1 := by rw [hu_0, show w_1 = (fn_X9_size (y1) (y2) w).2 from hz_1]; exact si_size (y1) (y2) u nn w hsi
  have hP : va_P G.1 kcl (ky_LW G x cs sc pf fg bb tk o mo ms r u_0 t g n_0 sv w_1 f_1) H := hP
  have hD : va_D A (ky_LW G x cs sc pf fg bb tk o mo ms r u_0 t g n_0 sv w_1 f_1) := hD
  refine W.widen (k := cells + 3) (n := slots + 14) (by omega) (by omega) ?_
  refine lv_istore (lv' := [(6, .int (j_1)), (5, .int (j_0)), (0, .ref b), (1, .ref x), (2, .ref mo), (3, .ref o), (4, .int (i))]) hx hb dc_L_law_843 hl (by decide) rfl (fun ls hl => ?_)
  refine lv_goto (tgt := 2294) hx hb dc_L_law_845 (by decide) ?_
  refine W.widen (k := cells + 544) (n := slots + 12088) (by omega) (by omega) ?_
  exact KK _ _ _ _ _ _ _ _ _ _ hsk hsi_1 (lv_sub hl [2, 3, 4, 5, 6] rfl) hP hD hS hIT
set_option linter.constructorNameAsVariable false in
set_option maxHeartbeats 4000000 in
set_option maxRecDepth 100000 in
theorem lc_12 (hl9 : l.stackTraces = false) (F : ky_F p s m meth c "ExactdoublesLaw" code 7 ret #[Value.ref b]) (hE : ky_E G s) (hfr : ∀ q, A q → ky_fr G q) (hA : ∀ q, s.heap.size ≤ q → A q)
    (hXX : va_X b L xs s s.heap) (hbl : b < s.heap.size) (hbA : ¬ A b) {i : Int32} (h1 : vp_in ((i) + ((1 : Int32))) L) (h2 : vp_in ((i) + ((2 : Int32))) L) (h3 : vp_in ((i) + ((3 : Int32))) L) (hl : lv_has ls 7 [(0, .ref b), (1, .ref x), (2, .ref mo), (3, .ref o), (4, .int (i))])
    (hsk : ky_sok t) (hsi : ky_SI u w) (hP : va_P G.1 kcl (ky_LW G x cs sc pf fg bb tk o mo ms r u t g nn sv w f) H) (hD : va_D A (ky_LW G x cs sc pf fg bb tk o mo ms r u t g nn sv w f)) (hS : va_S A s.heap H locs) (hIT : ky_IT G mo ms (fun _ => False) f w.2.2.2.2 H) (hcc : cells + 544 ≤ 602769) (hss : slots + 12088 ≤ 7287796)
    (KK : ∀ (u : ky_BS) (t : ky_SV) (g : Nat → Nat → Int64) (nn : Int64) (sv : Value) (w : ky_MV) (f : Nat → Option Nat) (H : Heap) (locs : List Loc) (ls : Array Slot), ky_sok t → ky_SI u w → lv_has ls 7 [(0, .ref b), (1, .ref x), (2, .ref mo), (3, .ref o), (4, .int (i))] → va_P G.1 kcl (ky_LW G x cs sc pf fg bb tk o mo ms r u t g nn sv w f) H → va_D A (ky_LW G x cs sc pf fg bb tk o mo ms r u t g nn sv w f) → va_S A s.heap H locs → ky_IT G mo ms (fun _ => False) f w.2.2.2.2 H →
      W p l e room_1 s m #[Value.ref b] below meth c H locs (cells + 544) (slots + 12088) Q (F0 m 2294 ls [])) : W p l e room_1 s m #[Value.ref b] below meth c H locs cells slots Q (F0 m 848 ls []) := by
  obtain ⟨hx, hb, hml, hown, hr, hlocks, hts⟩ := id F
  refine lv_aload_n hx hb dc_L_law_848 rfl (lv_at hl 1 rfl) ?_
  refine lv_aload_n hx hb dc_L_law_849 rfl (lv_at hl 0 rfl) ?_
  refine lv_iload hx hb dc_L_law_850 (lv_at hl 4 rfl) ?_
  refine lv_iconst (v := 1) hx hb dc_L_law_852 (by decide) ?_
  refine lv_iadd hx hb dc_L_law_853 ?_
  refine va_sld hx hb hXX hbl hbA hS h1 dc_L_law_854 ?_
  generalize hy1 : xs (((i) + ((1 : Int32)))).toNatClampNeg = y1
  refine lv_aload_n hx hb dc_L_law_855 rfl (lv_at hl 0 rfl) ?_
  refine lv_iload hx hb dc_L_law_856 (lv_at hl 4 rfl) ?_
  refine lv_iconst (v := 2) hx hb dc_L_law_858 (by decide) ?_
  refine lv_iadd hx hb dc_L_law_859 ?_
  refine va_sld hx hb hXX hbl hbA hS h2 dc_L_law_860 ?_
  generalize hy2 : xs (((i) + ((2 : Int32)))).toNatClampNeg = y2
  refine lv_aload_n hx hb dc_L_law_861 rfl (lv_at hl 3 rfl) ?_
  refine cl_num (As := [.ref x, .int (y1), .int (y2), .ref o]) F hE hfr hA (mt_L_turn l hl9 G x cs sc pf u o nn sv (y1) (y2) H.size) kH_L_224 ⟨⟨rfl, rfl⟩, Nat.le_of_ble_eq_true rfl, Nat.le_of_ble_eq_true rfl⟩ rfl hl.1 rfl (Nat.le_of_ble_eq_true rfl) ⟨by show (_ : Nat) ≤ 602769; omega, by show (_ : Nat) ≤ 7287796; omega⟩ hP hD hS hIT dc_L_law_862 ?_
  rintro v9 ⟨u_0, n_0⟩ H locs ⟨rfl, hz_0⟩ hP hD hS hIT
  have hP : va_P G.1 kcl (ky_LW G x cs sc pf fg bb tk o mo ms r u_0 t g n_0 sv w f) H := hP
  have hD : va_D A (ky_LW G x cs sc pf fg bb tk o mo ms r u_0 t g n_0 sv w f) := hD
  have hu_0 : u_0 = (ky_lw (fn_X6_turn (y1) (y2) u) u nn).2.1 := congrArg Prod.fst hz_0
  generalize hj_0 : (ky_lw (fn_X6_turn (y1) (y2) u) u nn).1 = j_0
  refine W.widen (k := cells + 2) (n := slots + 12) (by omega) (by omega) ?_
  refine lv_istore (lv' := [(5, .int (j_0)), (0, .ref b), (1, .ref x), (2, .ref mo), (3, .ref o), (4, .int (i))]) hx hb dc_L_law_865 hl (by decide) rfl (fun ls hl => ?_)
  refine lv_aload_n hx hb dc_L_law_867 rfl (lv_at hl 3 rfl) ?_
  refine lv_aload_n hx hb dc_L_law_868 rfl (lv_at hl 1 rfl) ?_
  refine lv_iload hx hb dc_L_law_869 (lv_at hl 5 rfl) ?_
  refine lv_iconst (v := 1) hx hb dc_L_law_871 (by decide) ?_
  refine lv_iadd hx hb dc_L_law_872 ?_
  refine va_sld hx hb hXX hbl hbA hS h1 dc_L_law_873 ?_
  rw [hy1]
  refine lv_aload_n hx hb dc_L_law_874 rfl (lv_at hl 1 rfl) ?_
  refine lv_iload hx hb dc_L_law_875 (lv_at hl 5 rfl) ?_
  refine lv_iconst (v := 2) hx hb dc_L_law_877 (by decide) ?_
  refine lv_iadd hx hb dc_L_law_878 ?_
  refine va_sld hx hb hXX hbl hbA hS h2 dc_L_law_879 ?_
  rw [hy2]
  refine cl_mm (As := [.int (y1), .int (y2)]) F hE hfr hA (mt_X9_turn l G mo ms (fun _ => False) w f (y1) (y2) H.size) kv_L_226 ⟨⟨rfl, rfl⟩, Nat.le_of_ble_eq_true rfl, Nat.le_of_ble_eq_true rfl⟩ rfl hl.1 rfl (Nat.le_of_ble_eq_true rfl) ⟨by show (_ : Nat) ≤ 602769; omega, by show (_ : Nat) ≤ 7287796; omega⟩ hP hD hS hIT rfl dc_L_law_880 ?_
  rintro v9 ⟨w_1, f_1⟩ H locs ⟨rfl, hz_1⟩ hP hD hS hIT
  have hP : va_P G.1 kcl (ky_LW G x cs sc pf fg bb tk o mo ms r u_0 t g n_0 sv w_1 f_1) H := hP
  have hD : va_D A (ky_LW G x cs sc pf fg bb tk o mo ms r u_0 t g n_0 sv w_1 f_1) := hD
  generalize hj_1 : (fn_X9_turn (y1) (y2) w).1 = j_1
  have hsi_1 : ky_SI u_0 w_1 := by rw [hu_0, show w_1 = (fn_X9_turn (y1) (y2) w).2 from hz_1]; exact si_turn (y1) (y2) u nn w hsi
  have hP : va_P G.1 kcl (ky_LW G x cs sc pf fg bb tk o mo ms r u_0 t g n_0 sv w_1 f_1) H := hP
  have hD : va_D A (ky_LW G x cs sc pf fg bb tk o mo ms r u_0 t g n_0 sv w_1 f_1) := hD
  refine W.widen (k := cells + 3) (n := slots + 14) (by omega) (by omega) ?_
  refine lv_istore (lv' := [(6, .int (j_1)), (5, .int (j_0)), (0, .ref b), (1, .ref x), (2, .ref mo), (3, .ref o), (4, .int (i))]) hx hb dc_L_law_883 hl (by decide) rfl (fun ls hl => ?_)
  refine lv_goto (tgt := 2294) hx hb dc_L_law_885 (by decide) ?_
  refine W.widen (k := cells + 544) (n := slots + 12088) (by omega) (by omega) ?_
  exact KK _ _ _ _ _ _ _ _ _ _ hsk hsi_1 (lv_sub hl [2, 3, 4, 5, 6] rfl) hP hD hS hIT
set_option linter.constructorNameAsVariable false in
set_option maxHeartbeats 4000000 in
set_option maxRecDepth 100000 in
theorem lc_13 (hl9 : l.stackTraces = false) (F : ky_F p s m meth c "ExactdoublesLaw" code 7 ret #[Value.ref b]) (hE : ky_E G s) (hfr : ∀ q, A q → ky_fr G q) (hA : ∀ q, s.heap.size ≤ q → A q)
    (hXX : va_X b L xs s s.heap) (hbl : b < s.heap.size) (hbA : ¬ A b) {i : Int32} (h1 : vp_in ((i) + ((1 : Int32))) L) (h2 : vp_in ((i) + ((2 : Int32))) L) (h3 : vp_in ((i) + ((3 : Int32))) L) (hl : lv_has ls 7 [(0, .ref b), (1, .ref x), (2, .ref mo), (3, .ref o), (4, .int (i))])
    (hsk : ky_sok t) (hsi : ky_SI u w) (hP : va_P G.1 kcl (ky_LW G x cs sc pf fg bb tk o mo ms r u t g nn sv w f) H) (hD : va_D A (ky_LW G x cs sc pf fg bb tk o mo ms r u t g nn sv w f)) (hS : va_S A s.heap H locs) (hIT : ky_IT G mo ms (fun _ => False) f w.2.2.2.2 H) (hcc : cells + 544 ≤ 602769) (hss : slots + 12088 ≤ 7287796)
    (KK : ∀ (u : ky_BS) (t : ky_SV) (g : Nat → Nat → Int64) (nn : Int64) (sv : Value) (w : ky_MV) (f : Nat → Option Nat) (H : Heap) (locs : List Loc) (ls : Array Slot), ky_sok t → ky_SI u w → lv_has ls 7 [(0, .ref b), (1, .ref x), (2, .ref mo), (3, .ref o), (4, .int (i))] → va_P G.1 kcl (ky_LW G x cs sc pf fg bb tk o mo ms r u t g nn sv w f) H → va_D A (ky_LW G x cs sc pf fg bb tk o mo ms r u t g nn sv w f) → va_S A s.heap H locs → ky_IT G mo ms (fun _ => False) f w.2.2.2.2 H →
      W p l e room_1 s m #[Value.ref b] below meth c H locs (cells + 544) (slots + 12088) Q (F0 m 2294 ls [])) : W p l e room_1 s m #[Value.ref b] below meth c H locs cells slots Q (F0 m 888 ls []) := by
  obtain ⟨hx, hb, hml, hown, hr, hlocks, hts⟩ := id F
  refine lv_aload_n hx hb dc_L_law_888 rfl (lv_at hl 1 rfl) ?_
  refine lv_aload_n hx hb dc_L_law_889 rfl (lv_at hl 0 rfl) ?_
  refine lv_iload hx hb dc_L_law_890 (lv_at hl 4 rfl) ?_
  refine lv_iconst (v := 1) hx hb dc_L_law_892 (by decide) ?_
  refine lv_iadd hx hb dc_L_law_893 ?_
  refine va_sld hx hb hXX hbl hbA hS h1 dc_L_law_894 ?_
  generalize hy1 : xs (((i) + ((1 : Int32)))).toNatClampNeg = y1
  refine lv_aload_n hx hb dc_L_law_895 rfl (lv_at hl 0 rfl) ?_
  refine lv_iload hx hb dc_L_law_896 (lv_at hl 4 rfl) ?_
  refine lv_iconst (v := 2) hx hb dc_L_law_898 (by decide) ?_
  refine lv_iadd hx hb dc_L_law_899 ?_
  refine va_sld hx hb hXX hbl hbA hS h2 dc_L_law_900 ?_
  generalize hy2 : xs (((i) + ((2 : Int32)))).toNatClampNeg = y2
  refine lv_aload_n hx hb dc_L_law_901 rfl (lv_at hl 3 rfl) ?_
  refine cl_num (As := [.ref x, .int (y1), .int (y2), .ref o]) F hE hfr hA (mt_L_sign l hl9 G x cs sc pf u o nn sv (y1) (y2) H.size) kH_L_227 ⟨⟨rfl, rfl⟩, Nat.le_of_ble_eq_true rfl, Nat.le_of_ble_eq_true rfl⟩ rfl hl.1 rfl (Nat.le_of_ble_eq_true rfl) ⟨by show (_ : Nat) ≤ 602769; omega, by show (_ : Nat) ≤ 7287796; omega⟩ hP hD hS hIT dc_L_law_902 ?_
  rintro v9 ⟨u_0, n_0⟩ H locs ⟨rfl, hz_0⟩ hP hD hS hIT
  have hP : va_P G.1 kcl (ky_LW G x cs sc pf fg bb tk o mo ms r u_0 t g n_0 sv w f) H := hP
  have hD : va_D A (ky_LW G x cs sc pf fg bb tk o mo ms r u_0 t g n_0 sv w f) := hD
  have hu_0 : u_0 = (ky_lw (fn_X6_sign (y1) (y2) u) u nn).2.1 := congrArg Prod.fst hz_0
  generalize hj_0 : (ky_lw (fn_X6_sign (y1) (y2) u) u nn).1 = j_0
  refine W.widen (k := cells + 2) (n := slots + 12) (by omega) (by omega) ?_
  refine lv_istore (lv' := [(5, .int (j_0)), (0, .ref b), (1, .ref x), (2, .ref mo), (3, .ref o), (4, .int (i))]) hx hb dc_L_law_905 hl (by decide) rfl (fun ls hl => ?_)
  refine lv_aload_n hx hb dc_L_law_907 rfl (lv_at hl 3 rfl) ?_
  refine lv_aload_n hx hb dc_L_law_908 rfl (lv_at hl 1 rfl) ?_
  refine lv_iload hx hb dc_L_law_909 (lv_at hl 5 rfl) ?_
  refine lv_iconst (v := 1) hx hb dc_L_law_911 (by decide) ?_
  refine lv_iadd hx hb dc_L_law_912 ?_
  refine va_sld hx hb hXX hbl hbA hS h1 dc_L_law_913 ?_
  rw [hy1]
  refine lv_aload_n hx hb dc_L_law_914 rfl (lv_at hl 1 rfl) ?_
  refine lv_iload hx hb dc_L_law_915 (lv_at hl 5 rfl) ?_
  refine lv_iconst (v := 2) hx hb dc_L_law_917 (by decide) ?_
  refine lv_iadd hx hb dc_L_law_918 ?_
  refine va_sld hx hb hXX hbl hbA hS h2 dc_L_law_919 ?_
  rw [hy2]
  refine cl_mm (As := [.int (y1), .int (y2)]) F hE hfr hA (mt_X9_sign l G mo ms (fun _ => False) w f (y1) (y2) H.size (ok_X9_sign (y1) (y2) w)) kv_L_229 ⟨⟨rfl, rfl⟩, Nat.le_of_ble_eq_true rfl, Nat.le_of_ble_eq_true rfl⟩ rfl hl.1 rfl (Nat.le_of_ble_eq_true rfl) ⟨by show (_ : Nat) ≤ 602769; omega, by show (_ : Nat) ≤ 7287796; omega⟩ hP hD hS hIT rfl dc_L_law_920 ?_
  rintro v9 ⟨w_1, f_1⟩ H locs ⟨rfl, hz_1⟩ hP hD hS hIT
  have hP : va_P G.1 kcl (ky_LW G x cs sc pf fg bb tk o mo ms r u_0 t g n_0 sv w_1 f_1) H := hP
  have hD : va_D A (ky_LW G x cs sc pf fg bb tk o mo ms r u_0 t g n_0 sv w_1 f_1) := hD
  generalize hj_1 : (fn_X9_sign (y1) (y2) w).1 = j_1
  have hsi_1 : ky_SI u_0 w_1 := by rw [hu_0, show w_1 = (fn_X9_sign (y1) (y2) w).2 from hz_1]; exact si_sign (y1) (y2) u nn w hsi
  have hP : va_P G.1 kcl (ky_LW G x cs sc pf fg bb tk o mo ms r u_0 t g n_0 sv w_1 f_1) H := hP
  have hD : va_D A (ky_LW G x cs sc pf fg bb tk o mo ms r u_0 t g n_0 sv w_1 f_1) := hD
  refine W.widen (k := cells + 3) (n := slots + 14) (by omega) (by omega) ?_
  refine lv_istore (lv' := [(6, .int (j_1)), (5, .int (j_0)), (0, .ref b), (1, .ref x), (2, .ref mo), (3, .ref o), (4, .int (i))]) hx hb dc_L_law_923 hl (by decide) rfl (fun ls hl => ?_)
  refine lv_goto (tgt := 2294) hx hb dc_L_law_925 (by decide) ?_
  refine W.widen (k := cells + 544) (n := slots + 12088) (by omega) (by omega) ?_
  exact KK _ _ _ _ _ _ _ _ _ _ hsk hsi_1 (lv_sub hl [2, 3, 4, 5, 6] rfl) hP hD hS hIT
set_option linter.constructorNameAsVariable false in
set_option maxHeartbeats 4000000 in
set_option maxRecDepth 100000 in
theorem lc_14 (hl9 : l.stackTraces = false) (F : ky_F p s m meth c "ExactdoublesLaw" code 7 ret #[Value.ref b]) (hE : ky_E G s) (hfr : ∀ q, A q → ky_fr G q) (hA : ∀ q, s.heap.size ≤ q → A q)
    (hXX : va_X b L xs s s.heap) (hbl : b < s.heap.size) (hbA : ¬ A b) {i : Int32} (h1 : vp_in ((i) + ((1 : Int32))) L) (h2 : vp_in ((i) + ((2 : Int32))) L) (h3 : vp_in ((i) + ((3 : Int32))) L) (hl : lv_has ls 7 [(0, .ref b), (1, .ref x), (2, .ref mo), (3, .ref o), (4, .int (i))])
    (hsk : ky_sok t) (hsi : ky_SI u w) (hP : va_P G.1 kcl (ky_LW G x cs sc pf fg bb tk o mo ms r u t g nn sv w f) H) (hD : va_D A (ky_LW G x cs sc pf fg bb tk o mo ms r u t g nn sv w f)) (hS : va_S A s.heap H locs) (hIT : ky_IT G mo ms (fun _ => False) f w.2.2.2.2 H) (hcc : cells + 544 ≤ 602769) (hss : slots + 12088 ≤ 7287796)
    (KK : ∀ (u : ky_BS) (t : ky_SV) (g : Nat → Nat → Int64) (nn : Int64) (sv : Value) (w : ky_MV) (f : Nat → Option Nat) (H : Heap) (locs : List Loc) (ls : Array Slot), ky_sok t → ky_SI u w → lv_has ls 7 [(0, .ref b), (1, .ref x), (2, .ref mo), (3, .ref o), (4, .int (i))] → va_P G.1 kcl (ky_LW G x cs sc pf fg bb tk o mo ms r u t g nn sv w f) H → va_D A (ky_LW G x cs sc pf fg bb tk o mo ms r u t g nn sv w f) → va_S A s.heap H locs → ky_IT G mo ms (fun _ => False) f w.2.2.2.2 H →
      W p l e room_1 s m #[Value.ref b] below meth c H locs (cells + 544) (slots + 12088) Q (F0 m 2294 ls [])) : W p l e room_1 s m #[Value.ref b] below meth c H locs cells slots Q (F0 m 928 ls []) := by
  obtain ⟨hx, hb, hml, hown, hr, hlocks, hts⟩ := id F
  refine lv_aload_n hx hb dc_L_law_928 rfl (lv_at hl 1 rfl) ?_
  refine lv_aload_n hx hb dc_L_law_929 rfl (lv_at hl 0 rfl) ?_
  refine lv_iload hx hb dc_L_law_930 (lv_at hl 4 rfl) ?_
  refine lv_iconst (v := 1) hx hb dc_L_law_932 (by decide) ?_
  refine lv_iadd hx hb dc_L_law_933 ?_
  refine va_sld hx hb hXX hbl hbA hS h1 dc_L_law_934 ?_
  generalize hy1 : xs (((i) + ((1 : Int32)))).toNatClampNeg = y1
  refine lv_aload_n hx hb dc_L_law_935 rfl (lv_at hl 0 rfl) ?_
  refine lv_iload hx hb dc_L_law_936 (lv_at hl 4 rfl) ?_
  refine lv_iconst (v := 2) hx hb dc_L_law_938 (by decide) ?_
  refine lv_iadd hx hb dc_L_law_939 ?_
  refine va_sld hx hb hXX hbl hbA hS h2 dc_L_law_940 ?_
  generalize hy2 : xs (((i) + ((2 : Int32)))).toNatClampNeg = y2
  refine lv_aload_n hx hb dc_L_law_941 rfl (lv_at hl 3 rfl) ?_
  refine cl_num (As := [.ref x, .int (y1), .int (y2), .ref o]) F hE hfr hA (mt_L_up l hl9 G x cs sc pf u o nn sv (y1) (y2) H.size) kH_L_230 ⟨⟨rfl, rfl⟩, Nat.le_of_ble_eq_true rfl, Nat.le_of_ble_eq_true rfl⟩ rfl hl.1 rfl (Nat.le_of_ble_eq_true rfl) ⟨by show (_ : Nat) ≤ 602769; omega, by show (_ : Nat) ≤ 7287796; omega⟩ hP hD hS hIT dc_L_law_942 ?_
  rintro v9 ⟨u_0, n_0⟩ H locs ⟨rfl, hz_0⟩ hP hD hS hIT
  have hP : va_P G.1 kcl (ky_LW G x cs sc pf fg bb tk o mo ms r u_0 t g n_0 sv w f) H := hP
  have hD : va_D A (ky_LW G x cs sc pf fg bb tk o mo ms r u_0 t g n_0 sv w f) := hD
  have hu_0 : u_0 = (ky_lw (fn_X6_up (y1) (y2) u) u nn).2.1 := congrArg Prod.fst hz_0
  generalize hj_0 : (ky_lw (fn_X6_up (y1) (y2) u) u nn).1 = j_0
  refine W.widen (k := cells + 2) (n := slots + 12) (by omega) (by omega) ?_
  refine lv_istore (lv' := [(5, .int (j_0)), (0, .ref b), (1, .ref x), (2, .ref mo), (3, .ref o), (4, .int (i))]) hx hb dc_L_law_945 hl (by decide) rfl (fun ls hl => ?_)
  refine lv_aload_n hx hb dc_L_law_947 rfl (lv_at hl 3 rfl) ?_
  refine lv_aload_n hx hb dc_L_law_948 rfl (lv_at hl 1 rfl) ?_
  refine lv_iload hx hb dc_L_law_949 (lv_at hl 5 rfl) ?_
  refine lv_iconst (v := 1) hx hb dc_L_law_951 (by decide) ?_
  refine lv_iadd hx hb dc_L_law_952 ?_
  refine va_sld hx hb hXX hbl hbA hS h1 dc_L_law_953 ?_
  rw [hy1]
  refine lv_aload_n hx hb dc_L_law_954 rfl (lv_at hl 1 rfl) ?_
  refine lv_iload hx hb dc_L_law_955 (lv_at hl 5 rfl) ?_
  refine lv_iconst (v := 2) hx hb dc_L_law_957 (by decide) ?_
  refine lv_iadd hx hb dc_L_law_958 ?_
  refine va_sld hx hb hXX hbl hbA hS h2 dc_L_law_959 ?_
  rw [hy2]
  refine cl_mm (As := [.int (y1), .int (y2)]) F hE hfr hA (mt_X9_up l G mo ms (fun _ => False) w f (y1) (y2) H.size) kv_L_232 ⟨⟨rfl, rfl⟩, Nat.le_of_ble_eq_true rfl, Nat.le_of_ble_eq_true rfl⟩ rfl hl.1 rfl (Nat.le_of_ble_eq_true rfl) ⟨by show (_ : Nat) ≤ 602769; omega, by show (_ : Nat) ≤ 7287796; omega⟩ hP hD hS hIT rfl dc_L_law_960 ?_
  rintro v9 ⟨w_1, f_1⟩ H locs ⟨rfl, hz_1⟩ hP hD hS hIT
  have hP : va_P G.1 kcl (ky_LW G x cs sc pf fg bb tk o mo ms r u_0 t g n_0 sv w_1 f_1) H := hP
  have hD : va_D A (ky_LW G x cs sc pf fg bb tk o mo ms r u_0 t g n_0 sv w_1 f_1) := hD
  generalize hj_1 : (fn_X9_up (y1) (y2) w).1 = j_1
  have hsi_1 : ky_SI u_0 w_1 := by rw [hu_0, show w_1 = (fn_X9_up (y1) (y2) w).2 from hz_1]; exact si_up (y1) (y2) u nn w hsi
  have hP : va_P G.1 kcl (ky_LW G x cs sc pf fg bb tk o mo ms r u_0 t g n_0 sv w_1 f_1) H := hP
  have hD : va_D A (ky_LW G x cs sc pf fg bb tk o mo ms r u_0 t g n_0 sv w_1 f_1) := hD
  refine W.widen (k := cells + 3) (n := slots + 14) (by omega) (by omega) ?_
  refine lv_istore (lv' := [(6, .int (j_1)), (5, .int (j_0)), (0, .ref b), (1, .ref x), (2, .ref mo), (3, .ref o), (4, .int (i))]) hx hb dc_L_law_963 hl (by decide) rfl (fun ls hl => ?_)
  refine lv_goto (tgt := 2294) hx hb dc_L_law_965 (by decide) ?_
  refine W.widen (k := cells + 544) (n := slots + 12088) (by omega) (by omega) ?_
  exact KK _ _ _ _ _ _ _ _ _ _ hsk hsi_1 (lv_sub hl [2, 3, 4, 5, 6] rfl) hP hD hS hIT
set_option linter.constructorNameAsVariable false in
set_option maxHeartbeats 4000000 in
set_option maxRecDepth 100000 in
theorem lc_15 (hl9 : l.stackTraces = false) (F : ky_F p s m meth c "ExactdoublesLaw" code 7 ret #[Value.ref b]) (hE : ky_E G s) (hfr : ∀ q, A q → ky_fr G q) (hA : ∀ q, s.heap.size ≤ q → A q)
    (hXX : va_X b L xs s s.heap) (hbl : b < s.heap.size) (hbA : ¬ A b) {i : Int32} (h1 : vp_in ((i) + ((1 : Int32))) L) (h2 : vp_in ((i) + ((2 : Int32))) L) (h3 : vp_in ((i) + ((3 : Int32))) L) (hl : lv_has ls 7 [(0, .ref b), (1, .ref x), (2, .ref mo), (3, .ref o), (4, .int (i))])
    (hsk : ky_sok t) (hsi : ky_SI u w) (hP : va_P G.1 kcl (ky_LW G x cs sc pf fg bb tk o mo ms r u t g nn sv w f) H) (hD : va_D A (ky_LW G x cs sc pf fg bb tk o mo ms r u t g nn sv w f)) (hS : va_S A s.heap H locs) (hIT : ky_IT G mo ms (fun _ => False) f w.2.2.2.2 H) (hcc : cells + 544 ≤ 602769) (hss : slots + 12088 ≤ 7287796)
    (KK : ∀ (u : ky_BS) (t : ky_SV) (g : Nat → Nat → Int64) (nn : Int64) (sv : Value) (w : ky_MV) (f : Nat → Option Nat) (H : Heap) (locs : List Loc) (ls : Array Slot), ky_sok t → ky_SI u w → lv_has ls 7 [(0, .ref b), (1, .ref x), (2, .ref mo), (3, .ref o), (4, .int (i))] → va_P G.1 kcl (ky_LW G x cs sc pf fg bb tk o mo ms r u t g nn sv w f) H → va_D A (ky_LW G x cs sc pf fg bb tk o mo ms r u t g nn sv w f) → va_S A s.heap H locs → ky_IT G mo ms (fun _ => False) f w.2.2.2.2 H →
      W p l e room_1 s m #[Value.ref b] below meth c H locs (cells + 544) (slots + 12088) Q (F0 m 2294 ls [])) : W p l e room_1 s m #[Value.ref b] below meth c H locs cells slots Q (F0 m 968 ls []) := by
  obtain ⟨hx, hb, hml, hown, hr, hlocks, hts⟩ := id F
  refine lv_aload_n hx hb dc_L_law_968 rfl (lv_at hl 1 rfl) ?_
  refine lv_aload_n hx hb dc_L_law_969 rfl (lv_at hl 0 rfl) ?_
  refine lv_iload hx hb dc_L_law_970 (lv_at hl 4 rfl) ?_
  refine lv_iconst (v := 1) hx hb dc_L_law_972 (by decide) ?_
  refine lv_iadd hx hb dc_L_law_973 ?_
  refine va_sld hx hb hXX hbl hbA hS h1 dc_L_law_974 ?_
  generalize hy1 : xs (((i) + ((1 : Int32)))).toNatClampNeg = y1
  refine lv_aload_n hx hb dc_L_law_975 rfl (lv_at hl 0 rfl) ?_
  refine lv_iload hx hb dc_L_law_976 (lv_at hl 4 rfl) ?_
  refine lv_iconst (v := 2) hx hb dc_L_law_978 (by decide) ?_
  refine lv_iadd hx hb dc_L_law_979 ?_
  refine va_sld hx hb hXX hbl hbA hS h2 dc_L_law_980 ?_
  generalize hy2 : xs (((i) + ((2 : Int32)))).toNatClampNeg = y2
  refine lv_aload_n hx hb dc_L_law_981 rfl (lv_at hl 3 rfl) ?_
  refine cl_num (As := [.ref x, .int (y1), .int (y2), .ref o]) F hE hfr hA (mt_L_down l hl9 G x cs sc pf u o nn sv (y1) (y2) H.size) kH_L_233 ⟨⟨rfl, rfl⟩, Nat.le_of_ble_eq_true rfl, Nat.le_of_ble_eq_true rfl⟩ rfl hl.1 rfl (Nat.le_of_ble_eq_true rfl) ⟨by show (_ : Nat) ≤ 602769; omega, by show (_ : Nat) ≤ 7287796; omega⟩ hP hD hS hIT dc_L_law_982 ?_
  rintro v9 ⟨u_0, n_0⟩ H locs ⟨rfl, hz_0⟩ hP hD hS hIT
  have hP : va_P G.1 kcl (ky_LW G x cs sc pf fg bb tk o mo ms r u_0 t g n_0 sv w f) H := hP
  have hD : va_D A (ky_LW G x cs sc pf fg bb tk o mo ms r u_0 t g n_0 sv w f) := hD
  have hu_0 : u_0 = (ky_lw (fn_X6_down (y1) (y2) u) u nn).2.1 := congrArg Prod.fst hz_0
  generalize hj_0 : (ky_lw (fn_X6_down (y1) (y2) u) u nn).1 = j_0
  refine W.widen (k := cells + 2) (n := slots + 12) (by omega) (by omega) ?_
  refine lv_istore (lv' := [(5, .int (j_0)), (0, .ref b), (1, .ref x), (2, .ref mo), (3, .ref o), (4, .int (i))]) hx hb dc_L_law_985 hl (by decide) rfl (fun ls hl => ?_)
  refine lv_aload_n hx hb dc_L_law_987 rfl (lv_at hl 3 rfl) ?_
  refine lv_aload_n hx hb dc_L_law_988 rfl (lv_at hl 1 rfl) ?_
  refine lv_iload hx hb dc_L_law_989 (lv_at hl 5 rfl) ?_
  refine lv_iconst (v := 1) hx hb dc_L_law_991 (by decide) ?_
  refine lv_iadd hx hb dc_L_law_992 ?_
  refine va_sld hx hb hXX hbl hbA hS h1 dc_L_law_993 ?_
  rw [hy1]
  refine lv_aload_n hx hb dc_L_law_994 rfl (lv_at hl 1 rfl) ?_
  refine lv_iload hx hb dc_L_law_995 (lv_at hl 5 rfl) ?_
  refine lv_iconst (v := 2) hx hb dc_L_law_997 (by decide) ?_
  refine lv_iadd hx hb dc_L_law_998 ?_
  refine va_sld hx hb hXX hbl hbA hS h2 dc_L_law_999 ?_
  rw [hy2]
  refine cl_mm (As := [.int (y1), .int (y2)]) F hE hfr hA (mt_X9_down l G mo ms (fun _ => False) w f (y1) (y2) H.size) kv_L_235 ⟨⟨rfl, rfl⟩, Nat.le_of_ble_eq_true rfl, Nat.le_of_ble_eq_true rfl⟩ rfl hl.1 rfl (Nat.le_of_ble_eq_true rfl) ⟨by show (_ : Nat) ≤ 602769; omega, by show (_ : Nat) ≤ 7287796; omega⟩ hP hD hS hIT rfl dc_L_law_1000 ?_
  rintro v9 ⟨w_1, f_1⟩ H locs ⟨rfl, hz_1⟩ hP hD hS hIT
  have hP : va_P G.1 kcl (ky_LW G x cs sc pf fg bb tk o mo ms r u_0 t g n_0 sv w_1 f_1) H := hP
  have hD : va_D A (ky_LW G x cs sc pf fg bb tk o mo ms r u_0 t g n_0 sv w_1 f_1) := hD
  generalize hj_1 : (fn_X9_down (y1) (y2) w).1 = j_1
  have hsi_1 : ky_SI u_0 w_1 := by rw [hu_0, show w_1 = (fn_X9_down (y1) (y2) w).2 from hz_1]; exact si_down (y1) (y2) u nn w hsi
  have hP : va_P G.1 kcl (ky_LW G x cs sc pf fg bb tk o mo ms r u_0 t g n_0 sv w_1 f_1) H := hP
  have hD : va_D A (ky_LW G x cs sc pf fg bb tk o mo ms r u_0 t g n_0 sv w_1 f_1) := hD
  refine W.widen (k := cells + 5) (n := slots + 18) (by omega) (by omega) ?_
  refine lv_istore (lv' := [(6, .int (j_1)), (5, .int (j_0)), (0, .ref b), (1, .ref x), (2, .ref mo), (3, .ref o), (4, .int (i))]) hx hb dc_L_law_1003 hl (by decide) rfl (fun ls hl => ?_)
  refine lv_goto (tgt := 2294) hx hb dc_L_law_1005 (by decide) ?_
  refine W.widen (k := cells + 544) (n := slots + 12088) (by omega) (by omega) ?_
  exact KK _ _ _ _ _ _ _ _ _ _ hsk hsi_1 (lv_sub hl [2, 3, 4, 5, 6] rfl) hP hD hS hIT
end KYLC
