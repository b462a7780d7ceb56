section KYLC
variable {p : Program} {l : Launch} {e : Env} {s : State} {m : MethodId} {below : List Frame} {meth : Method} {c : Code} {Q : State → Prop} {A : Nat → Prop} {G : ky_G} {b L : Nat} {xs : Nat → Int32}
variable {x cs sc pf fg bb tk o mo ms : Nat} {r : Nat → Nat}
set_option maxHeartbeats 4000000 in
set_option maxRecDepth 100000 in
theorem law_loop (hl9 : l.stackTraces = false) (F : ky_F p s m meth c "ExactdoublesLaw" code 7 ret #[Value.ref b]) (hE : ky_E G s) (hfr : ∀ q, A q → ky_fr G q) (hA : ∀ q, s.heap.size ≤ q → A q) (hXX : va_X b L xs s s.heap) (hbl : b < s.heap.size) (hbA : ¬ A b) (hL : L ≤ 2048)
    (hend : ∀ (H : Heap) (locs : List Loc) (ls : Array Slot), va_S A s.heap H locs → W p l e room_1 s m #[Value.ref b] below meth c H locs 602769 7287796 Q (F0 m 2300 ls [])) :
    ∀ (n k : Nat), L < 4 * k + 4 * n → 4 * k ≤ L → ∀ (u : ky_BS) (t : ky_SV) (g : Nat → Nat → Int64) (nn : Int64) (sv : Value) (w : ky_MV) (f : Nat → Option Nat) (H : Heap) (locs : List Loc) (ls : Array Slot), ky_sok t → ky_SI u w → lv_has ls 7 [(0, .ref b), (1, .ref x), (2, .ref mo), (3, .ref o), (4, .int (nI (4 * k)))] → va_P G.1 kcl (ky_LW G x cs sc pf fg bb tk o mo ms r u t g nn sv w f) H → va_D A (ky_LW G x cs sc pf fg bb tk o mo ms r u t g nn sv w f) → va_S A s.heap H locs → ky_IT G mo ms (fun _ => False) f w.2.2.2.2 H → W p l e room_1 s m #[Value.ref b] below meth c H locs (25 + 544 * k) (135 + 12088 * k) Q (F0 m 27 ls []) := by
  obtain ⟨hx, hb, hml, hown, hr, hlocks, hts⟩ := id F
  intro n
  induction n with
  | zero => intro k h1 h2; omega
  | succ n ih =>
    intro k hk1 hk2 u t g nn sv w f H locs ls hsk hsi hl hP hD hS hIT
    refine lv_iload hx hb dc_L_law_27 (lv_at hl 4 rfl) ?_
    refine lv_aload_n hx hb dc_L_law_29 rfl (lv_at hl 0 rfl) ?_
    refine va_slen hx hb hXX hbl hbA hS dc_L_law_30 ?_
    refine lv_iconst (v := 4) hx hb dc_L_law_31 (by decide) ?_
    refine lv_isub hx hb dc_L_law_32 ?_
    refine lv_icmp_gt (tgt := 2300) hx hb dc_L_law_33 (by decide) (fun c9 => ?_) (fun c9 => ?_)
    · refine W.widen (k := 602769) (n := 7287796) (by omega) (by omega) ?_
      exact hend H locs ls hS
    · have h9 : 4 * k + 4 ≤ L := Classical.byContradiction fun z => c9 ((lp_cond hL hk2).mpr z)
      have h0 : vp_in (nI (4 * k)) L := vp_in_nI (by omega) (by omega)
      have h1 : vp_in ((nI (4 * k)) + ((1 : Int32))) L := lp_in 1 (by decide) h9 hL
      have h2 : vp_in ((nI (4 * k)) + ((2 : Int32))) L := lp_in 2 (by decide) h9 hL
      have h3 : vp_in ((nI (4 * k)) + ((3 : Int32))) L := lp_in 3 (by decide) h9 hL
      have hcc : 25 + 544 * k + 544 ≤ 602769 := by omega
      have hss : 135 + 12088 * k + 12088 ≤ 7287796 := by omega
      have KK : ∀ (u : ky_BS) (t : ky_SV) (g : Nat → Nat → Int64) (nn : Int64) (sv : Value) (w : ky_MV) (f : Nat → Option Nat) (H : Heap) (locs : List Loc) (ls : Array Slot), ky_sok t → ky_SI u w → lv_has ls 7 [(0, .ref b), (1, .ref x), (2, .ref mo), (3, .ref o), (4, .int (nI (4 * k)))] → va_P G.1 kcl (ky_LW G x cs sc pf fg bb tk o mo ms r u t g nn sv w f) H → va_D A (ky_LW G x cs sc pf fg bb tk o mo ms r u t g nn sv w f) → va_S A s.heap H locs → ky_IT G mo ms (fun _ => False) f w.2.2.2.2 H → W p l e room_1 s m #[Value.ref b] below meth c H locs (25 + 544 * k + 544) (135 + 12088 * k + 12088) Q (F0 m 2294 ls []) := fun u t g nn sv w f H locs ls hsk hsi hl hP hD hS hIT => by
        refine lv_iinc (v := nI (4 * k) + 4) (lv' := [(4, .int (nI (4 * k) + 4)), (0, .ref b), (1, .ref x), (2, .ref mo), (3, .ref o)]) hx hb dc_L_law_2294 hl (k := 4) rfl rfl (by decide) rfl (fun ls hl => ?_)
        refine lv_goto (tgt := 27) hx hb dc_L_law_2297 (by decide) ?_
        rw [lp_4] at hl
        rw [show 25 + 544 * k + 544 = 25 + 544 * (k + 1) by omega, show 135 + 12088 * k + 12088 = 135 + 12088 * (k + 1) by omega]
        exact ih (k + 1) (by omega) (by omega) u t g nn sv w f H locs ls hsk hsi (lv_sub hl [1, 2, 3, 4, 0] rfl) hP hD hS hIT
      clear ih hend
      refine lv_aload_n hx hb dc_L_law_36 rfl (lv_at hl 0 rfl) ?_
      refine lv_iload hx hb dc_L_law_37 (lv_at hl 4 rfl) ?_
      refine va_sld hx hb hXX hbl hbA hS h0 dc_L_law_39 ?_
      refine lv_bipush (v := 63) hx hb dc_L_law_40 (by decide) ?_
      refine lv_iand hx hb dc_L_law_42 ?_
      generalize ((xs (nI (4 * k)).toNatClampNeg) &&& ((63 : Int32))) = y9
      by_cases ho : y9.toInt < 0 ∨ 52 < y9.toInt
      · refine lv_tableOut (tgt := 2294) hx hb dc_L_law_43 ho (by decide) ?_
        refine W.widen (k := 25 + 544 * k + 544) (n := 135 + 12088 * k + 12088) (by omega) (by omega) ?_
        exact KK u t g nn sv w f H locs ls hsk hsi hl hP hD hS hIT
      · obtain ⟨j, hj, e9⟩ : ∃ j : Nat, j < 53 ∧ y9 = nI j := by
          refine ⟨y9.toInt.toNat, by omega, ?_⟩
          rw [← Int32.toInt_inj, nI_toInt (by omega)]
          omega
        match j, hj, e9 with
        | 0, _, e9 =>
          refine lv_tableIn (off := 225) (tgt := 268) hx hb dc_L_law_43 (by rw [e9]; decide) (by rw [e9]; decide) (by rw [e9]; rfl) (by decide) ?_
          exact lc_0 hl9 F hE hfr hA hXX hbl hbA h1 h2 h3 hl hsk hsi hP hD hS hIT hcc hss KK
        | 1, _, e9 =>
          refine lv_tableIn (off := 281) (tgt := 324) hx hb dc_L_law_43 (by rw [e9]; decide) (by rw [e9]; decide) (by rw [e9]; rfl) (by decide) ?_
          exact lc_1 hl9 F hE hfr hA hXX hbl hbA h1 h2 h3 hl hsk hsi hP hD hS hIT hcc hss KK
        | 2, _, e9 =>
          refine lv_tableIn (off := 337) (tgt := 380) hx hb dc_L_law_43 (by rw [e9]; decide) (by rw [e9]; decide) (by rw [e9]; rfl) (by decide) ?_
          exact lc_2 hl9 F hE hfr hA hXX hbl hbA h1 h2 h3 hl hsk hsi hP hD hS hIT hcc hss KK
        | 3, _, e9 =>
          refine lv_tableIn (off := 377) (tgt := 420) hx hb dc_L_law_43 (by rw [e9]; decide) (by rw [e9]; decide) (by rw [e9]; rfl) (by decide) ?_
          exact lc_3 hl9 F hE hfr hA hXX hbl hbA h1 h2 h3 hl hsk hsi hP hD hS hIT hcc hss KK
        | 4, _, e9 =>
          refine lv_tableIn (off := 445) (tgt := 488) hx hb dc_L_law_43 (by rw [e9]; decide) (by rw [e9]; decide) (by rw [e9]; rfl) (by decide) ?_
          exact lc_4 hl9 F hE hfr hA hXX hbl hbA h1 h2 h3 hl hsk hsi hP hD hS hIT hcc hss KK
        | 5, _, e9 =>
          refine lv_tableIn (off := 497) (tgt := 540) hx hb dc_L_law_43 (by rw [e9]; decide) (by rw [e9]; decide) (by rw [e9]; rfl) (by decide) ?_
          exact lc_5 hl9 F hE hfr hA hXX hbl hbA h1 h2 h3 hl hsk hsi hP hD hS hIT hcc hss KK
        | 6, _, e9 =>
          refine lv_tableIn (off := 565) (tgt := 608) hx hb dc_L_law_43 (by rw [e9]; decide) (by rw [e9]; decide) (by rw [e9]; rfl) (by decide) ?_
          exact lc_6 hl9 F hE hfr hA hXX hbl hbA h1 h2 h3 hl hsk hsi hP hD hS hIT hcc hss KK
        | 7, _, e9 =>
          refine lv_tableIn (off := 605) (tgt := 648) hx hb dc_L_law_43 (by rw [e9]; decide) (by rw [e9]; decide) (by rw [e9]; rfl) (by decide) ?_
          exact lc_7 hl9 F hE hfr hA hXX hbl hbA h1 h2 h3 hl hsk hsi hP hD hS hIT hcc hss KK
        | 8, _, e9 =>
          refine lv_tableIn (off := 645) (tgt := 688) hx hb dc_L_law_43 (by rw [e9]; decide) (by rw [e9]; decide) (by rw [e9]; rfl) (by decide) ?_
          exact lc_8 hl9 F hE hfr hA hXX hbl hbA h1 h2 h3 hl hsk hsi hP hD hS hIT hcc hss KK
        | 9, _, e9 =>
          refine lv_tableIn (off := 685) (tgt := 728) hx hb dc_L_law_43 (by rw [e9]; decide) (by rw [e9]; decide) (by rw [e9]; rfl) (by decide) ?_
          exact lc_9 hl9 F hE hfr hA hXX hbl hbA h1 h2 h3 hl hsk hsi hP hD hS hIT hcc hss KK
        | 10, _, e9 =>
          refine lv_tableIn (off := 725) (tgt := 768) hx hb dc_L_law_43 (by rw [e9]; decide) (by rw [e9]; decide) (by rw [e9]; rfl) (by decide) ?_
          exact lc_10 hl9 F hE hfr hA hXX hbl hbA h1 h2 h3 hl hsk hsi hP hD hS hIT hcc hss KK
        | 11, _, e9 =>
          refine lv_tableIn (off := 765) (tgt := 808) hx hb dc_L_law_43 (by rw [e9]; decide) (by rw [e9]; decide) (by rw [e9]; rfl) (by decide) ?_
          exact lc_11 hl9 F hE hfr hA hXX hbl hbA h1 h2 h3 hl hsk hsi hP hD hS hIT hcc hss KK
        | 12, _, e9 =>
          refine lv_tableIn (off := 805) (tgt := 848) hx hb dc_L_law_43 (by rw [e9]; decide) (by rw [e9]; decide) (by rw [e9]; rfl) (by decide) ?_
          exact lc_12 hl9 F hE hfr hA hXX hbl hbA h1 h2 h3 hl hsk hsi hP hD hS hIT hcc hss KK
        | 13, _, e9 =>
          refine lv_tableIn (off := 845) (tgt := 888) hx hb dc_L_law_43 (by rw [e9]; decide) (by rw [e9]; decide) (by rw [e9]; rfl) (by decide) ?_
          exact lc_13 hl9 F hE hfr hA hXX hbl hbA h1 h2 h3 hl hsk hsi hP hD hS hIT hcc hss KK
        | 14, _, e9 =>
          refine lv_tableIn (off := 885) (tgt := 928) hx hb dc_L_law_43 (by rw [e9]; decide) (by rw [e9]; decide) (by rw [e9]; rfl) (by decide) ?_
          exact lc_14 hl9 F hE hfr hA hXX hbl hbA h1 h2 h3 hl hsk hsi hP hD hS hIT hcc hss KK
        | 15, _, e9 =>
          refine lv_tableIn (off := 925) (tgt := 968) hx hb dc_L_law_43 (by rw [e9]; decide) (by rw [e9]; decide) (by rw [e9]; rfl) (by decide) ?_
          exact lc_15 hl9 F hE hfr hA hXX hbl hbA h1 h2 h3 hl hsk hsi hP hD hS hIT hcc hss KK
        | 16, _, e9 =>
          refine lv_tableIn (off := 965) (tgt := 1008) hx hb dc_L_law_43 (by rw [e9]; decide) (by rw [e9]; decide) (by rw [e9]; rfl) (by decide) ?_
          exact lc_16 hl9 F hE hfr hA hXX hbl hbA h1 h2 h3 hl hsk hsi hP hD hS hIT hcc hss KK
        | 17, _, e9 =>
          refine lv_tableIn (off := 1005) (tgt := 1048) hx hb dc_L_law_43 (by rw [e9]; decide) (by rw [e9]; decide) (by rw [e9]; rfl) (by decide) ?_
          exact lc_17 hl9 F hE hfr hA hXX hbl hbA h1 h2 h3 hl hsk hsi hP hD hS hIT hcc hss KK
        | 18, _, e9 =>
          refine lv_tableIn (off := 1045) (tgt := 1088) hx hb dc_L_law_43 (by rw [e9]; decide) (by rw [e9]; decide) (by rw [e9]; rfl) (by decide) ?_
          exact lc_18 hl9 F hE hfr hA hXX hbl hbA h1 h2 h3 hl hsk hsi hP hD hS hIT hcc hss KK
        | 19, _, e9 =>
          refine lv_tableIn (off := 1097) (tgt := 1140) hx hb dc_L_law_43 (by rw [e9]; decide) (by rw [e9]; decide) (by rw [e9]; rfl) (by decide) ?_
          exact lc_19 hl9 F hE hfr hA hXX hbl hbA h1 h2 h3 hl hsk hsi hP hD hS hIT hcc hss KK
        | 20, _, e9 =>
          refine lv_tableIn (off := 1149) (tgt := 1192) hx hb dc_L_law_43 (by rw [e9]; decide) (by rw [e9]; decide) (by rw [e9]; rfl) (by decide) ?_
          exact lc_20 hl9 F hE hfr hA hXX hbl hbA h1 h2 h3 hl hsk hsi hP hD hS hIT hcc hss KK
        | 21, _, e9 =>
          refine lv_tableIn (off := 1201) (tgt := 1244) hx hb dc_L_law_43 (by rw [e9]; decide) (by rw [e9]; decide) (by rw [e9]; rfl) (by decide) ?_
          exact lc_21 hl9 F hE hfr hA hXX hbl hbA h1 h2 h3 hl hsk hsi hP hD hS hIT hcc hss KK
        | 22, _, e9 =>
          refine lv_tableIn (off := 1253) (tgt := 1296) hx hb dc_L_law_43 (by rw [e9]; decide) (by rw [e9]; decide) (by rw [e9]; rfl) (by decide) ?_
          exact lc_22 hl9 F hE hfr hA hXX hbl hbA h1 h2 h3 hl hsk hsi hP hD hS hIT hcc hss KK
        | 23, _, e9 =>
          refine lv_tableIn (off := 1293) (tgt := 1336) hx hb dc_L_law_43 (by rw [e9]; decide) (by rw [e9]; decide) (by rw [e9]; rfl) (by decide) ?_
          exact lc_23 hl9 F hE hfr hA hXX hbl hbA h1 h2 h3 hl hsk hsi hP hD hS hIT hcc hss KK
        | 24, _, e9 =>
          refine lv_tableIn (off := 1321) (tgt := 1364) hx hb dc_L_law_43 (by rw [e9]; decide) (by rw [e9]; decide) (by rw [e9]; rfl) (by decide) ?_
          exact lc_24 hl9 F hE hfr hA hXX hbl hbA h1 h2 h3 hl hsk hsi hP hD hS hIT hcc hss KK
        | 25, _, e9 =>
          refine lv_tableIn (off := 1361) (tgt := 1404) hx hb dc_L_law_43 (by rw [e9]; decide) (by rw [e9]; decide) (by rw [e9]; rfl) (by decide) ?_
          exact lc_25 hl9 F hE hfr hA hXX hbl hbA h1 h2 h3 hl hsk hsi hP hD hS hIT hcc hss KK
        | 26, _, e9 =>
          refine lv_tableIn (off := 1389) (tgt := 1432) hx hb dc_L_law_43 (by rw [e9]; decide) (by rw [e9]; decide) (by rw [e9]; rfl) (by decide) ?_
          exact lc_26 hl9 F hE hfr hA hXX hbl hbA h1 h2 h3 hl hsk hsi hP hD hS hIT hcc hss KK
        | 27, _, e9 =>
          refine lv_tableIn (off := 1417) (tgt := 1460) hx hb dc_L_law_43 (by rw [e9]; decide) (by rw [e9]; decide) (by rw [e9]; rfl) (by decide) ?_
          exact lc_27 hl9 F hE hfr hA hXX hbl hbA h1 h2 h3 hl hsk hsi hP hD hS hIT hcc hss KK
        | 28, _, e9 =>
          refine lv_tableIn (off := 1473) (tgt := 1516) hx hb dc_L_law_43 (by rw [e9]; decide) (by rw [e9]; decide) (by rw [e9]; rfl) (by decide) ?_
          exact lc_28 hl9 F hE hfr hA hXX hbl hbA h1 h2 h3 hl hsk hsi hP hD hS hIT hcc hss KK
        | 29, _, e9 =>
          refine lv_tableIn (off := 1501) (tgt := 1544) hx hb dc_L_law_43 (by rw [e9]; decide) (by rw [e9]; decide) (by rw [e9]; rfl) (by decide) ?_
          exact lc_29 hl9 F hE hfr hA hXX hbl hbA h1 h2 h3 hl hsk hsi hP hD hS hIT hcc hss KK
        | 30, _, e9 =>
          refine lv_tableIn (off := 1529) (tgt := 1572) hx hb dc_L_law_43 (by rw [e9]; decide) (by rw [e9]; decide) (by rw [e9]; rfl) (by decide) ?_
          exact lc_30 hl9 F hE hfr hA hXX hbl hbA h1 h2 h3 hl hsk hsi hP hD hS hIT hcc hss KK
        | 31, _, e9 =>
          refine lv_tableIn (off := 1557) (tgt := 1600) hx hb dc_L_law_43 (by rw [e9]; decide) (by rw [e9]; decide) (by rw [e9]; rfl) (by decide) ?_
          exact lc_31 hl9 F hE hfr hA hXX hbl hbA h1 h2 h3 hl hsk hsi hP hD hS hIT hcc hss KK
        | 32, _, e9 =>
          refine lv_tableIn (off := 1585) (tgt := 1628) hx hb dc_L_law_43 (by rw [e9]; decide) (by rw [e9]; decide) (by rw [e9]; rfl) (by decide) ?_
          exact lc_32 hl9 F hE hfr hA hXX hbl hbA h1 h2 h3 hl hsk hsi hP hD hS hIT hcc hss KK
        | 33, _, e9 =>
          refine lv_tableIn (off := 1613) (tgt := 1656) hx hb dc_L_law_43 (by rw [e9]; decide) (by rw [e9]; decide) (by rw [e9]; rfl) (by decide) ?_
          exact lc_33 hl9 F hE hfr hA hXX hbl hbA h1 h2 h3 hl hsk hsi hP hD hS hIT hcc hss KK
        | 34, _, e9 =>
          refine lv_tableIn (off := 1653) (tgt := 1696) hx hb dc_L_law_43 (by rw [e9]; decide) (by rw [e9]; decide) (by rw [e9]; rfl) (by decide) ?_
          exact lc_34 hl9 F hE hfr hA hXX hbl hbA h1 h2 h3 hl hsk hsi hP hD hS hIT hcc hss KK
        | 35, _, e9 =>
          refine lv_tableIn (off := 1693) (tgt := 1736) hx hb dc_L_law_43 (by rw [e9]; decide) (by rw [e9]; decide) (by rw [e9]; rfl) (by decide) ?_
          exact lc_35 hl9 F hE hfr hA hXX hbl hbA h1 h2 h3 hl hsk hsi hP hD hS hIT hcc hss KK
        | 36, _, e9 =>
          refine lv_tableIn (off := 1733) (tgt := 1776) hx hb dc_L_law_43 (by rw [e9]; decide) (by rw [e9]; decide) (by rw [e9]; rfl) (by decide) ?_
          exact lc_36 hl9 F hE hfr hA hXX hbl hbA h1 h2 h3 hl hsk hsi hP hD hS hIT hcc hss KK
        | 37, _, e9 =>
          refine lv_tableIn (off := 1773) (tgt := 1816) hx hb dc_L_law_43 (by rw [e9]; decide) (by rw [e9]; decide) (by rw [e9]; rfl) (by decide) ?_
          exact lc_37 hl9 F hE hfr hA hXX hbl hbA h1 h2 h3 hl hsk hsi hP hD hS hIT hcc hss KK
        | 38, _, e9 =>
          refine lv_tableIn (off := 1813) (tgt := 1856) hx hb dc_L_law_43 (by rw [e9]; decide) (by rw [e9]; decide) (by rw [e9]; rfl) (by decide) ?_
          exact lc_38 hl9 F hE hfr hA hXX hbl hbA h1 h2 h3 hl hsk hsi hP hD hS hIT hcc hss KK
        | 39, _, e9 =>
          refine lv_tableIn (off := 1853) (tgt := 1896) hx hb dc_L_law_43 (by rw [e9]; decide) (by rw [e9]; decide) (by rw [e9]; rfl) (by decide) ?_
          exact lc_39 hl9 F hE hfr hA hXX hbl hbA h1 h2 h3 hl hsk hsi hP hD hS hIT hcc hss KK
        | 40, _, e9 =>
          refine lv_tableIn (off := 1881) (tgt := 1924) hx hb dc_L_law_43 (by rw [e9]; decide) (by rw [e9]; decide) (by rw [e9]; rfl) (by decide) ?_
          exact lc_40 hl9 F hE hfr hA hXX hbl hbA h1 h2 h3 hl hsk hsi hP hD hS hIT hcc hss KK
        | 41, _, e9 =>
          refine lv_tableIn (off := 1909) (tgt := 1952) hx hb dc_L_law_43 (by rw [e9]; decide) (by rw [e9]; decide) (by rw [e9]; rfl) (by decide) ?_
          exact lc_41 hl9 F hE hfr hA hXX hbl hbA h1 h2 h3 hl hsk hsi hP hD hS hIT hcc hss KK
        | 42, _, e9 =>
          refine lv_tableIn (off := 1937) (tgt := 1980) hx hb dc_L_law_43 (by rw [e9]; decide) (by rw [e9]; decide) (by rw [e9]; rfl) (by decide) ?_
          exact lc_42 hl9 F hE hfr hA hXX hbl hbA h1 h2 h3 hl hsk hsi hP hD hS hIT hcc hss KK
        | 43, _, e9 =>
          refine lv_tableIn (off := 1965) (tgt := 2008) hx hb dc_L_law_43 (by rw [e9]; decide) (by rw [e9]; decide) (by rw [e9]; rfl) (by decide) ?_
          exact lc_43 hl9 F hE hfr hA hXX hbl hbA h1 h2 h3 hl hsk hsi hP hD hS hIT hcc hss KK
        | 44, _, e9 =>
          refine lv_tableIn (off := 1993) (tgt := 2036) hx hb dc_L_law_43 (by rw [e9]; decide) (by rw [e9]; decide) (by rw [e9]; rfl) (by decide) ?_
          exact lc_44 hl9 F hE hfr hA hXX hbl hbA h1 h2 h3 hl hsk hsi hP hD hS hIT hcc hss KK
        | 45, _, e9 =>
          refine lv_tableIn (off := 2049) (tgt := 2092) hx hb dc_L_law_43 (by rw [e9]; decide) (by rw [e9]; decide) (by rw [e9]; rfl) (by decide) ?_
          exact lc_45 hl9 F hE hfr hA hXX hbl hbA h1 h2 h3 hl hsk hsi hP hD hS hIT hcc hss KK
        | 46, _, e9 =>
          refine lv_tableIn (off := 2089) (tgt := 2132) hx hb dc_L_law_43 (by rw [e9]; decide) (by rw [e9]; decide) (by rw [e9]; rfl) (by decide) ?_
          exact lc_46 hl9 F hE hfr hA hXX hbl hbA h1 h2 h3 hl hsk hsi hP hD hS hIT hcc hss KK
        | 47, _, e9 =>
          refine lv_tableIn (off := 2129) (tgt := 2172) hx hb dc_L_law_43 (by rw [e9]; decide) (by rw [e9]; decide) (by rw [e9]; rfl) (by decide) ?_
          exact lc_47 hl9 F hE hfr hA hXX hbl hbA h1 h2 h3 hl hsk hsi hP hD hS hIT hcc hss KK
        | 48, _, e9 =>
          refine lv_tableIn (off := 2142) (tgt := 2185) hx hb dc_L_law_43 (by rw [e9]; decide) (by rw [e9]; decide) (by rw [e9]; rfl) (by decide) ?_
          exact lc_48 hl9 F hE hfr hA hXX hbl hbA h1 h2 h3 hl hsk hsi hP hD hS hIT hcc hss KK
        | 49, _, e9 =>
          refine lv_tableIn (off := 2155) (tgt := 2198) hx hb dc_L_law_43 (by rw [e9]; decide) (by rw [e9]; decide) (by rw [e9]; rfl) (by decide) ?_
          exact lc_49 hl9 F hE hfr hA hXX hbl hbA h1 h2 h3 hl hsk hsi hP hD hS hIT hcc hss KK
        | 50, _, e9 =>
          refine lv_tableIn (off := 2168) (tgt := 2211) hx hb dc_L_law_43 (by rw [e9]; decide) (by rw [e9]; decide) (by rw [e9]; rfl) (by decide) ?_
          exact lc_50 hl9 F hE hfr hA hXX hbl hbA h1 h2 h3 hl hsk hsi hP hD hS hIT hcc hss KK
        | 51, _, e9 =>
          refine lv_tableIn (off := 2225) (tgt := 2268) hx hb dc_L_law_43 (by rw [e9]; decide) (by rw [e9]; decide) (by rw [e9]; rfl) (by decide) ?_
          exact lc_51 hl9 F hE hfr hA hXX hbl hbA h1 h2 h3 hl hsk hsi hP hD hS hIT hcc hss KK
        | 52, _, e9 =>
          refine lv_tableIn (off := 2238) (tgt := 2281) hx hb dc_L_law_43 (by rw [e9]; decide) (by rw [e9]; decide) (by rw [e9]; rfl) (by decide) ?_
          exact lc_52 hl9 F hE hfr hA hXX hbl hbA h1 h2 h3 hl hsk hsi hP hD hS hIT hcc hss KK
        | q + 53, hq, _ => exact absurd hq (by omega)
end KYLC
