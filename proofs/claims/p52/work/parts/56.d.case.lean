section KYLC
variable {p : Program} {l : Launch} {e : Env} {s : State} {m : MethodId} {below : List Frame} {meth : Method} {c : Code} {H : Heap} {locs : List Loc} {cells slots : Nat} {Q : State → Prop} {ls : Array Slot} {A : Nat → Prop} {G : ky_G} {b L : Nat} {xs : Nat → Int32}
variable {x cs sc pf fg bb tk o mo ms : Nat} {r : Nat → Nat} {u : ky_BS} {t : ky_SV} {g : Nat → Nat → Int64} {nn : Int64} {sv : Value} {w : ky_MV} {f : Nat → Option Nat}
set_option linter.constructorNameAsVariable false in
set_option maxHeartbeats 4000000 in
set_option maxRecDepth 100000 in
theorem lc_24 (hl9 : l.stackTraces = false) (F : ky_F p s m meth c "ExactdoublesLaw" code 7 ret #[Value.ref b]) (hE : ky_E G s) (hfr : ∀ q, A q → ky_fr G q) (hA : ∀ q, s.heap.size ≤ q → A q)
    (hXX : va_X b L xs s s.heap) (hbl : b < s.heap.size) (hbA : ¬ A b) {i : Int32} (h1 : vp_in ((i) + ((1 : Int32))) L) (h2 : vp_in ((i) + ((2 : Int32))) L) (h3 : vp_in ((i) + ((3 : Int32))) L) (hl : lv_has ls 7 [(0, .ref b), (1, .ref x), (2, .ref mo), (3, .ref o), (4, .int (i))])
    (hsk : ky_sok t) (hsi : ky_SI u w) (hP : va_P G.1 kcl (ky_LW G x cs sc pf fg bb tk o mo ms r u t g nn sv w f) H) (hD : va_D A (ky_LW G x cs sc pf fg bb tk o mo ms r u t g nn sv w f)) (hS : va_S A s.heap H locs) (hIT : ky_IT G mo ms (fun _ => False) f w.2.2.2.2 H) (hcc : cells + 544 ≤ 602769) (hss : slots + 12088 ≤ 7287796)
    (KK : ∀ (u : ky_BS) (t : ky_SV) (g : Nat → Nat → Int64) (nn : Int64) (sv : Value) (w : ky_MV) (f : Nat → Option Nat) (H : Heap) (locs : List Loc) (ls : Array Slot), ky_sok t → ky_SI u w → lv_has ls 7 [(0, .ref b), (1, .ref x), (2, .ref mo), (3, .ref o), (4, .int (i))] → va_P G.1 kcl (ky_LW G x cs sc pf fg bb tk o mo ms r u t g nn sv w f) H → va_D A (ky_LW G x cs sc pf fg bb tk o mo ms r u t g nn sv w f) → va_S A s.heap H locs → ky_IT G mo ms (fun _ => False) f w.2.2.2.2 H →
      W p l e room_1 s m #[Value.ref b] below meth c H locs (cells + 544) (slots + 12088) Q (F0 m 2294 ls [])) : W p l e room_1 s m #[Value.ref b] below meth c H locs cells slots Q (F0 m 1364 ls []) := by
  obtain ⟨hx, hb, hml, hown, hr, hlocks, hts⟩ := id F
  refine lv_aload_n hx hb dc_L_law_1364 rfl (lv_at hl 1 rfl) ?_
  refine lv_aload_n hx hb dc_L_law_1365 rfl (lv_at hl 0 rfl) ?_
  refine lv_iload hx hb dc_L_law_1366 (lv_at hl 4 rfl) ?_
  refine lv_iconst (v := 1) hx hb dc_L_law_1368 (by decide) ?_
  refine lv_iadd hx hb dc_L_law_1369 ?_
  refine va_sld hx hb hXX hbl hbA hS h1 dc_L_law_1370 ?_
  generalize hy1 : xs (((i) + ((1 : Int32)))).toNatClampNeg = y1
  refine lv_aload_n hx hb dc_L_law_1371 rfl (lv_at hl 0 rfl) ?_
  refine lv_iload hx hb dc_L_law_1372 (lv_at hl 4 rfl) ?_
  refine lv_iconst (v := 2) hx hb dc_L_law_1374 (by decide) ?_
  refine lv_iadd hx hb dc_L_law_1375 ?_
  refine va_sld hx hb hXX hbl hbA hS h2 dc_L_law_1376 ?_
  generalize hy2 : xs (((i) + ((2 : Int32)))).toNatClampNeg = y2
  refine lv_aload_n hx hb dc_L_law_1377 rfl (lv_at hl 3 rfl) ?_
  refine cl_num (As := [.ref x, .int (y1), .int (y2), .ref o]) F hE hfr hA (mt_L_digits l hl9 G x cs sc pf u o nn sv (y1) (y2) H.size) kH_L_261 ⟨⟨rfl, rfl⟩, Nat.le_of_ble_eq_true rfl, Nat.le_of_ble_eq_true rfl⟩ rfl hl.1 rfl (Nat.le_of_ble_eq_true rfl) ⟨by show (_ : Nat) ≤ 602769; omega, by show (_ : Nat) ≤ 7287796; omega⟩ hP hD hS hIT dc_L_law_1378 ?_
  rintro v9 ⟨u_0, n_0⟩ H locs ⟨rfl, hz_0⟩ hP hD hS hIT
  have hP : va_P G.1 kcl (ky_LW G x cs sc pf fg bb tk o mo ms r u_0 t g n_0 sv w f) H := hP
  have hD : va_D A (ky_LW G x cs sc pf fg bb tk o mo ms r u_0 t g n_0 sv w f) := hD
  have hu_0 : u_0 = (ky_lw (fn_X6_digits (y1) (y2) u) u nn).2.1 := congrArg Prod.fst hz_0
  generalize hj_0 : (ky_lw (fn_X6_digits (y1) (y2) u) u nn).1 = j_0
  refine W.widen (k := cells + 2) (n := slots + 12) (by omega) (by omega) ?_
  refine lv_istore (lv' := [(5, .int (j_0)), (0, .ref b), (1, .ref x), (2, .ref mo), (3, .ref o), (4, .int (i))]) hx hb dc_L_law_1381 hl (by decide) rfl (fun ls hl => ?_)
  refine lv_aload_n hx hb dc_L_law_1383 rfl (lv_at hl 3 rfl) ?_
  refine lv_aload_n hx hb dc_L_law_1384 rfl (lv_at hl 1 rfl) ?_
  refine lv_iload hx hb dc_L_law_1385 (lv_at hl 5 rfl) ?_
  refine lv_iconst (v := 1) hx hb dc_L_law_1387 (by decide) ?_
  refine lv_iadd hx hb dc_L_law_1388 ?_
  refine va_sld hx hb hXX hbl hbA hS h1 dc_L_law_1389 ?_
  rw [hy1]
  refine lv_aload_n hx hb dc_L_law_1390 rfl (lv_at hl 1 rfl) ?_
  refine lv_iload hx hb dc_L_law_1391 (lv_at hl 5 rfl) ?_
  refine lv_iconst (v := 2) hx hb dc_L_law_1393 (by decide) ?_
  refine lv_iadd hx hb dc_L_law_1394 ?_
  refine va_sld hx hb hXX hbl hbA hS h2 dc_L_law_1395 ?_
  rw [hy2]
  refine cl_mm (As := [.int (y1), .int (y2)]) F hE hfr hA (mt_X9_digits l G mo ms (fun _ => False) w f (y1) (y2) H.size) kv_L_263 ⟨⟨rfl, rfl⟩, Nat.le_of_ble_eq_true rfl, Nat.le_of_ble_eq_true rfl⟩ rfl hl.1 rfl (Nat.le_of_ble_eq_true rfl) ⟨by show (_ : Nat) ≤ 602769; omega, by show (_ : Nat) ≤ 7287796; omega⟩ hP hD hS hIT rfl dc_L_law_1396 ?_
  rintro v9 ⟨w_1, f_1⟩ H locs ⟨rfl, hz_1⟩ hP hD hS hIT
  have hP : va_P G.1 kcl (ky_LW G x cs sc pf fg bb tk o mo ms r u_0 t g n_0 sv w_1 f_1) H := hP
  have hD : va_D A (ky_LW G x cs sc pf fg bb tk o mo ms r u_0 t g n_0 sv w_1 f_1) := hD
  generalize hj_1 : (fn_X9_digits (y1) (y2) w).1 = j_1
  have hsi_1 : ky_SI u_0 w_1 := by rw [hu_0, show w_1 = (fn_X9_digits (y1) (y2) w).2 from hz_1]; exact si_digits (y1) (y2) u nn w hsi
  have hP : va_P G.1 kcl (ky_LW G x cs sc pf fg bb tk o mo ms r u_0 t g n_0 sv w_1 f_1) H := hP
  have hD : va_D A (ky_LW G x cs sc pf fg bb tk o mo ms r u_0 t g n_0 sv w_1 f_1) := hD
  refine W.widen (k := cells + 2) (n := slots + 12) (by omega) (by omega) ?_
  refine lv_istore (lv' := [(6, .int (j_1)), (5, .int (j_0)), (0, .ref b), (1, .ref x), (2, .ref mo), (3, .ref o), (4, .int (i))]) hx hb dc_L_law_1399 hl (by decide) rfl (fun ls hl => ?_)
  refine lv_goto (tgt := 2294) hx hb dc_L_law_1401 (by decide) ?_
  refine W.widen (k := cells + 544) (n := slots + 12088) (by omega) (by omega) ?_
  exact KK _ _ _ _ _ _ _ _ _ _ hsk hsi_1 (lv_sub hl [2, 3, 4, 5, 6] rfl) hP hD hS hIT
set_option linter.constructorNameAsVariable false in
set_option maxHeartbeats 4000000 in
set_option maxRecDepth 100000 in
theorem lc_25 (hl9 : l.stackTraces = false) (F : ky_F p s m meth c "ExactdoublesLaw" code 7 ret #[Value.ref b]) (hE : ky_E G s) (hfr : ∀ q, A q → ky_fr G q) (hA : ∀ q, s.heap.size ≤ q → A q)
    (hXX : va_X b L xs s s.heap) (hbl : b < s.heap.size) (hbA : ¬ A b) {i : Int32} (h1 : vp_in ((i) + ((1 : Int32))) L) (h2 : vp_in ((i) + ((2 : Int32))) L) (h3 : vp_in ((i) + ((3 : Int32))) L) (hl : lv_has ls 7 [(0, .ref b), (1, .ref x), (2, .ref mo), (3, .ref o), (4, .int (i))])
    (hsk : ky_sok t) (hsi : ky_SI u w) (hP : va_P G.1 kcl (ky_LW G x cs sc pf fg bb tk o mo ms r u t g nn sv w f) H) (hD : va_D A (ky_LW G x cs sc pf fg bb tk o mo ms r u t g nn sv w f)) (hS : va_S A s.heap H locs) (hIT : ky_IT G mo ms (fun _ => False) f w.2.2.2.2 H) (hcc : cells + 544 ≤ 602769) (hss : slots + 12088 ≤ 7287796)
    (KK : ∀ (u : ky_BS) (t : ky_SV) (g : Nat → Nat → Int64) (nn : Int64) (sv : Value) (w : ky_MV) (f : Nat → Option Nat) (H : Heap) (locs : List Loc) (ls : Array Slot), ky_sok t → ky_SI u w → lv_has ls 7 [(0, .ref b), (1, .ref x), (2, .ref mo), (3, .ref o), (4, .int (i))] → va_P G.1 kcl (ky_LW G x cs sc pf fg bb tk o mo ms r u t g nn sv w f) H → va_D A (ky_LW G x cs sc pf fg bb tk o mo ms r u t g nn sv w f) → va_S A s.heap H locs → ky_IT G mo ms (fun _ => False) f w.2.2.2.2 H →
      W p l e room_1 s m #[Value.ref b] below meth c H locs (cells + 544) (slots + 12088) Q (F0 m 2294 ls [])) : W p l e room_1 s m #[Value.ref b] below meth c H locs cells slots Q (F0 m 1404 ls []) := by
  obtain ⟨hx, hb, hml, hown, hr, hlocks, hts⟩ := id F
  refine lv_aload_n hx hb dc_L_law_1404 rfl (lv_at hl 1 rfl) ?_
  refine lv_aload_n hx hb dc_L_law_1405 rfl (lv_at hl 0 rfl) ?_
  refine lv_iload hx hb dc_L_law_1406 (lv_at hl 4 rfl) ?_
  refine lv_iconst (v := 1) hx hb dc_L_law_1408 (by decide) ?_
  refine lv_iadd hx hb dc_L_law_1409 ?_
  refine va_sld hx hb hXX hbl hbA hS h1 dc_L_law_1410 ?_
  generalize hy1 : xs (((i) + ((1 : Int32)))).toNatClampNeg = y1
  refine lv_aload_n hx hb dc_L_law_1411 rfl (lv_at hl 3 rfl) ?_
  refine cl_txt (As := [.ref x, .int (y1), .ref o]) F hE hfr hA (mt_L_text l hl9 G x cs sc pf u fg bb t o nn sv (y1) H.size hsk) kH_L_264 ⟨⟨rfl, rfl⟩, Nat.le_of_ble_eq_true rfl, Nat.le_of_ble_eq_true rfl⟩ rfl hl.1 rfl (Nat.le_of_ble_eq_true rfl) ⟨by show (_ : Nat) ≤ 602769; omega, by show (_ : Nat) ≤ 7287796; omega⟩ hP hD hS hIT dc_L_law_1412 ?_
  rintro v9 ⟨t_0, s_0⟩ H locs ⟨⟨j_0, rfl⟩, hk_0⟩ hP hD hS hIT
  have hP : va_P G.1 kcl (ky_LW G x cs sc pf fg bb tk o mo ms r u t_0 g nn s_0 w f) H := hP
  have hD : va_D A (ky_LW G x cs sc pf fg bb tk o mo ms r u t_0 g nn s_0 w f) := hD
  refine W.widen (k := cells + 4) (n := slots + 78) (by omega) (by omega) ?_
  refine lv_istore (lv' := [(5, .int (j_0)), (0, .ref b), (1, .ref x), (2, .ref mo), (3, .ref o), (4, .int (i))]) hx hb dc_L_law_1415 hl (by decide) rfl (fun ls hl => ?_)
  refine lv_aload_n hx hb dc_L_law_1417 rfl (lv_at hl 3 rfl) ?_
  refine lv_aload_n hx hb dc_L_law_1418 rfl (lv_at hl 1 rfl) ?_
  refine lv_iload hx hb dc_L_law_1419 (lv_at hl 5 rfl) ?_
  refine lv_iconst (v := 1) hx hb dc_L_law_1421 (by decide) ?_
  refine lv_iadd hx hb dc_L_law_1422 ?_
  refine va_sld hx hb hXX hbl hbA hS h1 dc_L_law_1423 ?_
  rw [hy1]
  refine cl_mr (As := [.int (y1)]) F hE hfr hA (mt_X9_text l G mo ms (fun _ => False) w f (y1) H.size) kv_L_266 ⟨⟨rfl, rfl⟩, Nat.le_of_ble_eq_true rfl, Nat.le_of_ble_eq_true rfl⟩ rfl hl.1 rfl (Nat.le_of_ble_eq_true rfl) ⟨by show (_ : Nat) ≤ 602769; omega, by show (_ : Nat) ≤ 7287796; omega⟩ hP hD hS hIT rfl dc_L_law_1424 ?_
  rintro v9 q_1 H locs ⟨z_1, rfl⟩ hP hD hS hIT
  have hP : va_P G.1 kcl (ky_LW G x cs sc pf fg bb tk o mo ms r u t_0 g nn s_0 (q_1, w.2) f) H := hP
  have hD : va_D A (ky_LW G x cs sc pf fg bb tk o mo ms r u t_0 g nn s_0 (q_1, w.2) f) := hD
  refine W.widen (k := cells + 12) (n := slots + 272) (by omega) (by omega) ?_
  refine lv_astore (lv' := [(6, .ref z_1), (5, .int (j_0)), (0, .ref b), (1, .ref x), (2, .ref mo), (3, .ref o), (4, .int (i))]) hx hb dc_L_law_1427 hl (by decide) rfl (fun ls hl => ?_)
  refine lv_goto (tgt := 2294) hx hb dc_L_law_1429 (by decide) ?_
  refine W.widen (k := cells + 544) (n := slots + 12088) (by omega) (by omega) ?_
  exact KK _ _ _ _ _ _ _ _ _ _ hk_0 (si_thr q_1 hsi) (lv_sub hl [2, 3, 4, 5, 6] rfl) hP hD hS hIT
set_option linter.constructorNameAsVariable false in
set_option maxHeartbeats 4000000 in
set_option maxRecDepth 100000 in
theorem lc_26 (hl9 : l.stackTraces = false) (F : ky_F p s m meth c "ExactdoublesLaw" code 7 ret #[Value.ref b]) (hE : ky_E G s) (hfr : ∀ q, A q → ky_fr G q) (hA : ∀ q, s.heap.size ≤ q → A q)
    (hXX : va_X b L xs s s.heap) (hbl : b < s.heap.size) (hbA : ¬ A b) {i : Int32} (h1 : vp_in ((i) + ((1 : Int32))) L) (h2 : vp_in ((i) + ((2 : Int32))) L) (h3 : vp_in ((i) + ((3 : Int32))) L) (hl : lv_has ls 7 [(0, .ref b), (1, .ref x), (2, .ref mo), (3, .ref o), (4, .int (i))])
    (hsk : ky_sok t) (hsi : ky_SI u w) (hP : va_P G.1 kcl (ky_LW G x cs sc pf fg bb tk o mo ms r u t g nn sv w f) H) (hD : va_D A (ky_LW G x cs sc pf fg bb tk o mo ms r u t g nn sv w f)) (hS : va_S A s.heap H locs) (hIT : ky_IT G mo ms (fun _ => False) f w.2.2.2.2 H) (hcc : cells + 544 ≤ 602769) (hss : slots + 12088 ≤ 7287796)
    (KK : ∀ (u : ky_BS) (t : ky_SV) (g : Nat → Nat → Int64) (nn : Int64) (sv : Value) (w : ky_MV) (f : Nat → Option Nat) (H : Heap) (locs : List Loc) (ls : Array Slot), ky_sok t → ky_SI u w → lv_has ls 7 [(0, .ref b), (1, .ref x), (2, .ref mo), (3, .ref o), (4, .int (i))] → va_P G.1 kcl (ky_LW G x cs sc pf fg bb tk o mo ms r u t g nn sv w f) H → va_D A (ky_LW G x cs sc pf fg bb tk o mo ms r u t g nn sv w f) → va_S A s.heap H locs → ky_IT G mo ms (fun _ => False) f w.2.2.2.2 H →
      W p l e room_1 s m #[Value.ref b] below meth c H locs (cells + 544) (slots + 12088) Q (F0 m 2294 ls [])) : W p l e room_1 s m #[Value.ref b] below meth c H locs cells slots Q (F0 m 1432 ls []) := by
  obtain ⟨hx, hb, hml, hown, hr, hlocks, hts⟩ := id F
  refine lv_aload_n hx hb dc_L_law_1432 rfl (lv_at hl 1 rfl) ?_
  refine lv_aload_n hx hb dc_L_law_1433 rfl (lv_at hl 0 rfl) ?_
  refine lv_iload hx hb dc_L_law_1434 (lv_at hl 4 rfl) ?_
  refine lv_iconst (v := 1) hx hb dc_L_law_1436 (by decide) ?_
  refine lv_iadd hx hb dc_L_law_1437 ?_
  refine va_sld hx hb hXX hbl hbA hS h1 dc_L_law_1438 ?_
  generalize hy1 : xs (((i) + ((1 : Int32)))).toNatClampNeg = y1
  refine lv_aload_n hx hb dc_L_law_1439 rfl (lv_at hl 3 rfl) ?_
  refine cl_num (As := [.ref x, .int (y1), .ref o]) F hE hfr hA (mt_L_exponent l hl9 G x cs sc pf u o nn sv (y1) H.size) kH_L_267 ⟨⟨rfl, rfl⟩, Nat.le_of_ble_eq_true rfl, Nat.le_of_ble_eq_true rfl⟩ rfl hl.1 rfl (Nat.le_of_ble_eq_true rfl) ⟨by show (_ : Nat) ≤ 602769; omega, by show (_ : Nat) ≤ 7287796; omega⟩ hP hD hS hIT dc_L_law_1440 ?_
  rintro v9 ⟨u_0, n_0⟩ H locs ⟨rfl, hz_0⟩ hP hD hS hIT
  have hP : va_P G.1 kcl (ky_LW G x cs sc pf fg bb tk o mo ms r u_0 t g n_0 sv w f) H := hP
  have hD : va_D A (ky_LW G x cs sc pf fg bb tk o mo ms r u_0 t g n_0 sv w f) := hD
  have hu_0 : u_0 = (ky_lw (fn_X6_exponent (y1) u) u nn).2.1 := congrArg Prod.fst hz_0
  generalize hj_0 : (ky_lw (fn_X6_exponent (y1) u) u nn).1 = j_0
  refine W.widen (k := cells + 1) (n := slots + 6) (by omega) (by omega) ?_
  refine lv_istore (lv' := [(5, .int (j_0)), (0, .ref b), (1, .ref x), (2, .ref mo), (3, .ref o), (4, .int (i))]) hx hb dc_L_law_1443 hl (by decide) rfl (fun ls hl => ?_)
  refine lv_aload_n hx hb dc_L_law_1445 rfl (lv_at hl 3 rfl) ?_
  refine lv_aload_n hx hb dc_L_law_1446 rfl (lv_at hl 1 rfl) ?_
  refine lv_iload hx hb dc_L_law_1447 (lv_at hl 5 rfl) ?_
  refine lv_iconst (v := 1) hx hb dc_L_law_1449 (by decide) ?_
  refine lv_iadd hx hb dc_L_law_1450 ?_
  refine va_sld hx hb hXX hbl hbA hS h1 dc_L_law_1451 ?_
  rw [hy1]
  refine cl_mm (As := [.int (y1)]) F hE hfr hA (mt_X9_exponent l G mo ms (fun _ => False) w f (y1) H.size) kv_L_269 ⟨⟨rfl, rfl⟩, Nat.le_of_ble_eq_true rfl, Nat.le_of_ble_eq_true rfl⟩ rfl hl.1 rfl (Nat.le_of_ble_eq_true rfl) ⟨by show (_ : Nat) ≤ 602769; omega, by show (_ : Nat) ≤ 7287796; omega⟩ hP hD hS hIT rfl dc_L_law_1452 ?_
  rintro v9 ⟨w_1, f_1⟩ H locs ⟨rfl, hz_1⟩ hP hD hS hIT
  have hP : va_P G.1 kcl (ky_LW G x cs sc pf fg bb tk o mo ms r u_0 t g n_0 sv w_1 f_1) H := hP
  have hD : va_D A (ky_LW G x cs sc pf fg bb tk o mo ms r u_0 t g n_0 sv w_1 f_1) := hD
  generalize hj_1 : (fn_X9_exponent (y1) w).1 = j_1
  have hsi_1 : ky_SI u_0 w_1 := by rw [hu_0, show w_1 = (fn_X9_exponent (y1) w).2 from hz_1]; exact si_exponent (y1) u nn w hsi
  have hP : va_P G.1 kcl (ky_LW G x cs sc pf fg bb tk o mo ms r u_0 t g n_0 sv w_1 f_1) H := hP
  have hD : va_D A (ky_LW G x cs sc pf fg bb tk o mo ms r u_0 t g n_0 sv w_1 f_1) := hD
  refine W.widen (k := cells + 1) (n := slots + 6) (by omega) (by omega) ?_
  refine lv_istore (lv' := [(6, .int (j_1)), (5, .int (j_0)), (0, .ref b), (1, .ref x), (2, .ref mo), (3, .ref o), (4, .int (i))]) hx hb dc_L_law_1455 hl (by decide) rfl (fun ls hl => ?_)
  refine lv_goto (tgt := 2294) hx hb dc_L_law_1457 (by decide) ?_
  refine W.widen (k := cells + 544) (n := slots + 12088) (by omega) (by omega) ?_
  exact KK _ _ _ _ _ _ _ _ _ _ hsk hsi_1 (lv_sub hl [2, 3, 4, 5, 6] rfl) hP hD hS hIT
set_option linter.constructorNameAsVariable false in
set_option maxHeartbeats 4000000 in
set_option maxRecDepth 100000 in
theorem lc_27 (hl9 : l.stackTraces = false) (F : ky_F p s m meth c "ExactdoublesLaw" code 7 ret #[Value.ref b]) (hE : ky_E G s) (hfr : ∀ q, A q → ky_fr G q) (hA : ∀ q, s.heap.size ≤ q → A q)
    (hXX : va_X b L xs s s.heap) (hbl : b < s.heap.size) (hbA : ¬ A b) {i : Int32} (h1 : vp_in ((i) + ((1 : Int32))) L) (h2 : vp_in ((i) + ((2 : Int32))) L) (h3 : vp_in ((i) + ((3 : Int32))) L) (hl : lv_has ls 7 [(0, .ref b), (1, .ref x), (2, .ref mo), (3, .ref o), (4, .int (i))])
    (hsk : ky_sok t) (hsi : ky_SI u w) (hP : va_P G.1 kcl (ky_LW G x cs sc pf fg bb tk o mo ms r u t g nn sv w f) H) (hD : va_D A (ky_LW G x cs sc pf fg bb tk o mo ms r u t g nn sv w f)) (hS : va_S A s.heap H locs) (hIT : ky_IT G mo ms (fun _ => False) f w.2.2.2.2 H) (hcc : cells + 544 ≤ 602769) (hss : slots + 12088 ≤ 7287796)
    (KK : ∀ (u : ky_BS) (t : ky_SV) (g : Nat → Nat → Int64) (nn : Int64) (sv : Value) (w : ky_MV) (f : Nat → Option Nat) (H : Heap) (locs : List Loc) (ls : Array Slot), ky_sok t → ky_SI u w → lv_has ls 7 [(0, .ref b), (1, .ref x), (2, .ref mo), (3, .ref o), (4, .int (i))] → va_P G.1 kcl (ky_LW G x cs sc pf fg bb tk o mo ms r u t g nn sv w f) H → va_D A (ky_LW G x cs sc pf fg bb tk o mo ms r u t g nn sv w f) → va_S A s.heap H locs → ky_IT G mo ms (fun _ => False) f w.2.2.2.2 H →
      W p l e room_1 s m #[Value.ref b] below meth c H locs (cells + 544) (slots + 12088) Q (F0 m 2294 ls [])) : W p l e room_1 s m #[Value.ref b] below meth c H locs cells slots Q (F0 m 1460 ls []) := by
  obtain ⟨hx, hb, hml, hown, hr, hlocks, hts⟩ := id F
  refine lv_aload_n hx hb dc_L_law_1460 rfl (lv_at hl 1 rfl) ?_
  refine lv_aload_n hx hb dc_L_law_1461 rfl (lv_at hl 0 rfl) ?_
  refine lv_iload hx hb dc_L_law_1462 (lv_at hl 4 rfl) ?_
  refine lv_iconst (v := 1) hx hb dc_L_law_1464 (by decide) ?_
  refine lv_iadd hx hb dc_L_law_1465 ?_
  refine va_sld hx hb hXX hbl hbA hS h1 dc_L_law_1466 ?_
  generalize hy1 : xs (((i) + ((1 : Int32)))).toNatClampNeg = y1
  refine lv_aload_n hx hb dc_L_law_1467 rfl (lv_at hl 0 rfl) ?_
  refine lv_iload hx hb dc_L_law_1468 (lv_at hl 4 rfl) ?_
  refine lv_iconst (v := 2) hx hb dc_L_law_1470 (by decide) ?_
  refine lv_iadd hx hb dc_L_law_1471 ?_
  refine va_sld hx hb hXX hbl hbA hS h2 dc_L_law_1472 ?_
  generalize hy2 : xs (((i) + ((2 : Int32)))).toNatClampNeg = y2
  refine lv_if_eq (tgt := 1480) hx hb dc_L_law_1473 (by decide) (fun c_0 => ?_) (fun c_0 => ?_)
  · skip
    refine lv_iconst (v := 0) hx hb dc_L_law_1480 (by decide) ?_
    refine lv_aload_n hx hb dc_L_law_1481 rfl (lv_at hl 3 rfl) ?_
    refine cl_num (As := [.ref x, .int (y1), .int ((0 : Int32)), .ref o]) F hE hfr hA (mt_L_round l hl9 G x cs sc pf u o nn sv (y1) ((0 : Int32)) H.size) kH_L_270 ⟨⟨rfl, rfl⟩, Nat.le_of_ble_eq_true rfl, Nat.le_of_ble_eq_true rfl⟩ rfl hl.1 rfl (Nat.le_of_ble_eq_true rfl) ⟨by show (_ : Nat) ≤ 602769; omega, by show (_ : Nat) ≤ 7287796; omega⟩ hP hD hS hIT dc_L_law_1482 ?_
    rintro v9 ⟨u_1, n_1⟩ H locs ⟨rfl, hz_1⟩ hP hD hS hIT
    have hP : va_P G.1 kcl (ky_LW G x cs sc pf fg bb tk o mo ms r u_1 t g n_1 sv w f) H := hP
    have hD : va_D A (ky_LW G x cs sc pf fg bb tk o mo ms r u_1 t g n_1 sv w f) := hD
    have hu_1 : u_1 = (ky_lw (fn_X6_round (y1) ((0 : Int32)) u) u nn).2.1 := congrArg Prod.fst hz_1
    generalize hj_1 : (ky_lw (fn_X6_round (y1) ((0 : Int32)) u) u nn).1 = j_1
    refine W.widen (k := cells + 1) (n := slots + 6) (by omega) (by omega) ?_
    refine lv_istore (lv' := [(5, .int (j_1)), (0, .ref b), (1, .ref x), (2, .ref mo), (3, .ref o), (4, .int (i))]) hx hb dc_L_law_1485 hl (by decide) rfl (fun ls hl => ?_)
    refine lv_aload_n hx hb dc_L_law_1487 rfl (lv_at hl 3 rfl) ?_
    refine lv_aload_n hx hb dc_L_law_1488 rfl (lv_at hl 1 rfl) ?_
    refine lv_iload hx hb dc_L_law_1489 (lv_at hl 5 rfl) ?_
    refine lv_iconst (v := 1) hx hb dc_L_law_1491 (by decide) ?_
    refine lv_iadd hx hb dc_L_law_1492 ?_
    refine va_sld hx hb hXX hbl hbA hS h1 dc_L_law_1493 ?_
    rw [hy1]
    refine lv_aload_n hx hb dc_L_law_1494 rfl (lv_at hl 1 rfl) ?_
    refine lv_iload hx hb dc_L_law_1495 (lv_at hl 5 rfl) ?_
    refine lv_iconst (v := 2) hx hb dc_L_law_1497 (by decide) ?_
    refine lv_iadd hx hb dc_L_law_1498 ?_
    refine va_sld hx hb hXX hbl hbA hS h2 dc_L_law_1499 ?_
    rw [hy2]
    refine lv_if_eq (tgt := 1507) hx hb dc_L_law_1500 (by decide) (fun _ => ?_) (fun c_2 => absurd (c_0) c_2)
    refine lv_iconst (v := 0) hx hb dc_L_law_1507 (by decide) ?_
    refine cl_mm (As := [.int (y1), .int ((0 : Int32))]) F hE hfr hA (mt_X9_round l G mo ms (fun _ => False) w f (y1) ((0 : Int32)) H.size) kv_L_272 ⟨⟨rfl, rfl⟩, Nat.le_of_ble_eq_true rfl, Nat.le_of_ble_eq_true rfl⟩ rfl hl.1 rfl (Nat.le_of_ble_eq_true rfl) ⟨by show (_ : Nat) ≤ 602769; omega, by show (_ : Nat) ≤ 7287796; omega⟩ hP hD hS hIT rfl dc_L_law_1508 ?_
    rintro v9 ⟨w_3, f_3⟩ H locs ⟨rfl, hz_3⟩ hP hD hS hIT
    have hP : va_P G.1 kcl (ky_LW G x cs sc pf fg bb tk o mo ms r u_1 t g n_1 sv w_3 f_3) H := hP
    have hD : va_D A (ky_LW G x cs sc pf fg bb tk o mo ms r u_1 t g n_1 sv w_3 f_3) := hD
    generalize hj_3 : (fn_X9_round (y1) ((0 : Int32)) w).1 = j_3
    have hsi_3 : ky_SI u_1 w_3 := by rw [hu_1, show w_3 = (fn_X9_round (y1) ((0 : Int32)) w).2 from hz_3]; exact si_round (y1) ((0 : Int32)) (by first | exact Or.inl rfl | exact Or.inr rfl) u nn w hsi
    have hP : va_P G.1 kcl (ky_LW G x cs sc pf fg bb tk o mo ms r u_1 t g n_1 sv w_3 f_3) H := hP
    have hD : va_D A (ky_LW G x cs sc pf fg bb tk o mo ms r u_1 t g n_1 sv w_3 f_3) := hD
    refine W.widen (k := cells + 1) (n := slots + 6) (by omega) (by omega) ?_
    refine lv_istore (lv' := [(6, .int (j_3)), (5, .int (j_1)), (0, .ref b), (1, .ref x), (2, .ref mo), (3, .ref o), (4, .int (i))]) hx hb dc_L_law_1511 hl (by decide) rfl (fun ls hl => ?_)
    refine lv_goto (tgt := 2294) hx hb dc_L_law_1513 (by decide) ?_
    refine W.widen (k := cells + 544) (n := slots + 12088) (by omega) (by omega) ?_
    exact KK _ _ _ _ _ _ _ _ _ _ hsk hsi_3 (lv_sub hl [2, 3, 4, 5, 6] rfl) hP hD hS hIT
  · skip
    refine lv_iconst (v := 1) hx hb dc_L_law_1476 (by decide) ?_
    refine lv_goto (tgt := 1481) hx hb dc_L_law_1477 (by decide) ?_
    refine lv_aload_n hx hb dc_L_law_1481 rfl (lv_at hl 3 rfl) ?_
    refine cl_num (As := [.ref x, .int (y1), .int ((1 : Int32)), .ref o]) F hE hfr hA (mt_L_round l hl9 G x cs sc pf u o nn sv (y1) ((1 : Int32)) H.size) kH_L_270 ⟨⟨rfl, rfl⟩, Nat.le_of_ble_eq_true rfl, Nat.le_of_ble_eq_true rfl⟩ rfl hl.1 rfl (Nat.le_of_ble_eq_true rfl) ⟨by show (_ : Nat) ≤ 602769; omega, by show (_ : Nat) ≤ 7287796; omega⟩ hP hD hS hIT dc_L_law_1482 ?_
    rintro v9 ⟨u_1, n_1⟩ H locs ⟨rfl, hz_1⟩ hP hD hS hIT
    have hP : va_P G.1 kcl (ky_LW G x cs sc pf fg bb tk o mo ms r u_1 t g n_1 sv w f) H := hP
    have hD : va_D A (ky_LW G x cs sc pf fg bb tk o mo ms r u_1 t g n_1 sv w f) := hD
    have hu_1 : u_1 = (ky_lw (fn_X6_round (y1) ((1 : Int32)) u) u nn).2.1 := congrArg Prod.fst hz_1
    generalize hj_1 : (ky_lw (fn_X6_round (y1) ((1 : Int32)) u) u nn).1 = j_1
    refine W.widen (k := cells + 1) (n := slots + 6) (by omega) (by omega) ?_
    refine lv_istore (lv' := [(5, .int (j_1)), (0, .ref b), (1, .ref x), (2, .ref mo), (3, .ref o), (4, .int (i))]) hx hb dc_L_law_1485 hl (by decide) rfl (fun ls hl => ?_)
    refine lv_aload_n hx hb dc_L_law_1487 rfl (lv_at hl 3 rfl) ?_
    refine lv_aload_n hx hb dc_L_law_1488 rfl (lv_at hl 1 rfl) ?_
    refine lv_iload hx hb dc_L_law_1489 (lv_at hl 5 rfl) ?_
    refine lv_iconst (v := 1) hx hb dc_L_law_1491 (by decide) ?_
    refine lv_iadd hx hb dc_L_law_1492 ?_
    refine va_sld hx hb hXX hbl hbA hS h1 dc_L_law_1493 ?_
    rw [hy1]
    refine lv_aload_n hx hb dc_L_law_1494 rfl (lv_at hl 1 rfl) ?_
    refine lv_iload hx hb dc_L_law_1495 (lv_at hl 5 rfl) ?_
    refine lv_iconst (v := 2) hx hb dc_L_law_1497 (by decide) ?_
    refine lv_iadd hx hb dc_L_law_1498 ?_
    refine va_sld hx hb hXX hbl hbA hS h2 dc_L_law_1499 ?_
    rw [hy2]
    refine lv_if_eq (tgt := 1507) hx hb dc_L_law_1500 (by decide) (fun c_2 => absurd c_2 (c_0)) (fun _ => ?_)
    refine lv_iconst (v := 1) hx hb dc_L_law_1503 (by decide) ?_
    refine lv_goto (tgt := 1508) hx hb dc_L_law_1504 (by decide) ?_
    refine cl_mm (As := [.int (y1), .int ((1 : Int32))]) F hE hfr hA (mt_X9_round l G mo ms (fun _ => False) w f (y1) ((1 : Int32)) H.size) kv_L_272 ⟨⟨rfl, rfl⟩, Nat.le_of_ble_eq_true rfl, Nat.le_of_ble_eq_true rfl⟩ rfl hl.1 rfl (Nat.le_of_ble_eq_true rfl) ⟨by show (_ : Nat) ≤ 602769; omega, by show (_ : Nat) ≤ 7287796; omega⟩ hP hD hS hIT rfl dc_L_law_1508 ?_
    rintro v9 ⟨w_3, f_3⟩ H locs ⟨rfl, hz_3⟩ hP hD hS hIT
    have hP : va_P G.1 kcl (ky_LW G x cs sc pf fg bb tk o mo ms r u_1 t g n_1 sv w_3 f_3) H := hP
    have hD : va_D A (ky_LW G x cs sc pf fg bb tk o mo ms r u_1 t g n_1 sv w_3 f_3) := hD
    generalize hj_3 : (fn_X9_round (y1) ((1 : Int32)) w).1 = j_3
    have hsi_3 : ky_SI u_1 w_3 := by rw [hu_1, show w_3 = (fn_X9_round (y1) ((1 : Int32)) w).2 from hz_3]; exact si_round (y1) ((1 : Int32)) (by first | exact Or.inl rfl | exact Or.inr rfl) u nn w hsi
    have hP : va_P G.1 kcl (ky_LW G x cs sc pf fg bb tk o mo ms r u_1 t g n_1 sv w_3 f_3) H := hP
    have hD : va_D A (ky_LW G x cs sc pf fg bb tk o mo ms r u_1 t g n_1 sv w_3 f_3) := hD
    refine W.widen (k := cells + 1) (n := slots + 6) (by omega) (by omega) ?_
    refine lv_istore (lv' := [(6, .int (j_3)), (5, .int (j_1)), (0, .ref b), (1, .ref x), (2, .ref mo), (3, .ref o), (4, .int (i))]) hx hb dc_L_law_1511 hl (by decide) rfl (fun ls hl => ?_)
    refine lv_goto (tgt := 2294) hx hb dc_L_law_1513 (by decide) ?_
    refine W.widen (k := cells + 544) (n := slots + 12088) (by omega) (by omega) ?_
    exact KK _ _ _ _ _ _ _ _ _ _ hsk hsi_3 (lv_sub hl [2, 3, 4, 5, 6] rfl) hP hD hS hIT
set_option linter.constructorNameAsVariable false in
set_option maxHeartbeats 4000000 in
set_option maxRecDepth 100000 in
theorem lc_28 (hl9 : l.stackTraces = false) (F : ky_F p s m meth c "ExactdoublesLaw" code 7 ret #[Value.ref b]) (hE : ky_E G s) (hfr : ∀ q, A q → ky_fr G q) (hA : ∀ q, s.heap.size ≤ q → A q)
    (hXX : va_X b L xs s s.heap) (hbl : b < s.heap.size) (hbA : ¬ A b) {i : Int32} (h1 : vp_in ((i) + ((1 : Int32))) L) (h2 : vp_in ((i) + ((2 : Int32))) L) (h3 : vp_in ((i) + ((3 : Int32))) L) (hl : lv_has ls 7 [(0, .ref b), (1, .ref x), (2, .ref mo), (3, .ref o), (4, .int (i))])
    (hsk : ky_sok t) (hsi : ky_SI u w) (hP : va_P G.1 kcl (ky_LW G x cs sc pf fg bb tk o mo ms r u t g nn sv w f) H) (hD : va_D A (ky_LW G x cs sc pf fg bb tk o mo ms r u t g nn sv w f)) (hS : va_S A s.heap H locs) (hIT : ky_IT G mo ms (fun _ => False) f w.2.2.2.2 H) (hcc : cells + 544 ≤ 602769) (hss : slots + 12088 ≤ 7287796)
    (KK : ∀ (u : ky_BS) (t : ky_SV) (g : Nat → Nat → Int64) (nn : Int64) (sv : Value) (w : ky_MV) (f : Nat → Option Nat) (H : Heap) (locs : List Loc) (ls : Array Slot), ky_sok t → ky_SI u w → lv_has ls 7 [(0, .ref b), (1, .ref x), (2, .ref mo), (3, .ref o), (4, .int (i))] → va_P G.1 kcl (ky_LW G x cs sc pf fg bb tk o mo ms r u t g nn sv w f) H → va_D A (ky_LW G x cs sc pf fg bb tk o mo ms r u t g nn sv w f) → va_S A s.heap H locs → ky_IT G mo ms (fun _ => False) f w.2.2.2.2 H →
      W p l e room_1 s m #[Value.ref b] below meth c H locs (cells + 544) (slots + 12088) Q (F0 m 2294 ls [])) : W p l e room_1 s m #[Value.ref b] below meth c H locs cells slots Q (F0 m 1516 ls []) := by
  obtain ⟨hx, hb, hml, hown, hr, hlocks, hts⟩ := id F
  refine lv_aload_n hx hb dc_L_law_1516 rfl (lv_at hl 1 rfl) ?_
  refine lv_aload_n hx hb dc_L_law_1517 rfl (lv_at hl 0 rfl) ?_
  refine lv_iload hx hb dc_L_law_1518 (lv_at hl 4 rfl) ?_
  refine lv_iconst (v := 1) hx hb dc_L_law_1520 (by decide) ?_
  refine lv_iadd hx hb dc_L_law_1521 ?_
  refine va_sld hx hb hXX hbl hbA hS h1 dc_L_law_1522 ?_
  generalize hy1 : xs (((i) + ((1 : Int32)))).toNatClampNeg = y1
  refine lv_aload_n hx hb dc_L_law_1523 rfl (lv_at hl 3 rfl) ?_
  refine cl_txt (As := [.ref x, .int (y1), .ref o]) F hE hfr hA (mt_L_rounded l hl9 G x cs sc pf u fg bb t o nn sv (y1) H.size hsk) kH_L_273 ⟨⟨rfl, rfl⟩, Nat.le_of_ble_eq_true rfl, Nat.le_of_ble_eq_true rfl⟩ rfl hl.1 rfl (Nat.le_of_ble_eq_true rfl) ⟨by show (_ : Nat) ≤ 602769; omega, by show (_ : Nat) ≤ 7287796; omega⟩ hP hD hS hIT dc_L_law_1524 ?_
  rintro v9 ⟨t_0, s_0⟩ H locs ⟨⟨j_0, rfl⟩, hk_0⟩ hP hD hS hIT
  have hP : va_P G.1 kcl (ky_LW G x cs sc pf fg bb tk o mo ms r u t_0 g nn s_0 w f) H := hP
  have hD : va_D A (ky_LW G x cs sc pf fg bb tk o mo ms r u t_0 g nn s_0 w f) := hD
  refine W.widen (k := cells + 4) (n := slots + 78) (by omega) (by omega) ?_
  refine lv_istore (lv' := [(5, .int (j_0)), (0, .ref b), (1, .ref x), (2, .ref mo), (3, .ref o), (4, .int (i))]) hx hb dc_L_law_1527 hl (by decide) rfl (fun ls hl => ?_)
  refine lv_aload_n hx hb dc_L_law_1529 rfl (lv_at hl 3 rfl) ?_
  refine lv_aload_n hx hb dc_L_law_1530 rfl (lv_at hl 1 rfl) ?_
  refine lv_iload hx hb dc_L_law_1531 (lv_at hl 5 rfl) ?_
  refine lv_iconst (v := 1) hx hb dc_L_law_1533 (by decide) ?_
  refine lv_iadd hx hb dc_L_law_1534 ?_
  refine va_sld hx hb hXX hbl hbA hS h1 dc_L_law_1535 ?_
  rw [hy1]
  refine cl_mr (As := [.int (y1)]) F hE hfr hA (mt_X9_rounded l G mo ms (fun _ => False) w f (y1) H.size) kv_L_275 ⟨⟨rfl, rfl⟩, Nat.le_of_ble_eq_true rfl, Nat.le_of_ble_eq_true rfl⟩ rfl hl.1 rfl (Nat.le_of_ble_eq_true rfl) ⟨by show (_ : Nat) ≤ 602769; omega, by show (_ : Nat) ≤ 7287796; omega⟩ hP hD hS hIT rfl dc_L_law_1536 ?_
  rintro v9 q_1 H locs ⟨z_1, rfl⟩ hP hD hS hIT
  have hP : va_P G.1 kcl (ky_LW G x cs sc pf fg bb tk o mo ms r u t_0 g nn s_0 (q_1, w.2) f) H := hP
  have hD : va_D A (ky_LW G x cs sc pf fg bb tk o mo ms r u t_0 g nn s_0 (q_1, w.2) f) := hD
  refine W.widen (k := cells + 10) (n := slots + 204) (by omega) (by omega) ?_
  refine lv_astore (lv' := [(6, .ref z_1), (5, .int (j_0)), (0, .ref b), (1, .ref x), (2, .ref mo), (3, .ref o), (4, .int (i))]) hx hb dc_L_law_1539 hl (by decide) rfl (fun ls hl => ?_)
  refine lv_goto (tgt := 2294) hx hb dc_L_law_1541 (by decide) ?_
  refine W.widen (k := cells + 544) (n := slots + 12088) (by omega) (by omega) ?_
  exact KK _ _ _ _ _ _ _ _ _ _ hk_0 (si_thr q_1 hsi) (lv_sub hl [2, 3, 4, 5, 6] rfl) hP hD hS hIT
set_option linter.constructorNameAsVariable false in
set_option maxHeartbeats 4000000 in
set_option maxRecDepth 100000 in
theorem lc_29 (hl9 : l.stackTraces = false) (F : ky_F p s m meth c "ExactdoublesLaw" code 7 ret #[Value.ref b]) (hE : ky_E G s) (hfr : ∀ q, A q → ky_fr G q) (hA : ∀ q, s.heap.size ≤ q → A q)
    (hXX : va_X b L xs s s.heap) (hbl : b < s.heap.size) (hbA : ¬ A b) {i : Int32} (h1 : vp_in ((i) + ((1 : Int32))) L) (h2 : vp_in ((i) + ((2 : Int32))) L) (h3 : vp_in ((i) + ((3 : Int32))) L) (hl : lv_has ls 7 [(0, .ref b), (1, .ref x), (2, .ref mo), (3, .ref o), (4, .int (i))])
    (hsk : ky_sok t) (hsi : ky_SI u w) (hP : va_P G.1 kcl (ky_LW G x cs sc pf fg bb tk o mo ms r u t g nn sv w f) H) (hD : va_D A (ky_LW G x cs sc pf fg bb tk o mo ms r u t g nn sv w f)) (hS : va_S A s.heap H locs) (hIT : ky_IT G mo ms (fun _ => False) f w.2.2.2.2 H) (hcc : cells + 544 ≤ 602769) (hss : slots + 12088 ≤ 7287796)
    (KK : ∀ (u : ky_BS) (t : ky_SV) (g : Nat → Nat → Int64) (nn : Int64) (sv : Value) (w : ky_MV) (f : Nat → Option Nat) (H : Heap) (locs : List Loc) (ls : Array Slot), ky_sok t → ky_SI u w → lv_has ls 7 [(0, .ref b), (1, .ref x), (2, .ref mo), (3, .ref o), (4, .int (i))] → va_P G.1 kcl (ky_LW G x cs sc pf fg bb tk o mo ms r u t g nn sv w f) H → va_D A (ky_LW G x cs sc pf fg bb tk o mo ms r u t g nn sv w f) → va_S A s.heap H locs → ky_IT G mo ms (fun _ => False) f w.2.2.2.2 H →
      W p l e room_1 s m #[Value.ref b] below meth c H locs (cells + 544) (slots + 12088) Q (F0 m 2294 ls [])) : W p l e room_1 s m #[Value.ref b] below meth c H locs cells slots Q (F0 m 1544 ls []) := by
  obtain ⟨hx, hb, hml, hown, hr, hlocks, hts⟩ := id F
  refine lv_aload_n hx hb dc_L_law_1544 rfl (lv_at hl 1 rfl) ?_
  refine lv_aload_n hx hb dc_L_law_1545 rfl (lv_at hl 0 rfl) ?_
  refine lv_iload hx hb dc_L_law_1546 (lv_at hl 4 rfl) ?_
  refine lv_iconst (v := 1) hx hb dc_L_law_1548 (by decide) ?_
  refine lv_iadd hx hb dc_L_law_1549 ?_
  refine va_sld hx hb hXX hbl hbA hS h1 dc_L_law_1550 ?_
  generalize hy1 : xs (((i) + ((1 : Int32)))).toNatClampNeg = y1
  refine lv_aload_n hx hb dc_L_law_1551 rfl (lv_at hl 3 rfl) ?_
  refine cl_txt (As := [.ref x, .int (y1), .ref o]) F hE hfr hA (mt_L_cut l hl9 G x cs sc pf u fg bb t o nn sv (y1) H.size hsk) kH_L_276 ⟨⟨rfl, rfl⟩, Nat.le_of_ble_eq_true rfl, Nat.le_of_ble_eq_true rfl⟩ rfl hl.1 rfl (Nat.le_of_ble_eq_true rfl) ⟨by show (_ : Nat) ≤ 602769; omega, by show (_ : Nat) ≤ 7287796; omega⟩ hP hD hS hIT dc_L_law_1552 ?_
  rintro v9 ⟨t_0, s_0⟩ H locs ⟨⟨j_0, rfl⟩, hk_0⟩ hP hD hS hIT
  have hP : va_P G.1 kcl (ky_LW G x cs sc pf fg bb tk o mo ms r u t_0 g nn s_0 w f) H := hP
  have hD : va_D A (ky_LW G x cs sc pf fg bb tk o mo ms r u t_0 g nn s_0 w f) := hD
  refine W.widen (k := cells + 4) (n := slots + 78) (by omega) (by omega) ?_
  refine lv_istore (lv' := [(5, .int (j_0)), (0, .ref b), (1, .ref x), (2, .ref mo), (3, .ref o), (4, .int (i))]) hx hb dc_L_law_1555 hl (by decide) rfl (fun ls hl => ?_)
  refine lv_aload_n hx hb dc_L_law_1557 rfl (lv_at hl 3 rfl) ?_
  refine lv_aload_n hx hb dc_L_law_1558 rfl (lv_at hl 1 rfl) ?_
  refine lv_iload hx hb dc_L_law_1559 (lv_at hl 5 rfl) ?_
  refine lv_iconst (v := 1) hx hb dc_L_law_1561 (by decide) ?_
  refine lv_iadd hx hb dc_L_law_1562 ?_
  refine va_sld hx hb hXX hbl hbA hS h1 dc_L_law_1563 ?_
  rw [hy1]
  refine cl_mr (As := [.int (y1)]) F hE hfr hA (mt_X9_cut l G mo ms (fun _ => False) w f (y1) H.size) kv_L_278 ⟨⟨rfl, rfl⟩, Nat.le_of_ble_eq_true rfl, Nat.le_of_ble_eq_true rfl⟩ rfl hl.1 rfl (Nat.le_of_ble_eq_true rfl) ⟨by show (_ : Nat) ≤ 602769; omega, by show (_ : Nat) ≤ 7287796; omega⟩ hP hD hS hIT rfl dc_L_law_1564 ?_
  rintro v9 q_1 H locs ⟨z_1, rfl⟩ hP hD hS hIT
  have hP : va_P G.1 kcl (ky_LW G x cs sc pf fg bb tk o mo ms r u t_0 g nn s_0 (q_1, w.2) f) H := hP
  have hD : va_D A (ky_LW G x cs sc pf fg bb tk o mo ms r u t_0 g nn s_0 (q_1, w.2) f) := hD
  refine W.widen (k := cells + 10) (n := slots + 204) (by omega) (by omega) ?_
  refine lv_astore (lv' := [(6, .ref z_1), (5, .int (j_0)), (0, .ref b), (1, .ref x), (2, .ref mo), (3, .ref o), (4, .int (i))]) hx hb dc_L_law_1567 hl (by decide) rfl (fun ls hl => ?_)
  refine lv_goto (tgt := 2294) hx hb dc_L_law_1569 (by decide) ?_
  refine W.widen (k := cells + 544) (n := slots + 12088) (by omega) (by omega) ?_
  exact KK _ _ _ _ _ _ _ _ _ _ hk_0 (si_thr q_1 hsi) (lv_sub hl [2, 3, 4, 5, 6] rfl) hP hD hS hIT
set_option linter.constructorNameAsVariable false in
set_option maxHeartbeats 4000000 in
set_option maxRecDepth 100000 in
theorem lc_30 (hl9 : l.stackTraces = false) (F : ky_F p s m meth c "ExactdoublesLaw" code 7 ret #[Value.ref b]) (hE : ky_E G s) (hfr : ∀ q, A q → ky_fr G q) (hA : ∀ q, s.heap.size ≤ q → A q)
    (hXX : va_X b L xs s s.heap) (hbl : b < s.heap.size) (hbA : ¬ A b) {i : Int32} (h1 : vp_in ((i) + ((1 : Int32))) L) (h2 : vp_in ((i) + ((2 : Int32))) L) (h3 : vp_in ((i) + ((3 : Int32))) L) (hl : lv_has ls 7 [(0, .ref b), (1, .ref x), (2, .ref mo), (3, .ref o), (4, .int (i))])
    (hsk : ky_sok t) (hsi : ky_SI u w) (hP : va_P G.1 kcl (ky_LW G x cs sc pf fg bb tk o mo ms r u t g nn sv w f) H) (hD : va_D A (ky_LW G x cs sc pf fg bb tk o mo ms r u t g nn sv w f)) (hS : va_S A s.heap H locs) (hIT : ky_IT G mo ms (fun _ => False) f w.2.2.2.2 H) (hcc : cells + 544 ≤ 602769) (hss : slots + 12088 ≤ 7287796)
    (KK : ∀ (u : ky_BS) (t : ky_SV) (g : Nat → Nat → Int64) (nn : Int64) (sv : Value) (w : ky_MV) (f : Nat → Option Nat) (H : Heap) (locs : List Loc) (ls : Array Slot), ky_sok t → ky_SI u w → lv_has ls 7 [(0, .ref b), (1, .ref x), (2, .ref mo), (3, .ref o), (4, .int (i))] → va_P G.1 kcl (ky_LW G x cs sc pf fg bb tk o mo ms r u t g nn sv w f) H → va_D A (ky_LW G x cs sc pf fg bb tk o mo ms r u t g nn sv w f) → va_S A s.heap H locs → ky_IT G mo ms (fun _ => False) f w.2.2.2.2 H →
      W p l e room_1 s m #[Value.ref b] below meth c H locs (cells + 544) (slots + 12088) Q (F0 m 2294 ls [])) : W p l e room_1 s m #[Value.ref b] below meth c H locs cells slots Q (F0 m 1572 ls []) := by
  obtain ⟨hx, hb, hml, hown, hr, hlocks, hts⟩ := id F
  refine lv_aload_n hx hb dc_L_law_1572 rfl (lv_at hl 1 rfl) ?_
  refine lv_aload_n hx hb dc_L_law_1573 rfl (lv_at hl 0 rfl) ?_
  refine lv_iload hx hb dc_L_law_1574 (lv_at hl 4 rfl) ?_
  refine lv_iconst (v := 1) hx hb dc_L_law_1576 (by decide) ?_
  refine lv_iadd hx hb dc_L_law_1577 ?_
  refine va_sld hx hb hXX hbl hbA hS h1 dc_L_law_1578 ?_
  generalize hy1 : xs (((i) + ((1 : Int32)))).toNatClampNeg = y1
  refine lv_aload_n hx hb dc_L_law_1579 rfl (lv_at hl 3 rfl) ?_
  refine cl_num (As := [.ref x, .int (y1), .ref o]) F hE hfr hA (mt_L_shortened l hl9 G x cs sc pf u o nn sv (y1) H.size) kH_L_279 ⟨⟨rfl, rfl⟩, Nat.le_of_ble_eq_true rfl, Nat.le_of_ble_eq_true rfl⟩ rfl hl.1 rfl (Nat.le_of_ble_eq_true rfl) ⟨by show (_ : Nat) ≤ 602769; omega, by show (_ : Nat) ≤ 7287796; omega⟩ hP hD hS hIT dc_L_law_1580 ?_
  rintro v9 ⟨u_0, n_0⟩ H locs ⟨rfl, hz_0⟩ hP hD hS hIT
  have hP : va_P G.1 kcl (ky_LW G x cs sc pf fg bb tk o mo ms r u_0 t g n_0 sv w f) H := hP
  have hD : va_D A (ky_LW G x cs sc pf fg bb tk o mo ms r u_0 t g n_0 sv w f) := hD
  have hu_0 : u_0 = (ky_lw (fn_X6_shortened (y1) u) u nn).2.1 := congrArg Prod.fst hz_0
  generalize hj_0 : (ky_lw (fn_X6_shortened (y1) u) u nn).1 = j_0
  refine W.widen (k := cells + 1) (n := slots + 6) (by omega) (by omega) ?_
  refine lv_istore (lv' := [(5, .int (j_0)), (0, .ref b), (1, .ref x), (2, .ref mo), (3, .ref o), (4, .int (i))]) hx hb dc_L_law_1583 hl (by decide) rfl (fun ls hl => ?_)
  refine lv_aload_n hx hb dc_L_law_1585 rfl (lv_at hl 3 rfl) ?_
  refine lv_aload_n hx hb dc_L_law_1586 rfl (lv_at hl 1 rfl) ?_
  refine lv_iload hx hb dc_L_law_1587 (lv_at hl 5 rfl) ?_
  refine lv_iconst (v := 1) hx hb dc_L_law_1589 (by decide) ?_
  refine lv_iadd hx hb dc_L_law_1590 ?_
  refine va_sld hx hb hXX hbl hbA hS h1 dc_L_law_1591 ?_
  rw [hy1]
  refine cl_mm (As := [.int (y1)]) F hE hfr hA (mt_X9_shortened l G mo ms (fun _ => False) w f (y1) H.size) kv_L_281 ⟨⟨rfl, rfl⟩, Nat.le_of_ble_eq_true rfl, Nat.le_of_ble_eq_true rfl⟩ rfl hl.1 rfl (Nat.le_of_ble_eq_true rfl) ⟨by show (_ : Nat) ≤ 602769; omega, by show (_ : Nat) ≤ 7287796; omega⟩ hP hD hS hIT rfl dc_L_law_1592 ?_
  rintro v9 ⟨w_1, f_1⟩ H locs ⟨rfl, hz_1⟩ hP hD hS hIT
  have hP : va_P G.1 kcl (ky_LW G x cs sc pf fg bb tk o mo ms r u_0 t g n_0 sv w_1 f_1) H := hP
  have hD : va_D A (ky_LW G x cs sc pf fg bb tk o mo ms r u_0 t g n_0 sv w_1 f_1) := hD
  generalize hj_1 : (fn_X9_shortened (y1) w).1 = j_1
  have hsi_1 : ky_SI u_0 w_1 := by rw [hu_0, show w_1 = (fn_X9_shortened (y1) w).2 from hz_1]; exact si_shortened (y1) u nn w hsi
  have hP : va_P G.1 kcl (ky_LW G x cs sc pf fg bb tk o mo ms r u_0 t g n_0 sv w_1 f_1) H := hP
  have hD : va_D A (ky_LW G x cs sc pf fg bb tk o mo ms r u_0 t g n_0 sv w_1 f_1) := hD
  refine W.widen (k := cells + 1) (n := slots + 6) (by omega) (by omega) ?_
  refine lv_istore (lv' := [(6, .int (j_1)), (5, .int (j_0)), (0, .ref b), (1, .ref x), (2, .ref mo), (3, .ref o), (4, .int (i))]) hx hb dc_L_law_1595 hl (by decide) rfl (fun ls hl => ?_)
  refine lv_goto (tgt := 2294) hx hb dc_L_law_1597 (by decide) ?_
  refine W.widen (k := cells + 544) (n := slots + 12088) (by omega) (by omega) ?_
  exact KK _ _ _ _ _ _ _ _ _ _ hsk hsi_1 (lv_sub hl [2, 3, 4, 5, 6] rfl) hP hD hS hIT
set_option linter.constructorNameAsVariable false in
set_option maxHeartbeats 4000000 in
set_option maxRecDepth 100000 in
theorem lc_31 (hl9 : l.stackTraces = false) (F : ky_F p s m meth c "ExactdoublesLaw" code 7 ret #[Value.ref b]) (hE : ky_E G s) (hfr : ∀ q, A q → ky_fr G q) (hA : ∀ q, s.heap.size ≤ q → A q)
    (hXX : va_X b L xs s s.heap) (hbl : b < s.heap.size) (hbA : ¬ A b) {i : Int32} (h1 : vp_in ((i) + ((1 : Int32))) L) (h2 : vp_in ((i) + ((2 : Int32))) L) (h3 : vp_in ((i) + ((3 : Int32))) L) (hl : lv_has ls 7 [(0, .ref b), (1, .ref x), (2, .ref mo), (3, .ref o), (4, .int (i))])
    (hsk : ky_sok t) (hsi : ky_SI u w) (hP : va_P G.1 kcl (ky_LW G x cs sc pf fg bb tk o mo ms r u t g nn sv w f) H) (hD : va_D A (ky_LW G x cs sc pf fg bb tk o mo ms r u t g nn sv w f)) (hS : va_S A s.heap H locs) (hIT : ky_IT G mo ms (fun _ => False) f w.2.2.2.2 H) (hcc : cells + 544 ≤ 602769) (hss : slots + 12088 ≤ 7287796)
    (KK : ∀ (u : ky_BS) (t : ky_SV) (g : Nat → Nat → Int64) (nn : Int64) (sv : Value) (w : ky_MV) (f : Nat → Option Nat) (H : Heap) (locs : List Loc) (ls : Array Slot), ky_sok t → ky_SI u w → lv_has ls 7 [(0, .ref b), (1, .ref x), (2, .ref mo), (3, .ref o), (4, .int (i))] → va_P G.1 kcl (ky_LW G x cs sc pf fg bb tk o mo ms r u t g nn sv w f) H → va_D A (ky_LW G x cs sc pf fg bb tk o mo ms r u t g nn sv w f) → va_S A s.heap H locs → ky_IT G mo ms (fun _ => False) f w.2.2.2.2 H →
      W p l e room_1 s m #[Value.ref b] below meth c H locs (cells + 544) (slots + 12088) Q (F0 m 2294 ls [])) : W p l e room_1 s m #[Value.ref b] below meth c H locs cells slots Q (F0 m 1600 ls []) := by
  obtain ⟨hx, hb, hml, hown, hr, hlocks, hts⟩ := id F
  refine lv_aload_n hx hb dc_L_law_1600 rfl (lv_at hl 1 rfl) ?_
  refine lv_aload_n hx hb dc_L_law_1601 rfl (lv_at hl 0 rfl) ?_
  refine lv_iload hx hb dc_L_law_1602 (lv_at hl 4 rfl) ?_
  refine lv_iconst (v := 1) hx hb dc_L_law_1604 (by decide) ?_
  refine lv_iadd hx hb dc_L_law_1605 ?_
  refine va_sld hx hb hXX hbl hbA hS h1 dc_L_law_1606 ?_
  generalize hy1 : xs (((i) + ((1 : Int32)))).toNatClampNeg = y1
  refine lv_aload_n hx hb dc_L_law_1607 rfl (lv_at hl 3 rfl) ?_
  refine cl_num (As := [.ref x, .int (y1), .ref o]) F hE hfr hA (mt_L_signed l hl9 G x cs sc pf u o nn sv (y1) H.size) kH_L_282 ⟨⟨rfl, rfl⟩, Nat.le_of_ble_eq_true rfl, Nat.le_of_ble_eq_true rfl⟩ rfl hl.1 rfl (Nat.le_of_ble_eq_true rfl) ⟨by show (_ : Nat) ≤ 602769; omega, by show (_ : Nat) ≤ 7287796; omega⟩ hP hD hS hIT dc_L_law_1608 ?_
  rintro v9 ⟨u_0, n_0⟩ H locs ⟨rfl, hz_0⟩ hP hD hS hIT
  have hP : va_P G.1 kcl (ky_LW G x cs sc pf fg bb tk o mo ms r u_0 t g n_0 sv w f) H := hP
  have hD : va_D A (ky_LW G x cs sc pf fg bb tk o mo ms r u_0 t g n_0 sv w f) := hD
  have hu_0 : u_0 = (ky_lw (fn_X6_signed (y1) u) u nn).2.1 := congrArg Prod.fst hz_0
  generalize hj_0 : (ky_lw (fn_X6_signed (y1) u) u nn).1 = j_0
  refine W.widen (k := cells + 1) (n := slots + 6) (by omega) (by omega) ?_
  refine lv_istore (lv' := [(5, .int (j_0)), (0, .ref b), (1, .ref x), (2, .ref mo), (3, .ref o), (4, .int (i))]) hx hb dc_L_law_1611 hl (by decide) rfl (fun ls hl => ?_)
  refine lv_aload_n hx hb dc_L_law_1613 rfl (lv_at hl 3 rfl) ?_
  refine lv_aload_n hx hb dc_L_law_1614 rfl (lv_at hl 1 rfl) ?_
  refine lv_iload hx hb dc_L_law_1615 (lv_at hl 5 rfl) ?_
  refine lv_iconst (v := 1) hx hb dc_L_law_1617 (by decide) ?_
  refine lv_iadd hx hb dc_L_law_1618 ?_
  refine va_sld hx hb hXX hbl hbA hS h1 dc_L_law_1619 ?_
  rw [hy1]
  refine cl_mm (As := [.int (y1)]) F hE hfr hA (mt_X9_signed l G mo ms (fun _ => False) w f (y1) H.size) kv_L_284 ⟨⟨rfl, rfl⟩, Nat.le_of_ble_eq_true rfl, Nat.le_of_ble_eq_true rfl⟩ rfl hl.1 rfl (Nat.le_of_ble_eq_true rfl) ⟨by show (_ : Nat) ≤ 602769; omega, by show (_ : Nat) ≤ 7287796; omega⟩ hP hD hS hIT rfl dc_L_law_1620 ?_
  rintro v9 ⟨w_1, f_1⟩ H locs ⟨rfl, hz_1⟩ hP hD hS hIT
  have hP : va_P G.1 kcl (ky_LW G x cs sc pf fg bb tk o mo ms r u_0 t g n_0 sv w_1 f_1) H := hP
  have hD : va_D A (ky_LW G x cs sc pf fg bb tk o mo ms r u_0 t g n_0 sv w_1 f_1) := hD
  generalize hj_1 : (fn_X9_signed (y1) w).1 = j_1
  have hsi_1 : ky_SI u_0 w_1 := by rw [hu_0, show w_1 = (fn_X9_signed (y1) w).2 from hz_1]; exact si_signed (y1) u nn w hsi
  have hP : va_P G.1 kcl (ky_LW G x cs sc pf fg bb tk o mo ms r u_0 t g n_0 sv w_1 f_1) H := hP
  have hD : va_D A (ky_LW G x cs sc pf fg bb tk o mo ms r u_0 t g n_0 sv w_1 f_1) := hD
  refine W.widen (k := cells + 1) (n := slots + 6) (by omega) (by omega) ?_
  refine lv_istore (lv' := [(6, .int (j_1)), (5, .int (j_0)), (0, .ref b), (1, .ref x), (2, .ref mo), (3, .ref o), (4, .int (i))]) hx hb dc_L_law_1623 hl (by decide) rfl (fun ls hl => ?_)
  refine lv_goto (tgt := 2294) hx hb dc_L_law_1625 (by decide) ?_
  refine W.widen (k := cells + 544) (n := slots + 12088) (by omega) (by omega) ?_
  exact KK _ _ _ _ _ _ _ _ _ _ hsk hsi_1 (lv_sub hl [2, 3, 4, 5, 6] rfl) hP hD hS hIT
end KYLC
