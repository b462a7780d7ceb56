section KYLC
variable {p : Program} {l : Launch} {e : Env} {s : State} {m : MethodId} {below : List Frame} {meth : Method} {c : Code} {H : Heap} {locs : List Loc} {cells slots : Nat} {Q : State → Prop} {ls : Array Slot} {A : Nat → Prop} {G : ky_G} {b L : Nat} {xs : Nat → Int32}
variable {x cs sc pf fg bb tk o mo ms : Nat} {r : Nat → Nat} {u : ky_BS} {t : ky_SV} {g : Nat → Nat → Int64} {nn : Int64} {sv : Value} {w : ky_MV} {f : Nat → Option Nat}
set_option linter.constructorNameAsVariable false in
set_option maxHeartbeats 4000000 in
set_option maxRecDepth 100000 in
theorem lc_0 (hl9 : l.stackTraces = false) (F : ky_F p s m meth c "ExactdoublesLaw" code 7 ret #[Value.ref b]) (hE : ky_E G s) (hfr : ∀ q, A q → ky_fr G q) (hA : ∀ q, s.heap.size ≤ q → A q)
    (hXX : va_X b L xs s s.heap) (hbl : b < s.heap.size) (hbA : ¬ A b) {i : Int32} (h1 : vp_in ((i) + ((1 : Int32))) L) (h2 : vp_in ((i) + ((2 : Int32))) L) (h3 : vp_in ((i) + ((3 : Int32))) L) (hl : lv_has ls 7 [(0, .ref b), (1, .ref x), (2, .ref mo), (3, .ref o), (4, .int (i))])
    (hsk : ky_sok t) (hsi : ky_SI u w) (hP : va_P G.1 kcl (ky_LW G x cs sc pf fg bb tk o mo ms r u t g nn sv w f) H) (hD : va_D A (ky_LW G x cs sc pf fg bb tk o mo ms r u t g nn sv w f)) (hS : va_S A s.heap H locs) (hIT : ky_IT G mo ms (fun _ => False) f w.2.2.2.2 H) (hcc : cells + 544 ≤ 602769) (hss : slots + 12088 ≤ 7287796)
    (KK : ∀ (u : ky_BS) (t : ky_SV) (g : Nat → Nat → Int64) (nn : Int64) (sv : Value) (w : ky_MV) (f : Nat → Option Nat) (H : Heap) (locs : List Loc) (ls : Array Slot), ky_sok t → ky_SI u w → lv_has ls 7 [(0, .ref b), (1, .ref x), (2, .ref mo), (3, .ref o), (4, .int (i))] → va_P G.1 kcl (ky_LW G x cs sc pf fg bb tk o mo ms r u t g nn sv w f) H → va_D A (ky_LW G x cs sc pf fg bb tk o mo ms r u t g nn sv w f) → va_S A s.heap H locs → ky_IT G mo ms (fun _ => False) f w.2.2.2.2 H →
      W p l e room_1 s m #[Value.ref b] below meth c H locs (cells + 544) (slots + 12088) Q (F0 m 2294 ls [])) : W p l e room_1 s m #[Value.ref b] below meth c H locs cells slots Q (F0 m 268 ls []) := by
  obtain ⟨hx, hb, hml, hown, hr, hlocks, hts⟩ := id F
  refine lv_aload_n hx hb dc_L_law_268 rfl (lv_at hl 1 rfl) ?_
  refine lv_aload_n hx hb dc_L_law_269 rfl (lv_at hl 0 rfl) ?_
  refine lv_iload hx hb dc_L_law_270 (lv_at hl 4 rfl) ?_
  refine lv_iconst (v := 1) hx hb dc_L_law_272 (by decide) ?_
  refine lv_iadd hx hb dc_L_law_273 ?_
  refine va_sld hx hb hXX hbl hbA hS h1 dc_L_law_274 ?_
  generalize hy1 : xs (((i) + ((1 : Int32)))).toNatClampNeg = y1
  refine lv_aload_n hx hb dc_L_law_275 rfl (lv_at hl 0 rfl) ?_
  refine lv_iload hx hb dc_L_law_276 (lv_at hl 4 rfl) ?_
  refine lv_iconst (v := 2) hx hb dc_L_law_278 (by decide) ?_
  refine lv_iadd hx hb dc_L_law_279 ?_
  refine va_sld hx hb hXX hbl hbA hS h2 dc_L_law_280 ?_
  generalize hy2 : xs (((i) + ((2 : Int32)))).toNatClampNeg = y2
  refine lv_if_eq (tgt := 288) hx hb dc_L_law_281 (by decide) (fun c_0 => ?_) (fun c_0 => ?_)
  · skip
    refine lv_iconst (v := 0) hx hb dc_L_law_288 (by decide) ?_
    refine lv_aload_n hx hb dc_L_law_289 rfl (lv_at hl 3 rfl) ?_
    refine cl_num (As := [.ref x, .int (y1), .int ((0 : Int32)), .ref o]) F hE hfr hA (mt_L_zero l hl9 G x cs sc pf u o nn sv (y1) ((0 : Int32)) H.size) kH_L_182 ⟨⟨rfl, rfl⟩, Nat.le_of_ble_eq_true rfl, Nat.le_of_ble_eq_true rfl⟩ rfl hl.1 rfl (Nat.le_of_ble_eq_true rfl) ⟨by show (_ : Nat) ≤ 602769; omega, by show (_ : Nat) ≤ 7287796; omega⟩ hP hD hS hIT dc_L_law_290 ?_
    rintro v9 ⟨u_1, n_1⟩ H locs ⟨rfl, hz_1⟩ hP hD hS hIT
    have hP : va_P G.1 kcl (ky_LW G x cs sc pf fg bb tk o mo ms r u_1 t g n_1 sv w f) H := hP
    have hD : va_D A (ky_LW G x cs sc pf fg bb tk o mo ms r u_1 t g n_1 sv w f) := hD
    have hu_1 : u_1 = (ky_lw (fn_X6_zero (y1) ((0 : Int32)) u) u nn).2.1 := congrArg Prod.fst hz_1
    generalize hj_1 : (ky_lw (fn_X6_zero (y1) ((0 : Int32)) u) u nn).1 = j_1
    refine W.widen (k := cells + 1) (n := slots + 6) (by omega) (by omega) ?_
    refine lv_istore (lv' := [(5, .int (j_1)), (0, .ref b), (1, .ref x), (2, .ref mo), (3, .ref o), (4, .int (i))]) hx hb dc_L_law_293 hl (by decide) rfl (fun ls hl => ?_)
    refine lv_aload_n hx hb dc_L_law_295 rfl (lv_at hl 3 rfl) ?_
    refine lv_aload_n hx hb dc_L_law_296 rfl (lv_at hl 1 rfl) ?_
    refine lv_iload hx hb dc_L_law_297 (lv_at hl 5 rfl) ?_
    refine lv_iconst (v := 1) hx hb dc_L_law_299 (by decide) ?_
    refine lv_iadd hx hb dc_L_law_300 ?_
    refine va_sld hx hb hXX hbl hbA hS h1 dc_L_law_301 ?_
    rw [hy1]
    refine lv_aload_n hx hb dc_L_law_302 rfl (lv_at hl 1 rfl) ?_
    refine lv_iload hx hb dc_L_law_303 (lv_at hl 5 rfl) ?_
    refine lv_iconst (v := 2) hx hb dc_L_law_305 (by decide) ?_
    refine lv_iadd hx hb dc_L_law_306 ?_
    refine va_sld hx hb hXX hbl hbA hS h2 dc_L_law_307 ?_
    rw [hy2]
    refine lv_if_eq (tgt := 315) hx hb dc_L_law_308 (by decide) (fun _ => ?_) (fun c_2 => absurd (c_0) c_2)
    refine lv_iconst (v := 0) hx hb dc_L_law_315 (by decide) ?_
    refine cl_mm (As := [.int (y1), .int ((0 : Int32))]) F hE hfr hA (mt_X9_zero l G mo ms (fun _ => False) w f (y1) ((0 : Int32)) H.size) kv_L_187 ⟨⟨rfl, rfl⟩, Nat.le_of_ble_eq_true rfl, Nat.le_of_ble_eq_true rfl⟩ rfl hl.1 rfl (Nat.le_of_ble_eq_true rfl) ⟨by show (_ : Nat) ≤ 602769; omega, by show (_ : Nat) ≤ 7287796; omega⟩ hP hD hS hIT rfl dc_L_law_316 ?_
    rintro v9 ⟨w_3, f_3⟩ H locs ⟨rfl, hz_3⟩ hP hD hS hIT
    have hP : va_P G.1 kcl (ky_LW G x cs sc pf fg bb tk o mo ms r u_1 t g n_1 sv w_3 f_3) H := hP
    have hD : va_D A (ky_LW G x cs sc pf fg bb tk o mo ms r u_1 t g n_1 sv w_3 f_3) := hD
    generalize hj_3 : (fn_X9_zero (y1) ((0 : Int32)) w).1 = j_3
    have hsi_3 : ky_SI u_1 w_3 := by rw [hu_1, show w_3 = (fn_X9_zero (y1) ((0 : Int32)) w).2 from hz_3]; exact si_zero (y1) ((0 : Int32)) (by first | exact Or.inl rfl | exact Or.inr rfl) u nn w hsi
    have hP : va_P G.1 kcl (ky_LW G x cs sc pf fg bb tk o mo ms r u_1 t g n_1 sv w_3 f_3) H := hP
    have hD : va_D A (ky_LW G x cs sc pf fg bb tk o mo ms r u_1 t g n_1 sv w_3 f_3) := hD
    refine W.widen (k := cells + 2) (n := slots + 8) (by omega) (by omega) ?_
    refine lv_istore (lv' := [(6, .int (j_3)), (5, .int (j_1)), (0, .ref b), (1, .ref x), (2, .ref mo), (3, .ref o), (4, .int (i))]) hx hb dc_L_law_319 hl (by decide) rfl (fun ls hl => ?_)
    refine lv_goto (tgt := 2294) hx hb dc_L_law_321 (by decide) ?_
    refine W.widen (k := cells + 544) (n := slots + 12088) (by omega) (by omega) ?_
    exact KK _ _ _ _ _ _ _ _ _ _ hsk hsi_3 (lv_sub hl [2, 3, 4, 5, 6] rfl) hP hD hS hIT
  · skip
    refine lv_iconst (v := 1) hx hb dc_L_law_284 (by decide) ?_
    refine lv_goto (tgt := 289) hx hb dc_L_law_285 (by decide) ?_
    refine lv_aload_n hx hb dc_L_law_289 rfl (lv_at hl 3 rfl) ?_
    refine cl_num (As := [.ref x, .int (y1), .int ((1 : Int32)), .ref o]) F hE hfr hA (mt_L_zero l hl9 G x cs sc pf u o nn sv (y1) ((1 : Int32)) H.size) kH_L_182 ⟨⟨rfl, rfl⟩, Nat.le_of_ble_eq_true rfl, Nat.le_of_ble_eq_true rfl⟩ rfl hl.1 rfl (Nat.le_of_ble_eq_true rfl) ⟨by show (_ : Nat) ≤ 602769; omega, by show (_ : Nat) ≤ 7287796; omega⟩ hP hD hS hIT dc_L_law_290 ?_
    rintro v9 ⟨u_1, n_1⟩ H locs ⟨rfl, hz_1⟩ hP hD hS hIT
    have hP : va_P G.1 kcl (ky_LW G x cs sc pf fg bb tk o mo ms r u_1 t g n_1 sv w f) H := hP
    have hD : va_D A (ky_LW G x cs sc pf fg bb tk o mo ms r u_1 t g n_1 sv w f) := hD
    have hu_1 : u_1 = (ky_lw (fn_X6_zero (y1) ((1 : Int32)) u) u nn).2.1 := congrArg Prod.fst hz_1
    generalize hj_1 : (ky_lw (fn_X6_zero (y1) ((1 : Int32)) u) u nn).1 = j_1
    refine W.widen (k := cells + 1) (n := slots + 6) (by omega) (by omega) ?_
    refine lv_istore (lv' := [(5, .int (j_1)), (0, .ref b), (1, .ref x), (2, .ref mo), (3, .ref o), (4, .int (i))]) hx hb dc_L_law_293 hl (by decide) rfl (fun ls hl => ?_)
    refine lv_aload_n hx hb dc_L_law_295 rfl (lv_at hl 3 rfl) ?_
    refine lv_aload_n hx hb dc_L_law_296 rfl (lv_at hl 1 rfl) ?_
    refine lv_iload hx hb dc_L_law_297 (lv_at hl 5 rfl) ?_
    refine lv_iconst (v := 1) hx hb dc_L_law_299 (by decide) ?_
    refine lv_iadd hx hb dc_L_law_300 ?_
    refine va_sld hx hb hXX hbl hbA hS h1 dc_L_law_301 ?_
    rw [hy1]
    refine lv_aload_n hx hb dc_L_law_302 rfl (lv_at hl 1 rfl) ?_
    refine lv_iload hx hb dc_L_law_303 (lv_at hl 5 rfl) ?_
    refine lv_iconst (v := 2) hx hb dc_L_law_305 (by decide) ?_
    refine lv_iadd hx hb dc_L_law_306 ?_
    refine va_sld hx hb hXX hbl hbA hS h2 dc_L_law_307 ?_
    rw [hy2]
    refine lv_if_eq (tgt := 315) hx hb dc_L_law_308 (by decide) (fun c_2 => absurd c_2 (c_0)) (fun _ => ?_)
    refine lv_iconst (v := 1) hx hb dc_L_law_311 (by decide) ?_
    refine lv_goto (tgt := 316) hx hb dc_L_law_312 (by decide) ?_
    refine cl_mm (As := [.int (y1), .int ((1 : Int32))]) F hE hfr hA (mt_X9_zero l G mo ms (fun _ => False) w f (y1) ((1 : Int32)) H.size) kv_L_187 ⟨⟨rfl, rfl⟩, Nat.le_of_ble_eq_true rfl, Nat.le_of_ble_eq_true rfl⟩ rfl hl.1 rfl (Nat.le_of_ble_eq_true rfl) ⟨by show (_ : Nat) ≤ 602769; omega, by show (_ : Nat) ≤ 7287796; omega⟩ hP hD hS hIT rfl dc_L_law_316 ?_
    rintro v9 ⟨w_3, f_3⟩ H locs ⟨rfl, hz_3⟩ hP hD hS hIT
    have hP : va_P G.1 kcl (ky_LW G x cs sc pf fg bb tk o mo ms r u_1 t g n_1 sv w_3 f_3) H := hP
    have hD : va_D A (ky_LW G x cs sc pf fg bb tk o mo ms r u_1 t g n_1 sv w_3 f_3) := hD
    generalize hj_3 : (fn_X9_zero (y1) ((1 : Int32)) w).1 = j_3
    have hsi_3 : ky_SI u_1 w_3 := by rw [hu_1, show w_3 = (fn_X9_zero (y1) ((1 : Int32)) w).2 from hz_3]; exact si_zero (y1) ((1 : Int32)) (by first | exact Or.inl rfl | exact Or.inr rfl) u nn w hsi
    have hP : va_P G.1 kcl (ky_LW G x cs sc pf fg bb tk o mo ms r u_1 t g n_1 sv w_3 f_3) H := hP
    have hD : va_D A (ky_LW G x cs sc pf fg bb tk o mo ms r u_1 t g n_1 sv w_3 f_3) := hD
    refine W.widen (k := cells + 2) (n := slots + 8) (by omega) (by omega) ?_
    refine lv_istore (lv' := [(6, .int (j_3)), (5, .int (j_1)), (0, .ref b), (1, .ref x), (2, .ref mo), (3, .ref o), (4, .int (i))]) hx hb dc_L_law_319 hl (by decide) rfl (fun ls hl => ?_)
    refine lv_goto (tgt := 2294) hx hb dc_L_law_321 (by decide) ?_
    refine W.widen (k := cells + 544) (n := slots + 12088) (by omega) (by omega) ?_
    exact KK _ _ _ _ _ _ _ _ _ _ hsk hsi_3 (lv_sub hl [2, 3, 4, 5, 6] rfl) hP hD hS hIT
set_option linter.constructorNameAsVariable false in
set_option maxHeartbeats 4000000 in
set_option maxRecDepth 100000 in
theorem lc_1 (hl9 : l.stackTraces = false) (F : ky_F p s m meth c "ExactdoublesLaw" code 7 ret #[Value.ref b]) (hE : ky_E G s) (hfr : ∀ q, A q → ky_fr G q) (hA : ∀ q, s.heap.size ≤ q → A q)
    (hXX : va_X b L xs s s.heap) (hbl : b < s.heap.size) (hbA : ¬ A b) {i : Int32} (h1 : vp_in ((i) + ((1 : Int32))) L) (h2 : vp_in ((i) + ((2 : Int32))) L) (h3 : vp_in ((i) + ((3 : Int32))) L) (hl : lv_has ls 7 [(0, .ref b), (1, .ref x), (2, .ref mo), (3, .ref o), (4, .int (i))])
    (hsk : ky_sok t) (hsi : ky_SI u w) (hP : va_P G.1 kcl (ky_LW G x cs sc pf fg bb tk o mo ms r u t g nn sv w f) H) (hD : va_D A (ky_LW G x cs sc pf fg bb tk o mo ms r u t g nn sv w f)) (hS : va_S A s.heap H locs) (hIT : ky_IT G mo ms (fun _ => False) f w.2.2.2.2 H) (hcc : cells + 544 ≤ 602769) (hss : slots + 12088 ≤ 7287796)
    (KK : ∀ (u : ky_BS) (t : ky_SV) (g : Nat → Nat → Int64) (nn : Int64) (sv : Value) (w : ky_MV) (f : Nat → Option Nat) (H : Heap) (locs : List Loc) (ls : Array Slot), ky_sok t → ky_SI u w → lv_has ls 7 [(0, .ref b), (1, .ref x), (2, .ref mo), (3, .ref o), (4, .int (i))] → va_P G.1 kcl (ky_LW G x cs sc pf fg bb tk o mo ms r u t g nn sv w f) H → va_D A (ky_LW G x cs sc pf fg bb tk o mo ms r u t g nn sv w f) → va_S A s.heap H locs → ky_IT G mo ms (fun _ => False) f w.2.2.2.2 H →
      W p l e room_1 s m #[Value.ref b] below meth c H locs (cells + 544) (slots + 12088) Q (F0 m 2294 ls [])) : W p l e room_1 s m #[Value.ref b] below meth c H locs cells slots Q (F0 m 324 ls []) := by
  obtain ⟨hx, hb, hml, hown, hr, hlocks, hts⟩ := id F
  refine lv_aload_n hx hb dc_L_law_324 rfl (lv_at hl 1 rfl) ?_
  refine lv_aload_n hx hb dc_L_law_325 rfl (lv_at hl 0 rfl) ?_
  refine lv_iload hx hb dc_L_law_326 (lv_at hl 4 rfl) ?_
  refine lv_iconst (v := 1) hx hb dc_L_law_328 (by decide) ?_
  refine lv_iadd hx hb dc_L_law_329 ?_
  refine va_sld hx hb hXX hbl hbA hS h1 dc_L_law_330 ?_
  generalize hy1 : xs (((i) + ((1 : Int32)))).toNatClampNeg = y1
  refine lv_aload_n hx hb dc_L_law_331 rfl (lv_at hl 0 rfl) ?_
  refine lv_iload hx hb dc_L_law_332 (lv_at hl 4 rfl) ?_
  refine lv_iconst (v := 2) hx hb dc_L_law_334 (by decide) ?_
  refine lv_iadd hx hb dc_L_law_335 ?_
  refine va_sld hx hb hXX hbl hbA hS h2 dc_L_law_336 ?_
  generalize hy2 : xs (((i) + ((2 : Int32)))).toNatClampNeg = y2
  refine lv_if_eq (tgt := 344) hx hb dc_L_law_337 (by decide) (fun c_0 => ?_) (fun c_0 => ?_)
  · skip
    refine lv_iconst (v := 0) hx hb dc_L_law_344 (by decide) ?_
    refine lv_aload_n hx hb dc_L_law_345 rfl (lv_at hl 3 rfl) ?_
    refine cl_num (As := [.ref x, .int (y1), .int ((0 : Int32)), .ref o]) F hE hfr hA (mt_L_endless l hl9 G x cs sc pf u o nn sv (y1) ((0 : Int32)) H.size) kH_L_188 ⟨⟨rfl, rfl⟩, Nat.le_of_ble_eq_true rfl, Nat.le_of_ble_eq_true rfl⟩ rfl hl.1 rfl (Nat.le_of_ble_eq_true rfl) ⟨by show (_ : Nat) ≤ 602769; omega, by show (_ : Nat) ≤ 7287796; omega⟩ hP hD hS hIT dc_L_law_346 ?_
    rintro v9 ⟨u_1, n_1⟩ H locs ⟨rfl, hz_1⟩ hP hD hS hIT
    have hP : va_P G.1 kcl (ky_LW G x cs sc pf fg bb tk o mo ms r u_1 t g n_1 sv w f) H := hP
    have hD : va_D A (ky_LW G x cs sc pf fg bb tk o mo ms r u_1 t g n_1 sv w f) := hD
    have hu_1 : u_1 = (ky_lw (fn_X6_endless (y1) ((0 : Int32)) u) u nn).2.1 := congrArg Prod.fst hz_1
    generalize hj_1 : (ky_lw (fn_X6_endless (y1) ((0 : Int32)) u) u nn).1 = j_1
    refine W.widen (k := cells + 1) (n := slots + 6) (by omega) (by omega) ?_
    refine lv_istore (lv' := [(5, .int (j_1)), (0, .ref b), (1, .ref x), (2, .ref mo), (3, .ref o), (4, .int (i))]) hx hb dc_L_law_349 hl (by decide) rfl (fun ls hl => ?_)
    refine lv_aload_n hx hb dc_L_law_351 rfl (lv_at hl 3 rfl) ?_
    refine lv_aload_n hx hb dc_L_law_352 rfl (lv_at hl 1 rfl) ?_
    refine lv_iload hx hb dc_L_law_353 (lv_at hl 5 rfl) ?_
    refine lv_iconst (v := 1) hx hb dc_L_law_355 (by decide) ?_
    refine lv_iadd hx hb dc_L_law_356 ?_
    refine va_sld hx hb hXX hbl hbA hS h1 dc_L_law_357 ?_
    rw [hy1]
    refine lv_aload_n hx hb dc_L_law_358 rfl (lv_at hl 1 rfl) ?_
    refine lv_iload hx hb dc_L_law_359 (lv_at hl 5 rfl) ?_
    refine lv_iconst (v := 2) hx hb dc_L_law_361 (by decide) ?_
    refine lv_iadd hx hb dc_L_law_362 ?_
    refine va_sld hx hb hXX hbl hbA hS h2 dc_L_law_363 ?_
    rw [hy2]
    refine lv_if_eq (tgt := 371) hx hb dc_L_law_364 (by decide) (fun _ => ?_) (fun c_2 => absurd (c_0) c_2)
    refine lv_iconst (v := 0) hx hb dc_L_law_371 (by decide) ?_
    refine cl_mm (As := [.int (y1), .int ((0 : Int32))]) F hE hfr hA (mt_X9_endless l G mo ms (fun _ => False) w f (y1) ((0 : Int32)) H.size) kv_L_190 ⟨⟨rfl, rfl⟩, Nat.le_of_ble_eq_true rfl, Nat.le_of_ble_eq_true rfl⟩ rfl hl.1 rfl (Nat.le_of_ble_eq_true rfl) ⟨by show (_ : Nat) ≤ 602769; omega, by show (_ : Nat) ≤ 7287796; omega⟩ hP hD hS hIT rfl dc_L_law_372 ?_
    rintro v9 ⟨w_3, f_3⟩ H locs ⟨rfl, hz_3⟩ hP hD hS hIT
    have hP : va_P G.1 kcl (ky_LW G x cs sc pf fg bb tk o mo ms r u_1 t g n_1 sv w_3 f_3) H := hP
    have hD : va_D A (ky_LW G x cs sc pf fg bb tk o mo ms r u_1 t g n_1 sv w_3 f_3) := hD
    generalize hj_3 : (fn_X9_endless (y1) ((0 : Int32)) w).1 = j_3
    have hsi_3 : ky_SI u_1 w_3 := by rw [hu_1, show w_3 = (fn_X9_endless (y1) ((0 : Int32)) w).2 from hz_3]; exact si_endless (y1) ((0 : Int32)) (by first | exact Or.inl rfl | exact Or.inr rfl) u nn w hsi
    have hP : va_P G.1 kcl (ky_LW G x cs sc pf fg bb tk o mo ms r u_1 t g n_1 sv w_3 f_3) H := hP
    have hD : va_D A (ky_LW G x cs sc pf fg bb tk o mo ms r u_1 t g n_1 sv w_3 f_3) := hD
    refine W.widen (k := cells + 2) (n := slots + 8) (by omega) (by omega) ?_
    refine lv_istore (lv' := [(6, .int (j_3)), (5, .int (j_1)), (0, .ref b), (1, .ref x), (2, .ref mo), (3, .ref o), (4, .int (i))]) hx hb dc_L_law_375 hl (by decide) rfl (fun ls hl => ?_)
    refine lv_goto (tgt := 2294) hx hb dc_L_law_377 (by decide) ?_
    refine W.widen (k := cells + 544) (n := slots + 12088) (by omega) (by omega) ?_
    exact KK _ _ _ _ _ _ _ _ _ _ hsk hsi_3 (lv_sub hl [2, 3, 4, 5, 6] rfl) hP hD hS hIT
  · skip
    refine lv_iconst (v := 1) hx hb dc_L_law_340 (by decide) ?_
    refine lv_goto (tgt := 345) hx hb dc_L_law_341 (by decide) ?_
    refine lv_aload_n hx hb dc_L_law_345 rfl (lv_at hl 3 rfl) ?_
    refine cl_num (As := [.ref x, .int (y1), .int ((1 : Int32)), .ref o]) F hE hfr hA (mt_L_endless l hl9 G x cs sc pf u o nn sv (y1) ((1 : Int32)) H.size) kH_L_188 ⟨⟨rfl, rfl⟩, Nat.le_of_ble_eq_true rfl, Nat.le_of_ble_eq_true rfl⟩ rfl hl.1 rfl (Nat.le_of_ble_eq_true rfl) ⟨by show (_ : Nat) ≤ 602769; omega, by show (_ : Nat) ≤ 7287796; omega⟩ hP hD hS hIT dc_L_law_346 ?_
    rintro v9 ⟨u_1, n_1⟩ H locs ⟨rfl, hz_1⟩ hP hD hS hIT
    have hP : va_P G.1 kcl (ky_LW G x cs sc pf fg bb tk o mo ms r u_1 t g n_1 sv w f) H := hP
    have hD : va_D A (ky_LW G x cs sc pf fg bb tk o mo ms r u_1 t g n_1 sv w f) := hD
    have hu_1 : u_1 = (ky_lw (fn_X6_endless (y1) ((1 : Int32)) u) u nn).2.1 := congrArg Prod.fst hz_1
    generalize hj_1 : (ky_lw (fn_X6_endless (y1) ((1 : Int32)) u) u nn).1 = j_1
    refine W.widen (k := cells + 1) (n := slots + 6) (by omega) (by omega) ?_
    refine lv_istore (lv' := [(5, .int (j_1)), (0, .ref b), (1, .ref x), (2, .ref mo), (3, .ref o), (4, .int (i))]) hx hb dc_L_law_349 hl (by decide) rfl (fun ls hl => ?_)
    refine lv_aload_n hx hb dc_L_law_351 rfl (lv_at hl 3 rfl) ?_
    refine lv_aload_n hx hb dc_L_law_352 rfl (lv_at hl 1 rfl) ?_
    refine lv_iload hx hb dc_L_law_353 (lv_at hl 5 rfl) ?_
    refine lv_iconst (v := 1) hx hb dc_L_law_355 (by decide) ?_
    refine lv_iadd hx hb dc_L_law_356 ?_
    refine va_sld hx hb hXX hbl hbA hS h1 dc_L_law_357 ?_
    rw [hy1]
    refine lv_aload_n hx hb dc_L_law_358 rfl (lv_at hl 1 rfl) ?_
    refine lv_iload hx hb dc_L_law_359 (lv_at hl 5 rfl) ?_
    refine lv_iconst (v := 2) hx hb dc_L_law_361 (by decide) ?_
    refine lv_iadd hx hb dc_L_law_362 ?_
    refine va_sld hx hb hXX hbl hbA hS h2 dc_L_law_363 ?_
    rw [hy2]
    refine lv_if_eq (tgt := 371) hx hb dc_L_law_364 (by decide) (fun c_2 => absurd c_2 (c_0)) (fun _ => ?_)
    refine lv_iconst (v := 1) hx hb dc_L_law_367 (by decide) ?_
    refine lv_goto (tgt := 372) hx hb dc_L_law_368 (by decide) ?_
    refine cl_mm (As := [.int (y1), .int ((1 : Int32))]) F hE hfr hA (mt_X9_endless l G mo ms (fun _ => False) w f (y1) ((1 : Int32)) H.size) kv_L_190 ⟨⟨rfl, rfl⟩, Nat.le_of_ble_eq_true rfl, Nat.le_of_ble_eq_true rfl⟩ rfl hl.1 rfl (Nat.le_of_ble_eq_true rfl) ⟨by show (_ : Nat) ≤ 602769; omega, by show (_ : Nat) ≤ 7287796; omega⟩ hP hD hS hIT rfl dc_L_law_372 ?_
    rintro v9 ⟨w_3, f_3⟩ H locs ⟨rfl, hz_3⟩ hP hD hS hIT
    have hP : va_P G.1 kcl (ky_LW G x cs sc pf fg bb tk o mo ms r u_1 t g n_1 sv w_3 f_3) H := hP
    have hD : va_D A (ky_LW G x cs sc pf fg bb tk o mo ms r u_1 t g n_1 sv w_3 f_3) := hD
    generalize hj_3 : (fn_X9_endless (y1) ((1 : Int32)) w).1 = j_3
    have hsi_3 : ky_SI u_1 w_3 := by rw [hu_1, show w_3 = (fn_X9_endless (y1) ((1 : Int32)) w).2 from hz_3]; exact si_endless (y1) ((1 : Int32)) (by first | exact Or.inl rfl | exact Or.inr rfl) u nn w hsi
    have hP : va_P G.1 kcl (ky_LW G x cs sc pf fg bb tk o mo ms r u_1 t g n_1 sv w_3 f_3) H := hP
    have hD : va_D A (ky_LW G x cs sc pf fg bb tk o mo ms r u_1 t g n_1 sv w_3 f_3) := hD
    refine W.widen (k := cells + 2) (n := slots + 8) (by omega) (by omega) ?_
    refine lv_istore (lv' := [(6, .int (j_3)), (5, .int (j_1)), (0, .ref b), (1, .ref x), (2, .ref mo), (3, .ref o), (4, .int (i))]) hx hb dc_L_law_375 hl (by decide) rfl (fun ls hl => ?_)
    refine lv_goto (tgt := 2294) hx hb dc_L_law_377 (by decide) ?_
    refine W.widen (k := cells + 544) (n := slots + 12088) (by omega) (by omega) ?_
    exact KK _ _ _ _ _ _ _ _ _ _ hsk hsi_3 (lv_sub hl [2, 3, 4, 5, 6] rfl) hP hD hS hIT
set_option linter.constructorNameAsVariable false in
set_option maxHeartbeats 4000000 in
set_option maxRecDepth 100000 in
theorem lc_2 (hl9 : l.stackTraces = false) (F : ky_F p s m meth c "ExactdoublesLaw" code 7 ret #[Value.ref b]) (hE : ky_E G s) (hfr : ∀ q, A q → ky_fr G q) (hA : ∀ q, s.heap.size ≤ q → A q)
    (hXX : va_X b L xs s s.heap) (hbl : b < s.heap.size) (hbA : ¬ A b) {i : Int32} (h1 : vp_in ((i) + ((1 : Int32))) L) (h2 : vp_in ((i) + ((2 : Int32))) L) (h3 : vp_in ((i) + ((3 : Int32))) L) (hl : lv_has ls 7 [(0, .ref b), (1, .ref x), (2, .ref mo), (3, .ref o), (4, .int (i))])
    (hsk : ky_sok t) (hsi : ky_SI u w) (hP : va_P G.1 kcl (ky_LW G x cs sc pf fg bb tk o mo ms r u t g nn sv w f) H) (hD : va_D A (ky_LW G x cs sc pf fg bb tk o mo ms r u t g nn sv w f)) (hS : va_S A s.heap H locs) (hIT : ky_IT G mo ms (fun _ => False) f w.2.2.2.2 H) (hcc : cells + 544 ≤ 602769) (hss : slots + 12088 ≤ 7287796)
    (KK : ∀ (u : ky_BS) (t : ky_SV) (g : Nat → Nat → Int64) (nn : Int64) (sv : Value) (w : ky_MV) (f : Nat → Option Nat) (H : Heap) (locs : List Loc) (ls : Array Slot), ky_sok t → ky_SI u w → lv_has ls 7 [(0, .ref b), (1, .ref x), (2, .ref mo), (3, .ref o), (4, .int (i))] → va_P G.1 kcl (ky_LW G x cs sc pf fg bb tk o mo ms r u t g nn sv w f) H → va_D A (ky_LW G x cs sc pf fg bb tk o mo ms r u t g nn sv w f) → va_S A s.heap H locs → ky_IT G mo ms (fun _ => False) f w.2.2.2.2 H →
      W p l e room_1 s m #[Value.ref b] below meth c H locs (cells + 544) (slots + 12088) Q (F0 m 2294 ls [])) : W p l e room_1 s m #[Value.ref b] below meth c H locs cells slots Q (F0 m 380 ls []) := by
  obtain ⟨hx, hb, hml, hown, hr, hlocks, hts⟩ := id F
  refine lv_aload_n hx hb dc_L_law_380 rfl (lv_at hl 1 rfl) ?_
  refine lv_aload_n hx hb dc_L_law_381 rfl (lv_at hl 0 rfl) ?_
  refine lv_iload hx hb dc_L_law_382 (lv_at hl 4 rfl) ?_
  refine lv_iconst (v := 1) hx hb dc_L_law_384 (by decide) ?_
  refine lv_iadd hx hb dc_L_law_385 ?_
  refine va_sld hx hb hXX hbl hbA hS h1 dc_L_law_386 ?_
  generalize hy1 : xs (((i) + ((1 : Int32)))).toNatClampNeg = y1
  refine lv_aload_n hx hb dc_L_law_387 rfl (lv_at hl 0 rfl) ?_
  refine lv_iload hx hb dc_L_law_388 (lv_at hl 4 rfl) ?_
  refine lv_iconst (v := 2) hx hb dc_L_law_390 (by decide) ?_
  refine lv_iadd hx hb dc_L_law_391 ?_
  refine va_sld hx hb hXX hbl hbA hS h2 dc_L_law_392 ?_
  generalize hy2 : xs (((i) + ((2 : Int32)))).toNatClampNeg = y2
  refine lv_aload_n hx hb dc_L_law_393 rfl (lv_at hl 3 rfl) ?_
  refine cl_num (As := [.ref x, .int (y1), .int (y2), .ref o]) F hE hfr hA (mt_L_quarters l hl9 G x cs sc pf u o nn sv (y1) (y2) H.size) kH_L_191 ⟨⟨rfl, rfl⟩, Nat.le_of_ble_eq_true rfl, Nat.le_of_ble_eq_true rfl⟩ rfl hl.1 rfl (Nat.le_of_ble_eq_true rfl) ⟨by show (_ : Nat) ≤ 602769; omega, by show (_ : Nat) ≤ 7287796; omega⟩ hP hD hS hIT dc_L_law_394 ?_
  rintro v9 ⟨u_0, n_0⟩ H locs ⟨rfl, hz_0⟩ hP hD hS hIT
  have hP : va_P G.1 kcl (ky_LW G x cs sc pf fg bb tk o mo ms r u_0 t g n_0 sv w f) H := hP
  have hD : va_D A (ky_LW G x cs sc pf fg bb tk o mo ms r u_0 t g n_0 sv w f) := hD
  have hu_0 : u_0 = (ky_lw (fn_X6_quarters (y1) (y2) u) u nn).2.1 := congrArg Prod.fst hz_0
  generalize hj_0 : (ky_lw (fn_X6_quarters (y1) (y2) u) u nn).1 = j_0
  refine W.widen (k := cells + 1) (n := slots + 6) (by omega) (by omega) ?_
  refine lv_istore (lv' := [(5, .int (j_0)), (0, .ref b), (1, .ref x), (2, .ref mo), (3, .ref o), (4, .int (i))]) hx hb dc_L_law_397 hl (by decide) rfl (fun ls hl => ?_)
  refine lv_aload_n hx hb dc_L_law_399 rfl (lv_at hl 3 rfl) ?_
  refine lv_aload_n hx hb dc_L_law_400 rfl (lv_at hl 1 rfl) ?_
  refine lv_iload hx hb dc_L_law_401 (lv_at hl 5 rfl) ?_
  refine lv_iconst (v := 1) hx hb dc_L_law_403 (by decide) ?_
  refine lv_iadd hx hb dc_L_law_404 ?_
  refine va_sld hx hb hXX hbl hbA hS h1 dc_L_law_405 ?_
  rw [hy1]
  refine lv_aload_n hx hb dc_L_law_406 rfl (lv_at hl 1 rfl) ?_
  refine lv_iload hx hb dc_L_law_407 (lv_at hl 5 rfl) ?_
  refine lv_iconst (v := 2) hx hb dc_L_law_409 (by decide) ?_
  refine lv_iadd hx hb dc_L_law_410 ?_
  refine va_sld hx hb hXX hbl hbA hS h2 dc_L_law_411 ?_
  rw [hy2]
  refine cl_mm (As := [.int (y1), .int (y2)]) F hE hfr hA (mt_X9_quarters l G mo ms (fun _ => False) w f (y1) (y2) H.size (ok_X9_quarters (y1) (y2) w)) kv_L_194 ⟨⟨rfl, rfl⟩, Nat.le_of_ble_eq_true rfl, Nat.le_of_ble_eq_true rfl⟩ rfl hl.1 rfl (Nat.le_of_ble_eq_true rfl) ⟨by show (_ : Nat) ≤ 602769; omega, by show (_ : Nat) ≤ 7287796; omega⟩ hP hD hS hIT rfl dc_L_law_412 ?_
  rintro v9 ⟨w_1, f_1⟩ H locs ⟨rfl, hz_1⟩ hP hD hS hIT
  have hP : va_P G.1 kcl (ky_LW G x cs sc pf fg bb tk o mo ms r u_0 t g n_0 sv w_1 f_1) H := hP
  have hD : va_D A (ky_LW G x cs sc pf fg bb tk o mo ms r u_0 t g n_0 sv w_1 f_1) := hD
  generalize hj_1 : (fn_X9_quarters (y1) (y2) w).1 = j_1
  have hsi_1 : ky_SI u_0 w_1 := by rw [hu_0, show w_1 = (fn_X9_quarters (y1) (y2) w).2 from hz_1]; exact si_quarters (y1) (y2) u nn w hsi
  have hP : va_P G.1 kcl (ky_LW G x cs sc pf fg bb tk o mo ms r u_0 t g n_0 sv w_1 f_1) H := hP
  have hD : va_D A (ky_LW G x cs sc pf fg bb tk o mo ms r u_0 t g n_0 sv w_1 f_1) := hD
  refine W.widen (k := cells + 2) (n := slots + 8) (by omega) (by omega) ?_
  refine lv_istore (lv' := [(6, .int (j_1)), (5, .int (j_0)), (0, .ref b), (1, .ref x), (2, .ref mo), (3, .ref o), (4, .int (i))]) hx hb dc_L_law_415 hl (by decide) rfl (fun ls hl => ?_)
  refine lv_goto (tgt := 2294) hx hb dc_L_law_417 (by decide) ?_
  refine W.widen (k := cells + 544) (n := slots + 12088) (by omega) (by omega) ?_
  exact KK _ _ _ _ _ _ _ _ _ _ hsk hsi_1 (lv_sub hl [2, 3, 4, 5, 6] rfl) hP hD hS hIT
set_option linter.constructorNameAsVariable false in
set_option maxHeartbeats 4000000 in
set_option maxRecDepth 100000 in
theorem lc_3 (hl9 : l.stackTraces = false) (F : ky_F p s m meth c "ExactdoublesLaw" code 7 ret #[Value.ref b]) (hE : ky_E G s) (hfr : ∀ q, A q → ky_fr G q) (hA : ∀ q, s.heap.size ≤ q → A q)
    (hXX : va_X b L xs s s.heap) (hbl : b < s.heap.size) (hbA : ¬ A b) {i : Int32} (h1 : vp_in ((i) + ((1 : Int32))) L) (h2 : vp_in ((i) + ((2 : Int32))) L) (h3 : vp_in ((i) + ((3 : Int32))) L) (hl : lv_has ls 7 [(0, .ref b), (1, .ref x), (2, .ref mo), (3, .ref o), (4, .int (i))])
    (hsk : ky_sok t) (hsi : ky_SI u w) (hP : va_P G.1 kcl (ky_LW G x cs sc pf fg bb tk o mo ms r u t g nn sv w f) H) (hD : va_D A (ky_LW G x cs sc pf fg bb tk o mo ms r u t g nn sv w f)) (hS : va_S A s.heap H locs) (hIT : ky_IT G mo ms (fun _ => False) f w.2.2.2.2 H) (hcc : cells + 544 ≤ 602769) (hss : slots + 12088 ≤ 7287796)
    (KK : ∀ (u : ky_BS) (t : ky_SV) (g : Nat → Nat → Int64) (nn : Int64) (sv : Value) (w : ky_MV) (f : Nat → Option Nat) (H : Heap) (locs : List Loc) (ls : Array Slot), ky_sok t → ky_SI u w → lv_has ls 7 [(0, .ref b), (1, .ref x), (2, .ref mo), (3, .ref o), (4, .int (i))] → va_P G.1 kcl (ky_LW G x cs sc pf fg bb tk o mo ms r u t g nn sv w f) H → va_D A (ky_LW G x cs sc pf fg bb tk o mo ms r u t g nn sv w f) → va_S A s.heap H locs → ky_IT G mo ms (fun _ => False) f w.2.2.2.2 H →
      W p l e room_1 s m #[Value.ref b] below meth c H locs (cells + 544) (slots + 12088) Q (F0 m 2294 ls [])) : W p l e room_1 s m #[Value.ref b] below meth c H locs cells slots Q (F0 m 420 ls []) := by
  obtain ⟨hx, hb, hml, hown, hr, hlocks, hts⟩ := id F
  refine lv_aload_n hx hb dc_L_law_420 rfl (lv_at hl 1 rfl) ?_
  refine lv_aload_n hx hb dc_L_law_421 rfl (lv_at hl 0 rfl) ?_
  refine lv_iload hx hb dc_L_law_422 (lv_at hl 4 rfl) ?_
  refine lv_iconst (v := 1) hx hb dc_L_law_424 (by decide) ?_
  refine lv_iadd hx hb dc_L_law_425 ?_
  refine va_sld hx hb hXX hbl hbA hS h1 dc_L_law_426 ?_
  generalize hy1 : xs (((i) + ((1 : Int32)))).toNatClampNeg = y1
  refine lv_aload_n hx hb dc_L_law_427 rfl (lv_at hl 0 rfl) ?_
  refine lv_iload hx hb dc_L_law_428 (lv_at hl 4 rfl) ?_
  refine lv_iconst (v := 2) hx hb dc_L_law_430 (by decide) ?_
  refine lv_iadd hx hb dc_L_law_431 ?_
  refine va_sld hx hb hXX hbl hbA hS h2 dc_L_law_432 ?_
  generalize hy2 : xs (((i) + ((2 : Int32)))).toNatClampNeg = y2
  refine lv_aload_n hx hb dc_L_law_433 rfl (lv_at hl 0 rfl) ?_
  refine lv_iload hx hb dc_L_law_434 (lv_at hl 4 rfl) ?_
  refine lv_iconst (v := 3) hx hb dc_L_law_436 (by decide) ?_
  refine lv_iadd hx hb dc_L_law_437 ?_
  refine va_sld hx hb hXX hbl hbA hS h3 dc_L_law_438 ?_
  generalize hy3 : xs (((i) + ((3 : Int32)))).toNatClampNeg = y3
  refine lv_if_eq (tgt := 446) hx hb dc_L_law_439 (by decide) (fun c_0 => ?_) (fun c_0 => ?_)
  · skip
    refine lv_iconst (v := 0) hx hb dc_L_law_446 (by decide) ?_
    refine lv_aload_n hx hb dc_L_law_447 rfl (lv_at hl 3 rfl) ?_
    refine cl_num (As := [.ref x, .int (y1), .int (y2), .int ((0 : Int32)), .ref o]) F hE hfr hA (mt_L_power l hl9 G x cs sc pf u o nn sv (y1) (y2) ((0 : Int32)) H.size) kH_L_195 ⟨⟨rfl, rfl⟩, Nat.le_of_ble_eq_true rfl, Nat.le_of_ble_eq_true rfl⟩ rfl hl.1 rfl (Nat.le_of_ble_eq_true rfl) ⟨by show (_ : Nat) ≤ 602769; omega, by show (_ : Nat) ≤ 7287796; omega⟩ hP hD hS hIT dc_L_law_448 ?_
    rintro v9 ⟨u_1, n_1⟩ H locs ⟨rfl, hz_1⟩ hP hD hS hIT
    have hP : va_P G.1 kcl (ky_LW G x cs sc pf fg bb tk o mo ms r u_1 t g n_1 sv w f) H := hP
    have hD : va_D A (ky_LW G x cs sc pf fg bb tk o mo ms r u_1 t g n_1 sv w f) := hD
    have hu_1 : u_1 = (ky_lw (fn_X6_power (y1) (y2) ((0 : Int32)) u) u nn).2.1 := congrArg Prod.fst hz_1
    generalize hj_1 : (ky_lw (fn_X6_power (y1) (y2) ((0 : Int32)) u) u nn).1 = j_1
    refine W.widen (k := cells + 2) (n := slots + 12) (by omega) (by omega) ?_
    refine lv_istore (lv' := [(5, .int (j_1)), (0, .ref b), (1, .ref x), (2, .ref mo), (3, .ref o), (4, .int (i))]) hx hb dc_L_law_451 hl (by decide) rfl (fun ls hl => ?_)
    refine lv_aload_n hx hb dc_L_law_453 rfl (lv_at hl 3 rfl) ?_
    refine lv_aload_n hx hb dc_L_law_454 rfl (lv_at hl 1 rfl) ?_
    refine lv_iload hx hb dc_L_law_455 (lv_at hl 5 rfl) ?_
    refine lv_iconst (v := 1) hx hb dc_L_law_457 (by decide) ?_
    refine lv_iadd hx hb dc_L_law_458 ?_
    refine va_sld hx hb hXX hbl hbA hS h1 dc_L_law_459 ?_
    rw [hy1]
    refine lv_aload_n hx hb dc_L_law_460 rfl (lv_at hl 1 rfl) ?_
    refine lv_iload hx hb dc_L_law_461 (lv_at hl 5 rfl) ?_
    refine lv_iconst (v := 2) hx hb dc_L_law_463 (by decide) ?_
    refine lv_iadd hx hb dc_L_law_464 ?_
    refine va_sld hx hb hXX hbl hbA hS h2 dc_L_law_465 ?_
    rw [hy2]
    refine lv_aload_n hx hb dc_L_law_466 rfl (lv_at hl 1 rfl) ?_
    refine lv_iload hx hb dc_L_law_467 (lv_at hl 5 rfl) ?_
    refine lv_iconst (v := 3) hx hb dc_L_law_469 (by decide) ?_
    refine lv_iadd hx hb dc_L_law_470 ?_
    refine va_sld hx hb hXX hbl hbA hS h3 dc_L_law_471 ?_
    rw [hy3]
    refine lv_if_eq (tgt := 479) hx hb dc_L_law_472 (by decide) (fun _ => ?_) (fun c_2 => absurd (c_0) c_2)
    refine lv_iconst (v := 0) hx hb dc_L_law_479 (by decide) ?_
    refine cl_mm (As := [.int (y1), .int (y2), .int ((0 : Int32))]) F hE hfr hA (mt_X9_power l G mo ms (fun _ => False) w f (y1) (y2) ((0 : Int32)) H.size (ok_X9_power (y1) (y2) ((0 : Int32)) w)) kv_L_198 ⟨⟨rfl, rfl⟩, Nat.le_of_ble_eq_true rfl, Nat.le_of_ble_eq_true rfl⟩ rfl hl.1 rfl (Nat.le_of_ble_eq_true rfl) ⟨by show (_ : Nat) ≤ 602769; omega, by show (_ : Nat) ≤ 7287796; omega⟩ hP hD hS hIT rfl dc_L_law_480 ?_
    rintro v9 ⟨w_3, f_3⟩ H locs ⟨rfl, hz_3⟩ hP hD hS hIT
    have hP : va_P G.1 kcl (ky_LW G x cs sc pf fg bb tk o mo ms r u_1 t g n_1 sv w_3 f_3) H := hP
    have hD : va_D A (ky_LW G x cs sc pf fg bb tk o mo ms r u_1 t g n_1 sv w_3 f_3) := hD
    generalize hj_3 : (fn_X9_power (y1) (y2) ((0 : Int32)) w).1 = j_3
    have hsi_3 : ky_SI u_1 w_3 := by rw [hu_1, show w_3 = (fn_X9_power (y1) (y2) ((0 : Int32)) w).2 from hz_3]; exact si_power (y1) (y2) ((0 : Int32)) (by first | exact Or.inl rfl | exact Or.inr rfl) u nn w hsi
    have hP : va_P G.1 kcl (ky_LW G x cs sc pf fg bb tk o mo ms r u_1 t g n_1 sv w_3 f_3) H := hP
    have hD : va_D A (ky_LW G x cs sc pf fg bb tk o mo ms r u_1 t g n_1 sv w_3 f_3) := hD
    refine W.widen (k := cells + 3) (n := slots + 14) (by omega) (by omega) ?_
    refine lv_istore (lv' := [(6, .int (j_3)), (5, .int (j_1)), (0, .ref b), (1, .ref x), (2, .ref mo), (3, .ref o), (4, .int (i))]) hx hb dc_L_law_483 hl (by decide) rfl (fun ls hl => ?_)
    refine lv_goto (tgt := 2294) hx hb dc_L_law_485 (by decide) ?_
    refine W.widen (k := cells + 544) (n := slots + 12088) (by omega) (by omega) ?_
    exact KK _ _ _ _ _ _ _ _ _ _ hsk hsi_3 (lv_sub hl [2, 3, 4, 5, 6] rfl) hP hD hS hIT
  · skip
    refine lv_iconst (v := 1) hx hb dc_L_law_442 (by decide) ?_
    refine lv_goto (tgt := 447) hx hb dc_L_law_443 (by decide) ?_
    refine lv_aload_n hx hb dc_L_law_447 rfl (lv_at hl 3 rfl) ?_
    refine cl_num (As := [.ref x, .int (y1), .int (y2), .int ((1 : Int32)), .ref o]) F hE hfr hA (mt_L_power l hl9 G x cs sc pf u o nn sv (y1) (y2) ((1 : Int32)) H.size) kH_L_195 ⟨⟨rfl, rfl⟩, Nat.le_of_ble_eq_true rfl, Nat.le_of_ble_eq_true rfl⟩ rfl hl.1 rfl (Nat.le_of_ble_eq_true rfl) ⟨by show (_ : Nat) ≤ 602769; omega, by show (_ : Nat) ≤ 7287796; omega⟩ hP hD hS hIT dc_L_law_448 ?_
    rintro v9 ⟨u_1, n_1⟩ H locs ⟨rfl, hz_1⟩ hP hD hS hIT
    have hP : va_P G.1 kcl (ky_LW G x cs sc pf fg bb tk o mo ms r u_1 t g n_1 sv w f) H := hP
    have hD : va_D A (ky_LW G x cs sc pf fg bb tk o mo ms r u_1 t g n_1 sv w f) := hD
    have hu_1 : u_1 = (ky_lw (fn_X6_power (y1) (y2) ((1 : Int32)) u) u nn).2.1 := congrArg Prod.fst hz_1
    generalize hj_1 : (ky_lw (fn_X6_power (y1) (y2) ((1 : Int32)) u) u nn).1 = j_1
    refine W.widen (k := cells + 2) (n := slots + 12) (by omega) (by omega) ?_
    refine lv_istore (lv' := [(5, .int (j_1)), (0, .ref b), (1, .ref x), (2, .ref mo), (3, .ref o), (4, .int (i))]) hx hb dc_L_law_451 hl (by decide) rfl (fun ls hl => ?_)
    refine lv_aload_n hx hb dc_L_law_453 rfl (lv_at hl 3 rfl) ?_
    refine lv_aload_n hx hb dc_L_law_454 rfl (lv_at hl 1 rfl) ?_
    refine lv_iload hx hb dc_L_law_455 (lv_at hl 5 rfl) ?_
    refine lv_iconst (v := 1) hx hb dc_L_law_457 (by decide) ?_
    refine lv_iadd hx hb dc_L_law_458 ?_
    refine va_sld hx hb hXX hbl hbA hS h1 dc_L_law_459 ?_
    rw [hy1]
    refine lv_aload_n hx hb dc_L_law_460 rfl (lv_at hl 1 rfl) ?_
    refine lv_iload hx hb dc_L_law_461 (lv_at hl 5 rfl) ?_
    refine lv_iconst (v := 2) hx hb dc_L_law_463 (by decide) ?_
    refine lv_iadd hx hb dc_L_law_464 ?_
    refine va_sld hx hb hXX hbl hbA hS h2 dc_L_law_465 ?_
    rw [hy2]
    refine lv_aload_n hx hb dc_L_law_466 rfl (lv_at hl 1 rfl) ?_
    refine lv_iload hx hb dc_L_law_467 (lv_at hl 5 rfl) ?_
    refine lv_iconst (v := 3) hx hb dc_L_law_469 (by decide) ?_
    refine lv_iadd hx hb dc_L_law_470 ?_
    refine va_sld hx hb hXX hbl hbA hS h3 dc_L_law_471 ?_
    rw [hy3]
    refine lv_if_eq (tgt := 479) hx hb dc_L_law_472 (by decide) (fun c_2 => absurd c_2 (c_0)) (fun _ => ?_)
    refine lv_iconst (v := 1) hx hb dc_L_law_475 (by decide) ?_
    refine lv_goto (tgt := 480) hx hb dc_L_law_476 (by decide) ?_
    refine cl_mm (As := [.int (y1), .int (y2), .int ((1 : Int32))]) F hE hfr hA (mt_X9_power l G mo ms (fun _ => False) w f (y1) (y2) ((1 : Int32)) H.size (ok_X9_power (y1) (y2) ((1 : Int32)) w)) kv_L_198 ⟨⟨rfl, rfl⟩, Nat.le_of_ble_eq_true rfl, Nat.le_of_ble_eq_true rfl⟩ rfl hl.1 rfl (Nat.le_of_ble_eq_true rfl) ⟨by show (_ : Nat) ≤ 602769; omega, by show (_ : Nat) ≤ 7287796; omega⟩ hP hD hS hIT rfl dc_L_law_480 ?_
    rintro v9 ⟨w_3, f_3⟩ H locs ⟨rfl, hz_3⟩ hP hD hS hIT
    have hP : va_P G.1 kcl (ky_LW G x cs sc pf fg bb tk o mo ms r u_1 t g n_1 sv w_3 f_3) H := hP
    have hD : va_D A (ky_LW G x cs sc pf fg bb tk o mo ms r u_1 t g n_1 sv w_3 f_3) := hD
    generalize hj_3 : (fn_X9_power (y1) (y2) ((1 : Int32)) w).1 = j_3
    have hsi_3 : ky_SI u_1 w_3 := by rw [hu_1, show w_3 = (fn_X9_power (y1) (y2) ((1 : Int32)) w).2 from hz_3]; exact si_power (y1) (y2) ((1 : Int32)) (by first | exact Or.inl rfl | exact Or.inr rfl) u nn w hsi
    have hP : va_P G.1 kcl (ky_LW G x cs sc pf fg bb tk o mo ms r u_1 t g n_1 sv w_3 f_3) H := hP
    have hD : va_D A (ky_LW G x cs sc pf fg bb tk o mo ms r u_1 t g n_1 sv w_3 f_3) := hD
    refine W.widen (k := cells + 3) (n := slots + 14) (by omega) (by omega) ?_
    refine lv_istore (lv' := [(6, .int (j_3)), (5, .int (j_1)), (0, .ref b), (1, .ref x), (2, .ref mo), (3, .ref o), (4, .int (i))]) hx hb dc_L_law_483 hl (by decide) rfl (fun ls hl => ?_)
    refine lv_goto (tgt := 2294) hx hb dc_L_law_485 (by decide) ?_
    refine W.widen (k := cells + 544) (n := slots + 12088) (by omega) (by omega) ?_
    exact KK _ _ _ _ _ _ _ _ _ _ hsk hsi_3 (lv_sub hl [2, 3, 4, 5, 6] rfl) hP hD hS hIT
set_option linter.constructorNameAsVariable false in
set_option maxHeartbeats 4000000 in
set_option maxRecDepth 100000 in
theorem lc_4 (hl9 : l.stackTraces = false) (F : ky_F p s m meth c "ExactdoublesLaw" code 7 ret #[Value.ref b]) (hE : ky_E G s) (hfr : ∀ q, A q → ky_fr G q) (hA : ∀ q, s.heap.size ≤ q → A q)
    (hXX : va_X b L xs s s.heap) (hbl : b < s.heap.size) (hbA : ¬ A b) {i : Int32} (h1 : vp_in ((i) + ((1 : Int32))) L) (h2 : vp_in ((i) + ((2 : Int32))) L) (h3 : vp_in ((i) + ((3 : Int32))) L) (hl : lv_has ls 7 [(0, .ref b), (1, .ref x), (2, .ref mo), (3, .ref o), (4, .int (i))])
    (hsk : ky_sok t) (hsi : ky_SI u w) (hP : va_P G.1 kcl (ky_LW G x cs sc pf fg bb tk o mo ms r u t g nn sv w f) H) (hD : va_D A (ky_LW G x cs sc pf fg bb tk o mo ms r u t g nn sv w f)) (hS : va_S A s.heap H locs) (hIT : ky_IT G mo ms (fun _ => False) f w.2.2.2.2 H) (hcc : cells + 544 ≤ 602769) (hss : slots + 12088 ≤ 7287796)
    (KK : ∀ (u : ky_BS) (t : ky_SV) (g : Nat → Nat → Int64) (nn : Int64) (sv : Value) (w : ky_MV) (f : Nat → Option Nat) (H : Heap) (locs : List Loc) (ls : Array Slot), ky_sok t → ky_SI u w → lv_has ls 7 [(0, .ref b), (1, .ref x), (2, .ref mo), (3, .ref o), (4, .int (i))] → va_P G.1 kcl (ky_LW G x cs sc pf fg bb tk o mo ms r u t g nn sv w f) H → va_D A (ky_LW G x cs sc pf fg bb tk o mo ms r u t g nn sv w f) → va_S A s.heap H locs → ky_IT G mo ms (fun _ => False) f w.2.2.2.2 H →
      W p l e room_1 s m #[Value.ref b] below meth c H locs (cells + 544) (slots + 12088) Q (F0 m 2294 ls [])) : W p l e room_1 s m #[Value.ref b] below meth c H locs cells slots Q (F0 m 488 ls []) := by
  obtain ⟨hx, hb, hml, hown, hr, hlocks, hts⟩ := id F
  refine lv_aload_n hx hb dc_L_law_488 rfl (lv_at hl 1 rfl) ?_
  refine lv_aload_n hx hb dc_L_law_489 rfl (lv_at hl 0 rfl) ?_
  refine lv_iload hx hb dc_L_law_490 (lv_at hl 4 rfl) ?_
  refine lv_iconst (v := 1) hx hb dc_L_law_492 (by decide) ?_
  refine lv_iadd hx hb dc_L_law_493 ?_
  refine va_sld hx hb hXX hbl hbA hS h1 dc_L_law_494 ?_
  generalize hy1 : xs (((i) + ((1 : Int32)))).toNatClampNeg = y1
  refine lv_aload_n hx hb dc_L_law_495 rfl (lv_at hl 0 rfl) ?_
  refine lv_iload hx hb dc_L_law_496 (lv_at hl 4 rfl) ?_
  refine lv_iconst (v := 2) hx hb dc_L_law_498 (by decide) ?_
  refine lv_iadd hx hb dc_L_law_499 ?_
  refine va_sld hx hb hXX hbl hbA hS h2 dc_L_law_500 ?_
  generalize hy2 : xs (((i) + ((2 : Int32)))).toNatClampNeg = y2
  refine lv_aload_n hx hb dc_L_law_501 rfl (lv_at hl 0 rfl) ?_
  refine lv_iload hx hb dc_L_law_502 (lv_at hl 4 rfl) ?_
  refine lv_iconst (v := 3) hx hb dc_L_law_504 (by decide) ?_
  refine lv_iadd hx hb dc_L_law_505 ?_
  refine va_sld hx hb hXX hbl hbA hS h3 dc_L_law_506 ?_
  generalize hy3 : xs (((i) + ((3 : Int32)))).toNatClampNeg = y3
  refine lv_aload_n hx hb dc_L_law_507 rfl (lv_at hl 3 rfl) ?_
  refine cl_num (As := [.ref x, .int (y1), .int (y2), .int (y3), .ref o]) F hE hfr hA (mt_L_bits l hl9 G x cs sc pf u o nn sv (y1) (y2) (y3) H.size) kH_L_199 ⟨⟨rfl, rfl⟩, Nat.le_of_ble_eq_true rfl, Nat.le_of_ble_eq_true rfl⟩ rfl hl.1 rfl (Nat.le_of_ble_eq_true rfl) ⟨by show (_ : Nat) ≤ 602769; omega, by show (_ : Nat) ≤ 7287796; omega⟩ hP hD hS hIT dc_L_law_508 ?_
  rintro v9 ⟨u_0, n_0⟩ H locs ⟨rfl, hz_0⟩ hP hD hS hIT
  have hP : va_P G.1 kcl (ky_LW G x cs sc pf fg bb tk o mo ms r u_0 t g n_0 sv w f) H := hP
  have hD : va_D A (ky_LW G x cs sc pf fg bb tk o mo ms r u_0 t g n_0 sv w f) := hD
  have hu_0 : u_0 = (ky_lw (fn_X6_bits (y1) (y2) (y3) u) u nn).2.1 := congrArg Prod.fst hz_0
  generalize hj_0 : (ky_lw (fn_X6_bits (y1) (y2) (y3) u) u nn).1 = j_0
  refine W.widen (k := cells + 1) (n := slots + 6) (by omega) (by omega) ?_
  refine lv_istore (lv' := [(5, .int (j_0)), (0, .ref b), (1, .ref x), (2, .ref mo), (3, .ref o), (4, .int (i))]) hx hb dc_L_law_511 hl (by decide) rfl (fun ls hl => ?_)
  refine lv_aload_n hx hb dc_L_law_513 rfl (lv_at hl 3 rfl) ?_
  refine lv_aload_n hx hb dc_L_law_514 rfl (lv_at hl 1 rfl) ?_
  refine lv_iload hx hb dc_L_law_515 (lv_at hl 5 rfl) ?_
  refine lv_iconst (v := 1) hx hb dc_L_law_517 (by decide) ?_
  refine lv_iadd hx hb dc_L_law_518 ?_
  refine va_sld hx hb hXX hbl hbA hS h1 dc_L_law_519 ?_
  rw [hy1]
  refine lv_aload_n hx hb dc_L_law_520 rfl (lv_at hl 1 rfl) ?_
  refine lv_iload hx hb dc_L_law_521 (lv_at hl 5 rfl) ?_
  refine lv_iconst (v := 2) hx hb dc_L_law_523 (by decide) ?_
  refine lv_iadd hx hb dc_L_law_524 ?_
  refine va_sld hx hb hXX hbl hbA hS h2 dc_L_law_525 ?_
  rw [hy2]
  refine lv_aload_n hx hb dc_L_law_526 rfl (lv_at hl 1 rfl) ?_
  refine lv_iload hx hb dc_L_law_527 (lv_at hl 5 rfl) ?_
  refine lv_iconst (v := 3) hx hb dc_L_law_529 (by decide) ?_
  refine lv_iadd hx hb dc_L_law_530 ?_
  refine va_sld hx hb hXX hbl hbA hS h3 dc_L_law_531 ?_
  rw [hy3]
  refine cl_mm (As := [.int (y1), .int (y2), .int (y3)]) F hE hfr hA (mt_X9_bits l G mo ms (fun _ => False) w f (y1) (y2) (y3) H.size) kv_L_202 ⟨⟨rfl, rfl⟩, Nat.le_of_ble_eq_true rfl, Nat.le_of_ble_eq_true rfl⟩ rfl hl.1 rfl (Nat.le_of_ble_eq_true rfl) ⟨by show (_ : Nat) ≤ 602769; omega, by show (_ : Nat) ≤ 7287796; omega⟩ hP hD hS hIT rfl dc_L_law_532 ?_
  rintro v9 ⟨w_1, f_1⟩ H locs ⟨rfl, hz_1⟩ hP hD hS hIT
  have hP : va_P G.1 kcl (ky_LW G x cs sc pf fg bb tk o mo ms r u_0 t g n_0 sv w_1 f_1) H := hP
  have hD : va_D A (ky_LW G x cs sc pf fg bb tk o mo ms r u_0 t g n_0 sv w_1 f_1) := hD
  generalize hj_1 : (fn_X9_bits (y1) (y2) (y3) w).1 = j_1
  have hsi_1 : ky_SI u_0 w_1 := by rw [hu_0, show w_1 = (fn_X9_bits (y1) (y2) (y3) w).2 from hz_1]; exact si_bits (y1) (y2) (y3) u nn w hsi
  have hP : va_P G.1 kcl (ky_LW G x cs sc pf fg bb tk o mo ms r u_0 t g n_0 sv w_1 f_1) H := hP
  have hD : va_D A (ky_LW G x cs sc pf fg bb tk o mo ms r u_0 t g n_0 sv w_1 f_1) := hD
  refine W.widen (k := cells + 2) (n := slots + 8) (by omega) (by omega) ?_
  refine lv_istore (lv' := [(6, .int (j_1)), (5, .int (j_0)), (0, .ref b), (1, .ref x), (2, .ref mo), (3, .ref o), (4, .int (i))]) hx hb dc_L_law_535 hl (by decide) rfl (fun ls hl => ?_)
  refine lv_goto (tgt := 2294) hx hb dc_L_law_537 (by decide) ?_
  refine W.widen (k := cells + 544) (n := slots + 12088) (by omega) (by omega) ?_
  exact KK _ _ _ _ _ _ _ _ _ _ hsk hsi_1 (lv_sub hl [2, 3, 4, 5, 6] rfl) hP hD hS hIT
set_option linter.constructorNameAsVariable false in
set_option maxHeartbeats 4000000 in
set_option maxRecDepth 100000 in
theorem lc_5 (hl9 : l.stackTraces = false) (F : ky_F p s m meth c "ExactdoublesLaw" code 7 ret #[Value.ref b]) (hE : ky_E G s) (hfr : ∀ q, A q → ky_fr G q) (hA : ∀ q, s.heap.size ≤ q → A q)
    (hXX : va_X b L xs s s.heap) (hbl : b < s.heap.size) (hbA : ¬ A b) {i : Int32} (h1 : vp_in ((i) + ((1 : Int32))) L) (h2 : vp_in ((i) + ((2 : Int32))) L) (h3 : vp_in ((i) + ((3 : Int32))) L) (hl : lv_has ls 7 [(0, .ref b), (1, .ref x), (2, .ref mo), (3, .ref o), (4, .int (i))])
    (hsk : ky_sok t) (hsi : ky_SI u w) (hP : va_P G.1 kcl (ky_LW G x cs sc pf fg bb tk o mo ms r u t g nn sv w f) H) (hD : va_D A (ky_LW G x cs sc pf fg bb tk o mo ms r u t g nn sv w f)) (hS : va_S A s.heap H locs) (hIT : ky_IT G mo ms (fun _ => False) f w.2.2.2.2 H) (hcc : cells + 544 ≤ 602769) (hss : slots + 12088 ≤ 7287796)
    (KK : ∀ (u : ky_BS) (t : ky_SV) (g : Nat → Nat → Int64) (nn : Int64) (sv : Value) (w : ky_MV) (f : Nat → Option Nat) (H : Heap) (locs : List Loc) (ls : Array Slot), ky_sok t → ky_SI u w → lv_has ls 7 [(0, .ref b), (1, .ref x), (2, .ref mo), (3, .ref o), (4, .int (i))] → va_P G.1 kcl (ky_LW G x cs sc pf fg bb tk o mo ms r u t g nn sv w f) H → va_D A (ky_LW G x cs sc pf fg bb tk o mo ms r u t g nn sv w f) → va_S A s.heap H locs → ky_IT G mo ms (fun _ => False) f w.2.2.2.2 H →
      W p l e room_1 s m #[Value.ref b] below meth c H locs (cells + 544) (slots + 12088) Q (F0 m 2294 ls [])) : W p l e room_1 s m #[Value.ref b] below meth c H locs cells slots Q (F0 m 540 ls []) := by
  obtain ⟨hx, hb, hml, hown, hr, hlocks, hts⟩ := id F
  refine lv_aload_n hx hb dc_L_law_540 rfl (lv_at hl 1 rfl) ?_
  refine lv_aload_n hx hb dc_L_law_541 rfl (lv_at hl 0 rfl) ?_
  refine lv_iload hx hb dc_L_law_542 (lv_at hl 4 rfl) ?_
  refine lv_iconst (v := 1) hx hb dc_L_law_544 (by decide) ?_
  refine lv_iadd hx hb dc_L_law_545 ?_
  refine va_sld hx hb hXX hbl hbA hS h1 dc_L_law_546 ?_
  generalize hy1 : xs (((i) + ((1 : Int32)))).toNatClampNeg = y1
  refine lv_aload_n hx hb dc_L_law_547 rfl (lv_at hl 0 rfl) ?_
  refine lv_iload hx hb dc_L_law_548 (lv_at hl 4 rfl) ?_
  refine lv_iconst (v := 2) hx hb dc_L_law_550 (by decide) ?_
  refine lv_iadd hx hb dc_L_law_551 ?_
  refine va_sld hx hb hXX hbl hbA hS h2 dc_L_law_552 ?_
  generalize hy2 : xs (((i) + ((2 : Int32)))).toNatClampNeg = y2
  refine lv_aload_n hx hb dc_L_law_553 rfl (lv_at hl 0 rfl) ?_
  refine lv_iload hx hb dc_L_law_554 (lv_at hl 4 rfl) ?_
  refine lv_iconst (v := 3) hx hb dc_L_law_556 (by decide) ?_
  refine lv_iadd hx hb dc_L_law_557 ?_
  refine va_sld hx hb hXX hbl hbA hS h3 dc_L_law_558 ?_
  generalize hy3 : xs (((i) + ((3 : Int32)))).toNatClampNeg = y3
  refine lv_if_eq (tgt := 566) hx hb dc_L_law_559 (by decide) (fun c_0 => ?_) (fun c_0 => ?_)
  · skip
    refine lv_iconst (v := 0) hx hb dc_L_law_566 (by decide) ?_
    refine lv_aload_n hx hb dc_L_law_567 rfl (lv_at hl 3 rfl) ?_
    refine cl_num (As := [.ref x, .int (y1), .int (y2), .int ((0 : Int32)), .ref o]) F hE hfr hA (mt_L_sample l hl9 G x cs sc pf u o nn sv (y1) (y2) ((0 : Int32)) H.size) kH_L_203 ⟨⟨rfl, rfl⟩, Nat.le_of_ble_eq_true rfl, Nat.le_of_ble_eq_true rfl⟩ rfl hl.1 rfl (Nat.le_of_ble_eq_true rfl) ⟨by show (_ : Nat) ≤ 602769; omega, by show (_ : Nat) ≤ 7287796; omega⟩ hP hD hS hIT dc_L_law_568 ?_
    rintro v9 ⟨u_1, n_1⟩ H locs ⟨rfl, hz_1⟩ hP hD hS hIT
    have hP : va_P G.1 kcl (ky_LW G x cs sc pf fg bb tk o mo ms r u_1 t g n_1 sv w f) H := hP
    have hD : va_D A (ky_LW G x cs sc pf fg bb tk o mo ms r u_1 t g n_1 sv w f) := hD
    have hu_1 : u_1 = (ky_lw (fn_X6_sample (y1) (y2) ((0 : Int32)) u) u nn).2.1 := congrArg Prod.fst hz_1
    generalize hj_1 : (ky_lw (fn_X6_sample (y1) (y2) ((0 : Int32)) u) u nn).1 = j_1
    refine W.widen (k := cells + 2) (n := slots + 12) (by omega) (by omega) ?_
    refine lv_istore (lv' := [(5, .int (j_1)), (0, .ref b), (1, .ref x), (2, .ref mo), (3, .ref o), (4, .int (i))]) hx hb dc_L_law_571 hl (by decide) rfl (fun ls hl => ?_)
    refine lv_aload_n hx hb dc_L_law_573 rfl (lv_at hl 3 rfl) ?_
    refine lv_aload_n hx hb dc_L_law_574 rfl (lv_at hl 1 rfl) ?_
    refine lv_iload hx hb dc_L_law_575 (lv_at hl 5 rfl) ?_
    refine lv_iconst (v := 1) hx hb dc_L_law_577 (by decide) ?_
    refine lv_iadd hx hb dc_L_law_578 ?_
    refine va_sld hx hb hXX hbl hbA hS h1 dc_L_law_579 ?_
    rw [hy1]
    refine lv_aload_n hx hb dc_L_law_580 rfl (lv_at hl 1 rfl) ?_
    refine lv_iload hx hb dc_L_law_581 (lv_at hl 5 rfl) ?_
    refine lv_iconst (v := 2) hx hb dc_L_law_583 (by decide) ?_
    refine lv_iadd hx hb dc_L_law_584 ?_
    refine va_sld hx hb hXX hbl hbA hS h2 dc_L_law_585 ?_
    rw [hy2]
    refine lv_aload_n hx hb dc_L_law_586 rfl (lv_at hl 1 rfl) ?_
    refine lv_iload hx hb dc_L_law_587 (lv_at hl 5 rfl) ?_
    refine lv_iconst (v := 3) hx hb dc_L_law_589 (by decide) ?_
    refine lv_iadd hx hb dc_L_law_590 ?_
    refine va_sld hx hb hXX hbl hbA hS h3 dc_L_law_591 ?_
    rw [hy3]
    refine lv_if_eq (tgt := 599) hx hb dc_L_law_592 (by decide) (fun _ => ?_) (fun c_2 => absurd (c_0) c_2)
    refine lv_iconst (v := 0) hx hb dc_L_law_599 (by decide) ?_
    refine cl_mm (As := [.int (y1), .int (y2), .int ((0 : Int32))]) F hE hfr hA (mt_X9_sample l G mo ms (fun _ => False) w f (y1) (y2) ((0 : Int32)) H.size (ok_X9_sample (y1) (y2) ((0 : Int32)) w)) kv_L_205 ⟨⟨rfl, rfl⟩, Nat.le_of_ble_eq_true rfl, Nat.le_of_ble_eq_true rfl⟩ rfl hl.1 rfl (Nat.le_of_ble_eq_true rfl) ⟨by show (_ : Nat) ≤ 602769; omega, by show (_ : Nat) ≤ 7287796; omega⟩ hP hD hS hIT rfl dc_L_law_600 ?_
    rintro v9 ⟨w_3, f_3⟩ H locs ⟨rfl, hz_3⟩ hP hD hS hIT
    have hP : va_P G.1 kcl (ky_LW G x cs sc pf fg bb tk o mo ms r u_1 t g n_1 sv w_3 f_3) H := hP
    have hD : va_D A (ky_LW G x cs sc pf fg bb tk o mo ms r u_1 t g n_1 sv w_3 f_3) := hD
    generalize hj_3 : (fn_X9_sample (y1) (y2) ((0 : Int32)) w).1 = j_3
    have hsi_3 : ky_SI u_1 w_3 := by rw [hu_1, show w_3 = (fn_X9_sample (y1) (y2) ((0 : Int32)) w).2 from hz_3]; exact si_sample (y1) (y2) ((0 : Int32)) (by first | exact Or.inl rfl | exact Or.inr rfl) u nn w hsi
    have hP : va_P G.1 kcl (ky_LW G x cs sc pf fg bb tk o mo ms r u_1 t g n_1 sv w_3 f_3) H := hP
    have hD : va_D A (ky_LW G x cs sc pf fg bb tk o mo ms r u_1 t g n_1 sv w_3 f_3) := hD
    refine W.widen (k := cells + 3) (n := slots + 14) (by omega) (by omega) ?_
    refine lv_istore (lv' := [(6, .int (j_3)), (5, .int (j_1)), (0, .ref b), (1, .ref x), (2, .ref mo), (3, .ref o), (4, .int (i))]) hx hb dc_L_law_603 hl (by decide) rfl (fun ls hl => ?_)
    refine lv_goto (tgt := 2294) hx hb dc_L_law_605 (by decide) ?_
    refine W.widen (k := cells + 544) (n := slots + 12088) (by omega) (by omega) ?_
    exact KK _ _ _ _ _ _ _ _ _ _ hsk hsi_3 (lv_sub hl [2, 3, 4, 5, 6] rfl) hP hD hS hIT
  · skip
    refine lv_iconst (v := 1) hx hb dc_L_law_562 (by decide) ?_
    refine lv_goto (tgt := 567) hx hb dc_L_law_563 (by decide) ?_
    refine lv_aload_n hx hb dc_L_law_567 rfl (lv_at hl 3 rfl) ?_
    refine cl_num (As := [.ref x, .int (y1), .int (y2), .int ((1 : Int32)), .ref o]) F hE hfr hA (mt_L_sample l hl9 G x cs sc pf u o nn sv (y1) (y2) ((1 : Int32)) H.size) kH_L_203 ⟨⟨rfl, rfl⟩, Nat.le_of_ble_eq_true rfl, Nat.le_of_ble_eq_true rfl⟩ rfl hl.1 rfl (Nat.le_of_ble_eq_true rfl) ⟨by show (_ : Nat) ≤ 602769; omega, by show (_ : Nat) ≤ 7287796; omega⟩ hP hD hS hIT dc_L_law_568 ?_
    rintro v9 ⟨u_1, n_1⟩ H locs ⟨rfl, hz_1⟩ hP hD hS hIT
    have hP : va_P G.1 kcl (ky_LW G x cs sc pf fg bb tk o mo ms r u_1 t g n_1 sv w f) H := hP
    have hD : va_D A (ky_LW G x cs sc pf fg bb tk o mo ms r u_1 t g n_1 sv w f) := hD
    have hu_1 : u_1 = (ky_lw (fn_X6_sample (y1) (y2) ((1 : Int32)) u) u nn).2.1 := congrArg Prod.fst hz_1
    generalize hj_1 : (ky_lw (fn_X6_sample (y1) (y2) ((1 : Int32)) u) u nn).1 = j_1
    refine W.widen (k := cells + 2) (n := slots + 12) (by omega) (by omega) ?_
    refine lv_istore (lv' := [(5, .int (j_1)), (0, .ref b), (1, .ref x), (2, .ref mo), (3, .ref o), (4, .int (i))]) hx hb dc_L_law_571 hl (by decide) rfl (fun ls hl => ?_)
    refine lv_aload_n hx hb dc_L_law_573 rfl (lv_at hl 3 rfl) ?_
    refine lv_aload_n hx hb dc_L_law_574 rfl (lv_at hl 1 rfl) ?_
    refine lv_iload hx hb dc_L_law_575 (lv_at hl 5 rfl) ?_
    refine lv_iconst (v := 1) hx hb dc_L_law_577 (by decide) ?_
    refine lv_iadd hx hb dc_L_law_578 ?_
    refine va_sld hx hb hXX hbl hbA hS h1 dc_L_law_579 ?_
    rw [hy1]
    refine lv_aload_n hx hb dc_L_law_580 rfl (lv_at hl 1 rfl) ?_
    refine lv_iload hx hb dc_L_law_581 (lv_at hl 5 rfl) ?_
    refine lv_iconst (v := 2) hx hb dc_L_law_583 (by decide) ?_
    refine lv_iadd hx hb dc_L_law_584 ?_
    refine va_sld hx hb hXX hbl hbA hS h2 dc_L_law_585 ?_
    rw [hy2]
    refine lv_aload_n hx hb dc_L_law_586 rfl (lv_at hl 1 rfl) ?_
    refine lv_iload hx hb dc_L_law_587 (lv_at hl 5 rfl) ?_
    refine lv_iconst (v := 3) hx hb dc_L_law_589 (by decide) ?_
    refine lv_iadd hx hb dc_L_law_590 ?_
    refine va_sld hx hb hXX hbl hbA hS h3 dc_L_law_591 ?_
    rw [hy3]
    refine lv_if_eq (tgt := 599) hx hb dc_L_law_592 (by decide) (fun c_2 => absurd c_2 (c_0)) (fun _ => ?_)
    refine lv_iconst (v := 1) hx hb dc_L_law_595 (by decide) ?_
    refine lv_goto (tgt := 600) hx hb dc_L_law_596 (by decide) ?_
    refine cl_mm (As := [.int (y1), .int (y2), .int ((1 : Int32))]) F hE hfr hA (mt_X9_sample l G mo ms (fun _ => False) w f (y1) (y2) ((1 : Int32)) H.size (ok_X9_sample (y1) (y2) ((1 : Int32)) w)) kv_L_205 ⟨⟨rfl, rfl⟩, Nat.le_of_ble_eq_true rfl, Nat.le_of_ble_eq_true rfl⟩ rfl hl.1 rfl (Nat.le_of_ble_eq_true rfl) ⟨by show (_ : Nat) ≤ 602769; omega, by show (_ : Nat) ≤ 7287796; omega⟩ hP hD hS hIT rfl dc_L_law_600 ?_
    rintro v9 ⟨w_3, f_3⟩ H locs ⟨rfl, hz_3⟩ hP hD hS hIT
    have hP : va_P G.1 kcl (ky_LW G x cs sc pf fg bb tk o mo ms r u_1 t g n_1 sv w_3 f_3) H := hP
    have hD : va_D A (ky_LW G x cs sc pf fg bb tk o mo ms r u_1 t g n_1 sv w_3 f_3) := hD
    generalize hj_3 : (fn_X9_sample (y1) (y2) ((1 : Int32)) w).1 = j_3
    have hsi_3 : ky_SI u_1 w_3 := by rw [hu_1, show w_3 = (fn_X9_sample (y1) (y2) ((1 : Int32)) w).2 from hz_3]; exact si_sample (y1) (y2) ((1 : Int32)) (by first | exact Or.inl rfl | exact Or.inr rfl) u nn w hsi
    have hP : va_P G.1 kcl (ky_LW G x cs sc pf fg bb tk o mo ms r u_1 t g n_1 sv w_3 f_3) H := hP
    have hD : va_D A (ky_LW G x cs sc pf fg bb tk o mo ms r u_1 t g n_1 sv w_3 f_3) := hD
    refine W.widen (k := cells + 3) (n := slots + 14) (by omega) (by omega) ?_
    refine lv_istore (lv' := [(6, .int (j_3)), (5, .int (j_1)), (0, .ref b), (1, .ref x), (2, .ref mo), (3, .ref o), (4, .int (i))]) hx hb dc_L_law_603 hl (by decide) rfl (fun ls hl => ?_)
    refine lv_goto (tgt := 2294) hx hb dc_L_law_605 (by decide) ?_
    refine W.widen (k := cells + 544) (n := slots + 12088) (by omega) (by omega) ?_
    exact KK _ _ _ _ _ _ _ _ _ _ hsk hsi_3 (lv_sub hl [2, 3, 4, 5, 6] rfl) hP hD hS hIT
set_option linter.constructorNameAsVariable false in
set_option maxHeartbeats 4000000 in
set_option maxRecDepth 100000 in
theorem lc_6 (hl9 : l.stackTraces = false) (F : ky_F p s m meth c "ExactdoublesLaw" code 7 ret #[Value.ref b]) (hE : ky_E G s) (hfr : ∀ q, A q → ky_fr G q) (hA : ∀ q, s.heap.size ≤ q → A q)
    (hXX : va_X b L xs s s.heap) (hbl : b < s.heap.size) (hbA : ¬ A b) {i : Int32} (h1 : vp_in ((i) + ((1 : Int32))) L) (h2 : vp_in ((i) + ((2 : Int32))) L) (h3 : vp_in ((i) + ((3 : Int32))) L) (hl : lv_has ls 7 [(0, .ref b), (1, .ref x), (2, .ref mo), (3, .ref o), (4, .int (i))])
    (hsk : ky_sok t) (hsi : ky_SI u w) (hP : va_P G.1 kcl (ky_LW G x cs sc pf fg bb tk o mo ms r u t g nn sv w f) H) (hD : va_D A (ky_LW G x cs sc pf fg bb tk o mo ms r u t g nn sv w f)) (hS : va_S A s.heap H locs) (hIT : ky_IT G mo ms (fun _ => False) f w.2.2.2.2 H) (hcc : cells + 544 ≤ 602769) (hss : slots + 12088 ≤ 7287796)
    (KK : ∀ (u : ky_BS) (t : ky_SV) (g : Nat → Nat → Int64) (nn : Int64) (sv : Value) (w : ky_MV) (f : Nat → Option Nat) (H : Heap) (locs : List Loc) (ls : Array Slot), ky_sok t → ky_SI u w → lv_has ls 7 [(0, .ref b), (1, .ref x), (2, .ref mo), (3, .ref o), (4, .int (i))] → va_P G.1 kcl (ky_LW G x cs sc pf fg bb tk o mo ms r u t g nn sv w f) H → va_D A (ky_LW G x cs sc pf fg bb tk o mo ms r u t g nn sv w f) → va_S A s.heap H locs → ky_IT G mo ms (fun _ => False) f w.2.2.2.2 H →
      W p l e room_1 s m #[Value.ref b] below meth c H locs (cells + 544) (slots + 12088) Q (F0 m 2294 ls [])) : W p l e room_1 s m #[Value.ref b] below meth c H locs cells slots Q (F0 m 608 ls []) := by
  obtain ⟨hx, hb, hml, hown, hr, hlocks, hts⟩ := id F
  refine lv_aload_n hx hb dc_L_law_608 rfl (lv_at hl 1 rfl) ?_
  refine lv_aload_n hx hb dc_L_law_609 rfl (lv_at hl 0 rfl) ?_
  refine lv_iload hx hb dc_L_law_610 (lv_at hl 4 rfl) ?_
  refine lv_iconst (v := 1) hx hb dc_L_law_612 (by decide) ?_
  refine lv_iadd hx hb dc_L_law_613 ?_
  refine va_sld hx hb hXX hbl hbA hS h1 dc_L_law_614 ?_
  generalize hy1 : xs (((i) + ((1 : Int32)))).toNatClampNeg = y1
  refine lv_aload_n hx hb dc_L_law_615 rfl (lv_at hl 0 rfl) ?_
  refine lv_iload hx hb dc_L_law_616 (lv_at hl 4 rfl) ?_
  refine lv_iconst (v := 2) hx hb dc_L_law_618 (by decide) ?_
  refine lv_iadd hx hb dc_L_law_619 ?_
  refine va_sld hx hb hXX hbl hbA hS h2 dc_L_law_620 ?_
  generalize hy2 : xs (((i) + ((2 : Int32)))).toNatClampNeg = y2
  refine lv_aload_n hx hb dc_L_law_621 rfl (lv_at hl 3 rfl) ?_
  refine cl_num (As := [.ref x, .int (y1), .int (y2), .ref o]) F hE hfr hA (mt_L_copy l hl9 G x cs sc pf u o nn sv (y1) (y2) H.size) kH_L_206 ⟨⟨rfl, rfl⟩, Nat.le_of_ble_eq_true rfl, Nat.le_of_ble_eq_true rfl⟩ rfl hl.1 rfl (Nat.le_of_ble_eq_true rfl) ⟨by show (_ : Nat) ≤ 602769; omega, by show (_ : Nat) ≤ 7287796; omega⟩ hP hD hS hIT dc_L_law_622 ?_
  rintro v9 ⟨u_0, n_0⟩ H locs ⟨rfl, hz_0⟩ hP hD hS hIT
  have hP : va_P G.1 kcl (ky_LW G x cs sc pf fg bb tk o mo ms r u_0 t g n_0 sv w f) H := hP
  have hD : va_D A (ky_LW G x cs sc pf fg bb tk o mo ms r u_0 t g n_0 sv w f) := hD
  have hu_0 : u_0 = (ky_lw (fn_X6_copy (y1) (y2) u) u nn).2.1 := congrArg Prod.fst hz_0
  generalize hj_0 : (ky_lw (fn_X6_copy (y1) (y2) u) u nn).1 = j_0
  refine W.widen (k := cells + 2) (n := slots + 12) (by omega) (by omega) ?_
  refine lv_istore (lv' := [(5, .int (j_0)), (0, .ref b), (1, .ref x), (2, .ref mo), (3, .ref o), (4, .int (i))]) hx hb dc_L_law_625 hl (by decide) rfl (fun ls hl => ?_)
  refine lv_aload_n hx hb dc_L_law_627 rfl (lv_at hl 3 rfl) ?_
  refine lv_aload_n hx hb dc_L_law_628 rfl (lv_at hl 1 rfl) ?_
  refine lv_iload hx hb dc_L_law_629 (lv_at hl 5 rfl) ?_
  refine lv_iconst (v := 1) hx hb dc_L_law_631 (by decide) ?_
  refine lv_iadd hx hb dc_L_law_632 ?_
  refine va_sld hx hb hXX hbl hbA hS h1 dc_L_law_633 ?_
  rw [hy1]
  refine lv_aload_n hx hb dc_L_law_634 rfl (lv_at hl 1 rfl) ?_
  refine lv_iload hx hb dc_L_law_635 (lv_at hl 5 rfl) ?_
  refine lv_iconst (v := 2) hx hb dc_L_law_637 (by decide) ?_
  refine lv_iadd hx hb dc_L_law_638 ?_
  refine va_sld hx hb hXX hbl hbA hS h2 dc_L_law_639 ?_
  rw [hy2]
  refine cl_mm (As := [.int (y1), .int (y2)]) F hE hfr hA (mt_X9_copy l G mo ms (fun _ => False) w f (y1) (y2) H.size) kv_L_208 ⟨⟨rfl, rfl⟩, Nat.le_of_ble_eq_true rfl, Nat.le_of_ble_eq_true rfl⟩ rfl hl.1 rfl (Nat.le_of_ble_eq_true rfl) ⟨by show (_ : Nat) ≤ 602769; omega, by show (_ : Nat) ≤ 7287796; omega⟩ hP hD hS hIT rfl dc_L_law_640 ?_
  rintro v9 ⟨w_1, f_1⟩ H locs ⟨rfl, hz_1⟩ hP hD hS hIT
  have hP : va_P G.1 kcl (ky_LW G x cs sc pf fg bb tk o mo ms r u_0 t g n_0 sv w_1 f_1) H := hP
  have hD : va_D A (ky_LW G x cs sc pf fg bb tk o mo ms r u_0 t g n_0 sv w_1 f_1) := hD
  generalize hj_1 : (fn_X9_copy (y1) (y2) w).1 = j_1
  have hsi_1 : ky_SI u_0 w_1 := by rw [hu_0, show w_1 = (fn_X9_copy (y1) (y2) w).2 from hz_1]; exact si_copy (y1) (y2) u nn w hsi
  have hP : va_P G.1 kcl (ky_LW G x cs sc pf fg bb tk o mo ms r u_0 t g n_0 sv w_1 f_1) H := hP
  have hD : va_D A (ky_LW G x cs sc pf fg bb tk o mo ms r u_0 t g n_0 sv w_1 f_1) := hD
  refine W.widen (k := cells + 2) (n := slots + 12) (by omega) (by omega) ?_
  refine lv_istore (lv' := [(6, .int (j_1)), (5, .int (j_0)), (0, .ref b), (1, .ref x), (2, .ref mo), (3, .ref o), (4, .int (i))]) hx hb dc_L_law_643 hl (by decide) rfl (fun ls hl => ?_)
  refine lv_goto (tgt := 2294) hx hb dc_L_law_645 (by decide) ?_
  refine W.widen (k := cells + 544) (n := slots + 12088) (by omega) (by omega) ?_
  exact KK _ _ _ _ _ _ _ _ _ _ hsk hsi_1 (lv_sub hl [2, 3, 4, 5, 6] rfl) hP hD hS hIT
set_option linter.constructorNameAsVariable false in
set_option maxHeartbeats 4000000 in
set_option maxRecDepth 100000 in
theorem lc_7 (hl9 : l.stackTraces = false) (F : ky_F p s m meth c "ExactdoublesLaw" code 7 ret #[Value.ref b]) (hE : ky_E G s) (hfr : ∀ q, A q → ky_fr G q) (hA : ∀ q, s.heap.size ≤ q → A q)
    (hXX : va_X b L xs s s.heap) (hbl : b < s.heap.size) (hbA : ¬ A b) {i : Int32} (h1 : vp_in ((i) + ((1 : Int32))) L) (h2 : vp_in ((i) + ((2 : Int32))) L) (h3 : vp_in ((i) + ((3 : Int32))) L) (hl : lv_has ls 7 [(0, .ref b), (1, .ref x), (2, .ref mo), (3, .ref o), (4, .int (i))])
    (hsk : ky_sok t) (hsi : ky_SI u w) (hP : va_P G.1 kcl (ky_LW G x cs sc pf fg bb tk o mo ms r u t g nn sv w f) H) (hD : va_D A (ky_LW G x cs sc pf fg bb tk o mo ms r u t g nn sv w f)) (hS : va_S A s.heap H locs) (hIT : ky_IT G mo ms (fun _ => False) f w.2.2.2.2 H) (hcc : cells + 544 ≤ 602769) (hss : slots + 12088 ≤ 7287796)
    (KK : ∀ (u : ky_BS) (t : ky_SV) (g : Nat → Nat → Int64) (nn : Int64) (sv : Value) (w : ky_MV) (f : Nat → Option Nat) (H : Heap) (locs : List Loc) (ls : Array Slot), ky_sok t → ky_SI u w → lv_has ls 7 [(0, .ref b), (1, .ref x), (2, .ref mo), (3, .ref o), (4, .int (i))] → va_P G.1 kcl (ky_LW G x cs sc pf fg bb tk o mo ms r u t g nn sv w f) H → va_D A (ky_LW G x cs sc pf fg bb tk o mo ms r u t g nn sv w f) → va_S A s.heap H locs → ky_IT G mo ms (fun _ => False) f w.2.2.2.2 H →
      W p l e room_1 s m #[Value.ref b] below meth c H locs (cells + 544) (slots + 12088) Q (F0 m 2294 ls [])) : W p l e room_1 s m #[Value.ref b] below meth c H locs cells slots Q (F0 m 648 ls []) := by
  obtain ⟨hx, hb, hml, hown, hr, hlocks, hts⟩ := id F
  refine lv_aload_n hx hb dc_L_law_648 rfl (lv_at hl 1 rfl) ?_
  refine lv_aload_n hx hb dc_L_law_649 rfl (lv_at hl 0 rfl) ?_
  refine lv_iload hx hb dc_L_law_650 (lv_at hl 4 rfl) ?_
  refine lv_iconst (v := 1) hx hb dc_L_law_652 (by decide) ?_
  refine lv_iadd hx hb dc_L_law_653 ?_
  refine va_sld hx hb hXX hbl hbA hS h1 dc_L_law_654 ?_
  generalize hy1 : xs (((i) + ((1 : Int32)))).toNatClampNeg = y1
  refine lv_aload_n hx hb dc_L_law_655 rfl (lv_at hl 0 rfl) ?_
  refine lv_iload hx hb dc_L_law_656 (lv_at hl 4 rfl) ?_
  refine lv_iconst (v := 2) hx hb dc_L_law_658 (by decide) ?_
  refine lv_iadd hx hb dc_L_law_659 ?_
  refine va_sld hx hb hXX hbl hbA hS h2 dc_L_law_660 ?_
  generalize hy2 : xs (((i) + ((2 : Int32)))).toNatClampNeg = y2
  refine lv_aload_n hx hb dc_L_law_661 rfl (lv_at hl 3 rfl) ?_
  refine cl_num (As := [.ref x, .int (y1), .int (y2), .ref o]) F hE hfr hA (mt_L_swap l hl9 G x cs sc pf u o nn sv (y1) (y2) H.size) kH_L_209 ⟨⟨rfl, rfl⟩, Nat.le_of_ble_eq_true rfl, Nat.le_of_ble_eq_true rfl⟩ rfl hl.1 rfl (Nat.le_of_ble_eq_true rfl) ⟨by show (_ : Nat) ≤ 602769; omega, by show (_ : Nat) ≤ 7287796; omega⟩ hP hD hS hIT dc_L_law_662 ?_
  rintro v9 ⟨u_0, n_0⟩ H locs ⟨rfl, hz_0⟩ hP hD hS hIT
  have hP : va_P G.1 kcl (ky_LW G x cs sc pf fg bb tk o mo ms r u_0 t g n_0 sv w f) H := hP
  have hD : va_D A (ky_LW G x cs sc pf fg bb tk o mo ms r u_0 t g n_0 sv w f) := hD
  have hu_0 : u_0 = (ky_lw (fn_X6_swap (y1) (y2) u) u nn).2.1 := congrArg Prod.fst hz_0
  generalize hj_0 : (ky_lw (fn_X6_swap (y1) (y2) u) u nn).1 = j_0
  refine W.widen (k := cells + 2) (n := slots + 12) (by omega) (by omega) ?_
  refine lv_istore (lv' := [(5, .int (j_0)), (0, .ref b), (1, .ref x), (2, .ref mo), (3, .ref o), (4, .int (i))]) hx hb dc_L_law_665 hl (by decide) rfl (fun ls hl => ?_)
  refine lv_aload_n hx hb dc_L_law_667 rfl (lv_at hl 3 rfl) ?_
  refine lv_aload_n hx hb dc_L_law_668 rfl (lv_at hl 1 rfl) ?_
  refine lv_iload hx hb dc_L_law_669 (lv_at hl 5 rfl) ?_
  refine lv_iconst (v := 1) hx hb dc_L_law_671 (by decide) ?_
  refine lv_iadd hx hb dc_L_law_672 ?_
  refine va_sld hx hb hXX hbl hbA hS h1 dc_L_law_673 ?_
  rw [hy1]
  refine lv_aload_n hx hb dc_L_law_674 rfl (lv_at hl 1 rfl) ?_
  refine lv_iload hx hb dc_L_law_675 (lv_at hl 5 rfl) ?_
  refine lv_iconst (v := 2) hx hb dc_L_law_677 (by decide) ?_
  refine lv_iadd hx hb dc_L_law_678 ?_
  refine va_sld hx hb hXX hbl hbA hS h2 dc_L_law_679 ?_
  rw [hy2]
  refine cl_mm (As := [.int (y1), .int (y2)]) F hE hfr hA (mt_X9_swap l G mo ms (fun _ => False) w f (y1) (y2) H.size) kv_L_211 ⟨⟨rfl, rfl⟩, Nat.le_of_ble_eq_true rfl, Nat.le_of_ble_eq_true rfl⟩ rfl hl.1 rfl (Nat.le_of_ble_eq_true rfl) ⟨by show (_ : Nat) ≤ 602769; omega, by show (_ : Nat) ≤ 7287796; omega⟩ hP hD hS hIT rfl dc_L_law_680 ?_
  rintro v9 ⟨w_1, f_1⟩ H locs ⟨rfl, hz_1⟩ hP hD hS hIT
  have hP : va_P G.1 kcl (ky_LW G x cs sc pf fg bb tk o mo ms r u_0 t g n_0 sv w_1 f_1) H := hP
  have hD : va_D A (ky_LW G x cs sc pf fg bb tk o mo ms r u_0 t g n_0 sv w_1 f_1) := hD
  generalize hj_1 : (fn_X9_swap (y1) (y2) w).1 = j_1
  have hsi_1 : ky_SI u_0 w_1 := by rw [hu_0, show w_1 = (fn_X9_swap (y1) (y2) w).2 from hz_1]; exact si_swap (y1) (y2) u nn w hsi
  have hP : va_P G.1 kcl (ky_LW G x cs sc pf fg bb tk o mo ms r u_0 t g n_0 sv w_1 f_1) H := hP
  have hD : va_D A (ky_LW G x cs sc pf fg bb tk o mo ms r u_0 t g n_0 sv w_1 f_1) := hD
  refine W.widen (k := cells + 2) (n := slots + 12) (by omega) (by omega) ?_
  refine lv_istore (lv' := [(6, .int (j_1)), (5, .int (j_0)), (0, .ref b), (1, .ref x), (2, .ref mo), (3, .ref o), (4, .int (i))]) hx hb dc_L_law_683 hl (by decide) rfl (fun ls hl => ?_)
  refine lv_goto (tgt := 2294) hx hb dc_L_law_685 (by decide) ?_
  refine W.widen (k := cells + 544) (n := slots + 12088) (by omega) (by omega) ?_
  exact KK _ _ _ _ _ _ _ _ _ _ hsk hsi_1 (lv_sub hl [2, 3, 4, 5, 6] rfl) hP hD hS hIT
end KYLC
