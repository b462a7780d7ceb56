section KYLC
variable {p : Program} {l : Launch} {e : Env} {s : State} {m : MethodId} {below : List Frame} {meth : Method} {c : Code} {H : Heap} {locs : List Loc} {cells slots : Nat} {Q : State → Prop} {ls : Array Slot} {A : Nat → Prop} {G : ky_G} {b L : Nat} {xs : Nat → Int32}
variable {x cs sc pf fg bb tk o mo ms : Nat} {r : Nat → Nat} {u : ky_BS} {t : ky_SV} {g : Nat → Nat → Int64} {nn : Int64} {sv : Value} {w : ky_MV} {f : Nat → Option Nat}
set_option linter.constructorNameAsVariable false in
set_option maxHeartbeats 4000000 in
set_option maxRecDepth 100000 in
theorem lc_48 (hl9 : l.stackTraces = false) (F : ky_F p s m meth c "ExactdoublesLaw" code 7 ret #[Value.ref b]) (hE : ky_E G s) (hfr : ∀ q, A q → ky_fr G q) (hA : ∀ q, s.heap.size ≤ q → A q)
    (hXX : va_X b L xs s s.heap) (hbl : b < s.heap.size) (hbA : ¬ A b) {i : Int32} (h1 : vp_in ((i) + ((1 : Int32))) L) (h2 : vp_in ((i) + ((2 : Int32))) L) (h3 : vp_in ((i) + ((3 : Int32))) L) (hl : lv_has ls 7 [(0, .ref b), (1, .ref x), (2, .ref mo), (3, .ref o), (4, .int (i))])
    (hsk : ky_sok t) (hsi : ky_SI u w) (hP : va_P G.1 kcl (ky_LW G x cs sc pf fg bb tk o mo ms r u t g nn sv w f) H) (hD : va_D A (ky_LW G x cs sc pf fg bb tk o mo ms r u t g nn sv w f)) (hS : va_S A s.heap H locs) (hIT : ky_IT G mo ms (fun _ => False) f w.2.2.2.2 H) (hcc : cells + 544 ≤ 602769) (hss : slots + 12088 ≤ 7287796)
    (KK : ∀ (u : ky_BS) (t : ky_SV) (g : Nat → Nat → Int64) (nn : Int64) (sv : Value) (w : ky_MV) (f : Nat → Option Nat) (H : Heap) (locs : List Loc) (ls : Array Slot), ky_sok t → ky_SI u w → lv_has ls 7 [(0, .ref b), (1, .ref x), (2, .ref mo), (3, .ref o), (4, .int (i))] → va_P G.1 kcl (ky_LW G x cs sc pf fg bb tk o mo ms r u t g nn sv w f) H → va_D A (ky_LW G x cs sc pf fg bb tk o mo ms r u t g nn sv w f) → va_S A s.heap H locs → ky_IT G mo ms (fun _ => False) f w.2.2.2.2 H →
      W p l e room_1 s m #[Value.ref b] below meth c H locs (cells + 544) (slots + 12088) Q (F0 m 2294 ls [])) : W p l e room_1 s m #[Value.ref b] below meth c H locs cells slots Q (F0 m 2185 ls []) := by
  obtain ⟨hx, hb, hml, hown, hr, hlocks, hts⟩ := id F
  refine lv_aload_n hx hb dc_L_law_2185 rfl (lv_at hl 1 rfl) ?_
  refine cl_gl (As := []) F hE hfr hA (mt_X6_least l G x cs sc pf u fg bb t H.size hsk) kv_L_335 ⟨⟨rfl, rfl⟩, Nat.le_of_ble_eq_true rfl, Nat.le_of_ble_eq_true rfl⟩ rfl hl.1 rfl (Nat.le_of_ble_eq_true rfl) ⟨by show (_ : Nat) ≤ 602769; omega, by show (_ : Nat) ≤ 7287796; omega⟩ hP hD hS hIT rfl dc_L_law_2186 ?_
  rintro v9 t_0 H locs ⟨⟨z_0, rfl⟩, hk_0⟩ hP hD hS hIT
  have hP : va_P G.1 kcl (ky_LW G x cs sc pf fg bb tk o mo ms r u t_0 g nn sv w f) H := hP
  have hD : va_D A (ky_LW G x cs sc pf fg bb tk o mo ms r u t_0 g nn sv w f) := hD
  refine W.widen (k := cells + 3) (n := slots + 72) (by omega) (by omega) ?_
  refine lv_pop hx hb dc_L_law_2189 rfl ?_
  refine lv_aload_n hx hb dc_L_law_2190 rfl (lv_at hl 2 rfl) ?_
  refine cl_mr (As := []) F hE hfr hA (mt_X9_least l G mo ms (fun _ => False) w f  H.size) kv_L_338 ⟨⟨rfl, rfl⟩, Nat.le_of_ble_eq_true rfl, Nat.le_of_ble_eq_true rfl⟩ rfl hl.1 rfl (Nat.le_of_ble_eq_true rfl) ⟨by show (_ : Nat) ≤ 602769; omega, by show (_ : Nat) ≤ 7287796; omega⟩ hP hD hS hIT rfl dc_L_law_2191 ?_
  rintro v9 q_1 H locs ⟨z_1, rfl⟩ hP hD hS hIT
  have hP : va_P G.1 kcl (ky_LW G x cs sc pf fg bb tk o mo ms r u t_0 g nn sv (q_1, w.2) f) H := hP
  have hD : va_D A (ky_LW G x cs sc pf fg bb tk o mo ms r u t_0 g nn sv (q_1, w.2) f) := hD
  refine W.widen (k := cells + 11) (n := slots + 266) (by omega) (by omega) ?_
  refine lv_pop hx hb dc_L_law_2194 rfl ?_
  refine lv_goto (tgt := 2294) hx hb dc_L_law_2195 (by decide) ?_
  refine W.widen (k := cells + 544) (n := slots + 12088) (by omega) (by omega) ?_
  exact KK _ _ _ _ _ _ _ _ _ _ hk_0 (si_thr q_1 hsi) (lv_sub hl [0, 1, 2, 3, 4] rfl) hP hD hS hIT
set_option linter.constructorNameAsVariable false in
set_option maxHeartbeats 4000000 in
set_option maxRecDepth 100000 in
theorem lc_49 (hl9 : l.stackTraces = false) (F : ky_F p s m meth c "ExactdoublesLaw" code 7 ret #[Value.ref b]) (hE : ky_E G s) (hfr : ∀ q, A q → ky_fr G q) (hA : ∀ q, s.heap.size ≤ q → A q)
    (hXX : va_X b L xs s s.heap) (hbl : b < s.heap.size) (hbA : ¬ A b) {i : Int32} (h1 : vp_in ((i) + ((1 : Int32))) L) (h2 : vp_in ((i) + ((2 : Int32))) L) (h3 : vp_in ((i) + ((3 : Int32))) L) (hl : lv_has ls 7 [(0, .ref b), (1, .ref x), (2, .ref mo), (3, .ref o), (4, .int (i))])
    (hsk : ky_sok t) (hsi : ky_SI u w) (hP : va_P G.1 kcl (ky_LW G x cs sc pf fg bb tk o mo ms r u t g nn sv w f) H) (hD : va_D A (ky_LW G x cs sc pf fg bb tk o mo ms r u t g nn sv w f)) (hS : va_S A s.heap H locs) (hIT : ky_IT G mo ms (fun _ => False) f w.2.2.2.2 H) (hcc : cells + 544 ≤ 602769) (hss : slots + 12088 ≤ 7287796)
    (KK : ∀ (u : ky_BS) (t : ky_SV) (g : Nat → Nat → Int64) (nn : Int64) (sv : Value) (w : ky_MV) (f : Nat → Option Nat) (H : Heap) (locs : List Loc) (ls : Array Slot), ky_sok t → ky_SI u w → lv_has ls 7 [(0, .ref b), (1, .ref x), (2, .ref mo), (3, .ref o), (4, .int (i))] → va_P G.1 kcl (ky_LW G x cs sc pf fg bb tk o mo ms r u t g nn sv w f) H → va_D A (ky_LW G x cs sc pf fg bb tk o mo ms r u t g nn sv w f) → va_S A s.heap H locs → ky_IT G mo ms (fun _ => False) f w.2.2.2.2 H →
      W p l e room_1 s m #[Value.ref b] below meth c H locs (cells + 544) (slots + 12088) Q (F0 m 2294 ls [])) : W p l e room_1 s m #[Value.ref b] below meth c H locs cells slots Q (F0 m 2198 ls []) := by
  obtain ⟨hx, hb, hml, hown, hr, hlocks, hts⟩ := id F
  refine lv_aload_n hx hb dc_L_law_2198 rfl (lv_at hl 1 rfl) ?_
  refine cl_kn (As := []) F hE hfr hA (mt_X6_knock l G x cs sc pf u H.size) kv_L_339 ⟨⟨rfl, rfl⟩, Nat.le_of_ble_eq_true rfl, Nat.le_of_ble_eq_true rfl⟩ rfl hl.1 rfl (Nat.le_of_ble_eq_true rfl) ⟨by show (_ : Nat) ≤ 602769; omega, by show (_ : Nat) ≤ 7287796; omega⟩ hP hD hS hIT rfl dc_L_law_2199 ?_
  rintro v9 u_0 H locs ⟨rfl, hz_0⟩ hP hD hS hIT
  generalize hj_0 : (fn_X6_knock u).1 = j_0
  have hP : va_P G.1 kcl (ky_LW G x cs sc pf fg bb tk o mo ms r u_0 t g nn sv w f) H := hP
  have hD : va_D A (ky_LW G x cs sc pf fg bb tk o mo ms r u_0 t g nn sv w f) := hD
  refine W.widen (k := cells) (n := slots) (by omega) (by omega) ?_
  refine lv_pop hx hb dc_L_law_2202 rfl ?_
  refine lv_aload_n hx hb dc_L_law_2203 rfl (lv_at hl 2 rfl) ?_
  refine cl_mm (As := []) F hE hfr hA (mt_X9_knock l G mo ms (fun _ => False) w f  H.size) kv_L_343 ⟨⟨rfl, rfl⟩, Nat.le_of_ble_eq_true rfl, Nat.le_of_ble_eq_true rfl⟩ rfl hl.1 rfl (Nat.le_of_ble_eq_true rfl) ⟨by show (_ : Nat) ≤ 602769; omega, by show (_ : Nat) ≤ 7287796; omega⟩ hP hD hS hIT rfl dc_L_law_2204 ?_
  rintro v9 ⟨w_1, f_1⟩ H locs ⟨rfl, hz_1⟩ hP hD hS hIT
  have hP : va_P G.1 kcl (ky_LW G x cs sc pf fg bb tk o mo ms r u_0 t g nn sv w_1 f_1) H := hP
  have hD : va_D A (ky_LW G x cs sc pf fg bb tk o mo ms r u_0 t g nn sv w_1 f_1) := hD
  generalize hj_1 : (fn_X9_knock w).1 = j_1
  have hsi_1 : ky_SI u_0 w_1 := by rw [hz_0, show w_1 = (fn_X9_knock  w).2 from hz_1]; exact si_knock u w hsi
  have hP : va_P G.1 kcl (ky_LW G x cs sc pf fg bb tk o mo ms r u_0 t g nn sv w_1 f_1) H := hP
  have hD : va_D A (ky_LW G x cs sc pf fg bb tk o mo ms r u_0 t g nn sv w_1 f_1) := hD
  refine W.widen (k := cells) (n := slots) (by omega) (by omega) ?_
  refine lv_pop hx hb dc_L_law_2207 rfl ?_
  refine lv_goto (tgt := 2294) hx hb dc_L_law_2208 (by decide) ?_
  refine W.widen (k := cells + 544) (n := slots + 12088) (by omega) (by omega) ?_
  exact KK _ _ _ _ _ _ _ _ _ _ hsk hsi_1 (lv_sub hl [0, 1, 2, 3, 4] rfl) hP hD hS hIT
set_option linter.constructorNameAsVariable false in
set_option maxHeartbeats 4000000 in
set_option maxRecDepth 100000 in
theorem lc_50 (hl9 : l.stackTraces = false) (F : ky_F p s m meth c "ExactdoublesLaw" code 7 ret #[Value.ref b]) (hE : ky_E G s) (hfr : ∀ q, A q → ky_fr G q) (hA : ∀ q, s.heap.size ≤ q → A q)
    (hXX : va_X b L xs s s.heap) (hbl : b < s.heap.size) (hbA : ¬ A b) {i : Int32} (h1 : vp_in ((i) + ((1 : Int32))) L) (h2 : vp_in ((i) + ((2 : Int32))) L) (h3 : vp_in ((i) + ((3 : Int32))) L) (hl : lv_has ls 7 [(0, .ref b), (1, .ref x), (2, .ref mo), (3, .ref o), (4, .int (i))])
    (hsk : ky_sok t) (hsi : ky_SI u w) (hP : va_P G.1 kcl (ky_LW G x cs sc pf fg bb tk o mo ms r u t g nn sv w f) H) (hD : va_D A (ky_LW G x cs sc pf fg bb tk o mo ms r u t g nn sv w f)) (hS : va_S A s.heap H locs) (hIT : ky_IT G mo ms (fun _ => False) f w.2.2.2.2 H) (hcc : cells + 544 ≤ 602769) (hss : slots + 12088 ≤ 7287796)
    (KK : ∀ (u : ky_BS) (t : ky_SV) (g : Nat → Nat → Int64) (nn : Int64) (sv : Value) (w : ky_MV) (f : Nat → Option Nat) (H : Heap) (locs : List Loc) (ls : Array Slot), ky_sok t → ky_SI u w → lv_has ls 7 [(0, .ref b), (1, .ref x), (2, .ref mo), (3, .ref o), (4, .int (i))] → va_P G.1 kcl (ky_LW G x cs sc pf fg bb tk o mo ms r u t g nn sv w f) H → va_D A (ky_LW G x cs sc pf fg bb tk o mo ms r u t g nn sv w f) → va_S A s.heap H locs → ky_IT G mo ms (fun _ => False) f w.2.2.2.2 H →
      W p l e room_1 s m #[Value.ref b] below meth c H locs (cells + 544) (slots + 12088) Q (F0 m 2294 ls [])) : W p l e room_1 s m #[Value.ref b] below meth c H locs cells slots Q (F0 m 2211 ls []) := by
  obtain ⟨hx, hb, hml, hown, hr, hlocks, hts⟩ := id F
  refine lv_aload_n hx hb dc_L_law_2211 rfl (lv_at hl 1 rfl) ?_
  refine lv_aload_n hx hb dc_L_law_2212 rfl (lv_at hl 0 rfl) ?_
  refine lv_iload hx hb dc_L_law_2213 (lv_at hl 4 rfl) ?_
  refine lv_iconst (v := 1) hx hb dc_L_law_2215 (by decide) ?_
  refine lv_iadd hx hb dc_L_law_2216 ?_
  refine va_sld hx hb hXX hbl hbA hS h1 dc_L_law_2217 ?_
  generalize hy1 : xs (((i) + ((1 : Int32)))).toNatClampNeg = y1
  refine lv_aload_n hx hb dc_L_law_2218 rfl (lv_at hl 3 rfl) ?_
  refine cl_num (As := [.ref x, .int (y1), .ref o]) F hE hfr hA (mt_L_house l hl9 G x cs sc pf u o nn sv (y1) H.size) kH_L_344 ⟨⟨rfl, rfl⟩, Nat.le_of_ble_eq_true rfl, Nat.le_of_ble_eq_true rfl⟩ rfl hl.1 rfl (Nat.le_of_ble_eq_true rfl) ⟨by show (_ : Nat) ≤ 602769; omega, by show (_ : Nat) ≤ 7287796; omega⟩ hP hD hS hIT dc_L_law_2219 ?_
  rintro v9 ⟨u_0, n_0⟩ H locs ⟨rfl, hz_0⟩ hP hD hS hIT
  have hP : va_P G.1 kcl (ky_LW G x cs sc pf fg bb tk o mo ms r u_0 t g n_0 sv w f) H := hP
  have hD : va_D A (ky_LW G x cs sc pf fg bb tk o mo ms r u_0 t g n_0 sv w f) := hD
  have hn_0 : n_0 = (ky_lw1 (fn_X6_house (y1) u) u nn).2.2 := congrArg Prod.snd hz_0
  have hu_0 : u_0 = (ky_lw1 (fn_X6_house (y1) u) u nn).2.1 := congrArg Prod.fst hz_0
  generalize hj_0 : (ky_lw1 (fn_X6_house (y1) u) u nn).1 = j_0
  refine W.widen (k := cells + 1) (n := slots + 6) (by omega) (by omega) ?_
  refine lv_istore (lv' := [(5, .int (j_0)), (0, .ref b), (1, .ref x), (2, .ref mo), (3, .ref o), (4, .int (i))]) hx hb dc_L_law_2222 hl (by decide) rfl (fun ls hl => ?_)
  refine lv_aload_n hx hb dc_L_law_2224 rfl (lv_at hl 3 rfl) ?_
  refine lv_aload_n hx hb dc_L_law_2225 rfl (lv_at hl 1 rfl) ?_
  refine lv_iload hx hb dc_L_law_2226 (lv_at hl 5 rfl) ?_
  refine lv_iconst (v := 1) hx hb dc_L_law_2228 (by decide) ?_
  refine lv_iadd hx hb dc_L_law_2229 ?_
  refine va_sld hx hb hXX hbl hbA hS h1 dc_L_law_2230 ?_
  rw [hy1]
  refine cl_mm (As := [.int (y1)]) F hE hfr hA (mt_X9_house l G mo ms (fun _ => False) w f (y1) H.size (ok_X9_house (y1) w)) kv_L_346 ⟨⟨rfl, rfl⟩, Nat.le_of_ble_eq_true rfl, Nat.le_of_ble_eq_true rfl⟩ rfl hl.1 rfl (Nat.le_of_ble_eq_true rfl) ⟨by show (_ : Nat) ≤ 602769; omega, by show (_ : Nat) ≤ 7287796; omega⟩ hP hD hS hIT rfl dc_L_law_2231 ?_
  rintro v9 ⟨w_1, f_1⟩ H locs ⟨rfl, hz_1⟩ hP hD hS hIT
  have hP : va_P G.1 kcl (ky_LW G x cs sc pf fg bb tk o mo ms r u_0 t g n_0 sv w_1 f_1) H := hP
  have hD : va_D A (ky_LW G x cs sc pf fg bb tk o mo ms r u_0 t g n_0 sv w_1 f_1) := hD
  generalize hj_1 : (fn_X9_house (y1) w).1 = j_1
  have hsi_1 : ky_SI u_0 w_1 := by rw [hu_0, show w_1 = (fn_X9_house (y1) w).2 from hz_1]; exact si_house (y1) u nn w hsi
  have hP : va_P G.1 kcl (ky_LW G x cs sc pf fg bb tk o mo ms r u_0 t g n_0 sv w_1 f_1) H := hP
  have hD : va_D A (ky_LW G x cs sc pf fg bb tk o mo ms r u_0 t g n_0 sv w_1 f_1) := hD
  refine W.widen (k := cells + 2) (n := slots + 10) (by omega) (by omega) ?_
  refine lv_istore (lv' := [(6, .int (j_1)), (5, .int (j_0)), (0, .ref b), (1, .ref x), (2, .ref mo), (3, .ref o), (4, .int (i))]) hx hb dc_L_law_2234 hl (by decide) rfl (fun ls hl => ?_)
  refine lv_aload_n hx hb dc_L_law_2236 rfl (lv_at hl 4 rfl) ?_
  refine cl_mq (As := []) F hE hfr hA (mt_X9_thrown l G mo ms (w_1.1, w_1.2.1, w_1.2.2.1, w_1.2.2.2.1) f_1 H.size) kv_L_347 ⟨⟨rfl, rfl⟩, Nat.le_of_ble_eq_true rfl, Nat.le_of_ble_eq_true rfl⟩ rfl hl.1 rfl (Nat.le_of_ble_eq_true rfl) ⟨by show (_ : Nat) ≤ 602769; omega, by show (_ : Nat) ≤ 7287796; omega⟩ hP hD hS hIT rfl dc_L_law_2237 ?_
  rintro v9 q_2 H locs ⟨rfl, hz_2⟩ hP hD hS hIT
  have hP : va_P G.1 kcl (ky_LW G x cs sc pf fg bb tk o mo ms r u_0 t g n_0 sv (q_2.1, q_2.2.1, q_2.2.2.1, q_2.2.2.2, w_1.2.2.2.2) f_1) H := hP
  have hD : va_D A (ky_LW G x cs sc pf fg bb tk o mo ms r u_0 t g n_0 sv (q_2.1, q_2.2.1, q_2.2.2.1, q_2.2.2.2, w_1.2.2.2.2) f_1) := hD
  rw [show (fn_X9_thrown (w_1.1, w_1.2.1, w_1.2.2.1, w_1.2.2.2.1)).1 = w_1.1 from rfl]
  have hsi_2 : ky_SI u_0 (q_2.1, q_2.2.1, q_2.2.2.1, q_2.2.2.2, w_1.2.2.2.2) := by rw [hz_2]; exact hsi_1
  obtain ⟨e1, e2⟩ := sm_house (y1) u nn w hsi
  have e3 : w_1.1 = j_0 := by rw [show w_1 = (fn_X9_house (y1) w).2 from hz_1]; exact e1.trans hj_0
  have e4 : j_0 = 0 → n_0 = (j_1).toInt64 := fun z9 => by rw [hn_0, ← hj_1]; exact e2 (hj_0.trans z9)
  refine W.widen (k := cells + 2) (n := slots + 10) (by omega) (by omega) ?_
  refine lv_iload hx hb dc_L_law_2240 (lv_at hl 1 rfl) ?_
  refine lv_icmp_eq (tgt := 2247) hx hb dc_L_law_2242 (by decide) (fun _ => ?_) (fun c_3 => absurd (e3) c_3)
  refine lv_iload hx hb dc_L_law_2247 (lv_at hl 1 rfl) ?_
  refine lv_if_ne (tgt := 2265) hx hb dc_L_law_2249 (by decide) (fun c_4 => ?_) (fun c_4 => ?_)
  · skip
    refine lv_goto (tgt := 2294) hx hb dc_L_law_2265 (by decide) ?_
    refine W.widen (k := cells + 544) (n := slots + 12088) (by omega) (by omega) ?_
    exact KK _ _ _ _ _ _ _ _ _ _ hsk hsi_2 (lv_sub hl [2, 3, 4, 5, 6] rfl) hP hD hS hIT
  · skip
    refine lv_aload_n hx hb dc_L_law_2252 rfl (lv_at hl 5 rfl) ?_
    refine va_getN (D := G.1) (ci := 3) (v := .long (n_0)) (C := RX7) (T := TX7) (N := 2) hx hb hts ki_X7 hown hE.1 hP 16 rfl rfl 0 (by decide) (va_Nw.use (A := _) rfl (hE.nestF (kc_4 _ (List.mem_of_getElem? (i := 72) rfl)))) (fun _ h9 => h9) rfl dc_L_law_2253 ?_
    refine lv_iload hx hb dc_L_law_2256 (lv_at hl 0 rfl) ?_
    refine lv_i2l (v := (j_1).toInt64) hx hb dc_L_law_2258 rfl ?_
    refine W.lcmp hx hb dc_L_law_2259 ?_
    refine lv_if_eq (tgt := 2265) hx hb dc_L_law_2260 (by decide) (fun _ => ?_) (fun c_5 => absurd ((lg_cmp_eq _ _).mpr (e4 c_4)) c_5)
    refine lv_goto (tgt := 2294) hx hb dc_L_law_2265 (by decide) ?_
    refine W.widen (k := cells + 544) (n := slots + 12088) (by omega) (by omega) ?_
    exact KK _ _ _ _ _ _ _ _ _ _ hsk hsi_2 (lv_sub hl [2, 3, 4, 5, 6] rfl) hP hD hS hIT
set_option linter.constructorNameAsVariable false in
set_option maxHeartbeats 4000000 in
set_option maxRecDepth 100000 in
theorem lc_51 (hl9 : l.stackTraces = false) (F : ky_F p s m meth c "ExactdoublesLaw" code 7 ret #[Value.ref b]) (hE : ky_E G s) (hfr : ∀ q, A q → ky_fr G q) (hA : ∀ q, s.heap.size ≤ q → A q)
    (hXX : va_X b L xs s s.heap) (hbl : b < s.heap.size) (hbA : ¬ A b) {i : Int32} (h1 : vp_in ((i) + ((1 : Int32))) L) (h2 : vp_in ((i) + ((2 : Int32))) L) (h3 : vp_in ((i) + ((3 : Int32))) L) (hl : lv_has ls 7 [(0, .ref b), (1, .ref x), (2, .ref mo), (3, .ref o), (4, .int (i))])
    (hsk : ky_sok t) (hsi : ky_SI u w) (hP : va_P G.1 kcl (ky_LW G x cs sc pf fg bb tk o mo ms r u t g nn sv w f) H) (hD : va_D A (ky_LW G x cs sc pf fg bb tk o mo ms r u t g nn sv w f)) (hS : va_S A s.heap H locs) (hIT : ky_IT G mo ms (fun _ => False) f w.2.2.2.2 H) (hcc : cells + 544 ≤ 602769) (hss : slots + 12088 ≤ 7287796)
    (KK : ∀ (u : ky_BS) (t : ky_SV) (g : Nat → Nat → Int64) (nn : Int64) (sv : Value) (w : ky_MV) (f : Nat → Option Nat) (H : Heap) (locs : List Loc) (ls : Array Slot), ky_sok t → ky_SI u w → lv_has ls 7 [(0, .ref b), (1, .ref x), (2, .ref mo), (3, .ref o), (4, .int (i))] → va_P G.1 kcl (ky_LW G x cs sc pf fg bb tk o mo ms r u t g nn sv w f) H → va_D A (ky_LW G x cs sc pf fg bb tk o mo ms r u t g nn sv w f) → va_S A s.heap H locs → ky_IT G mo ms (fun _ => False) f w.2.2.2.2 H →
      W p l e room_1 s m #[Value.ref b] below meth c H locs (cells + 544) (slots + 12088) Q (F0 m 2294 ls [])) : W p l e room_1 s m #[Value.ref b] below meth c H locs cells slots Q (F0 m 2268 ls []) := by
  obtain ⟨hx, hb, hml, hown, hr, hlocks, hts⟩ := id F
  refine lv_aload_n hx hb dc_L_law_2268 rfl (lv_at hl 1 rfl) ?_
  refine cl_so (As := []) F hE hfr hA (mt_X6_isSound l G x cs sc pf u tk r g H.size) kv_L_350 ⟨⟨rfl, rfl⟩, Nat.le_of_ble_eq_true rfl, Nat.le_of_ble_eq_true rfl⟩ rfl hl.1 rfl (Nat.le_of_ble_eq_true rfl) ⟨by show (_ : Nat) ≤ 602769; omega, by show (_ : Nat) ≤ 7287796; omega⟩ hP hD hS hIT rfl dc_L_law_2269 ?_
  rintro v9 g_0 H locs ⟨j_0, rfl, hj_0⟩ hP hD hS hIT
  have hP : va_P G.1 kcl (ky_LW G x cs sc pf fg bb tk o mo ms r u t g_0 nn sv w f) H := hP
  have hD : va_D A (ky_LW G x cs sc pf fg bb tk o mo ms r u t g_0 nn sv w f) := hD
  refine W.widen (k := cells) (n := slots) (by omega) (by omega) ?_
  refine lv_pop hx hb dc_L_law_2272 rfl ?_
  refine lv_aload_n hx hb dc_L_law_2273 rfl (lv_at hl 2 rfl) ?_
  refine cl_mm (As := []) F hE hfr hA (mt_X9_isSound l G mo ms (fun _ => False) w f  H.size) kv_L_354 ⟨⟨rfl, rfl⟩, Nat.le_of_ble_eq_true rfl, Nat.le_of_ble_eq_true rfl⟩ rfl hl.1 rfl (Nat.le_of_ble_eq_true rfl) ⟨by show (_ : Nat) ≤ 602769; omega, by show (_ : Nat) ≤ 7287796; omega⟩ hP hD hS hIT rfl dc_L_law_2274 ?_
  rintro v9 ⟨w_1, f_1⟩ H locs ⟨rfl, hz_1⟩ hP hD hS hIT
  have hP : va_P G.1 kcl (ky_LW G x cs sc pf fg bb tk o mo ms r u t g_0 nn sv w_1 f_1) H := hP
  have hD : va_D A (ky_LW G x cs sc pf fg bb tk o mo ms r u t g_0 nn sv w_1 f_1) := hD
  generalize hj_1 : (fn_X9_isSound w).1 = j_1
  have hsi_1 : ky_SI u w_1 := by rw [show w_1 = (fn_X9_isSound  w).2 from hz_1]; exact si_isSound u w hsi
  have hP : va_P G.1 kcl (ky_LW G x cs sc pf fg bb tk o mo ms r u t g_0 nn sv w_1 f_1) H := hP
  have hD : va_D A (ky_LW G x cs sc pf fg bb tk o mo ms r u t g_0 nn sv w_1 f_1) := hD
  refine W.widen (k := cells) (n := slots) (by omega) (by omega) ?_
  refine lv_pop hx hb dc_L_law_2277 rfl ?_
  refine lv_goto (tgt := 2294) hx hb dc_L_law_2278 (by decide) ?_
  refine W.widen (k := cells + 544) (n := slots + 12088) (by omega) (by omega) ?_
  exact KK _ _ _ _ _ _ _ _ _ _ hsk hsi_1 (lv_sub hl [0, 1, 2, 3, 4] rfl) hP hD hS hIT
set_option linter.constructorNameAsVariable false in
set_option maxHeartbeats 4000000 in
set_option maxRecDepth 100000 in
theorem lc_52 (hl9 : l.stackTraces = false) (F : ky_F p s m meth c "ExactdoublesLaw" code 7 ret #[Value.ref b]) (hE : ky_E G s) (hfr : ∀ q, A q → ky_fr G q) (hA : ∀ q, s.heap.size ≤ q → A q)
    (hXX : va_X b L xs s s.heap) (hbl : b < s.heap.size) (hbA : ¬ A b) {i : Int32} (h1 : vp_in ((i) + ((1 : Int32))) L) (h2 : vp_in ((i) + ((2 : Int32))) L) (h3 : vp_in ((i) + ((3 : Int32))) L) (hl : lv_has ls 7 [(0, .ref b), (1, .ref x), (2, .ref mo), (3, .ref o), (4, .int (i))])
    (hsk : ky_sok t) (hsi : ky_SI u w) (hP : va_P G.1 kcl (ky_LW G x cs sc pf fg bb tk o mo ms r u t g nn sv w f) H) (hD : va_D A (ky_LW G x cs sc pf fg bb tk o mo ms r u t g nn sv w f)) (hS : va_S A s.heap H locs) (hIT : ky_IT G mo ms (fun _ => False) f w.2.2.2.2 H) (hcc : cells + 544 ≤ 602769) (hss : slots + 12088 ≤ 7287796)
    (KK : ∀ (u : ky_BS) (t : ky_SV) (g : Nat → Nat → Int64) (nn : Int64) (sv : Value) (w : ky_MV) (f : Nat → Option Nat) (H : Heap) (locs : List Loc) (ls : Array Slot), ky_sok t → ky_SI u w → lv_has ls 7 [(0, .ref b), (1, .ref x), (2, .ref mo), (3, .ref o), (4, .int (i))] → va_P G.1 kcl (ky_LW G x cs sc pf fg bb tk o mo ms r u t g nn sv w f) H → va_D A (ky_LW G x cs sc pf fg bb tk o mo ms r u t g nn sv w f) → va_S A s.heap H locs → ky_IT G mo ms (fun _ => False) f w.2.2.2.2 H →
      W p l e room_1 s m #[Value.ref b] below meth c H locs (cells + 544) (slots + 12088) Q (F0 m 2294 ls [])) : W p l e room_1 s m #[Value.ref b] below meth c H locs cells slots Q (F0 m 2281 ls []) := by
  obtain ⟨hx, hb, hml, hown, hr, hlocks, hts⟩ := id F
  refine lv_aload_n hx hb dc_L_law_2281 rfl (lv_at hl 1 rfl) ?_
  refine cl_dg (As := []) F hE hfr hA (mt_X6_digest l G x cs sc pf u fg bb t tk r g H.size hsk) kv_L_355 ⟨⟨rfl, rfl⟩, Nat.le_of_ble_eq_true rfl, Nat.le_of_ble_eq_true rfl⟩ rfl hl.1 rfl (Nat.le_of_ble_eq_true rfl) ⟨by show (_ : Nat) ≤ 602769; omega, by show (_ : Nat) ≤ 7287796; omega⟩ hP hD hS hIT rfl dc_L_law_2282 ?_
  rintro v9 ⟨t_0, g_0⟩ H locs ⟨⟨z_0, rfl⟩, hk_0⟩ hP hD hS hIT
  have hP : va_P G.1 kcl (ky_LW G x cs sc pf fg bb tk o mo ms r u t_0 g_0 nn sv w f) H := hP
  have hD : va_D A (ky_LW G x cs sc pf fg bb tk o mo ms r u t_0 g_0 nn sv w f) := hD
  refine W.widen (k := cells + 56) (n := slots + 1904) (by omega) (by omega) ?_
  refine lv_pop2_2 hx hb dc_L_law_2285 rfl ?_
  refine lv_aload_n hx hb dc_L_law_2286 rfl (lv_at hl 2 rfl) ?_
  refine cl_mr (As := []) F hE hfr hA (mt_X9_digest l G mo ms (fun _ => False) w f  H.size) kv_L_359 ⟨⟨rfl, rfl⟩, Nat.le_of_ble_eq_true rfl, Nat.le_of_ble_eq_true rfl⟩ rfl hl.1 rfl (Nat.le_of_ble_eq_true rfl) ⟨by show (_ : Nat) ≤ 602769; omega, by show (_ : Nat) ≤ 7287796; omega⟩ hP hD hS hIT rfl dc_L_law_2287 ?_
  rintro v9 q_1 H locs ⟨z_1, rfl⟩ hP hD hS hIT
  have hP : va_P G.1 kcl (ky_LW G x cs sc pf fg bb tk o mo ms r u t_0 g_0 nn sv (q_1, w.2) f) H := hP
  have hD : va_D A (ky_LW G x cs sc pf fg bb tk o mo ms r u t_0 g_0 nn sv (q_1, w.2) f) := hD
  refine W.widen (k := cells + 544) (n := slots + 12088) (by omega) (by omega) ?_
  refine lv_pop2_2 hx hb dc_L_law_2290 rfl ?_
  refine lv_goto (tgt := 2294) hx hb dc_L_law_2291 (by decide) ?_
  refine W.widen (k := cells + 544) (n := slots + 12088) (by omega) (by omega) ?_
  exact KK _ _ _ _ _ _ _ _ _ _ hk_0 (si_thr q_1 hsi) (lv_sub hl [0, 1, 2, 3, 4] rfl) hP hD hS hIT
end KYLC
