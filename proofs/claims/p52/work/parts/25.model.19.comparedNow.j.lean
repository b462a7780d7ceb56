section
def fn_X9_comparedNow (a1 : Int32) (a2 : Int32)  (w : ky_MV) : Int32 × ky_MV :=
  (fn_X9_compared (fn_X8_place ((w.2.2.2.2) (a1).toNatClampNeg)) (fn_X8_place ((w.2.2.2.2) (a2).toNatClampNeg)), w)
set_option linter.constructorNameAsVariable false in
set_option maxHeartbeats 4000000 in
set_option maxRecDepth 100000 in
theorem mt_X9_comparedNow (l : Launch) (G : ky_G) (mo cs : Nat) (N : Nat → Prop) (w : ky_MV) (f : Nat → Option Nat)    (a1 : Int32) (a2 : Int32) (sz : Nat) (h1 : vp_in (a1) 6) (h2 : vp_in (a2) 6) : Met l my_X9_comparedNow (.code my_X9_comparedNow prog_10_method_53_code 3 (some .int) :: ky_B) { frames := 1, cells := 0, slots := 0, locals := 23 } (ky_P G [.ref mo, .int (a1), .int (a2)] (ky_WM G mo cs w f) sz (fun H => ky_IT G mo cs N f w.2.2.2.2 H)) (ky_Q (S := ky_MV × (Nat → Option Nat)) G (va_A (ky_WM G mo cs w f) sz) (fun v u => v = some (.int (fn_X9_comparedNow a1 a2 w).1) ∧ u.1 = (fn_X9_comparedNow a1 a2 w).2) (fun u => ky_WM G mo cs u.1 u.2) (fun u H => ky_IT G mo cs N u.2 u.1.2.2.2.2 H)) 0 0 (va_A (ky_WM G mo cs w f) sz) := by
  refine ky_start (by decide) (Nat.le_of_ble_eq_true rfl) (fun p e s m below meth c F hE A hAe hsz hA hfr hP hD hS hX ls hl => ?_)
  obtain ⟨hx, hb, hml, hown, hr, hlocks, hts⟩ := id F
  have hIT0 := hX
  have hIT := hIT0
  have hl : lv_has ls 3 [(0, .ref mo), (1, .int (a1)), (2, .int (a2))] := hl
  have hP : va_P G.1 kcl [(mo, .inr (5, [.int (w.1), .ref cs, .int (w.2.1), .int (w.2.2.1), .int (w.2.2.2.1)])), (cs, .inl (G.2.1 3, 6, .inr (.inr (.inr (.inr (f))))))] s.heap := hP
  have hD : va_D A [(mo, .inr (5, [.int (w.1), .ref cs, .int (w.2.1), .int (w.2.2.1), .int (w.2.2.2.1)])), (cs, .inl (G.2.1 3, 6, .inr (.inr (.inr (.inr (f))))))] := hD
  have hw : fn_X9_comparedNow a1 a2 w = _ := fn_X9_comparedNow.eq_1 a1 a2 w
  refine lv_aload_n hx hb dc_X9_comparedNow_0 rfl (lv_at hl 0 rfl) ?_
  refine va_get (D := G.1) (ci := 5) (v := .ref cs) (C := RX9) (T := TX9) (N := 5) hx hb hts ki_X9 hown hE.1 hP 0 rfl rfl 1 (by decide) (hts _ kw_6_20) (fun _ h9 => h9) rfl dc_X9_comparedNow_1 ?_
  refine lv_iload_n hx hb dc_X9_comparedNow_4 rfl (lv_at hl 1 rfl) ?_
  refine va_aldq hx hb hE.1 hP 1 3 rfl rfl h1 dc_X9_comparedNow_5 ?_
  obtain ⟨b_0, hb_0, hI_0, ho_0⟩ := hIT.2 _ (ky_i6 h1)
  rw [ky_rf hb_0]
  have hX_0 : ky_It G b_0 ((w.2.2.2.2) (a1).toNatClampNeg) s.heap := by obtain ⟨b9, e9, i9, -⟩ := hIT0.2 _ (ky_i6 h1); have z9 : b9 = b_0 := Option.some.inj (e9.symm.trans hb_0); exact z9 ▸ i9
  refine ky_cV1 (As := []) F (hE.at hfr hS) (mt_X8_place l G (b_0) (((w.2.2.2.2) (a1).toNatClampNeg)) ) kv_X9_147 ⟨⟨rfl, rfl⟩, by decide, by decide⟩ rfl hl.1 rfl (Nat.le_of_ble_eq_true rfl) ⟨Nat.le_of_ble_eq_true rfl, Nat.le_of_ble_eq_true rfl⟩ (va_recv hE.1 hI_0 (ci := 4) (q0 := 0) rfl rfl) hI_0 dc_X9_comparedNow_6 ?_
  refine lv_aload_n hx hb dc_X9_comparedNow_9 rfl (lv_at hl 0 rfl) ?_
  refine va_get (D := G.1) (ci := 5) (v := .ref cs) (C := RX9) (T := TX9) (N := 5) hx hb hts ki_X9 hown hE.1 hP 0 rfl rfl 1 (by decide) (hts _ kw_6_20) (fun _ h9 => h9) rfl dc_X9_comparedNow_10 ?_
  refine lv_iload_n hx hb dc_X9_comparedNow_13 rfl (lv_at hl 2 rfl) ?_
  refine va_aldq hx hb hE.1 hP 1 3 rfl rfl h2 dc_X9_comparedNow_14 ?_
  obtain ⟨b_1, hb_1, hI_1, ho_1⟩ := hIT.2 _ (ky_i6 h2)
  rw [ky_rf hb_1]
  have hX_1 : ky_It G b_1 ((w.2.2.2.2) (a2).toNatClampNeg) s.heap := by obtain ⟨b9, e9, i9, -⟩ := hIT0.2 _ (ky_i6 h2); have z9 : b9 = b_1 := Option.some.inj (e9.symm.trans hb_1); exact z9 ▸ i9
  refine ky_cV1 (As := []) F (hE.at hfr hS) (mt_X8_place l G (b_1) (((w.2.2.2.2) (a2).toNatClampNeg)) ) kv_X9_147 ⟨⟨rfl, rfl⟩, by decide, by decide⟩ rfl hl.1 rfl (Nat.le_of_ble_eq_true rfl) ⟨Nat.le_of_ble_eq_true rfl, Nat.le_of_ble_eq_true rfl⟩ (va_recv hE.1 hI_1 (ci := 4) (q0 := 0) rfl rfl) hI_1 dc_X9_comparedNow_15 ?_
  refine ky_cS0 (As := [.long (fn_X8_place ((w.2.2.2.2) (a1).toNatClampNeg)), .long (fn_X8_place ((w.2.2.2.2) (a2).toNatClampNeg))]) F (mt_X9_compared l (fn_X8_place ((w.2.2.2.2) (a1).toNatClampNeg)) (fn_X8_place ((w.2.2.2.2) (a2).toNatClampNeg))) ks_X9_228 ⟨⟨rfl, rfl⟩, by decide, by decide⟩ rfl hl.1 rfl (Nat.le_of_ble_eq_true rfl) ⟨Nat.le_of_ble_eq_true rfl, Nat.le_of_ble_eq_true rfl⟩ dc_X9_comparedNow_18 ?_
  have hP9 : va_P G.1 kcl (ky_WM G mo cs (w) (f)) s.heap := hP.sub [0, 1] rfl
  have hD9 : va_D A (ky_WM G mo cs (w) (f)) := hD.sub [0, 1] (by decide) rfl
  refine W.widen (k := 0) (n := 0) (Nat.le_of_ble_eq_true rfl) (Nat.le_of_ble_eq_true rfl) ?_
  exact W.iret (v := fn_X9_compared (fn_X8_place ((w.2.2.2.2) (a1).toNatClampNeg)) (fn_X8_place ((w.2.2.2.2) (a2).toNatClampNeg))) hx hb hr (fun t ht hW => ⟨by rw [ht]; exact ky_endM (fun z => some (.int z)) (fn_X9_compared (fn_X8_place ((w.2.2.2.2) (a1).toNatClampNeg)) (fn_X8_place ((w.2.2.2.2) (a2).toNatClampNeg))) hw hP9 hD9 (hIT), hS.F ht⟩) hS.2.2 dc_X9_comparedNow_21
end
section
def fn_X9_compare (a1 : Int32) (a2 : Int32)  (w : ky_MV) : Int32 × ky_MV :=
  if (jst (fn_X9_areNo (a1) (a2))) = (0 : Int32) then (((fn_X9_comparedNow (a1) (a2) (jst (fn_X9_areNo (a1) (a2)), w.2.1, w.2.2.1, w.2.2.2.1, w.2.2.2.2)).1, ((fn_X9_comparedNow (a1) (a2) (jst (fn_X9_areNo (a1) (a2)), w.2.1, w.2.2.1, w.2.2.2.1, w.2.2.2.2)).2))) else (((0 : Int32), (jst (fn_X9_areNo (a1) (a2)), w.2.1, w.2.2.1, w.2.2.2.1, w.2.2.2.2)))
set_option linter.constructorNameAsVariable false in
set_option maxHeartbeats 4000000 in
set_option maxRecDepth 100000 in
theorem mt_X9_compare (l : Launch) (G : ky_G) (mo cs : Nat) (N : Nat → Prop) (w : ky_MV) (f : Nat → Option Nat)    (a1 : Int32) (a2 : Int32) (sz : Nat) : Met l my_X9_compare (.code my_X9_compare prog_10_method_54_code 3 (some .int) :: ky_B) { frames := 3, cells := 0, slots := 0, locals := 64 } (ky_P G [.ref mo, .int (a1), .int (a2)] (ky_WM G mo cs w f) sz (fun H => ky_IT G mo cs N f w.2.2.2.2 H)) (ky_Q (S := ky_MV × (Nat → Option Nat)) G (va_A (ky_WM G mo cs w f) sz) (fun v u => v = some (.int (fn_X9_compare a1 a2 w).1) ∧ u.1 = (fn_X9_compare a1 a2 w).2) (fun u => ky_WM G mo cs u.1 u.2) (fun u H => ky_IT G mo cs N u.2 u.1.2.2.2.2 H)) 0 0 (va_A (ky_WM G mo cs w f) sz) := by
  refine ky_start (by decide) (Nat.le_of_ble_eq_true rfl) (fun p e s m below meth c F hE A hAe hsz hA hfr hP hD hS hX ls hl => ?_)
  obtain ⟨hx, hb, hml, hown, hr, hlocks, hts⟩ := id F
  have hIT0 := hX
  have hIT := hIT0
  have hl : lv_has ls 3 [(0, .ref mo), (1, .int (a1)), (2, .int (a2))] := hl
  have hP : va_P G.1 kcl [(mo, .inr (5, [.int (w.1), .ref cs, .int (w.2.1), .int (w.2.2.1), .int (w.2.2.2.1)])), (cs, .inl (G.2.1 3, 6, .inr (.inr (.inr (.inr (f))))))] s.heap := hP
  have hD : va_D A [(mo, .inr (5, [.int (w.1), .ref cs, .int (w.2.1), .int (w.2.2.1), .int (w.2.2.2.1)])), (cs, .inl (G.2.1 3, 6, .inr (.inr (.inr (.inr (f))))))] := hD
  have hw : fn_X9_compare a1 a2 w = _ := fn_X9_compare.eq_1 a1 a2 w
  refine lv_aload_n hx hb dc_X9_compare_0 rfl (lv_at hl 0 rfl) ?_
  refine lv_aload_n hx hb dc_X9_compare_1 rfl (lv_at hl 0 rfl) ?_
  refine lv_iload_n hx hb dc_X9_compare_2 rfl (lv_at hl 1 rfl) ?_
  refine lv_iload_n hx hb dc_X9_compare_3 rfl (lv_at hl 2 rfl) ?_
  refine ky_cV1 (As := [.int (a1), .int (a2)]) F (hE.at hfr hS) (mt_X9_areNo l G (mo) (a1) (a2)) kv_X9_104 ⟨⟨rfl, rfl⟩, by decide, by decide⟩ rfl hl.1 rfl (Nat.le_of_ble_eq_true rfl) ⟨Nat.le_of_ble_eq_true rfl, Nat.le_of_ble_eq_true rfl⟩ (va_recv hE.1 hP (ci := 5) (q0 := 0) rfl rfl) trivial dc_X9_compare_4 ?_
  refine ky_cVh (As := [.int (fn_X9_areNo (a1) (a2))]) (wr := []) F (hE.at hfr hS) hfr (mt_X9_startJ l G (mo) (cs) ((w.1, w.2.1, w.2.2.1, w.2.2.2.1)) (f) (fn_X9_areNo (a1) (a2)) s.heap.size ) kv_X9_55 ⟨⟨rfl, rfl⟩, by decide, by decide⟩ rfl hl.1 rfl (Nat.le_of_ble_eq_true rfl) ⟨Nat.le_of_ble_eq_true rfl, Nat.le_of_ble_eq_true rfl⟩ (va_recv hE.1 hP (ci := 5) (q0 := 0) rfl rfl) trivial hP hD hS hA [0, 1] [] rfl rfl (by decide) (by decide) (by decide) dc_X9_compare_7 ?_
  rintro v9 u9 H locs ⟨rfl, rfl⟩ hP hD hS - hz hk9
  obtain ⟨j_1, hj_1⟩ : ∃ j9, j9 = jst (fn_X9_areNo (a1) (a2)) := ⟨_, rfl⟩
  rw [← hj_1] at hP hD ⊢
  try rw [← hj_1] at hw
  have hP : va_P G.1 kcl [(mo, .inr (5, [.int (j_1), .ref cs, .int (w.2.1), .int (w.2.2.1), .int (w.2.2.2.1)])), (cs, .inl (G.2.1 3, 6, .inr (.inr (.inr (.inr (f))))))] H := hP
  have hD : va_D A [(mo, .inr (5, [.int (j_1), .ref cs, .int (w.2.1), .int (w.2.2.1), .int (w.2.2.2.1)])), (cs, .inl (G.2.1 3, 6, .inr (.inr (.inr (.inr (f))))))] := hD
  have hIT := hIT0.ro hAe hS
  refine W.widen (k := 0) (n := 0) (Nat.le_refl _) (Nat.le_refl _) ?_
  refine lv_if_eq (tgt := 17) hx hb dc_X9_compare_10 (by decide) (fun c_2 => ?_) (fun c_2 => ?_)
  · have hw := hw.trans (if_pos c_2)
    refine lv_aload_n hx hb dc_X9_compare_17 rfl (lv_at hl 0 rfl) ?_
    refine lv_iload_n hx hb dc_X9_compare_18 rfl (lv_at hl 1 rfl) ?_
    refine lv_iload_n hx hb dc_X9_compare_19 rfl (lv_at hl 2 rfl) ?_
    refine ky_cVh (As := [.int (a1), .int (a2)]) (wr := []) F (hE.at hfr hS) hfr (mt_X9_comparedNow l G mo cs N (j_1, w.2.1, w.2.2.1, w.2.2.2.1, w.2.2.2.2) (f)    (a1) (a2) H.size (lr_startB (hj_1.symm.trans c_2)).1 (lr_startB (hj_1.symm.trans c_2)).2) kv_X9_232 ⟨⟨rfl, rfl⟩, by decide, by decide⟩ rfl hl.1 rfl (Nat.le_of_ble_eq_true rfl) ⟨Nat.le_of_ble_eq_true rfl, Nat.le_of_ble_eq_true rfl⟩ (va_recv hE.1 hP (ci := 5) (q0 := 0) rfl rfl) hIT hP hD hS hA [0, 1] [] rfl rfl (by decide) (by decide) (by decide) dc_X9_compare_20 ?_
    rintro v9 ⟨w_3, f_3⟩ H locs ⟨rfl, hw_3⟩ hP hD hS hIT9 hz hk9
    have hw_3 : w_3 = (fn_X9_comparedNow (a1) (a2) (j_1, w.2.1, w.2.2.1, w.2.2.2.1, w.2.2.2.2)).2 := hw_3
    try rw [← hw_3] at hw
    have hP : va_P G.1 kcl [(mo, .inr (5, [.int ((w_3).1), .ref cs, .int ((w_3).2.1), .int ((w_3).2.2.1), .int ((w_3).2.2.2.1)])), (cs, .inl (G.2.1 3, 6, .inr (.inr (.inr (.inr (f_3))))))] H := hP
    have hD : va_D A [(mo, .inr (5, [.int ((w_3).1), .ref cs, .int ((w_3).2.1), .int ((w_3).2.2.1), .int ((w_3).2.2.2.1)])), (cs, .inl (G.2.1 3, 6, .inr (.inr (.inr (.inr (f_3))))))] := hD
    have hIT : ky_IT G mo cs N f_3 ((w_3).2.2.2.2) H := hIT9
    refine W.widen (k := 0) (n := 0) (Nat.le_refl _) (Nat.le_refl _) ?_
    have hP9 : va_P G.1 kcl (ky_WM G mo cs ((w_3)) (f_3)) H := hP.sub [0, 1] rfl
    have hD9 : va_D A (ky_WM G mo cs ((w_3)) (f_3)) := hD.sub [0, 1] (by decide) rfl
    refine W.widen (k := 0) (n := 0) (Nat.le_of_ble_eq_true rfl) (Nat.le_of_ble_eq_true rfl) ?_
    exact W.iret (v := (fn_X9_comparedNow (a1) (a2) (j_1, w.2.1, w.2.2.1, w.2.2.2.1, w.2.2.2.2)).1) hx hb hr (fun t ht hW => ⟨by rw [ht]; exact ky_endM (fun z => some (.int z)) ((fn_X9_comparedNow (a1) (a2) (j_1, w.2.1, w.2.2.1, w.2.2.2.1, w.2.2.2.2)).1) hw hP9 hD9 (hIT), hS.F ht⟩) hS.2.2 dc_X9_compare_23
  · have hw := hw.trans (if_neg c_2)
    refine lv_iconst (v := 0) hx hb dc_X9_compare_13 (by decide) ?_
    refine lv_goto (tgt := 23) hx hb dc_X9_compare_14 (by decide) ?_
    have hP9 : va_P G.1 kcl (ky_WM G mo cs ((j_1, w.2.1, w.2.2.1, w.2.2.2.1, w.2.2.2.2)) (f)) H := hP.sub [0, 1] rfl
    have hD9 : va_D A (ky_WM G mo cs ((j_1, w.2.1, w.2.2.1, w.2.2.2.1, w.2.2.2.2)) (f)) := hD.sub [0, 1] (by decide) rfl
    refine W.widen (k := 0) (n := 0) (Nat.le_of_ble_eq_true rfl) (Nat.le_of_ble_eq_true rfl) ?_
    exact W.iret (v := (0 : Int32)) hx hb hr (fun t ht hW => ⟨by rw [ht]; exact ky_endM (fun z => some (.int z)) ((0 : Int32)) hw hP9 hD9 (hIT), hS.F ht⟩) hS.2.2 dc_X9_compare_23
end
section
def fn_X9_apartNow (a1 : Int32) (a2 : Int32)  (w : ky_MV) : Int32 × ky_MV :=
  if (lg_cmp (fn_X8_rung ((w.2.2.2.2) (a2).toNatClampNeg)) (fn_X8_rung ((w.2.2.2.2) (a1).toNatClampNeg))) < (0 : Int32) then (((-1 : Int32), w)) else (if (lg_cmp (fn_X8_rung ((w.2.2.2.2) (a2).toNatClampNeg)) ((fn_X8_rung ((w.2.2.2.2) (a1).toNatClampNeg)) + ((40 : Int64)))) ≤ (0 : Int32) then ((((fn_X8_rung ((w.2.2.2.2) (a2).toNatClampNeg)) - (fn_X8_rung ((w.2.2.2.2) (a1).toNatClampNeg))).toInt32, w)) else (((-1 : Int32), w)))
set_option linter.constructorNameAsVariable false in
set_option maxHeartbeats 4000000 in
set_option maxRecDepth 100000 in
theorem mt_X9_apartNow (l : Launch) (G : ky_G) (mo cs : Nat) (N : Nat → Prop) (w : ky_MV) (f : Nat → Option Nat)    (a1 : Int32) (a2 : Int32) (sz : Nat) (h1 : vp_in (a1) 6) (h2 : vp_in (a2) 6) : Met l my_X9_apartNow (.code my_X9_apartNow prog_10_method_59_code 7 (some .int) :: ky_B) { frames := 1, cells := 0, slots := 0, locals := 20 } (ky_P G [.ref mo, .int (a1), .int (a2)] (ky_WM G mo cs w f) sz (fun H => ky_IT G mo cs N f w.2.2.2.2 H)) (ky_Q (S := ky_MV × (Nat → Option Nat)) G (va_A (ky_WM G mo cs w f) sz) (fun v u => v = some (.int (fn_X9_apartNow a1 a2 w).1) ∧ u.1 = (fn_X9_apartNow a1 a2 w).2) (fun u => ky_WM G mo cs u.1 u.2) (fun u H => ky_IT G mo cs N u.2 u.1.2.2.2.2 H)) 0 0 (va_A (ky_WM G mo cs w f) sz) := by
  refine ky_start (by decide) (Nat.le_of_ble_eq_true rfl) (fun p e s m below meth c F hE A hAe hsz hA hfr hP hD hS hX ls hl => ?_)
  obtain ⟨hx, hb, hml, hown, hr, hlocks, hts⟩ := id F
  have hIT0 := hX
  have hIT := hIT0
  have hl : lv_has ls 7 [(0, .ref mo), (1, .int (a1)), (2, .int (a2))] := hl
  have hP : va_P G.1 kcl [(mo, .inr (5, [.int (w.1), .ref cs, .int (w.2.1), .int (w.2.2.1), .int (w.2.2.2.1)])), (cs, .inl (G.2.1 3, 6, .inr (.inr (.inr (.inr (f))))))] s.heap := hP
  have hD : va_D A [(mo, .inr (5, [.int (w.1), .ref cs, .int (w.2.1), .int (w.2.2.1), .int (w.2.2.2.1)])), (cs, .inl (G.2.1 3, 6, .inr (.inr (.inr (.inr (f))))))] := hD
  have hw : fn_X9_apartNow a1 a2 w = _ := fn_X9_apartNow.eq_1 a1 a2 w
  refine lv_aload_n hx hb dc_X9_apartNow_0 rfl (lv_at hl 0 rfl) ?_
  refine va_get (D := G.1) (ci := 5) (v := .ref cs) (C := RX9) (T := TX9) (N := 5) hx hb hts ki_X9 hown hE.1 hP 0 rfl rfl 1 (by decide) (hts _ kw_6_20) (fun _ h9 => h9) rfl dc_X9_apartNow_1 ?_
  refine lv_iload_n hx hb dc_X9_apartNow_4 rfl (lv_at hl 1 rfl) ?_
  refine va_aldq hx hb hE.1 hP 1 3 rfl rfl h1 dc_X9_apartNow_5 ?_
  obtain ⟨b_0, hb_0, hI_0, ho_0⟩ := hIT.2 _ (ky_i6 h1)
  rw [ky_rf hb_0]
  have hX_0 : ky_It G b_0 ((w.2.2.2.2) (a1).toNatClampNeg) s.heap := by obtain ⟨b9, e9, i9, -⟩ := hIT0.2 _ (ky_i6 h1); have z9 : b9 = b_0 := Option.some.inj (e9.symm.trans hb_0); exact z9 ▸ i9
  refine ky_cV1 (As := []) F (hE.at hfr hS) (mt_X8_rung l G (b_0) (((w.2.2.2.2) (a1).toNatClampNeg)) ) kv_X9_217 ⟨⟨rfl, rfl⟩, by decide, by decide⟩ rfl hl.1 rfl (Nat.le_of_ble_eq_true rfl) ⟨Nat.le_of_ble_eq_true rfl, Nat.le_of_ble_eq_true rfl⟩ (va_recv hE.1 hI_0 (ci := 4) (q0 := 0) rfl rfl) hI_0 dc_X9_apartNow_6 ?_
  refine lv_lstore_n (lv' := [(3, .long (fn_X8_rung ((w.2.2.2.2) (a1).toNatClampNeg))), (0, .ref mo), (1, .int (a1)), (2, .int (a2))]) hx hb dc_X9_apartNow_9 rfl hl (by decide) rfl (fun ls hl => ?_)
  refine lv_aload_n hx hb dc_X9_apartNow_10 rfl (lv_at hl 1 rfl) ?_
  refine va_get (D := G.1) (ci := 5) (v := .ref cs) (C := RX9) (T := TX9) (N := 5) hx hb hts ki_X9 hown hE.1 hP 0 rfl rfl 1 (by decide) (hts _ kw_6_20) (fun _ h9 => h9) rfl dc_X9_apartNow_11 ?_
  refine lv_iload_n hx hb dc_X9_apartNow_14 rfl (lv_at hl 3 rfl) ?_
  refine va_aldq hx hb hE.1 hP 1 3 rfl rfl h2 dc_X9_apartNow_15 ?_
  obtain ⟨b_1, hb_1, hI_1, ho_1⟩ := hIT.2 _ (ky_i6 h2)
  rw [ky_rf hb_1]
  have hX_1 : ky_It G b_1 ((w.2.2.2.2) (a2).toNatClampNeg) s.heap := by obtain ⟨b9, e9, i9, -⟩ := hIT0.2 _ (ky_i6 h2); have z9 : b9 = b_1 := Option.some.inj (e9.symm.trans hb_1); exact z9 ▸ i9
  refine ky_cV1 (As := []) F (hE.at hfr hS) (mt_X8_rung l G (b_1) (((w.2.2.2.2) (a2).toNatClampNeg)) ) kv_X9_217 ⟨⟨rfl, rfl⟩, by decide, by decide⟩ rfl hl.1 rfl (Nat.le_of_ble_eq_true rfl) ⟨Nat.le_of_ble_eq_true rfl, Nat.le_of_ble_eq_true rfl⟩ (va_recv hE.1 hI_1 (ci := 4) (q0 := 0) rfl rfl) hI_1 dc_X9_apartNow_16 ?_
  refine lv_lstore (lv' := [(5, .long (fn_X8_rung ((w.2.2.2.2) (a2).toNatClampNeg))), (3, .long (fn_X8_rung ((w.2.2.2.2) (a1).toNatClampNeg))), (0, .ref mo), (1, .int (a1)), (2, .int (a2))]) hx hb dc_X9_apartNow_19 hl (by decide) rfl (fun ls hl => ?_)
  refine lv_lload hx hb dc_X9_apartNow_21 (lv_at hl 0 rfl) ?_
  refine lv_lload_n hx hb dc_X9_apartNow_23 rfl (lv_at hl 1 rfl) ?_
  refine W.lcmp hx hb dc_X9_apartNow_24 ?_
  refine lv_if_lt (tgt := 39) hx hb dc_X9_apartNow_25 (by decide) (fun c_2 => ?_) (fun c_2 => ?_)
  · have hw := hw.trans (if_pos c_2)
    refine lv_iconst (v := (-1)) hx hb dc_X9_apartNow_39 (by decide) ?_
    refine lv_goto (tgt := 48) hx hb dc_X9_apartNow_40 (by decide) ?_
    have hP9 : va_P G.1 kcl (ky_WM G mo cs (w) (f)) s.heap := hP.sub [0, 1] rfl
    have hD9 : va_D A (ky_WM G mo cs (w) (f)) := hD.sub [0, 1] (by decide) rfl
    refine W.widen (k := 0) (n := 0) (Nat.le_of_ble_eq_true rfl) (Nat.le_of_ble_eq_true rfl) ?_
    exact W.iret (v := (-1 : Int32)) hx hb hr (fun t ht hW => ⟨by rw [ht]; exact ky_endM (fun z => some (.int z)) ((-1 : Int32)) hw hP9 hD9 (hIT), hS.F ht⟩) hS.2.2 dc_X9_apartNow_48
  · have hw := hw.trans (if_neg c_2)
    refine lv_lload hx hb dc_X9_apartNow_28 (lv_at hl 0 rfl) ?_
    refine lv_lload_n hx hb dc_X9_apartNow_30 rfl (lv_at hl 1 rfl) ?_
    refine lv_ldc2 (v := 40) hx hb hown (hts _ kw_7_196) dc_X9_apartNow_31 ?_
    refine lv_ladd hx hb dc_X9_apartNow_34 ?_
    refine W.lcmp hx hb dc_X9_apartNow_35 ?_
    refine lv_if_le (tgt := 43) hx hb dc_X9_apartNow_36 (by decide) (fun c_3 => ?_) (fun c_3 => ?_)
    · have hw := hw.trans (if_pos c_3)
      refine lv_lload hx hb dc_X9_apartNow_43 (lv_at hl 0 rfl) ?_
      refine lv_lload_n hx hb dc_X9_apartNow_45 rfl (lv_at hl 1 rfl) ?_
      refine lv_lsub hx hb dc_X9_apartNow_46 ?_
      refine lv_l2i (v := ((fn_X8_rung ((w.2.2.2.2) (a2).toNatClampNeg)) - (fn_X8_rung ((w.2.2.2.2) (a1).toNatClampNeg))).toInt32) hx hb dc_X9_apartNow_47 rfl ?_
      have hP9 : va_P G.1 kcl (ky_WM G mo cs (w) (f)) s.heap := hP.sub [0, 1] rfl
      have hD9 : va_D A (ky_WM G mo cs (w) (f)) := hD.sub [0, 1] (by decide) rfl
      refine W.widen (k := 0) (n := 0) (Nat.le_of_ble_eq_true rfl) (Nat.le_of_ble_eq_true rfl) ?_
      exact W.iret (v := ((fn_X8_rung ((w.2.2.2.2) (a2).toNatClampNeg)) - (fn_X8_rung ((w.2.2.2.2) (a1).toNatClampNeg))).toInt32) hx hb hr (fun t ht hW => ⟨by rw [ht]; exact ky_endM (fun z => some (.int z)) (((fn_X8_rung ((w.2.2.2.2) (a2).toNatClampNeg)) - (fn_X8_rung ((w.2.2.2.2) (a1).toNatClampNeg))).toInt32) hw hP9 hD9 (hIT), hS.F ht⟩) hS.2.2 dc_X9_apartNow_48
    · have hw := hw.trans (if_neg c_3)
      refine lv_iconst (v := (-1)) hx hb dc_X9_apartNow_39 (by decide) ?_
      refine lv_goto (tgt := 48) hx hb dc_X9_apartNow_40 (by decide) ?_
      have hP9 : va_P G.1 kcl (ky_WM G mo cs (w) (f)) s.heap := hP.sub [0, 1] rfl
      have hD9 : va_D A (ky_WM G mo cs (w) (f)) := hD.sub [0, 1] (by decide) rfl
      refine W.widen (k := 0) (n := 0) (Nat.le_of_ble_eq_true rfl) (Nat.le_of_ble_eq_true rfl) ?_
      exact W.iret (v := (-1 : Int32)) hx hb hr (fun t ht hW => ⟨by rw [ht]; exact ky_endM (fun z => some (.int z)) ((-1 : Int32)) hw hP9 hD9 (hIT), hS.F ht⟩) hS.2.2 dc_X9_apartNow_48
end
section
def fn_X9_apart (a1 : Int32) (a2 : Int32)  (w : ky_MV) : Int32 × ky_MV :=
  if (jst (fn_X9_areNo (a1) (a2))) = (0 : Int32) then (((fn_X9_apartNow (a1) (a2) (jst (fn_X9_areNo (a1) (a2)), w.2.1, w.2.2.1, w.2.2.2.1, w.2.2.2.2)).1, ((fn_X9_apartNow (a1) (a2) (jst (fn_X9_areNo (a1) (a2)), w.2.1, w.2.2.1, w.2.2.2.1, w.2.2.2.2)).2))) else (((0 : Int32), (jst (fn_X9_areNo (a1) (a2)), w.2.1, w.2.2.1, w.2.2.2.1, w.2.2.2.2)))
set_option linter.constructorNameAsVariable false in
set_option maxHeartbeats 4000000 in
set_option maxRecDepth 100000 in
theorem mt_X9_apart (l : Launch) (G : ky_G) (mo cs : Nat) (N : Nat → Prop) (w : ky_MV) (f : Nat → Option Nat)    (a1 : Int32) (a2 : Int32) (sz : Nat) : Met l my_X9_apart (.code my_X9_apart prog_10_method_60_code 3 (some .int) :: ky_B) { frames := 3, cells := 0, slots := 0, locals := 64 } (ky_P G [.ref mo, .int (a1), .int (a2)] (ky_WM G mo cs w f) sz (fun H => ky_IT G mo cs N f w.2.2.2.2 H)) (ky_Q (S := ky_MV × (Nat → Option Nat)) G (va_A (ky_WM G mo cs w f) sz) (fun v u => v = some (.int (fn_X9_apart a1 a2 w).1) ∧ u.1 = (fn_X9_apart a1 a2 w).2) (fun u => ky_WM G mo cs u.1 u.2) (fun u H => ky_IT G mo cs N u.2 u.1.2.2.2.2 H)) 0 0 (va_A (ky_WM G mo cs w f) sz) := by
  refine ky_start (by decide) (Nat.le_of_ble_eq_true rfl) (fun p e s m below meth c F hE A hAe hsz hA hfr hP hD hS hX ls hl => ?_)
  obtain ⟨hx, hb, hml, hown, hr, hlocks, hts⟩ := id F
  have hIT0 := hX
  have hIT := hIT0
  have hl : lv_has ls 3 [(0, .ref mo), (1, .int (a1)), (2, .int (a2))] := hl
  have hP : va_P G.1 kcl [(mo, .inr (5, [.int (w.1), .ref cs, .int (w.2.1), .int (w.2.2.1), .int (w.2.2.2.1)])), (cs, .inl (G.2.1 3, 6, .inr (.inr (.inr (.inr (f))))))] s.heap := hP
  have hD : va_D A [(mo, .inr (5, [.int (w.1), .ref cs, .int (w.2.1), .int (w.2.2.1), .int (w.2.2.2.1)])), (cs, .inl (G.2.1 3, 6, .inr (.inr (.inr (.inr (f))))))] := hD
  have hw : fn_X9_apart a1 a2 w = _ := fn_X9_apart.eq_1 a1 a2 w
  refine lv_aload_n hx hb dc_X9_apart_0 rfl (lv_at hl 0 rfl) ?_
  refine lv_aload_n hx hb dc_X9_apart_1 rfl (lv_at hl 0 rfl) ?_
  refine lv_iload_n hx hb dc_X9_apart_2 rfl (lv_at hl 1 rfl) ?_
  refine lv_iload_n hx hb dc_X9_apart_3 rfl (lv_at hl 2 rfl) ?_
  refine ky_cV1 (As := [.int (a1), .int (a2)]) F (hE.at hfr hS) (mt_X9_areNo l G (mo) (a1) (a2)) kv_X9_104 ⟨⟨rfl, rfl⟩, by decide, by decide⟩ rfl hl.1 rfl (Nat.le_of_ble_eq_true rfl) ⟨Nat.le_of_ble_eq_true rfl, Nat.le_of_ble_eq_true rfl⟩ (va_recv hE.1 hP (ci := 5) (q0 := 0) rfl rfl) trivial dc_X9_apart_4 ?_
  refine ky_cVh (As := [.int (fn_X9_areNo (a1) (a2))]) (wr := []) F (hE.at hfr hS) hfr (mt_X9_startJ l G (mo) (cs) ((w.1, w.2.1, w.2.2.1, w.2.2.2.1)) (f) (fn_X9_areNo (a1) (a2)) s.heap.size ) kv_X9_55 ⟨⟨rfl, rfl⟩, by decide, by decide⟩ rfl hl.1 rfl (Nat.le_of_ble_eq_true rfl) ⟨Nat.le_of_ble_eq_true rfl, Nat.le_of_ble_eq_true rfl⟩ (va_recv hE.1 hP (ci := 5) (q0 := 0) rfl rfl) trivial hP hD hS hA [0, 1] [] rfl rfl (by decide) (by decide) (by decide) dc_X9_apart_7 ?_
  rintro v9 u9 H locs ⟨rfl, rfl⟩ hP hD hS - hz hk9
  obtain ⟨j_1, hj_1⟩ : ∃ j9, j9 = jst (fn_X9_areNo (a1) (a2)) := ⟨_, rfl⟩
  rw [← hj_1] at hP hD ⊢
  try rw [← hj_1] at hw
  have hP : va_P G.1 kcl [(mo, .inr (5, [.int (j_1), .ref cs, .int (w.2.1), .int (w.2.2.1), .int (w.2.2.2.1)])), (cs, .inl (G.2.1 3, 6, .inr (.inr (.inr (.inr (f))))))] H := hP
  have hD : va_D A [(mo, .inr (5, [.int (j_1), .ref cs, .int (w.2.1), .int (w.2.2.1), .int (w.2.2.2.1)])), (cs, .inl (G.2.1 3, 6, .inr (.inr (.inr (.inr (f))))))] := hD
  have hIT := hIT0.ro hAe hS
  refine W.widen (k := 0) (n := 0) (Nat.le_refl _) (Nat.le_refl _) ?_
  refine lv_if_eq (tgt := 17) hx hb dc_X9_apart_10 (by decide) (fun c_2 => ?_) (fun c_2 => ?_)
  · have hw := hw.trans (if_pos c_2)
    refine lv_aload_n hx hb dc_X9_apart_17 rfl (lv_at hl 0 rfl) ?_
    refine lv_iload_n hx hb dc_X9_apart_18 rfl (lv_at hl 1 rfl) ?_
    refine lv_iload_n hx hb dc_X9_apart_19 rfl (lv_at hl 2 rfl) ?_
    refine ky_cVh (As := [.int (a1), .int (a2)]) (wr := []) F (hE.at hfr hS) hfr (mt_X9_apartNow l G mo cs N (j_1, w.2.1, w.2.2.1, w.2.2.2.1, w.2.2.2.2) (f)    (a1) (a2) H.size (lr_startB (hj_1.symm.trans c_2)).1 (lr_startB (hj_1.symm.trans c_2)).2) kv_X9_241 ⟨⟨rfl, rfl⟩, by decide, by decide⟩ rfl hl.1 rfl (Nat.le_of_ble_eq_true rfl) ⟨Nat.le_of_ble_eq_true rfl, Nat.le_of_ble_eq_true rfl⟩ (va_recv hE.1 hP (ci := 5) (q0 := 0) rfl rfl) hIT hP hD hS hA [0, 1] [] rfl rfl (by decide) (by decide) (by decide) dc_X9_apart_20 ?_
    rintro v9 ⟨w_3, f_3⟩ H locs ⟨rfl, hw_3⟩ hP hD hS hIT9 hz hk9
    have hw_3 : w_3 = (fn_X9_apartNow (a1) (a2) (j_1, w.2.1, w.2.2.1, w.2.2.2.1, w.2.2.2.2)).2 := hw_3
    try rw [← hw_3] at hw
    have hP : va_P G.1 kcl [(mo, .inr (5, [.int ((w_3).1), .ref cs, .int ((w_3).2.1), .int ((w_3).2.2.1), .int ((w_3).2.2.2.1)])), (cs, .inl (G.2.1 3, 6, .inr (.inr (.inr (.inr (f_3))))))] H := hP
    have hD : va_D A [(mo, .inr (5, [.int ((w_3).1), .ref cs, .int ((w_3).2.1), .int ((w_3).2.2.1), .int ((w_3).2.2.2.1)])), (cs, .inl (G.2.1 3, 6, .inr (.inr (.inr (.inr (f_3))))))] := hD
    have hIT : ky_IT G mo cs N f_3 ((w_3).2.2.2.2) H := hIT9
    refine W.widen (k := 0) (n := 0) (Nat.le_refl _) (Nat.le_refl _) ?_
    have hP9 : va_P G.1 kcl (ky_WM G mo cs ((w_3)) (f_3)) H := hP.sub [0, 1] rfl
    have hD9 : va_D A (ky_WM G mo cs ((w_3)) (f_3)) := hD.sub [0, 1] (by decide) rfl
    refine W.widen (k := 0) (n := 0) (Nat.le_of_ble_eq_true rfl) (Nat.le_of_ble_eq_true rfl) ?_
    exact W.iret (v := (fn_X9_apartNow (a1) (a2) (j_1, w.2.1, w.2.2.1, w.2.2.2.1, w.2.2.2.2)).1) hx hb hr (fun t ht hW => ⟨by rw [ht]; exact ky_endM (fun z => some (.int z)) ((fn_X9_apartNow (a1) (a2) (j_1, w.2.1, w.2.2.1, w.2.2.2.1, w.2.2.2.2)).1) hw hP9 hD9 (hIT), hS.F ht⟩) hS.2.2 dc_X9_apart_23
  · have hw := hw.trans (if_neg c_2)
    refine lv_iconst (v := 0) hx hb dc_X9_apart_13 (by decide) ?_
    refine lv_goto (tgt := 23) hx hb dc_X9_apart_14 (by decide) ?_
    have hP9 : va_P G.1 kcl (ky_WM G mo cs ((j_1, w.2.1, w.2.2.1, w.2.2.2.1, w.2.2.2.2)) (f)) H := hP.sub [0, 1] rfl
    have hD9 : va_D A (ky_WM G mo cs ((j_1, w.2.1, w.2.2.1, w.2.2.2.1, w.2.2.2.2)) (f)) := hD.sub [0, 1] (by decide) rfl
    refine W.widen (k := 0) (n := 0) (Nat.le_of_ble_eq_true rfl) (Nat.le_of_ble_eq_true rfl) ?_
    exact W.iret (v := (0 : Int32)) hx hb hr (fun t ht hW => ⟨by rw [ht]; exact ky_endM (fun z => some (.int z)) ((0 : Int32)) hw hP9 hD9 (hIT), hS.F ht⟩) hS.2.2 dc_X9_apart_23
end
section
def fn_X9_isBack (a1 : Int32) (a2 : Int32)  (w : ky_MV) : Int32 × ky_MV :=
  if (jst (fn_X9_isNo (a1))) = (0 : Int32) then (if (fn_X9_isOf (a2) ((-2200 : Int32)) ((2200 : Int32))) = (0 : Int32) then (if (jrr (jrt ((1 : Int32)) ((2 : Int32)) (jst (fn_X9_isNo (a1))))) = (0 : Int32) then (if (fn_X8_isSame (fn_X8_times ((-(a2)).toInt64) (fn_X8_times ((a2).toInt64) ((w.2.2.2.2) (a1).toNatClampNeg))) ((w.2.2.2.2) (a1).toNatClampNeg)) = (0 : Int32) then (((0 : Int32), (jrt ((1 : Int32)) ((2 : Int32)) (jst (fn_X9_isNo (a1))), w.2.1, w.2.2.1, w.2.2.2.1, w.2.2.2.2))) else (((1 : Int32), (jrt ((1 : Int32)) ((2 : Int32)) (jst (fn_X9_isNo (a1))), w.2.1, w.2.2.1, w.2.2.2.1, w.2.2.2.2)))) else (((0 : Int32), (jrt ((1 : Int32)) ((2 : Int32)) (jst (fn_X9_isNo (a1))), w.2.1, w.2.2.1, w.2.2.2.1, w.2.2.2.2)))) else (if (jrr (jrt ((0 : Int32)) ((2 : Int32)) (jst (fn_X9_isNo (a1))))) = (0 : Int32) then (if (fn_X8_isSame (fn_X8_times ((-(a2)).toInt64) (fn_X8_times ((a2).toInt64) ((w.2.2.2.2) (a1).toNatClampNeg))) ((w.2.2.2.2) (a1).toNatClampNeg)) = (0 : Int32) then (((0 : Int32), (jrt ((0 : Int32)) ((2 : Int32)) (jst (fn_X9_isNo (a1))), w.2.1, w.2.2.1, w.2.2.2.1, w.2.2.2.2))) else (((1 : Int32), (jrt ((0 : Int32)) ((2 : Int32)) (jst (fn_X9_isNo (a1))), w.2.1, w.2.2.1, w.2.2.2.1, w.2.2.2.2)))) else (((0 : Int32), (jrt ((0 : Int32)) ((2 : Int32)) (jst (fn_X9_isNo (a1))), w.2.1, w.2.2.1, w.2.2.2.1, w.2.2.2.2))))) else (((0 : Int32), (jst (fn_X9_isNo (a1)), w.2.1, w.2.2.1, w.2.2.2.1, w.2.2.2.2)))
def fk_X9_isBack (a1 : Int32) (a2 : Int32)  (w : ky_MV) : Prop :=
  ((((jst (fn_X9_isNo (a1))) = (0 : Int32)) → ((((fn_X9_isOf (a2) ((-2200 : Int32)) ((2200 : Int32))) = (0 : Int32)) → ((((jrr (jrt ((1 : Int32)) ((2 : Int32)) (jst (fn_X9_isNo (a1))))) = (0 : Int32)) → ((fk_X8_times ((a2).toInt64) ((w.2.2.2.2) (a1).toNatClampNeg)) ∧ ((fk_X8_times ((-(a2)).toInt64) (fn_X8_times ((a2).toInt64) ((w.2.2.2.2) (a1).toNatClampNeg))) ∧ ((((fn_X8_isSame (fn_X8_times ((-(a2)).toInt64) (fn_X8_times ((a2).toInt64) ((w.2.2.2.2) (a1).toNatClampNeg))) ((w.2.2.2.2) (a1).toNatClampNeg)) = (0 : Int32)) → (True)) ∧ (¬ ((fn_X8_isSame (fn_X8_times ((-(a2)).toInt64) (fn_X8_times ((a2).toInt64) ((w.2.2.2.2) (a1).toNatClampNeg))) ((w.2.2.2.2) (a1).toNatClampNeg)) = (0 : Int32)) → (True)))))) ∧ (¬ ((jrr (jrt ((1 : Int32)) ((2 : Int32)) (jst (fn_X9_isNo (a1))))) = (0 : Int32)) → (True)))) ∧ (¬ ((fn_X9_isOf (a2) ((-2200 : Int32)) ((2200 : Int32))) = (0 : Int32)) → ((((jrr (jrt ((0 : Int32)) ((2 : Int32)) (jst (fn_X9_isNo (a1))))) = (0 : Int32)) → ((fk_X8_times ((a2).toInt64) ((w.2.2.2.2) (a1).toNatClampNeg)) ∧ ((fk_X8_times ((-(a2)).toInt64) (fn_X8_times ((a2).toInt64) ((w.2.2.2.2) (a1).toNatClampNeg))) ∧ ((((fn_X8_isSame (fn_X8_times ((-(a2)).toInt64) (fn_X8_times ((a2).toInt64) ((w.2.2.2.2) (a1).toNatClampNeg))) ((w.2.2.2.2) (a1).toNatClampNeg)) = (0 : Int32)) → (True)) ∧ (¬ ((fn_X8_isSame (fn_X8_times ((-(a2)).toInt64) (fn_X8_times ((a2).toInt64) ((w.2.2.2.2) (a1).toNatClampNeg))) ((w.2.2.2.2) (a1).toNatClampNeg)) = (0 : Int32)) → (True)))))) ∧ (¬ ((jrr (jrt ((0 : Int32)) ((2 : Int32)) (jst (fn_X9_isNo (a1))))) = (0 : Int32)) → (True)))))) ∧ (¬ ((jst (fn_X9_isNo (a1))) = (0 : Int32)) → (True))) ∧ True
set_option linter.constructorNameAsVariable false in
set_option maxHeartbeats 4000000 in
set_option maxRecDepth 100000 in
theorem mt_X9_isBack (l : Launch) (G : ky_G) (mo cs : Nat) (N : Nat → Prop) (w : ky_MV) (f : Nat → Option Nat)    (a1 : Int32) (a2 : Int32) (sz : Nat) (hk : fk_X9_isBack a1 a2 w) : Met l my_X9_isBack (.code my_X9_isBack prog_10_method_70_code 3 (some .boolean) :: ky_B) { frames := 3, cells := 2, slots := 4, locals := 62 } (ky_P G [.ref mo, .int (a1), .int (a2)] (ky_WM G mo cs w f) sz (fun H => ky_IT G mo cs N f w.2.2.2.2 H)) (ky_Q (S := ky_MV × (Nat → Option Nat)) G (va_A (ky_WM G mo cs w f) sz) (fun v u => v = some (.int (fn_X9_isBack a1 a2 w).1) ∧ u.1 = (fn_X9_isBack a1 a2 w).2) (fun u => ky_WM G mo cs u.1 u.2) (fun u H => ky_IT G mo cs N u.2 u.1.2.2.2.2 H)) 2 4 (va_A (ky_WM G mo cs w f) sz) := by
  refine ky_start (by decide) (Nat.le_of_ble_eq_true rfl) (fun p e s m below meth c F hE A hAe hsz hA hfr hP hD hS hX ls hl => ?_)
  obtain ⟨hx, hb, hml, hown, hr, hlocks, hts⟩ := id F
  have hIT0 := hX
  have hIT := hIT0
  have hl : lv_has ls 3 [(0, .ref mo), (1, .int (a1)), (2, .int (a2))] := hl
  have hP : va_P G.1 kcl [(mo, .inr (5, [.int (w.1), .ref cs, .int (w.2.1), .int (w.2.2.1), .int (w.2.2.2.1)])), (cs, .inl (G.2.1 3, 6, .inr (.inr (.inr (.inr (f))))))] s.heap := hP
  have hD : va_D A [(mo, .inr (5, [.int (w.1), .ref cs, .int (w.2.1), .int (w.2.2.1), .int (w.2.2.2.1)])), (cs, .inl (G.2.1 3, 6, .inr (.inr (.inr (.inr (f))))))] := hD
  have hw : fn_X9_isBack a1 a2 w = _ := fn_X9_isBack.eq_1 a1 a2 w
  have hk : (((jst (fn_X9_isNo (a1))) = (0 : Int32)) → ((((fn_X9_isOf (a2) ((-2200 : Int32)) ((2200 : Int32))) = (0 : Int32)) → ((((jrr (jrt ((1 : Int32)) ((2 : Int32)) (jst (fn_X9_isNo (a1))))) = (0 : Int32)) → ((fk_X8_times ((a2).toInt64) ((w.2.2.2.2) (a1).toNatClampNeg)) ∧ ((fk_X8_times ((-(a2)).toInt64) (fn_X8_times ((a2).toInt64) ((w.2.2.2.2) (a1).toNatClampNeg))) ∧ ((((fn_X8_isSame (fn_X8_times ((-(a2)).toInt64) (fn_X8_times ((a2).toInt64) ((w.2.2.2.2) (a1).toNatClampNeg))) ((w.2.2.2.2) (a1).toNatClampNeg)) = (0 : Int32)) → (True)) ∧ (¬ ((fn_X8_isSame (fn_X8_times ((-(a2)).toInt64) (fn_X8_times ((a2).toInt64) ((w.2.2.2.2) (a1).toNatClampNeg))) ((w.2.2.2.2) (a1).toNatClampNeg)) = (0 : Int32)) → (True)))))) ∧ (¬ ((jrr (jrt ((1 : Int32)) ((2 : Int32)) (jst (fn_X9_isNo (a1))))) = (0 : Int32)) → (True)))) ∧ (¬ ((fn_X9_isOf (a2) ((-2200 : Int32)) ((2200 : Int32))) = (0 : Int32)) → ((((jrr (jrt ((0 : Int32)) ((2 : Int32)) (jst (fn_X9_isNo (a1))))) = (0 : Int32)) → ((fk_X8_times ((a2).toInt64) ((w.2.2.2.2) (a1).toNatClampNeg)) ∧ ((fk_X8_times ((-(a2)).toInt64) (fn_X8_times ((a2).toInt64) ((w.2.2.2.2) (a1).toNatClampNeg))) ∧ ((((fn_X8_isSame (fn_X8_times ((-(a2)).toInt64) (fn_X8_times ((a2).toInt64) ((w.2.2.2.2) (a1).toNatClampNeg))) ((w.2.2.2.2) (a1).toNatClampNeg)) = (0 : Int32)) → (True)) ∧ (¬ ((fn_X8_isSame (fn_X8_times ((-(a2)).toInt64) (fn_X8_times ((a2).toInt64) ((w.2.2.2.2) (a1).toNatClampNeg))) ((w.2.2.2.2) (a1).toNatClampNeg)) = (0 : Int32)) → (True)))))) ∧ (¬ ((jrr (jrt ((0 : Int32)) ((2 : Int32)) (jst (fn_X9_isNo (a1))))) = (0 : Int32)) → (True)))))) ∧ (¬ ((jst (fn_X9_isNo (a1))) = (0 : Int32)) → (True)) := hk.1
  refine lv_aload_n hx hb dc_X9_isBack_0 rfl (lv_at hl 0 rfl) ?_
  refine lv_iload_n hx hb dc_X9_isBack_1 rfl (lv_at hl 1 rfl) ?_
  refine ky_cS0 (As := [.int (a1)]) F (mt_X9_isNo l (a1)) ks_X9_51 ⟨⟨rfl, rfl⟩, by decide, by decide⟩ rfl hl.1 rfl (Nat.le_of_ble_eq_true rfl) ⟨Nat.le_of_ble_eq_true rfl, Nat.le_of_ble_eq_true rfl⟩ dc_X9_isBack_2 ?_
  refine ky_cVh (As := [.int (fn_X9_isNo (a1))]) (wr := []) F (hE.at hfr hS) hfr (mt_X9_startJ l G (mo) (cs) ((w.1, w.2.1, w.2.2.1, w.2.2.2.1)) (f) (fn_X9_isNo (a1)) s.heap.size ) kv_X9_55 ⟨⟨rfl, rfl⟩, by decide, by decide⟩ rfl hl.1 rfl (Nat.le_of_ble_eq_true rfl) ⟨Nat.le_of_ble_eq_true rfl, Nat.le_of_ble_eq_true rfl⟩ (va_recv hE.1 hP (ci := 5) (q0 := 0) rfl rfl) trivial hP hD hS hA [0, 1] [] rfl rfl (by decide) (by decide) (by decide) dc_X9_isBack_5 ?_
  rintro v9 u9 H locs ⟨rfl, rfl⟩ hP hD hS - hz hk9
  obtain ⟨j_1, hj_1⟩ : ∃ j9, j9 = jst (fn_X9_isNo (a1)) := ⟨_, rfl⟩
  rw [← hj_1] at hP hD ⊢
  try rw [← hj_1] at hw
  try rw [← hj_1] at hk
  have hP : va_P G.1 kcl [(mo, .inr (5, [.int (j_1), .ref cs, .int (w.2.1), .int (w.2.2.1), .int (w.2.2.2.1)])), (cs, .inl (G.2.1 3, 6, .inr (.inr (.inr (.inr (f))))))] H := hP
  have hD : va_D A [(mo, .inr (5, [.int (j_1), .ref cs, .int (w.2.1), .int (w.2.2.1), .int (w.2.2.2.1)])), (cs, .inl (G.2.1 3, 6, .inr (.inr (.inr (.inr (f))))))] := hD
  have hIT := hIT0.ro hAe hS
  refine W.widen (k := 0) (n := 0) (Nat.le_refl _) (Nat.le_refl _) ?_
  refine lv_if_ne (tgt := 70) hx hb dc_X9_isBack_8 (by decide) (fun c_2 => ?_) (fun c_2 => ?_)
  · have hw := hw.trans (if_neg c_2)
    have hk := hk.2 c_2
    refine lv_iconst (v := 0) hx hb dc_X9_isBack_70 (by decide) ?_
    have hP9 : va_P G.1 kcl (ky_WM G mo cs ((j_1, w.2.1, w.2.2.1, w.2.2.2.1, w.2.2.2.2)) (f)) H := hP.sub [0, 1] rfl
    have hD9 : va_D A (ky_WM G mo cs ((j_1, w.2.1, w.2.2.1, w.2.2.2.1, w.2.2.2.2)) (f)) := hD.sub [0, 1] (by decide) rfl
    refine W.widen (k := 2) (n := 4) (Nat.le_of_ble_eq_true rfl) (Nat.le_of_ble_eq_true rfl) ?_
    exact W.zret (v := (0 : Int32)) hx hb hr (by decide) (fun t ht hW => ⟨by rw [ht]; exact ky_endM (fun z => some (.int z)) ((0 : Int32)) hw hP9 hD9 (hIT), hS.F ht⟩) hS.2.2 dc_X9_isBack_71
  · have hw := hw.trans (if_pos c_2)
    have hk := hk.1 c_2
    refine lv_aload_n hx hb dc_X9_isBack_11 rfl (lv_at hl 0 rfl) ?_
    refine lv_iload_n hx hb dc_X9_isBack_12 rfl (lv_at hl 2 rfl) ?_
    refine lv_sipush (v := (-2200)) hx hb dc_X9_isBack_13 (by decide) ?_
    refine lv_sipush (v := 2200) hx hb dc_X9_isBack_16 (by decide) ?_
    refine ky_cS0 (As := [.int (a2), .int ((-2200 : Int32)), .int ((2200 : Int32))]) F (mt_X9_isOf l (a2) ((-2200 : Int32)) ((2200 : Int32))) ks_X9_40 ⟨⟨rfl, rfl⟩, by decide, by decide⟩ rfl hl.1 rfl (Nat.le_of_ble_eq_true rfl) ⟨Nat.le_of_ble_eq_true rfl, Nat.le_of_ble_eq_true rfl⟩ dc_X9_isBack_19 ?_
    refine lv_if_ne (tgt := 29) hx hb dc_X9_isBack_22 (by decide) (fun c_3 => ?_) (fun c_3 => ?_)
    · have hw := hw.trans (if_neg c_3)
      have hk := hk.2 c_3
      refine lv_iconst (v := 0) hx hb dc_X9_isBack_29 (by decide) ?_
      refine lv_iconst (v := 2) hx hb dc_X9_isBack_30 (by decide) ?_
      refine ky_cVh (As := [.int ((0 : Int32)), .int ((2 : Int32))]) (wr := []) F (hE.at hfr hS) hfr (mt_X9_refuseJ l G (mo) (cs) ((j_1, w.2.1, w.2.2.1, w.2.2.2.1)) (f) ((0 : Int32)) ((2 : Int32)) H.size ) kv_X9_36 ⟨⟨rfl, rfl⟩, by decide, by decide⟩ rfl hl.1 rfl (Nat.le_of_ble_eq_true rfl) ⟨Nat.le_of_ble_eq_true rfl, Nat.le_of_ble_eq_true rfl⟩ (va_recv hE.1 hP (ci := 5) (q0 := 0) rfl rfl) trivial hP hD hS hA [0, 1] [] rfl rfl (by decide) (by decide) (by decide) dc_X9_isBack_31 ?_
      rintro v9 u9 H locs ⟨rfl, rfl⟩ hP hD hS - hz hk9
      obtain ⟨j_5, hj_5⟩ : ∃ j9, j9 = jrt ((0 : Int32)) ((2 : Int32)) (j_1) := ⟨_, rfl⟩
      rw [← hj_5] at hP hD ⊢
      try rw [← hj_5] at hw
      try rw [← hj_5] at hk
      have hP : va_P G.1 kcl [(mo, .inr (5, [.int (j_5), .ref cs, .int (w.2.1), .int (w.2.2.1), .int (w.2.2.2.1)])), (cs, .inl (G.2.1 3, 6, .inr (.inr (.inr (.inr (f))))))] H := hP
      have hD : va_D A [(mo, .inr (5, [.int (j_5), .ref cs, .int (w.2.1), .int (w.2.2.1), .int (w.2.2.2.1)])), (cs, .inl (G.2.1 3, 6, .inr (.inr (.inr (.inr (f))))))] := hD
      have hIT := hIT0.ro hAe hS
      refine W.widen (k := 0) (n := 0) (Nat.le_refl _) (Nat.le_refl _) ?_
      refine lv_if_ne (tgt := 70) hx hb dc_X9_isBack_34 (by decide) (fun c_6 => ?_) (fun c_6 => ?_)
      · have hw := hw.trans (if_neg c_6)
        have hk := hk.2 c_6
        refine lv_iconst (v := 0) hx hb dc_X9_isBack_70 (by decide) ?_
        have hP9 : va_P G.1 kcl (ky_WM G mo cs ((j_5, w.2.1, w.2.2.1, w.2.2.2.1, w.2.2.2.2)) (f)) H := hP.sub [0, 1] rfl
        have hD9 : va_D A (ky_WM G mo cs ((j_5, w.2.1, w.2.2.1, w.2.2.2.1, w.2.2.2.2)) (f)) := hD.sub [0, 1] (by decide) rfl
        refine W.widen (k := 2) (n := 4) (Nat.le_of_ble_eq_true rfl) (Nat.le_of_ble_eq_true rfl) ?_
        exact W.zret (v := (0 : Int32)) hx hb hr (by decide) (fun t ht hW => ⟨by rw [ht]; exact ky_endM (fun z => some (.int z)) ((0 : Int32)) hw hP9 hD9 (hIT), hS.F ht⟩) hS.2.2 dc_X9_isBack_71
      · have hw := hw.trans (if_pos c_6)
        have hk := hk.1 c_6
        refine lv_aload_n hx hb dc_X9_isBack_37 rfl (lv_at hl 0 rfl) ?_
        refine va_get (D := G.1) (ci := 5) (v := .ref cs) (C := RX9) (T := TX9) (N := 5) hx hb hts ki_X9 hown hE.1 hP 0 rfl rfl 1 (by decide) (hts _ kw_6_20) (fun _ h9 => h9) rfl dc_X9_isBack_38 ?_
        refine lv_iload_n hx hb dc_X9_isBack_41 rfl (lv_at hl 1 rfl) ?_
        refine va_aldq hx hb hE.1 hP 1 3 rfl rfl (lr_start (hj_1.symm.trans c_2)) dc_X9_isBack_42 ?_
        obtain ⟨b_7, hb_7, hI_7, ho_7⟩ := hIT.2 _ (ky_i6 (lr_start (hj_1.symm.trans c_2)))
        rw [ky_rf hb_7]
        have hX_7 : ky_It G b_7 ((w.2.2.2.2) (a1).toNatClampNeg) s.heap := by obtain ⟨b9, e9, i9, -⟩ := hIT0.2 _ (ky_i6 (lr_start (hj_1.symm.trans c_2))); have z9 : b9 = b_7 := Option.some.inj (e9.symm.trans hb_7); exact z9 ▸ i9
        refine lv_iload_n hx hb dc_X9_isBack_43 rfl (lv_at hl 2 rfl) ?_
        refine lv_i2l (v := (a2).toInt64) hx hb dc_X9_isBack_44 rfl ?_
        have hm_8 := (hP 0 _ rfl).lt
        have hc_8 := (hP 1 _ rfl).lt
        have hN_8 := hIT.1
        obtain ⟨hq_8, hk⟩ := hk
        have hs_9 := hS.1
        refine ky_cVh (As := [.long ((a2).toInt64)]) (wr := [(mo, .inr (5, [.int (j_5), .ref cs, .int (w.2.1), .int (w.2.2.1), .int (w.2.2.2.1)])), (cs, .inl (G.2.1 3, 6, .inr (.inr (.inr (.inr (f))))))]) F (hE.at hfr hS) hfr (mt_X8_times l G (b_7) ((w.2.2.2.2) (a1).toNatClampNeg) ((a2).toInt64) H.size hq_8) kv_X9_140 ⟨⟨rfl, rfl⟩, by decide, by decide⟩ rfl hl.1 rfl (Nat.le_of_ble_eq_true rfl) ⟨Nat.le_of_ble_eq_true rfl, Nat.le_of_ble_eq_true rfl⟩ (va_recv hE.1 hI_7 (ci := 4) (q0 := 0) rfl rfl) hI_7 hP hD hS hA [] [0, 1] rfl rfl (by decide) (by decide) (by decide) dc_X9_isBack_45 ?_
        rintro v9 q_9 H locs rfl hP hD hS ⟨hI_9, hd_9⟩ hz hk9
        have hP : va_P G.1 kcl [(mo, .inr (5, [.int (j_5), .ref cs, .int (w.2.1), .int (w.2.2.1), .int (w.2.2.2.1)])), (cs, .inl (G.2.1 3, 6, .inr (.inr (.inr (.inr (f))))))] H := hP
        have hD : va_D A [(mo, .inr (5, [.int (j_5), .ref cs, .int (w.2.1), .int (w.2.2.1), .int (w.2.2.2.1)])), (cs, .inl (G.2.1 3, 6, .inr (.inr (.inr (.inr (f))))))] := hD
        have hI_7 := hI_7.fr hk9
        refine W.widen (k := 1) (n := 2) (Nat.le_refl _) (Nat.le_refl _) ?_
        have hIT := hIT.keep hz (fun q9 ho9 hl9 => hk9 q9 hl9 (ky_nemp hl9))
        have hk_9 := ho_7.or hm_8 hc_8 hN_8 hd_9
        refine lv_iload_n hx hb dc_X9_isBack_48 rfl (lv_at hl 2 rfl) ?_
        refine lv_ineg hx hb dc_X9_isBack_49 ?_
        refine lv_i2l (v := (-(a2)).toInt64) hx hb dc_X9_isBack_50 rfl ?_
        have hm_10 := (hP 0 _ rfl).lt
        have hc_10 := (hP 1 _ rfl).lt
        have hN_10 := hIT.1
        obtain ⟨hq_10, hk⟩ := hk
        have hs_11 := hS.1
        refine ky_cVh (As := [.long ((-(a2)).toInt64)]) (wr := [(mo, .inr (5, [.int (j_5), .ref cs, .int (w.2.1), .int (w.2.2.1), .int (w.2.2.2.1)])), (cs, .inl (G.2.1 3, 6, .inr (.inr (.inr (.inr (f))))))]) F (hE.at hfr hS) hfr (mt_X8_times l G (q_9) (fn_X8_times ((a2).toInt64) ((w.2.2.2.2) (a1).toNatClampNeg)) ((-(a2)).toInt64) H.size hq_10) kv_X9_140 ⟨⟨rfl, rfl⟩, by decide, by decide⟩ rfl hl.1 rfl (Nat.le_of_ble_eq_true rfl) ⟨Nat.le_of_ble_eq_true rfl, Nat.le_of_ble_eq_true rfl⟩ (va_recv hE.1 hI_9 (ci := 4) (q0 := 0) rfl rfl) hI_9 hP hD hS hA [] [0, 1] rfl rfl (by decide) (by decide) (by decide) dc_X9_isBack_51 ?_
        rintro v9 q_11 H locs rfl hP hD hS ⟨hI_11, hd_11⟩ hz hk9
        have hP : va_P G.1 kcl [(mo, .inr (5, [.int (j_5), .ref cs, .int (w.2.1), .int (w.2.2.1), .int (w.2.2.2.1)])), (cs, .inl (G.2.1 3, 6, .inr (.inr (.inr (.inr (f))))))] H := hP
        have hD : va_D A [(mo, .inr (5, [.int (j_5), .ref cs, .int (w.2.1), .int (w.2.2.1), .int (w.2.2.2.1)])), (cs, .inl (G.2.1 3, 6, .inr (.inr (.inr (.inr (f))))))] := hD
        have hI_7 := hI_7.fr hk9
        have hI_9 := hI_9.fr hk9
        refine W.widen (k := 2) (n := 4) (Nat.le_refl _) (Nat.le_refl _) ?_
        have hIT := hIT.keep hz (fun q9 ho9 hl9 => hk9 q9 hl9 (ky_nemp hl9))
        have hk_11 := hk_9.or hm_10 hc_10 hN_10 hd_11
        refine lv_aload_n hx hb dc_X9_isBack_54 rfl (lv_at hl 0 rfl) ?_
        refine va_get (D := G.1) (ci := 5) (v := .ref cs) (C := RX9) (T := TX9) (N := 5) hx hb hts ki_X9 hown hE.1 hP 0 rfl rfl 1 (by decide) (hts _ kw_6_20) (fun _ h9 => h9) rfl dc_X9_isBack_55 ?_
        refine lv_iload_n hx hb dc_X9_isBack_58 rfl (lv_at hl 1 rfl) ?_
        refine va_aldq hx hb hE.1 hP 1 3 rfl rfl (lr_start (hj_1.symm.trans c_2)) dc_X9_isBack_59 ?_
        obtain ⟨b_12, hb_12, hI_12, ho_12⟩ := hIT.2 _ (ky_i6 (lr_start (hj_1.symm.trans c_2)))
        rw [ky_rf hb_12]
        have hX_12 : ky_It G b_12 ((w.2.2.2.2) (a1).toNatClampNeg) s.heap := by obtain ⟨b9, e9, i9, -⟩ := hIT0.2 _ (ky_i6 (lr_start (hj_1.symm.trans c_2))); have z9 : b9 = b_12 := Option.some.inj (e9.symm.trans hb_12); exact z9 ▸ i9
        refine ky_cV1 (As := [.ref b_12]) F (hE.at hfr hS) (mt_X8_isSame l G (q_11) (b_12) ((fn_X8_times ((-(a2)).toInt64) (fn_X8_times ((a2).toInt64) ((w.2.2.2.2) (a1).toNatClampNeg)))) (((w.2.2.2.2) (a1).toNatClampNeg)) ) kv_X9_235 ⟨⟨rfl, rfl⟩, by decide, by decide⟩ rfl hl.1 rfl (Nat.le_of_ble_eq_true rfl) ⟨Nat.le_of_ble_eq_true rfl, Nat.le_of_ble_eq_true rfl⟩ (va_recv hE.1 hI_11 (ci := 4) (q0 := 0) rfl rfl) ⟨hI_11, hI_12⟩ dc_X9_isBack_60 ?_
        refine lv_if_eq (tgt := 70) hx hb dc_X9_isBack_63 (by decide) (fun c_13 => ?_) (fun c_13 => ?_)
        · have hw := hw.trans (if_pos c_13)
          have hk := hk.1 c_13
          refine lv_iconst (v := 0) hx hb dc_X9_isBack_70 (by decide) ?_
          have hP9 : va_P G.1 kcl (ky_WM G mo cs ((j_5, w.2.1, w.2.2.1, w.2.2.2.1, w.2.2.2.2)) (f)) H := hP.sub [0, 1] rfl
          have hD9 : va_D A (ky_WM G mo cs ((j_5, w.2.1, w.2.2.1, w.2.2.2.1, w.2.2.2.2)) (f)) := hD.sub [0, 1] (by decide) rfl
          refine W.widen (k := 2) (n := 4) (Nat.le_of_ble_eq_true rfl) (Nat.le_of_ble_eq_true rfl) ?_
          exact W.zret (v := (0 : Int32)) hx hb hr (by decide) (fun t ht hW => ⟨by rw [ht]; exact ky_endM (fun z => some (.int z)) ((0 : Int32)) hw hP9 hD9 (hIT), hS.F ht⟩) hS.2.2 dc_X9_isBack_71
        · have hw := hw.trans (if_neg c_13)
          have hk := hk.2 c_13
          refine lv_iconst (v := 1) hx hb dc_X9_isBack_66 (by decide) ?_
          refine lv_goto (tgt := 71) hx hb dc_X9_isBack_67 (by decide) ?_
          have hP9 : va_P G.1 kcl (ky_WM G mo cs ((j_5, w.2.1, w.2.2.1, w.2.2.2.1, w.2.2.2.2)) (f)) H := hP.sub [0, 1] rfl
          have hD9 : va_D A (ky_WM G mo cs ((j_5, w.2.1, w.2.2.1, w.2.2.2.1, w.2.2.2.2)) (f)) := hD.sub [0, 1] (by decide) rfl
          refine W.widen (k := 2) (n := 4) (Nat.le_of_ble_eq_true rfl) (Nat.le_of_ble_eq_true rfl) ?_
          exact W.zret (v := (1 : Int32)) hx hb hr (by decide) (fun t ht hW => ⟨by rw [ht]; exact ky_endM (fun z => some (.int z)) ((1 : Int32)) hw hP9 hD9 (hIT), hS.F ht⟩) hS.2.2 dc_X9_isBack_71
    · have hw := hw.trans (if_pos c_3)
      have hk := hk.1 c_3
      refine lv_iconst (v := 1) hx hb dc_X9_isBack_25 (by decide) ?_
      refine lv_goto (tgt := 30) hx hb dc_X9_isBack_26 (by decide) ?_
      refine lv_iconst (v := 2) hx hb dc_X9_isBack_30 (by decide) ?_
      refine ky_cVh (As := [.int ((1 : Int32)), .int ((2 : Int32))]) (wr := []) F (hE.at hfr hS) hfr (mt_X9_refuseJ l G (mo) (cs) ((j_1, w.2.1, w.2.2.1, w.2.2.2.1)) (f) ((1 : Int32)) ((2 : Int32)) H.size ) kv_X9_36 ⟨⟨rfl, rfl⟩, by decide, by decide⟩ rfl hl.1 rfl (Nat.le_of_ble_eq_true rfl) ⟨Nat.le_of_ble_eq_true rfl, Nat.le_of_ble_eq_true rfl⟩ (va_recv hE.1 hP (ci := 5) (q0 := 0) rfl rfl) trivial hP hD hS hA [0, 1] [] rfl rfl (by decide) (by decide) (by decide) dc_X9_isBack_31 ?_
      rintro v9 u9 H locs ⟨rfl, rfl⟩ hP hD hS - hz hk9
      obtain ⟨j_5, hj_5⟩ : ∃ j9, j9 = jrt ((1 : Int32)) ((2 : Int32)) (j_1) := ⟨_, rfl⟩
      rw [← hj_5] at hP hD ⊢
      try rw [← hj_5] at hw
      try rw [← hj_5] at hk
      have hP : va_P G.1 kcl [(mo, .inr (5, [.int (j_5), .ref cs, .int (w.2.1), .int (w.2.2.1), .int (w.2.2.2.1)])), (cs, .inl (G.2.1 3, 6, .inr (.inr (.inr (.inr (f))))))] H := hP
      have hD : va_D A [(mo, .inr (5, [.int (j_5), .ref cs, .int (w.2.1), .int (w.2.2.1), .int (w.2.2.2.1)])), (cs, .inl (G.2.1 3, 6, .inr (.inr (.inr (.inr (f))))))] := hD
      have hIT := hIT0.ro hAe hS
      refine W.widen (k := 0) (n := 0) (Nat.le_refl _) (Nat.le_refl _) ?_
      refine lv_if_ne (tgt := 70) hx hb dc_X9_isBack_34 (by decide) (fun c_6 => ?_) (fun c_6 => ?_)
      · have hw := hw.trans (if_neg c_6)
        have hk := hk.2 c_6
        refine lv_iconst (v := 0) hx hb dc_X9_isBack_70 (by decide) ?_
        have hP9 : va_P G.1 kcl (ky_WM G mo cs ((j_5, w.2.1, w.2.2.1, w.2.2.2.1, w.2.2.2.2)) (f)) H := hP.sub [0, 1] rfl
        have hD9 : va_D A (ky_WM G mo cs ((j_5, w.2.1, w.2.2.1, w.2.2.2.1, w.2.2.2.2)) (f)) := hD.sub [0, 1] (by decide) rfl
        refine W.widen (k := 2) (n := 4) (Nat.le_of_ble_eq_true rfl) (Nat.le_of_ble_eq_true rfl) ?_
        exact W.zret (v := (0 : Int32)) hx hb hr (by decide) (fun t ht hW => ⟨by rw [ht]; exact ky_endM (fun z => some (.int z)) ((0 : Int32)) hw hP9 hD9 (hIT), hS.F ht⟩) hS.2.2 dc_X9_isBack_71
      · have hw := hw.trans (if_pos c_6)
        have hk := hk.1 c_6
        refine lv_aload_n hx hb dc_X9_isBack_37 rfl (lv_at hl 0 rfl) ?_
        refine va_get (D := G.1) (ci := 5) (v := .ref cs) (C := RX9) (T := TX9) (N := 5) hx hb hts ki_X9 hown hE.1 hP 0 rfl rfl 1 (by decide) (hts _ kw_6_20) (fun _ h9 => h9) rfl dc_X9_isBack_38 ?_
        refine lv_iload_n hx hb dc_X9_isBack_41 rfl (lv_at hl 1 rfl) ?_
        refine va_aldq hx hb hE.1 hP 1 3 rfl rfl (lr_start (hj_1.symm.trans c_2)) dc_X9_isBack_42 ?_
        obtain ⟨b_7, hb_7, hI_7, ho_7⟩ := hIT.2 _ (ky_i6 (lr_start (hj_1.symm.trans c_2)))
        rw [ky_rf hb_7]
        have hX_7 : ky_It G b_7 ((w.2.2.2.2) (a1).toNatClampNeg) s.heap := by obtain ⟨b9, e9, i9, -⟩ := hIT0.2 _ (ky_i6 (lr_start (hj_1.symm.trans c_2))); have z9 : b9 = b_7 := Option.some.inj (e9.symm.trans hb_7); exact z9 ▸ i9
        refine lv_iload_n hx hb dc_X9_isBack_43 rfl (lv_at hl 2 rfl) ?_
        refine lv_i2l (v := (a2).toInt64) hx hb dc_X9_isBack_44 rfl ?_
        have hm_8 := (hP 0 _ rfl).lt
        have hc_8 := (hP 1 _ rfl).lt
        have hN_8 := hIT.1
        obtain ⟨hq_8, hk⟩ := hk
        have hs_9 := hS.1
        refine ky_cVh (As := [.long ((a2).toInt64)]) (wr := [(mo, .inr (5, [.int (j_5), .ref cs, .int (w.2.1), .int (w.2.2.1), .int (w.2.2.2.1)])), (cs, .inl (G.2.1 3, 6, .inr (.inr (.inr (.inr (f))))))]) F (hE.at hfr hS) hfr (mt_X8_times l G (b_7) ((w.2.2.2.2) (a1).toNatClampNeg) ((a2).toInt64) H.size hq_8) kv_X9_140 ⟨⟨rfl, rfl⟩, by decide, by decide⟩ rfl hl.1 rfl (Nat.le_of_ble_eq_true rfl) ⟨Nat.le_of_ble_eq_true rfl, Nat.le_of_ble_eq_true rfl⟩ (va_recv hE.1 hI_7 (ci := 4) (q0 := 0) rfl rfl) hI_7 hP hD hS hA [] [0, 1] rfl rfl (by decide) (by decide) (by decide) dc_X9_isBack_45 ?_
        rintro v9 q_9 H locs rfl hP hD hS ⟨hI_9, hd_9⟩ hz hk9
        have hP : va_P G.1 kcl [(mo, .inr (5, [.int (j_5), .ref cs, .int (w.2.1), .int (w.2.2.1), .int (w.2.2.2.1)])), (cs, .inl (G.2.1 3, 6, .inr (.inr (.inr (.inr (f))))))] H := hP
        have hD : va_D A [(mo, .inr (5, [.int (j_5), .ref cs, .int (w.2.1), .int (w.2.2.1), .int (w.2.2.2.1)])), (cs, .inl (G.2.1 3, 6, .inr (.inr (.inr (.inr (f))))))] := hD
        have hI_7 := hI_7.fr hk9
        refine W.widen (k := 1) (n := 2) (Nat.le_refl _) (Nat.le_refl _) ?_
        have hIT := hIT.keep hz (fun q9 ho9 hl9 => hk9 q9 hl9 (ky_nemp hl9))
        have hk_9 := ho_7.or hm_8 hc_8 hN_8 hd_9
        refine lv_iload_n hx hb dc_X9_isBack_48 rfl (lv_at hl 2 rfl) ?_
        refine lv_ineg hx hb dc_X9_isBack_49 ?_
        refine lv_i2l (v := (-(a2)).toInt64) hx hb dc_X9_isBack_50 rfl ?_
        have hm_10 := (hP 0 _ rfl).lt
        have hc_10 := (hP 1 _ rfl).lt
        have hN_10 := hIT.1
        obtain ⟨hq_10, hk⟩ := hk
        have hs_11 := hS.1
        refine ky_cVh (As := [.long ((-(a2)).toInt64)]) (wr := [(mo, .inr (5, [.int (j_5), .ref cs, .int (w.2.1), .int (w.2.2.1), .int (w.2.2.2.1)])), (cs, .inl (G.2.1 3, 6, .inr (.inr (.inr (.inr (f))))))]) F (hE.at hfr hS) hfr (mt_X8_times l G (q_9) (fn_X8_times ((a2).toInt64) ((w.2.2.2.2) (a1).toNatClampNeg)) ((-(a2)).toInt64) H.size hq_10) kv_X9_140 ⟨⟨rfl, rfl⟩, by decide, by decide⟩ rfl hl.1 rfl (Nat.le_of_ble_eq_true rfl) ⟨Nat.le_of_ble_eq_true rfl, Nat.le_of_ble_eq_true rfl⟩ (va_recv hE.1 hI_9 (ci := 4) (q0 := 0) rfl rfl) hI_9 hP hD hS hA [] [0, 1] rfl rfl (by decide) (by decide) (by decide) dc_X9_isBack_51 ?_
        rintro v9 q_11 H locs rfl hP hD hS ⟨hI_11, hd_11⟩ hz hk9
        have hP : va_P G.1 kcl [(mo, .inr (5, [.int (j_5), .ref cs, .int (w.2.1), .int (w.2.2.1), .int (w.2.2.2.1)])), (cs, .inl (G.2.1 3, 6, .inr (.inr (.inr (.inr (f))))))] H := hP
        have hD : va_D A [(mo, .inr (5, [.int (j_5), .ref cs, .int (w.2.1), .int (w.2.2.1), .int (w.2.2.2.1)])), (cs, .inl (G.2.1 3, 6, .inr (.inr (.inr (.inr (f))))))] := hD
        have hI_7 := hI_7.fr hk9
        have hI_9 := hI_9.fr hk9
        refine W.widen (k := 2) (n := 4) (Nat.le_refl _) (Nat.le_refl _) ?_
        have hIT := hIT.keep hz (fun q9 ho9 hl9 => hk9 q9 hl9 (ky_nemp hl9))
        have hk_11 := hk_9.or hm_10 hc_10 hN_10 hd_11
        refine lv_aload_n hx hb dc_X9_isBack_54 rfl (lv_at hl 0 rfl) ?_
        refine va_get (D := G.1) (ci := 5) (v := .ref cs) (C := RX9) (T := TX9) (N := 5) hx hb hts ki_X9 hown hE.1 hP 0 rfl rfl 1 (by decide) (hts _ kw_6_20) (fun _ h9 => h9) rfl dc_X9_isBack_55 ?_
        refine lv_iload_n hx hb dc_X9_isBack_58 rfl (lv_at hl 1 rfl) ?_
        refine va_aldq hx hb hE.1 hP 1 3 rfl rfl (lr_start (hj_1.symm.trans c_2)) dc_X9_isBack_59 ?_
        obtain ⟨b_12, hb_12, hI_12, ho_12⟩ := hIT.2 _ (ky_i6 (lr_start (hj_1.symm.trans c_2)))
        rw [ky_rf hb_12]
        have hX_12 : ky_It G b_12 ((w.2.2.2.2) (a1).toNatClampNeg) s.heap := by obtain ⟨b9, e9, i9, -⟩ := hIT0.2 _ (ky_i6 (lr_start (hj_1.symm.trans c_2))); have z9 : b9 = b_12 := Option.some.inj (e9.symm.trans hb_12); exact z9 ▸ i9
        refine ky_cV1 (As := [.ref b_12]) F (hE.at hfr hS) (mt_X8_isSame l G (q_11) (b_12) ((fn_X8_times ((-(a2)).toInt64) (fn_X8_times ((a2).toInt64) ((w.2.2.2.2) (a1).toNatClampNeg)))) (((w.2.2.2.2) (a1).toNatClampNeg)) ) kv_X9_235 ⟨⟨rfl, rfl⟩, by decide, by decide⟩ rfl hl.1 rfl (Nat.le_of_ble_eq_true rfl) ⟨Nat.le_of_ble_eq_true rfl, Nat.le_of_ble_eq_true rfl⟩ (va_recv hE.1 hI_11 (ci := 4) (q0 := 0) rfl rfl) ⟨hI_11, hI_12⟩ dc_X9_isBack_60 ?_
        refine lv_if_eq (tgt := 70) hx hb dc_X9_isBack_63 (by decide) (fun c_13 => ?_) (fun c_13 => ?_)
        · have hw := hw.trans (if_pos c_13)
          have hk := hk.1 c_13
          refine lv_iconst (v := 0) hx hb dc_X9_isBack_70 (by decide) ?_
          have hP9 : va_P G.1 kcl (ky_WM G mo cs ((j_5, w.2.1, w.2.2.1, w.2.2.2.1, w.2.2.2.2)) (f)) H := hP.sub [0, 1] rfl
          have hD9 : va_D A (ky_WM G mo cs ((j_5, w.2.1, w.2.2.1, w.2.2.2.1, w.2.2.2.2)) (f)) := hD.sub [0, 1] (by decide) rfl
          refine W.widen (k := 2) (n := 4) (Nat.le_of_ble_eq_true rfl) (Nat.le_of_ble_eq_true rfl) ?_
          exact W.zret (v := (0 : Int32)) hx hb hr (by decide) (fun t ht hW => ⟨by rw [ht]; exact ky_endM (fun z => some (.int z)) ((0 : Int32)) hw hP9 hD9 (hIT), hS.F ht⟩) hS.2.2 dc_X9_isBack_71
        · have hw := hw.trans (if_neg c_13)
          have hk := hk.2 c_13
          refine lv_iconst (v := 1) hx hb dc_X9_isBack_66 (by decide) ?_
          refine lv_goto (tgt := 71) hx hb dc_X9_isBack_67 (by decide) ?_
          have hP9 : va_P G.1 kcl (ky_WM G mo cs ((j_5, w.2.1, w.2.2.1, w.2.2.2.1, w.2.2.2.2)) (f)) H := hP.sub [0, 1] rfl
          have hD9 : va_D A (ky_WM G mo cs ((j_5, w.2.1, w.2.2.1, w.2.2.2.1, w.2.2.2.2)) (f)) := hD.sub [0, 1] (by decide) rfl
          refine W.widen (k := 2) (n := 4) (Nat.le_of_ble_eq_true rfl) (Nat.le_of_ble_eq_true rfl) ?_
          exact W.zret (v := (1 : Int32)) hx hb hr (by decide) (fun t ht hW => ⟨by rw [ht]; exact ky_endM (fun z => some (.int z)) ((1 : Int32)) hw hP9 hD9 (hIT), hS.F ht⟩) hS.2.2 dc_X9_isBack_71
end
section
def fn_X9_knock   (w : ky_MV) : Int32 × ky_MV :=
  ((w.2.2.2.1) + ((1 : Int32)), ((0 : Int32), w.2.1, w.2.2.1, (w.2.2.2.1) + ((1 : Int32)), w.2.2.2.2))
set_option linter.constructorNameAsVariable false in
set_option maxHeartbeats 4000000 in
set_option maxRecDepth 100000 in
theorem mt_X9_knock (l : Launch) (G : ky_G) (mo cs : Nat) (N : Nat → Prop) (w : ky_MV) (f : Nat → Option Nat)     (sz : Nat) : Met l my_X9_knock (.code my_X9_knock prog_10_method_74_code 1 (some .int) :: ky_B) { frames := 0, cells := 0, slots := 0, locals := 0 } (ky_P G [.ref mo] (ky_WM G mo cs w f) sz (fun H => ky_IT G mo cs N f w.2.2.2.2 H)) (ky_Q (S := ky_MV × (Nat → Option Nat)) G (va_A (ky_WM G mo cs w f) sz) (fun v u => v = some (.int (fn_X9_knock w).1) ∧ u.1 = (fn_X9_knock w).2) (fun u => ky_WM G mo cs u.1 u.2) (fun u H => ky_IT G mo cs N u.2 u.1.2.2.2.2 H)) 0 0 (va_A (ky_WM G mo cs w f) sz) := by
  refine ky_start (by decide) (Nat.le_of_ble_eq_true rfl) (fun p e s m below meth c F hE A hAe hsz hA hfr hP hD hS hX ls hl => ?_)
  obtain ⟨hx, hb, hml, hown, hr, hlocks, hts⟩ := id F
  have hIT0 := hX
  have hIT := hIT0
  have hl : lv_has ls 1 [(0, .ref mo)] := hl
  have hP : va_P G.1 kcl [(mo, .inr (5, [.int (w.1), .ref cs, .int (w.2.1), .int (w.2.2.1), .int (w.2.2.2.1)])), (cs, .inl (G.2.1 3, 6, .inr (.inr (.inr (.inr (f))))))] s.heap := hP
  have hD : va_D A [(mo, .inr (5, [.int (w.1), .ref cs, .int (w.2.1), .int (w.2.2.1), .int (w.2.2.2.1)])), (cs, .inl (G.2.1 3, 6, .inr (.inr (.inr (.inr (f))))))] := hD
  have hw : fn_X9_knock w = _ := fn_X9_knock.eq_1 w
  refine lv_aload_n hx hb dc_X9_knock_0 rfl (lv_at hl 0 rfl) ?_
  refine lv_iconst (v := 0) hx hb dc_X9_knock_1 (by decide) ?_
  refine va_put (D := G.1) (ci := 5) (v := .int ((0 : Int32))) (ty := .int) (C := RX9) (T := TX9) (N := 5) hx hb hts ki_X9 tyX9 tyX9_ok nmX9 hown hE.1 hP hD hS 0 rfl rfl 0 (by decide) (hts _ kw_6_19) (fun _ h9 => h9) rfl (by decide +kernel) rfl rfl (Nat.le_of_ble_eq_true rfl) dc_X9_knock_2 (fun H locs hP hD hS => ?_)
  have hP : va_P G.1 kcl [(mo, .inr (5, [.int ((0 : Int32)), .ref cs, .int (w.2.1), .int (w.2.2.1), .int (w.2.2.2.1)])), (cs, .inl (G.2.1 3, 6, .inr (.inr (.inr (.inr (f))))))] H := hP
  have hD : va_D A [(mo, .inr (5, [.int ((0 : Int32)), .ref cs, .int (w.2.1), .int (w.2.2.1), .int (w.2.2.2.1)])), (cs, .inl (G.2.1 3, 6, .inr (.inr (.inr (.inr (f))))))] := hD
  have hIT := hIT0.ro hAe hS
  refine lv_aload_n hx hb dc_X9_knock_5 rfl (lv_at hl 0 rfl) ?_
  refine lv_dup hx hb dc_X9_knock_6 rfl ?_
  refine va_get (D := G.1) (ci := 5) (v := .int (w.2.2.2.1)) (C := RX9) (T := TX9) (N := 5) hx hb hts ki_X9 hown hE.1 hP 0 rfl rfl 4 (by decide) (hts _ kw_6_23) (fun _ h9 => h9) rfl dc_X9_knock_7 ?_
  refine lv_iconst (v := 1) hx hb dc_X9_knock_10 (by decide) ?_
  refine lv_iadd hx hb dc_X9_knock_11 ?_
  refine va_put (D := G.1) (ci := 5) (v := .int ((w.2.2.2.1) + ((1 : Int32)))) (ty := .int) (C := RX9) (T := TX9) (N := 5) hx hb hts ki_X9 tyX9 tyX9_ok nmX9 hown hE.1 hP hD hS 0 rfl rfl 4 (by decide) (hts _ kw_6_23) (fun _ h9 => h9) rfl (by decide +kernel) rfl rfl (Nat.le_of_ble_eq_true rfl) dc_X9_knock_12 (fun H locs hP hD hS => ?_)
  have hP : va_P G.1 kcl [(mo, .inr (5, [.int ((0 : Int32)), .ref cs, .int (w.2.1), .int (w.2.2.1), .int ((w.2.2.2.1) + ((1 : Int32)))])), (cs, .inl (G.2.1 3, 6, .inr (.inr (.inr (.inr (f))))))] H := hP
  have hD : va_D A [(mo, .inr (5, [.int ((0 : Int32)), .ref cs, .int (w.2.1), .int (w.2.2.1), .int ((w.2.2.2.1) + ((1 : Int32)))])), (cs, .inl (G.2.1 3, 6, .inr (.inr (.inr (.inr (f))))))] := hD
  have hIT := hIT0.ro hAe hS
  refine lv_aload_n hx hb dc_X9_knock_15 rfl (lv_at hl 0 rfl) ?_
  refine va_get (D := G.1) (ci := 5) (v := .int ((w.2.2.2.1) + ((1 : Int32)))) (C := RX9) (T := TX9) (N := 5) hx hb hts ki_X9 hown hE.1 hP 0 rfl rfl 4 (by decide) (hts _ kw_6_23) (fun _ h9 => h9) rfl dc_X9_knock_16 ?_
  have hP9 : va_P G.1 kcl (ky_WM G mo cs (((0 : Int32), w.2.1, w.2.2.1, (w.2.2.2.1) + ((1 : Int32)), w.2.2.2.2)) (f)) H := hP.sub [0, 1] rfl
  have hD9 : va_D A (ky_WM G mo cs (((0 : Int32), w.2.1, w.2.2.1, (w.2.2.2.1) + ((1 : Int32)), w.2.2.2.2)) (f)) := hD.sub [0, 1] (by decide) rfl
  refine W.widen (k := 0) (n := 0) (Nat.le_of_ble_eq_true rfl) (Nat.le_of_ble_eq_true rfl) ?_
  exact W.iret (v := (w.2.2.2.1) + ((1 : Int32))) hx hb hr (fun t ht hW => ⟨by rw [ht]; exact ky_endM (fun z => some (.int z)) ((w.2.2.2.1) + ((1 : Int32))) hw hP9 hD9 (hIT), hS.F ht⟩) hS.2.2 dc_X9_knock_19
end
section
def fn_X9_isSound   (w : ky_MV) : Int32 × ky_MV :=
  ((1 : Int32), ((0 : Int32), w.2.1, w.2.2.1, w.2.2.2.1, w.2.2.2.2))
set_option linter.constructorNameAsVariable false in
set_option maxHeartbeats 4000000 in
set_option maxRecDepth 100000 in
theorem mt_X9_isSound (l : Launch) (G : ky_G) (mo cs : Nat) (N : Nat → Prop) (w : ky_MV) (f : Nat → Option Nat)     (sz : Nat) : Met l my_X9_isSound (.code my_X9_isSound prog_10_method_77_code 1 (some .boolean) :: ky_B) { frames := 0, cells := 0, slots := 0, locals := 0 } (ky_P G [.ref mo] (ky_WM G mo cs w f) sz (fun H => ky_IT G mo cs N f w.2.2.2.2 H)) (ky_Q (S := ky_MV × (Nat → Option Nat)) G (va_A (ky_WM G mo cs w f) sz) (fun v u => v = some (.int (fn_X9_isSound w).1) ∧ u.1 = (fn_X9_isSound w).2) (fun u => ky_WM G mo cs u.1 u.2) (fun u H => ky_IT G mo cs N u.2 u.1.2.2.2.2 H)) 0 0 (va_A (ky_WM G mo cs w f) sz) := by
  refine ky_start (by decide) (Nat.le_of_ble_eq_true rfl) (fun p e s m below meth c F hE A hAe hsz hA hfr hP hD hS hX ls hl => ?_)
  obtain ⟨hx, hb, hml, hown, hr, hlocks, hts⟩ := id F
  have hIT0 := hX
  have hIT := hIT0
  have hl : lv_has ls 1 [(0, .ref mo)] := hl
  have hP : va_P G.1 kcl [(mo, .inr (5, [.int (w.1), .ref cs, .int (w.2.1), .int (w.2.2.1), .int (w.2.2.2.1)])), (cs, .inl (G.2.1 3, 6, .inr (.inr (.inr (.inr (f))))))] s.heap := hP
  have hD : va_D A [(mo, .inr (5, [.int (w.1), .ref cs, .int (w.2.1), .int (w.2.2.1), .int (w.2.2.2.1)])), (cs, .inl (G.2.1 3, 6, .inr (.inr (.inr (.inr (f))))))] := hD
  have hw : fn_X9_isSound w = _ := fn_X9_isSound.eq_1 w
  refine lv_aload_n hx hb dc_X9_isSound_0 rfl (lv_at hl 0 rfl) ?_
  refine lv_iconst (v := 0) hx hb dc_X9_isSound_1 (by decide) ?_
  refine va_put (D := G.1) (ci := 5) (v := .int ((0 : Int32))) (ty := .int) (C := RX9) (T := TX9) (N := 5) hx hb hts ki_X9 tyX9 tyX9_ok nmX9 hown hE.1 hP hD hS 0 rfl rfl 0 (by decide) (hts _ kw_6_19) (fun _ h9 => h9) rfl (by decide +kernel) rfl rfl (Nat.le_of_ble_eq_true rfl) dc_X9_isSound_2 (fun H locs hP hD hS => ?_)
  have hP : va_P G.1 kcl [(mo, .inr (5, [.int ((0 : Int32)), .ref cs, .int (w.2.1), .int (w.2.2.1), .int (w.2.2.2.1)])), (cs, .inl (G.2.1 3, 6, .inr (.inr (.inr (.inr (f))))))] H := hP
  have hD : va_D A [(mo, .inr (5, [.int ((0 : Int32)), .ref cs, .int (w.2.1), .int (w.2.2.1), .int (w.2.2.2.1)])), (cs, .inl (G.2.1 3, 6, .inr (.inr (.inr (.inr (f))))))] := hD
  have hIT := hIT0.ro hAe hS
  refine lv_iconst (v := 1) hx hb dc_X9_isSound_5 (by decide) ?_
  have hP9 : va_P G.1 kcl (ky_WM G mo cs (((0 : Int32), w.2.1, w.2.2.1, w.2.2.2.1, w.2.2.2.2)) (f)) H := hP.sub [0, 1] rfl
  have hD9 : va_D A (ky_WM G mo cs (((0 : Int32), w.2.1, w.2.2.1, w.2.2.2.1, w.2.2.2.2)) (f)) := hD.sub [0, 1] (by decide) rfl
  refine W.widen (k := 0) (n := 0) (Nat.le_of_ble_eq_true rfl) (Nat.le_of_ble_eq_true rfl) ?_
  exact W.zret (v := (1 : Int32)) hx hb hr (by decide) (fun t ht hW => ⟨by rw [ht]; exact ky_endM (fun z => some (.int z)) ((1 : Int32)) hw hP9 hD9 (hIT), hS.F ht⟩) hS.2.2 dc_X9_isSound_6
end
section
def fn_X9_sample (a1 : Int32) (a2 : Int32) (a3 : Int32)  (w : ky_MV) : Int32 × ky_MV :=
  if (jst (fn_X9_isNo (a1))) = (0 : Int32) then (if (fn_X9_isOf (a2) ((0 : Int32)) ((11 : Int32))) = (0 : Int32) then (if (jrr (jrt ((1 : Int32)) ((2 : Int32)) (jst (fn_X9_isNo (a1))))) = (0 : Int32) then (((fn_X9_give (a1) (fn_X9_one (a3), fn_X9_sampled (a2)) (jrt ((1 : Int32)) ((2 : Int32)) (jst (fn_X9_isNo (a1))), w.2.1, w.2.2.1, w.2.2.2.1, w.2.2.2.2)).1, ((fn_X9_give (a1) (fn_X9_one (a3), fn_X9_sampled (a2)) (jrt ((1 : Int32)) ((2 : Int32)) (jst (fn_X9_isNo (a1))), w.2.1, w.2.2.1, w.2.2.2.1, w.2.2.2.2)).2))) else (((0 : Int32), (jrt ((1 : Int32)) ((2 : Int32)) (jst (fn_X9_isNo (a1))), w.2.1, w.2.2.1, w.2.2.2.1, w.2.2.2.2)))) else (if (jrr (jrt ((0 : Int32)) ((2 : Int32)) (jst (fn_X9_isNo (a1))))) = (0 : Int32) then (((fn_X9_give (a1) (fn_X9_one (a3), fn_X9_sampled (a2)) (jrt ((0 : Int32)) ((2 : Int32)) (jst (fn_X9_isNo (a1))), w.2.1, w.2.2.1, w.2.2.2.1, w.2.2.2.2)).1, ((fn_X9_give (a1) (fn_X9_one (a3), fn_X9_sampled (a2)) (jrt ((0 : Int32)) ((2 : Int32)) (jst (fn_X9_isNo (a1))), w.2.1, w.2.2.1, w.2.2.2.1, w.2.2.2.2)).2))) else (((0 : Int32), (jrt ((0 : Int32)) ((2 : Int32)) (jst (fn_X9_isNo (a1))), w.2.1, w.2.2.1, w.2.2.2.1, w.2.2.2.2))))) else (((0 : Int32), (jst (fn_X9_isNo (a1)), w.2.1, w.2.2.1, w.2.2.2.1, w.2.2.2.2)))
def fk_X9_sample (a1 : Int32) (a2 : Int32) (a3 : Int32)  (w : ky_MV) : Prop :=
  ((((jst (fn_X9_isNo (a1))) = (0 : Int32)) → ((((fn_X9_isOf (a2) ((0 : Int32)) ((11 : Int32))) = (0 : Int32)) → ((((jrr (jrt ((1 : Int32)) ((2 : Int32)) (jst (fn_X9_isNo (a1))))) = (0 : Int32)) → ((fk_X9_sampled (a2)) ∧ (True))) ∧ (¬ ((jrr (jrt ((1 : Int32)) ((2 : Int32)) (jst (fn_X9_isNo (a1))))) = (0 : Int32)) → (True)))) ∧ (¬ ((fn_X9_isOf (a2) ((0 : Int32)) ((11 : Int32))) = (0 : Int32)) → ((((jrr (jrt ((0 : Int32)) ((2 : Int32)) (jst (fn_X9_isNo (a1))))) = (0 : Int32)) → ((fk_X9_sampled (a2)) ∧ (True))) ∧ (¬ ((jrr (jrt ((0 : Int32)) ((2 : Int32)) (jst (fn_X9_isNo (a1))))) = (0 : Int32)) → (True)))))) ∧ (¬ ((jst (fn_X9_isNo (a1))) = (0 : Int32)) → (True))) ∧ True
set_option linter.constructorNameAsVariable false in
set_option maxHeartbeats 4000000 in
set_option maxRecDepth 100000 in
theorem mt_X9_sample (l : Launch) (G : ky_G) (mo cs : Nat) (N : Nat → Prop) (w : ky_MV) (f : Nat → Option Nat)    (a1 : Int32) (a2 : Int32) (a3 : Int32) (sz : Nat) (hk : fk_X9_sample a1 a2 a3 w) : Met l my_X9_sample (.code my_X9_sample prog_10_method_18_code 4 (some .int) :: ky_B) { frames := 6, cells := 1, slots := 2, locals := 127 } (ky_P G [.ref mo, .int (a1), .int (a2), .int (a3)] (ky_WM G mo cs w f) sz (fun H => ky_IT G mo cs N f w.2.2.2.2 H)) (ky_Q (S := ky_MV × (Nat → Option Nat)) G (va_A (ky_WM G mo cs w f) sz) (fun v u => v = some (.int (fn_X9_sample a1 a2 a3 w).1) ∧ u.1 = (fn_X9_sample a1 a2 a3 w).2) (fun u => ky_WM G mo cs u.1 u.2) (fun u H => ky_IT G mo cs N u.2 u.1.2.2.2.2 H)) 1 2 (va_A (ky_WM G mo cs w f) sz) := by
  refine ky_start (by decide) (Nat.le_of_ble_eq_true rfl) (fun p e s m below meth c F hE A hAe hsz hA hfr hP hD hS hX ls hl => ?_)
  obtain ⟨hx, hb, hml, hown, hr, hlocks, hts⟩ := id F
  have hIT0 := hX
  have hIT := hIT0
  have hl : lv_has ls 4 [(0, .ref mo), (1, .int (a1)), (2, .int (a2)), (3, .int (a3))] := hl
  have hP : va_P G.1 kcl [(mo, .inr (5, [.int (w.1), .ref cs, .int (w.2.1), .int (w.2.2.1), .int (w.2.2.2.1)])), (cs, .inl (G.2.1 3, 6, .inr (.inr (.inr (.inr (f))))))] s.heap := hP
  have hD : va_D A [(mo, .inr (5, [.int (w.1), .ref cs, .int (w.2.1), .int (w.2.2.1), .int (w.2.2.2.1)])), (cs, .inl (G.2.1 3, 6, .inr (.inr (.inr (.inr (f))))))] := hD
  have hw : fn_X9_sample a1 a2 a3 w = _ := fn_X9_sample.eq_1 a1 a2 a3 w
  have hk : (((jst (fn_X9_isNo (a1))) = (0 : Int32)) → ((((fn_X9_isOf (a2) ((0 : Int32)) ((11 : Int32))) = (0 : Int32)) → ((((jrr (jrt ((1 : Int32)) ((2 : Int32)) (jst (fn_X9_isNo (a1))))) = (0 : Int32)) → ((fk_X9_sampled (a2)) ∧ (True))) ∧ (¬ ((jrr (jrt ((1 : Int32)) ((2 : Int32)) (jst (fn_X9_isNo (a1))))) = (0 : Int32)) → (True)))) ∧ (¬ ((fn_X9_isOf (a2) ((0 : Int32)) ((11 : Int32))) = (0 : Int32)) → ((((jrr (jrt ((0 : Int32)) ((2 : Int32)) (jst (fn_X9_isNo (a1))))) = (0 : Int32)) → ((fk_X9_sampled (a2)) ∧ (True))) ∧ (¬ ((jrr (jrt ((0 : Int32)) ((2 : Int32)) (jst (fn_X9_isNo (a1))))) = (0 : Int32)) → (True)))))) ∧ (¬ ((jst (fn_X9_isNo (a1))) = (0 : Int32)) → (True)) := hk.1
  refine lv_aload_n hx hb dc_X9_sample_0 rfl (lv_at hl 0 rfl) ?_
  refine lv_iload_n hx hb dc_X9_sample_1 rfl (lv_at hl 1 rfl) ?_
  refine ky_cS0 (As := [.int (a1)]) F (mt_X9_isNo l (a1)) ks_X9_51 ⟨⟨rfl, rfl⟩, by decide, by decide⟩ rfl hl.1 rfl (Nat.le_of_ble_eq_true rfl) ⟨Nat.le_of_ble_eq_true rfl, Nat.le_of_ble_eq_true rfl⟩ dc_X9_sample_2 ?_
  refine ky_cVh (As := [.int (fn_X9_isNo (a1))]) (wr := []) F (hE.at hfr hS) hfr (mt_X9_startJ l G (mo) (cs) ((w.1, w.2.1, w.2.2.1, w.2.2.2.1)) (f) (fn_X9_isNo (a1)) s.heap.size ) kv_X9_55 ⟨⟨rfl, rfl⟩, by decide, by decide⟩ rfl hl.1 rfl (Nat.le_of_ble_eq_true rfl) ⟨Nat.le_of_ble_eq_true rfl, Nat.le_of_ble_eq_true rfl⟩ (va_recv hE.1 hP (ci := 5) (q0 := 0) rfl rfl) trivial hP hD hS hA [0, 1] [] rfl rfl (by decide) (by decide) (by decide) dc_X9_sample_5 ?_
  rintro v9 u9 H locs ⟨rfl, rfl⟩ hP hD hS - hz hk9
  obtain ⟨j_1, hj_1⟩ : ∃ j9, j9 = jst (fn_X9_isNo (a1)) := ⟨_, rfl⟩
  rw [← hj_1] at hP hD ⊢
  try rw [← hj_1] at hw
  try rw [← hj_1] at hk
  have hP : va_P G.1 kcl [(mo, .inr (5, [.int (j_1), .ref cs, .int (w.2.1), .int (w.2.2.1), .int (w.2.2.2.1)])), (cs, .inl (G.2.1 3, 6, .inr (.inr (.inr (.inr (f))))))] H := hP
  have hD : va_D A [(mo, .inr (5, [.int (j_1), .ref cs, .int (w.2.1), .int (w.2.2.1), .int (w.2.2.2.1)])), (cs, .inl (G.2.1 3, 6, .inr (.inr (.inr (.inr (f))))))] := hD
  have hIT := hIT0.ro hAe hS
  refine W.widen (k := 0) (n := 0) (Nat.le_refl _) (Nat.le_refl _) ?_
  refine lv_if_ne (tgt := 34) hx hb dc_X9_sample_8 (by decide) (fun c_2 => ?_) (fun c_2 => ?_)
  · have hw := hw.trans (if_neg c_2)
    have hk := hk.2 c_2
    refine lv_iconst (v := 0) hx hb dc_X9_sample_34 (by decide) ?_
    refine lv_goto (tgt := 58) hx hb dc_X9_sample_35 (by decide) ?_
    have hP9 : va_P G.1 kcl (ky_WM G mo cs ((j_1, w.2.1, w.2.2.1, w.2.2.2.1, w.2.2.2.2)) (f)) H := hP.sub [0, 1] rfl
    have hD9 : va_D A (ky_WM G mo cs ((j_1, w.2.1, w.2.2.1, w.2.2.2.1, w.2.2.2.2)) (f)) := hD.sub [0, 1] (by decide) rfl
    refine W.widen (k := 1) (n := 2) (Nat.le_of_ble_eq_true rfl) (Nat.le_of_ble_eq_true rfl) ?_
    exact W.iret (v := (0 : Int32)) hx hb hr (fun t ht hW => ⟨by rw [ht]; exact ky_endM (fun z => some (.int z)) ((0 : Int32)) hw hP9 hD9 (hIT), hS.F ht⟩) hS.2.2 dc_X9_sample_58
  · have hw := hw.trans (if_pos c_2)
    have hk := hk.1 c_2
    refine lv_aload_n hx hb dc_X9_sample_11 rfl (lv_at hl 0 rfl) ?_
    refine lv_iload_n hx hb dc_X9_sample_12 rfl (lv_at hl 2 rfl) ?_
    refine lv_iconst (v := 0) hx hb dc_X9_sample_13 (by decide) ?_
    refine lv_bipush (v := 11) hx hb dc_X9_sample_14 (by decide) ?_
    refine ky_cS0 (As := [.int (a2), .int ((0 : Int32)), .int ((11 : Int32))]) F (mt_X9_isOf l (a2) ((0 : Int32)) ((11 : Int32))) ks_X9_40 ⟨⟨rfl, rfl⟩, by decide, by decide⟩ rfl hl.1 rfl (Nat.le_of_ble_eq_true rfl) ⟨Nat.le_of_ble_eq_true rfl, Nat.le_of_ble_eq_true rfl⟩ dc_X9_sample_16 ?_
    refine lv_if_ne (tgt := 26) hx hb dc_X9_sample_19 (by decide) (fun c_3 => ?_) (fun c_3 => ?_)
    · have hw := hw.trans (if_neg c_3)
      have hk := hk.2 c_3
      refine lv_iconst (v := 0) hx hb dc_X9_sample_26 (by decide) ?_
      refine lv_iconst (v := 2) hx hb dc_X9_sample_27 (by decide) ?_
      refine ky_cVh (As := [.int ((0 : Int32)), .int ((2 : Int32))]) (wr := []) F (hE.at hfr hS) hfr (mt_X9_refuseJ l G (mo) (cs) ((j_1, w.2.1, w.2.2.1, w.2.2.2.1)) (f) ((0 : Int32)) ((2 : Int32)) H.size ) kv_X9_36 ⟨⟨rfl, rfl⟩, by decide, by decide⟩ rfl hl.1 rfl (Nat.le_of_ble_eq_true rfl) ⟨Nat.le_of_ble_eq_true rfl, Nat.le_of_ble_eq_true rfl⟩ (va_recv hE.1 hP (ci := 5) (q0 := 0) rfl rfl) trivial hP hD hS hA [0, 1] [] rfl rfl (by decide) (by decide) (by decide) dc_X9_sample_28 ?_
      rintro v9 u9 H locs ⟨rfl, rfl⟩ hP hD hS - hz hk9
      obtain ⟨j_5, hj_5⟩ : ∃ j9, j9 = jrt ((0 : Int32)) ((2 : Int32)) (j_1) := ⟨_, rfl⟩
      rw [← hj_5] at hP hD ⊢
      try rw [← hj_5] at hw
      try rw [← hj_5] at hk
      have hP : va_P G.1 kcl [(mo, .inr (5, [.int (j_5), .ref cs, .int (w.2.1), .int (w.2.2.1), .int (w.2.2.2.1)])), (cs, .inl (G.2.1 3, 6, .inr (.inr (.inr (.inr (f))))))] H := hP
      have hD : va_D A [(mo, .inr (5, [.int (j_5), .ref cs, .int (w.2.1), .int (w.2.2.1), .int (w.2.2.2.1)])), (cs, .inl (G.2.1 3, 6, .inr (.inr (.inr (.inr (f))))))] := hD
      have hIT := hIT0.ro hAe hS
      refine W.widen (k := 0) (n := 0) (Nat.le_refl _) (Nat.le_refl _) ?_
      refine lv_if_eq (tgt := 38) hx hb dc_X9_sample_31 (by decide) (fun c_6 => ?_) (fun c_6 => ?_)
      · have hw := hw.trans (if_pos c_6)
        have hk := hk.1 c_6
        refine lv_aload_n hx hb dc_X9_sample_38 rfl (lv_at hl 0 rfl) ?_
        refine lv_iload_n hx hb dc_X9_sample_39 rfl (lv_at hl 1 rfl) ?_
        refine va_new (ci := 4) (fs := [.int (0), .long (0)]) (C := RX8) (T := TX8) (N := 2) hx hb hts ki_X8 tyX8 tyX8_ok hown (hts _ kw_6_3) (hts _ kw_6_5) (hts _ kw_1_9) hE.1 hP hD hS hA rfl (fun j hj => by rcases (show j = 0 ∨ j = 1 by omega) with rfl | rfl <;> rfl) (Nat.le_of_ble_eq_true rfl) (Nat.le_of_ble_eq_true rfl) dc_X9_sample_40 (fun q_7 H hP hD hS => ?_)
        have hP : va_P G.1 kcl [(mo, .inr (5, [.int (j_5), .ref cs, .int (w.2.1), .int (w.2.2.1), .int (w.2.2.2.1)])), (cs, .inl (G.2.1 3, 6, .inr (.inr (.inr (.inr (f)))))), (q_7, .inr (4, [.int (0), .long (0)]))] H := hP
        have hD : va_D A [(mo, .inr (5, [.int (j_5), .ref cs, .int (w.2.1), .int (w.2.2.1), .int (w.2.2.2.1)])), (cs, .inl (G.2.1 3, 6, .inr (.inr (.inr (.inr (f)))))), (q_7, .inr (4, [.int (0), .long (0)]))] := hD
        have hIT := hIT0.ro hAe hS
        refine W.widen (k := 1) (n := 2) (Nat.le_refl _) (Nat.le_refl _) ?_
        refine lv_dup hx hb dc_X9_sample_43 rfl ?_
        refine lv_iload_n hx hb dc_X9_sample_44 rfl (lv_at hl 3 rfl) ?_
        refine ky_cS0 (As := [.int (a3)]) F (mt_X9_one l (a3)) ks_X9_59 ⟨⟨rfl, rfl⟩, by decide, by decide⟩ rfl hl.1 rfl (Nat.le_of_ble_eq_true rfl) ⟨Nat.le_of_ble_eq_true rfl, Nat.le_of_ble_eq_true rfl⟩ dc_X9_sample_45 ?_
        refine lv_iload_n hx hb dc_X9_sample_48 rfl (lv_at hl 2 rfl) ?_
        obtain ⟨hq_8, hk⟩ := hk
        refine ky_cS0 (As := [.int (a2)]) F (mt_X9_sampled l (a2) hq_8) ks_X9_100 ⟨⟨rfl, rfl⟩, by decide, by decide⟩ rfl hl.1 rfl (Nat.le_of_ble_eq_true rfl) ⟨Nat.le_of_ble_eq_true rfl, Nat.le_of_ble_eq_true rfl⟩ dc_X9_sample_49 ?_
        refine ky_cIh (As := [.int (fn_X9_one (a3)), .long (fn_X9_sampled (a2))]) (wr := [(mo, .inr (5, [.int (j_5), .ref cs, .int (w.2.1), .int (w.2.2.1), .int (w.2.2.2.1)])), (cs, .inl (G.2.1 3, 6, .inr (.inr (.inr (.inr (f))))))]) F (hE.at hfr hS) hfr (mt_X8_init l G (q_7) (fn_X9_one (a3)) (fn_X9_sampled (a2)) H.size ) kI_X9_29 ⟨⟨rfl, rfl⟩, by decide, by decide⟩ rfl hl.1 rfl (Nat.le_of_ble_eq_true rfl) ⟨Nat.le_of_ble_eq_true rfl, Nat.le_of_ble_eq_true rfl⟩ trivial hP hD hS hA [2] [0, 1] rfl rfl (by decide) (by decide) (by decide) dc_X9_sample_52 ?_
        rintro v9 u9 H locs ⟨rfl, rfl⟩ hP hD hS - hz hk9
        have hP : va_P G.1 kcl [(mo, .inr (5, [.int (j_5), .ref cs, .int (w.2.1), .int (w.2.2.1), .int (w.2.2.2.1)])), (cs, .inl (G.2.1 3, 6, .inr (.inr (.inr (.inr (f)))))), (q_7, .inr (4, [.int (fn_X9_one (a3)), .long (fn_X9_sampled (a2))]))] H := hP
        have hD : va_D A [(mo, .inr (5, [.int (j_5), .ref cs, .int (w.2.1), .int (w.2.2.1), .int (w.2.2.2.1)])), (cs, .inl (G.2.1 3, 6, .inr (.inr (.inr (.inr (f)))))), (q_7, .inr (4, [.int (fn_X9_one (a3)), .long (fn_X9_sampled (a2))]))] := hD
        have hIT := hIT0.ro hAe hS
        refine W.widen (k := 1) (n := 2) (Nat.le_refl _) (Nat.le_refl _) ?_
        have hJ_10 : ky_It G q_7 ((fn_X9_one (a3), fn_X9_sampled (a2))) H := ky_itp (hP.sub (ws' := [(q_7, .inr (4, [.int (fn_X9_one (a3)), .long (fn_X9_sampled (a2))]))]) [2] rfl)
        have hk_10 : ky_ok mo cs N q_7 := ky_ok.own hAe hIT0.1 hD 0 1 2 rfl rfl rfl (by decide) (by decide)
        refine ky_cVh (As := [.int (a1), .ref q_7]) (wr := [(q_7, .inr (4, [.int (fn_X9_one (a3)), .long (fn_X9_sampled (a2))]))]) F (hE.at hfr hS) hfr (mt_X9_give l G mo cs N (j_5, w.2.1, w.2.2.1, w.2.2.2.1, w.2.2.2.2) (f) (q_7) (fn_X9_one (a3), fn_X9_sampled (a2)) hk_10 (a1) H.size (lr_start (hj_1.symm.trans c_2))) kv_X9_63 ⟨⟨rfl, rfl⟩, by decide, by decide⟩ rfl hl.1 rfl (Nat.le_of_ble_eq_true rfl) ⟨Nat.le_of_ble_eq_true rfl, Nat.le_of_ble_eq_true rfl⟩ (va_recv hE.1 hP (ci := 5) (q0 := 0) rfl rfl) ⟨hIT, hJ_10⟩ hP hD hS hA [0, 1] [2] rfl rfl (by decide) (by decide) (by decide) dc_X9_sample_55 ?_
        rintro v9 ⟨w_11, f_11⟩ H locs ⟨rfl, hw_11⟩ hP hD hS hIT9 hz hk9
        have hw_11 : w_11 = (fn_X9_give (a1) (fn_X9_one (a3), fn_X9_sampled (a2)) (j_5, w.2.1, w.2.2.1, w.2.2.2.1, w.2.2.2.2)).2 := hw_11
        try rw [← hw_11] at hw
        try rw [← hw_11] at hk
        have hP : va_P G.1 kcl [(q_7, .inr (4, [.int (fn_X9_one (a3)), .long (fn_X9_sampled (a2))])), (mo, .inr (5, [.int ((w_11).1), .ref cs, .int ((w_11).2.1), .int ((w_11).2.2.1), .int ((w_11).2.2.2.1)])), (cs, .inl (G.2.1 3, 6, .inr (.inr (.inr (.inr (f_11))))))] H := hP
        have hD : va_D A [(q_7, .inr (4, [.int (fn_X9_one (a3)), .long (fn_X9_sampled (a2))])), (mo, .inr (5, [.int ((w_11).1), .ref cs, .int ((w_11).2.1), .int ((w_11).2.2.1), .int ((w_11).2.2.2.1)])), (cs, .inl (G.2.1 3, 6, .inr (.inr (.inr (.inr (f_11))))))] := hD
        have hIT : ky_IT G mo cs N f_11 ((w_11).2.2.2.2) H := hIT9
        refine W.widen (k := 1) (n := 2) (Nat.le_refl _) (Nat.le_refl _) ?_
        have hP9 : va_P G.1 kcl (ky_WM G mo cs ((w_11)) (f_11)) H := hP.sub [1, 2] rfl
        have hD9 : va_D A (ky_WM G mo cs ((w_11)) (f_11)) := hD.sub [1, 2] (by decide) rfl
        refine W.widen (k := 1) (n := 2) (Nat.le_of_ble_eq_true rfl) (Nat.le_of_ble_eq_true rfl) ?_
        exact W.iret (v := (fn_X9_give (a1) (fn_X9_one (a3), fn_X9_sampled (a2)) (j_5, w.2.1, w.2.2.1, w.2.2.2.1, w.2.2.2.2)).1) hx hb hr (fun t ht hW => ⟨by rw [ht]; exact ky_endM (fun z => some (.int z)) ((fn_X9_give (a1) (fn_X9_one (a3), fn_X9_sampled (a2)) (j_5, w.2.1, w.2.2.1, w.2.2.2.1, w.2.2.2.2)).1) hw hP9 hD9 (hIT), hS.F ht⟩) hS.2.2 dc_X9_sample_58
      · have hw := hw.trans (if_neg c_6)
        have hk := hk.2 c_6
        refine lv_iconst (v := 0) hx hb dc_X9_sample_34 (by decide) ?_
        refine lv_goto (tgt := 58) hx hb dc_X9_sample_35 (by decide) ?_
        have hP9 : va_P G.1 kcl (ky_WM G mo cs ((j_5, w.2.1, w.2.2.1, w.2.2.2.1, w.2.2.2.2)) (f)) H := hP.sub [0, 1] rfl
        have hD9 : va_D A (ky_WM G mo cs ((j_5, w.2.1, w.2.2.1, w.2.2.2.1, w.2.2.2.2)) (f)) := hD.sub [0, 1] (by decide) rfl
        refine W.widen (k := 1) (n := 2) (Nat.le_of_ble_eq_true rfl) (Nat.le_of_ble_eq_true rfl) ?_
        exact W.iret (v := (0 : Int32)) hx hb hr (fun t ht hW => ⟨by rw [ht]; exact ky_endM (fun z => some (.int z)) ((0 : Int32)) hw hP9 hD9 (hIT), hS.F ht⟩) hS.2.2 dc_X9_sample_58
    · have hw := hw.trans (if_pos c_3)
      have hk := hk.1 c_3
      refine lv_iconst (v := 1) hx hb dc_X9_sample_22 (by decide) ?_
      refine lv_goto (tgt := 27) hx hb dc_X9_sample_23 (by decide) ?_
      refine lv_iconst (v := 2) hx hb dc_X9_sample_27 (by decide) ?_
      refine ky_cVh (As := [.int ((1 : Int32)), .int ((2 : Int32))]) (wr := []) F (hE.at hfr hS) hfr (mt_X9_refuseJ l G (mo) (cs) ((j_1, w.2.1, w.2.2.1, w.2.2.2.1)) (f) ((1 : Int32)) ((2 : Int32)) H.size ) kv_X9_36 ⟨⟨rfl, rfl⟩, by decide, by decide⟩ rfl hl.1 rfl (Nat.le_of_ble_eq_true rfl) ⟨Nat.le_of_ble_eq_true rfl, Nat.le_of_ble_eq_true rfl⟩ (va_recv hE.1 hP (ci := 5) (q0 := 0) rfl rfl) trivial hP hD hS hA [0, 1] [] rfl rfl (by decide) (by decide) (by decide) dc_X9_sample_28 ?_
      rintro v9 u9 H locs ⟨rfl, rfl⟩ hP hD hS - hz hk9
      obtain ⟨j_5, hj_5⟩ : ∃ j9, j9 = jrt ((1 : Int32)) ((2 : Int32)) (j_1) := ⟨_, rfl⟩
      rw [← hj_5] at hP hD ⊢
      try rw [← hj_5] at hw
      try rw [← hj_5] at hk
      have hP : va_P G.1 kcl [(mo, .inr (5, [.int (j_5), .ref cs, .int (w.2.1), .int (w.2.2.1), .int (w.2.2.2.1)])), (cs, .inl (G.2.1 3, 6, .inr (.inr (.inr (.inr (f))))))] H := hP
      have hD : va_D A [(mo, .inr (5, [.int (j_5), .ref cs, .int (w.2.1), .int (w.2.2.1), .int (w.2.2.2.1)])), (cs, .inl (G.2.1 3, 6, .inr (.inr (.inr (.inr (f))))))] := hD
      have hIT := hIT0.ro hAe hS
      refine W.widen (k := 0) (n := 0) (Nat.le_refl _) (Nat.le_refl _) ?_
      refine lv_if_eq (tgt := 38) hx hb dc_X9_sample_31 (by decide) (fun c_6 => ?_) (fun c_6 => ?_)
      · have hw := hw.trans (if_pos c_6)
        have hk := hk.1 c_6
        refine lv_aload_n hx hb dc_X9_sample_38 rfl (lv_at hl 0 rfl) ?_
        refine lv_iload_n hx hb dc_X9_sample_39 rfl (lv_at hl 1 rfl) ?_
        refine va_new (ci := 4) (fs := [.int (0), .long (0)]) (C := RX8) (T := TX8) (N := 2) hx hb hts ki_X8 tyX8 tyX8_ok hown (hts _ kw_6_3) (hts _ kw_6_5) (hts _ kw_1_9) hE.1 hP hD hS hA rfl (fun j hj => by rcases (show j = 0 ∨ j = 1 by omega) with rfl | rfl <;> rfl) (Nat.le_of_ble_eq_true rfl) (Nat.le_of_ble_eq_true rfl) dc_X9_sample_40 (fun q_7 H hP hD hS => ?_)
        have hP : va_P G.1 kcl [(mo, .inr (5, [.int (j_5), .ref cs, .int (w.2.1), .int (w.2.2.1), .int (w.2.2.2.1)])), (cs, .inl (G.2.1 3, 6, .inr (.inr (.inr (.inr (f)))))), (q_7, .inr (4, [.int (0), .long (0)]))] H := hP
        have hD : va_D A [(mo, .inr (5, [.int (j_5), .ref cs, .int (w.2.1), .int (w.2.2.1), .int (w.2.2.2.1)])), (cs, .inl (G.2.1 3, 6, .inr (.inr (.inr (.inr (f)))))), (q_7, .inr (4, [.int (0), .long (0)]))] := hD
        have hIT := hIT0.ro hAe hS
        refine W.widen (k := 1) (n := 2) (Nat.le_refl _) (Nat.le_refl _) ?_
        refine lv_dup hx hb dc_X9_sample_43 rfl ?_
        refine lv_iload_n hx hb dc_X9_sample_44 rfl (lv_at hl 3 rfl) ?_
        refine ky_cS0 (As := [.int (a3)]) F (mt_X9_one l (a3)) ks_X9_59 ⟨⟨rfl, rfl⟩, by decide, by decide⟩ rfl hl.1 rfl (Nat.le_of_ble_eq_true rfl) ⟨Nat.le_of_ble_eq_true rfl, Nat.le_of_ble_eq_true rfl⟩ dc_X9_sample_45 ?_
        refine lv_iload_n hx hb dc_X9_sample_48 rfl (lv_at hl 2 rfl) ?_
        obtain ⟨hq_8, hk⟩ := hk
        refine ky_cS0 (As := [.int (a2)]) F (mt_X9_sampled l (a2) hq_8) ks_X9_100 ⟨⟨rfl, rfl⟩, by decide, by decide⟩ rfl hl.1 rfl (Nat.le_of_ble_eq_true rfl) ⟨Nat.le_of_ble_eq_true rfl, Nat.le_of_ble_eq_true rfl⟩ dc_X9_sample_49 ?_
        refine ky_cIh (As := [.int (fn_X9_one (a3)), .long (fn_X9_sampled (a2))]) (wr := [(mo, .inr (5, [.int (j_5), .ref cs, .int (w.2.1), .int (w.2.2.1), .int (w.2.2.2.1)])), (cs, .inl (G.2.1 3, 6, .inr (.inr (.inr (.inr (f))))))]) F (hE.at hfr hS) hfr (mt_X8_init l G (q_7) (fn_X9_one (a3)) (fn_X9_sampled (a2)) H.size ) kI_X9_29 ⟨⟨rfl, rfl⟩, by decide, by decide⟩ rfl hl.1 rfl (Nat.le_of_ble_eq_true rfl) ⟨Nat.le_of_ble_eq_true rfl, Nat.le_of_ble_eq_true rfl⟩ trivial hP hD hS hA [2] [0, 1] rfl rfl (by decide) (by decide) (by decide) dc_X9_sample_52 ?_
        rintro v9 u9 H locs ⟨rfl, rfl⟩ hP hD hS - hz hk9
        have hP : va_P G.1 kcl [(mo, .inr (5, [.int (j_5), .ref cs, .int (w.2.1), .int (w.2.2.1), .int (w.2.2.2.1)])), (cs, .inl (G.2.1 3, 6, .inr (.inr (.inr (.inr (f)))))), (q_7, .inr (4, [.int (fn_X9_one (a3)), .long (fn_X9_sampled (a2))]))] H := hP
        have hD : va_D A [(mo, .inr (5, [.int (j_5), .ref cs, .int (w.2.1), .int (w.2.2.1), .int (w.2.2.2.1)])), (cs, .inl (G.2.1 3, 6, .inr (.inr (.inr (.inr (f)))))), (q_7, .inr (4, [.int (fn_X9_one (a3)), .long (fn_X9_sampled (a2))]))] := hD
        have hIT := hIT0.ro hAe hS
        refine W.widen (k := 1) (n := 2) (Nat.le_refl _) (Nat.le_refl _) ?_
        have hJ_10 : ky_It G q_7 ((fn_X9_one (a3), fn_X9_sampled (a2))) H := ky_itp (hP.sub (ws' := [(q_7, .inr (4, [.int (fn_X9_one (a3)), .long (fn_X9_sampled (a2))]))]) [2] rfl)
        have hk_10 : ky_ok mo cs N q_7 := ky_ok.own hAe hIT0.1 hD 0 1 2 rfl rfl rfl (by decide) (by decide)
        refine ky_cVh (As := [.int (a1), .ref q_7]) (wr := [(q_7, .inr (4, [.int (fn_X9_one (a3)), .long (fn_X9_sampled (a2))]))]) F (hE.at hfr hS) hfr (mt_X9_give l G mo cs N (j_5, w.2.1, w.2.2.1, w.2.2.2.1, w.2.2.2.2) (f) (q_7) (fn_X9_one (a3), fn_X9_sampled (a2)) hk_10 (a1) H.size (lr_start (hj_1.symm.trans c_2))) kv_X9_63 ⟨⟨rfl, rfl⟩, by decide, by decide⟩ rfl hl.1 rfl (Nat.le_of_ble_eq_true rfl) ⟨Nat.le_of_ble_eq_true rfl, Nat.le_of_ble_eq_true rfl⟩ (va_recv hE.1 hP (ci := 5) (q0 := 0) rfl rfl) ⟨hIT, hJ_10⟩ hP hD hS hA [0, 1] [2] rfl rfl (by decide) (by decide) (by decide) dc_X9_sample_55 ?_
        rintro v9 ⟨w_11, f_11⟩ H locs ⟨rfl, hw_11⟩ hP hD hS hIT9 hz hk9
        have hw_11 : w_11 = (fn_X9_give (a1) (fn_X9_one (a3), fn_X9_sampled (a2)) (j_5, w.2.1, w.2.2.1, w.2.2.2.1, w.2.2.2.2)).2 := hw_11
        try rw [← hw_11] at hw
        try rw [← hw_11] at hk
        have hP : va_P G.1 kcl [(q_7, .inr (4, [.int (fn_X9_one (a3)), .long (fn_X9_sampled (a2))])), (mo, .inr (5, [.int ((w_11).1), .ref cs, .int ((w_11).2.1), .int ((w_11).2.2.1), .int ((w_11).2.2.2.1)])), (cs, .inl (G.2.1 3, 6, .inr (.inr (.inr (.inr (f_11))))))] H := hP
        have hD : va_D A [(q_7, .inr (4, [.int (fn_X9_one (a3)), .long (fn_X9_sampled (a2))])), (mo, .inr (5, [.int ((w_11).1), .ref cs, .int ((w_11).2.1), .int ((w_11).2.2.1), .int ((w_11).2.2.2.1)])), (cs, .inl (G.2.1 3, 6, .inr (.inr (.inr (.inr (f_11))))))] := hD
        have hIT : ky_IT G mo cs N f_11 ((w_11).2.2.2.2) H := hIT9
        refine W.widen (k := 1) (n := 2) (Nat.le_refl _) (Nat.le_refl _) ?_
        have hP9 : va_P G.1 kcl (ky_WM G mo cs ((w_11)) (f_11)) H := hP.sub [1, 2] rfl
        have hD9 : va_D A (ky_WM G mo cs ((w_11)) (f_11)) := hD.sub [1, 2] (by decide) rfl
        refine W.widen (k := 1) (n := 2) (Nat.le_of_ble_eq_true rfl) (Nat.le_of_ble_eq_true rfl) ?_
        exact W.iret (v := (fn_X9_give (a1) (fn_X9_one (a3), fn_X9_sampled (a2)) (j_5, w.2.1, w.2.2.1, w.2.2.2.1, w.2.2.2.2)).1) hx hb hr (fun t ht hW => ⟨by rw [ht]; exact ky_endM (fun z => some (.int z)) ((fn_X9_give (a1) (fn_X9_one (a3), fn_X9_sampled (a2)) (j_5, w.2.1, w.2.2.1, w.2.2.2.1, w.2.2.2.2)).1) hw hP9 hD9 (hIT), hS.F ht⟩) hS.2.2 dc_X9_sample_58
      · have hw := hw.trans (if_neg c_6)
        have hk := hk.2 c_6
        refine lv_iconst (v := 0) hx hb dc_X9_sample_34 (by decide) ?_
        refine lv_goto (tgt := 58) hx hb dc_X9_sample_35 (by decide) ?_
        have hP9 : va_P G.1 kcl (ky_WM G mo cs ((j_5, w.2.1, w.2.2.1, w.2.2.2.1, w.2.2.2.2)) (f)) H := hP.sub [0, 1] rfl
        have hD9 : va_D A (ky_WM G mo cs ((j_5, w.2.1, w.2.2.1, w.2.2.2.1, w.2.2.2.2)) (f)) := hD.sub [0, 1] (by decide) rfl
        refine W.widen (k := 1) (n := 2) (Nat.le_of_ble_eq_true rfl) (Nat.le_of_ble_eq_true rfl) ?_
        exact W.iret (v := (0 : Int32)) hx hb hr (fun t ht hW => ⟨by rw [ht]; exact ky_endM (fun z => some (.int z)) ((0 : Int32)) hw hP9 hD9 (hIT), hS.F ht⟩) hS.2.2 dc_X9_sample_58
end
section
abbrev my_X9_placeNow : MethodName := ⟨"ExactdoublesModel", "placeNow", "(I)I"⟩
abbrev my_X9_place : MethodName := ⟨"ExactdoublesModel", "place", "(I)I"⟩
abbrev my_X9_houseNow : MethodName := ⟨"ExactdoublesModel", "houseNow", "(I)I"⟩
abbrev my_X9_house : MethodName := ⟨"ExactdoublesModel", "house", "(I)I"⟩
abbrev my_X6_countWholeOnes : MethodName := ⟨"Exactdoubles", "countWholeOnes", "()I"⟩
abbrev my_X6_placeOf : MethodName := ⟨"Exactdoubles", "placeOf", "(J)I"⟩
abbrev my_X6_lastOfAll : MethodName := ⟨"Exactdoubles", "lastOfAll", "()J"⟩
abbrev my_X6_firstOfAll : MethodName := ⟨"Exactdoubles", "firstOfAll", "()J"⟩
abbrev my_X6_countOf : MethodName := ⟨"Exactdoubles", "countOf", "(I)I"⟩
abbrev my_X6_place : MethodName := ⟨"Exactdoubles", "place", "(I)I"⟩
abbrev my_X6_house : MethodName := ⟨"Exactdoubles", "house", "(I)I"⟩
theorem kw_7_201 : (Jvm.Cond.methodLink "ExactdoublesModel" (244 : Nat) ({ cls := "ExactdoublesModel", name := "placeNow", desc := "(I)I" } : Jvm.MethodName)) ∈ ky_B := ky_mem (kc_7 _ (List.mem_of_getElem? (i := 201) rfl)) (by decide +kernel)
theorem kw_7_203 : (Jvm.Cond.instanceMethod ({ cls := "ExactdoublesModel", name := "placeNow", desc := "(I)I" } : Jvm.MethodName)) ∈ ky_B := ky_mem (kc_7 _ (List.mem_of_getElem? (i := 203) rfl)) (by decide +kernel)
theorem kp_X9_placeNow : (Jvm.Cond.selects "ExactdoublesModel" ({ cls := "ExactdoublesModel", name := "placeNow", desc := "(I)I" } : Jvm.MethodName) ({ cls := "ExactdoublesModel", name := "placeNow", desc := "(I)I" } : Jvm.MethodName)) ∈ ky_B := ky_mem (List.mem_append_left _ (List.mem_of_getElem? (i := 28) (by decide +kernel))) (by decide +kernel)
theorem kw_7_204 : (Jvm.Cond.code ({ cls := "ExactdoublesModel", name := "placeNow", desc := "(I)I" } : Jvm.MethodName) prog_10_method_61_code (7 : Nat) (Option.some Jvm.ClassFile.FieldType.int)) ∈ ky_B := ky_mem (kc_7 _ (List.mem_of_getElem? (i := 204) rfl)) (by decide +kernel)
theorem kw_8_21 : (Jvm.Cond.arrayClass Jvm.ClassFile.FieldType.int) ∈ ky_B := ky_mem (kc_8 _ (List.mem_of_getElem? (i := 21) rfl)) (by decide +kernel)
theorem kw_8_17 : (Jvm.Cond.methodLink "ExactdoublesModel" (258 : Nat) ({ cls := "ExactdoublesModel", name := "houseNow", desc := "(I)I" } : Jvm.MethodName)) ∈ ky_B := ky_mem (kc_8 _ (List.mem_of_getElem? (i := 17) rfl)) (by decide +kernel)
theorem kw_8_19 : (Jvm.Cond.instanceMethod ({ cls := "ExactdoublesModel", name := "houseNow", desc := "(I)I" } : Jvm.MethodName)) ∈ ky_B := ky_mem (kc_8 _ (List.mem_of_getElem? (i := 19) rfl)) (by decide +kernel)
theorem kp_X9_houseNow : (Jvm.Cond.selects "ExactdoublesModel" ({ cls := "ExactdoublesModel", name := "houseNow", desc := "(I)I" } : Jvm.MethodName) ({ cls := "ExactdoublesModel", name := "houseNow", desc := "(I)I" } : Jvm.MethodName)) ∈ ky_B := ky_mem (List.mem_append_left _ (List.mem_of_getElem? (i := 31) (by decide +kernel))) (by decide +kernel)
theorem kw_8_20 : (Jvm.Cond.code ({ cls := "ExactdoublesModel", name := "houseNow", desc := "(I)I" } : Jvm.MethodName) prog_10_method_75_code (7 : Nat) (Option.some Jvm.ClassFile.FieldType.int)) ∈ ky_B := ky_mem (kc_8 _ (List.mem_of_getElem? (i := 20) rfl)) (by decide +kernel)
theorem kw_3_224 : (Jvm.Cond.methodLink "Exactdoubles" (231 : Nat) ({ cls := "Exactdoubles", name := "countWholeOnes", desc := "()I" } : Jvm.MethodName)) ∈ ky_B := ky_mem (kc_3 _ (List.mem_of_getElem? (i := 224) rfl)) (by decide +kernel)
theorem kw_3_226 : (Jvm.Cond.instanceMethod ({ cls := "Exactdoubles", name := "countWholeOnes", desc := "()I" } : Jvm.MethodName)) ∈ ky_B := ky_mem (kc_3 _ (List.mem_of_getElem? (i := 226) rfl)) (by decide +kernel)
theorem kp_X6_countWholeOnes : (Jvm.Cond.selects "Exactdoubles" ({ cls := "Exactdoubles", name := "countWholeOnes", desc := "()I" } : Jvm.MethodName) ({ cls := "Exactdoubles", name := "countWholeOnes", desc := "()I" } : Jvm.MethodName)) ∈ ky_B := ky_mem (List.mem_append_left _ (List.mem_of_getElem? (i := 10) (by decide +kernel))) (by decide +kernel)
theorem kw_3_227 : (Jvm.Cond.code ({ cls := "Exactdoubles", name := "countWholeOnes", desc := "()I" } : Jvm.MethodName) prog_1_method_63_code (3 : Nat) (Option.some Jvm.ClassFile.FieldType.int)) ∈ ky_B := ky_mem (kc_3 _ (List.mem_of_getElem? (i := 227) rfl)) (by decide +kernel)
theorem kw_4_44 : (Jvm.Cond.methodLink "Exactdoubles" (176 : Nat) ({ cls := "Exactdoubles", name := "placeOf", desc := "(J)I" } : Jvm.MethodName)) ∈ ky_B := ky_mem (kc_4 _ (List.mem_of_getElem? (i := 44) rfl)) (by decide +kernel)
theorem kw_4_46 : (Jvm.Cond.instanceMethod ({ cls := "Exactdoubles", name := "placeOf", desc := "(J)I" } : Jvm.MethodName)) ∈ ky_B := ky_mem (kc_4 _ (List.mem_of_getElem? (i := 46) rfl)) (by decide +kernel)
theorem kp_X6_placeOf : (Jvm.Cond.selects "Exactdoubles" ({ cls := "Exactdoubles", name := "placeOf", desc := "(J)I" } : Jvm.MethodName) ({ cls := "Exactdoubles", name := "placeOf", desc := "(J)I" } : Jvm.MethodName)) ∈ ky_B := ky_mem (List.mem_append_left _ (List.mem_of_getElem? (i := 13) (by decide +kernel))) (by decide +kernel)
theorem kw_4_47 : (Jvm.Cond.code ({ cls := "Exactdoubles", name := "placeOf", desc := "(J)I" } : Jvm.MethodName) prog_1_method_68_code (5 : Nat) (Option.some Jvm.ClassFile.FieldType.int)) ∈ ky_B := ky_mem (kc_4 _ (List.mem_of_getElem? (i := 47) rfl)) (by decide +kernel)
theorem kw_3_220 : (Jvm.Cond.methodLink "Exactdoubles" (189 : Nat) ({ cls := "Exactdoubles", name := "countOf", desc := "(I)I" } : Jvm.MethodName)) ∈ ky_B := ky_mem (kc_3 _ (List.mem_of_getElem? (i := 220) rfl)) (by decide +kernel)
theorem kw_3_222 : (Jvm.Cond.instanceMethod ({ cls := "Exactdoubles", name := "countOf", desc := "(I)I" } : Jvm.MethodName)) ∈ ky_B := ky_mem (kc_3 _ (List.mem_of_getElem? (i := 222) rfl)) (by decide +kernel)
theorem kp_X6_countOf : (Jvm.Cond.selects "Exactdoubles" ({ cls := "Exactdoubles", name := "countOf", desc := "(I)I" } : Jvm.MethodName) ({ cls := "Exactdoubles", name := "countOf", desc := "(I)I" } : Jvm.MethodName)) ∈ ky_B := ky_mem (List.mem_append_left _ (List.mem_of_getElem? (i := 9) (by decide +kernel))) (by decide +kernel)
theorem kw_3_223 : (Jvm.Cond.code ({ cls := "Exactdoubles", name := "countOf", desc := "(I)I" } : Jvm.MethodName) prog_1_method_62_code (2 : Nat) (Option.some Jvm.ClassFile.FieldType.int)) ∈ ky_B := ky_mem (kc_3 _ (List.mem_of_getElem? (i := 223) rfl)) (by decide +kernel)
theorem kv_X9_244 : ky_wV "ExactdoublesModel" 244 my_X9_placeNow prog_10_method_61_code 7 (Option.some Jvm.ClassFile.FieldType.int) 1 := ⟨kw_7_201, kw_7_203, kp_X9_placeNow, kw_1_8, kw_7_204, by decide +kernel, by decide +kernel, pd_34⟩
theorem kv_X9_258 : ky_wV "ExactdoublesModel" 258 my_X9_houseNow prog_10_method_75_code 7 (Option.some Jvm.ClassFile.FieldType.int) 1 := ⟨kw_8_17, kw_8_19, kp_X9_houseNow, kw_1_8, kw_8_20, by decide +kernel, by decide +kernel, pd_34⟩
theorem kv_X6_231 : ky_wV "Exactdoubles" 231 my_X6_countWholeOnes prog_1_method_63_code 3 (Option.some Jvm.ClassFile.FieldType.int) 0 := ⟨kw_3_224, kw_3_226, kp_X6_countWholeOnes, kw_1_1, kw_3_227, by decide +kernel, by decide +kernel, pd_14⟩
theorem kv_X6_176 : ky_wV "Exactdoubles" 176 my_X6_placeOf prog_1_method_68_code 5 (Option.some Jvm.ClassFile.FieldType.int) 1 := ⟨kw_4_44, kw_4_46, kp_X6_placeOf, kw_1_1, kw_4_47, by decide +kernel, by decide +kernel, pd_2⟩
theorem kv_X6_189 : ky_wV "Exactdoubles" 189 my_X6_countOf prog_1_method_62_code 2 (Option.some Jvm.ClassFile.FieldType.int) 1 := ⟨kw_3_220, kw_3_222, kp_X6_countOf, kw_1_1, kw_3_223, by decide +kernel, by decide +kernel, pd_34⟩
def dw_C_prog_10_method_61_code_0 : List UInt8 := [3, 61, 42, 180, 0, 25, 78, 45, 190, 54, 4, 3, 54, 5, 21, 5, 21, 4, 162, 0, 44, 45, 21, 5, 50, 58, 6, 28, 25, 6, 182, 0, 147, 42, 180, 0, 25, 27, 50, 182, 0, 147, 148, 156, 0, 7, 4, 167, 0, 4, 3, 184, 0, 59, 96, 61, 132, 5, 1, 167, 255, 211, 28, 172]
theorem dw_h_prog_10_method_61_code_0 : (prog_10_method_61_code.data.toList.drop 0).take 72 = dw_C_prog_10_method_61_code_0 := by decide +kernel
theorem dw_b_X9_placeNow_0 : dw_chk dw_C_prog_10_method_61_code_0 0 0 (.iconst 0) 1 = true ∧ dw_chk dw_C_prog_10_method_61_code_0 1 1 (.istore_n 2) 1 = true ∧ dw_chk dw_C_prog_10_method_61_code_0 2 2 (.aload_n 0) 1 = true ∧ dw_chk dw_C_prog_10_method_61_code_0 3 3 (.getfield 25) 3 = true ∧ dw_chk dw_C_prog_10_method_61_code_0 6 6 (.astore_n 3) 1 = true ∧ dw_chk dw_C_prog_10_method_61_code_0 7 7 (.aload_n 3) 1 = true ∧ dw_chk dw_C_prog_10_method_61_code_0 8 8 (.arraylength) 1 = true ∧ dw_chk dw_C_prog_10_method_61_code_0 9 9 (.istore 4) 2 = true ∧ dw_chk dw_C_prog_10_method_61_code_0 11 11 (.iconst 0) 1 = true ∧ dw_chk dw_C_prog_10_method_61_code_0 12 12 (.istore 5) 2 = true ∧ dw_chk dw_C_prog_10_method_61_code_0 14 14 (.iload 5) 2 = true ∧ dw_chk dw_C_prog_10_method_61_code_0 16 16 (.iload 4) 2 = true ∧ dw_chk dw_C_prog_10_method_61_code_0 18 18 (.if_icmp .ge 44) 3 = true ∧ dw_chk dw_C_prog_10_method_61_code_0 62 62 (.iload_n 2) 1 = true ∧ dw_chk dw_C_prog_10_method_61_code_0 63 63 (.ireturn) 1 = true ∧ dw_chk dw_C_prog_10_method_61_code_0 21 21 (.aload_n 3) 1 = true ∧ dw_chk dw_C_prog_10_method_61_code_0 22 22 (.iload 5) 2 = true ∧ dw_chk dw_C_prog_10_method_61_code_0 24 24 (.aaload) 1 = true ∧ dw_chk dw_C_prog_10_method_61_code_0 25 25 (.astore 6) 2 = true ∧ dw_chk dw_C_prog_10_method_61_code_0 27 27 (.iload_n 2) 1 = true ∧ dw_chk dw_C_prog_10_method_61_code_0 28 28 (.aload 6) 2 = true ∧ dw_chk dw_C_prog_10_method_61_code_0 30 30 (.invokevirtual 147) 3 = true ∧ dw_chk dw_C_prog_10_method_61_code_0 33 33 (.aload_n 0) 1 = true ∧ dw_chk dw_C_prog_10_method_61_code_0 34 34 (.getfield 25) 3 = true ∧ dw_chk dw_C_prog_10_method_61_code_0 37 37 (.iload_n 1) 1 = true ∧ dw_chk dw_C_prog_10_method_61_code_0 38 38 (.aaload) 1 = true ∧ dw_chk dw_C_prog_10_method_61_code_0 39 39 (.invokevirtual 147) 3 = true ∧ dw_chk dw_C_prog_10_method_61_code_0 42 42 (.lcmp) 1 = true ∧ dw_chk dw_C_prog_10_method_61_code_0 43 43 (.ifCond .ge 7) 3 = true ∧ dw_chk dw_C_prog_10_method_61_code_0 50 50 (.iconst 0) 1 = true ∧ dw_chk dw_C_prog_10_method_61_code_0 51 51 (.invokestatic 59) 3 = true ∧ dw_chk dw_C_prog_10_method_61_code_0 54 54 (.iadd) 1 = true ∧ dw_chk dw_C_prog_10_method_61_code_0 55 55 (.istore_n 2) 1 = true ∧ dw_chk dw_C_prog_10_method_61_code_0 56 56 (.iinc 5 1) 3 = true ∧ dw_chk dw_C_prog_10_method_61_code_0 59 59 (.goto (-45)) 3 = true ∧ dw_chk dw_C_prog_10_method_61_code_0 46 46 (.iconst 1) 1 = true ∧ dw_chk dw_C_prog_10_method_61_code_0 47 47 (.goto 4) 3 = true := by decide +kernel
theorem dc_X9_placeNow_0 : decode prog_10_method_61_code 0 = .ok (.iconst 0, 1) := dw_row (j := 0) dw_h_prog_10_method_61_code_0 rfl dw_b_X9_placeNow_0.1
theorem dc_X9_placeNow_1 : decode prog_10_method_61_code 1 = .ok (.istore_n 2, 1) := dw_row (j := 1) dw_h_prog_10_method_61_code_0 rfl dw_b_X9_placeNow_0.2.1
theorem dc_X9_placeNow_2 : decode prog_10_method_61_code 2 = .ok (.aload_n 0, 1) := dw_row (j := 2) dw_h_prog_10_method_61_code_0 rfl dw_b_X9_placeNow_0.2.2.1
theorem dc_X9_placeNow_3 : decode prog_10_method_61_code 3 = .ok (.getfield 25, 3) := dw_row (j := 3) dw_h_prog_10_method_61_code_0 rfl dw_b_X9_placeNow_0.2.2.2.1
theorem dc_X9_placeNow_6 : decode prog_10_method_61_code 6 = .ok (.astore_n 3, 1) := dw_row (j := 6) dw_h_prog_10_method_61_code_0 rfl dw_b_X9_placeNow_0.2.2.2.2.1
theorem dc_X9_placeNow_7 : decode prog_10_method_61_code 7 = .ok (.aload_n 3, 1) := dw_row (j := 7) dw_h_prog_10_method_61_code_0 rfl dw_b_X9_placeNow_0.2.2.2.2.2.1
theorem dc_X9_placeNow_8 : decode prog_10_method_61_code 8 = .ok (.arraylength, 1) := dw_row (j := 8) dw_h_prog_10_method_61_code_0 rfl dw_b_X9_placeNow_0.2.2.2.2.2.2.1
theorem dc_X9_placeNow_9 : decode prog_10_method_61_code 9 = .ok (.istore 4, 2) := dw_row (j := 9) dw_h_prog_10_method_61_code_0 rfl dw_b_X9_placeNow_0.2.2.2.2.2.2.2.1
theorem dc_X9_placeNow_11 : decode prog_10_method_61_code 11 = .ok (.iconst 0, 1) := dw_row (j := 11) dw_h_prog_10_method_61_code_0 rfl dw_b_X9_placeNow_0.2.2.2.2.2.2.2.2.1
theorem dc_X9_placeNow_12 : decode prog_10_method_61_code 12 = .ok (.istore 5, 2) := dw_row (j := 12) dw_h_prog_10_method_61_code_0 rfl dw_b_X9_placeNow_0.2.2.2.2.2.2.2.2.2.1
theorem dc_X9_placeNow_14 : decode prog_10_method_61_code 14 = .ok (.iload 5, 2) := dw_row (j := 14) dw_h_prog_10_method_61_code_0 rfl dw_b_X9_placeNow_0.2.2.2.2.2.2.2.2.2.2.1
theorem dc_X9_placeNow_16 : decode prog_10_method_61_code 16 = .ok (.iload 4, 2) := dw_row (j := 16) dw_h_prog_10_method_61_code_0 rfl dw_b_X9_placeNow_0.2.2.2.2.2.2.2.2.2.2.2.1
theorem dc_X9_placeNow_18 : decode prog_10_method_61_code 18 = .ok (.if_icmp .ge 44, 3) := dw_row (j := 18) dw_h_prog_10_method_61_code_0 rfl dw_b_X9_placeNow_0.2.2.2.2.2.2.2.2.2.2.2.2.1
theorem dc_X9_placeNow_62 : decode prog_10_method_61_code 62 = .ok (.iload_n 2, 1) := dw_row (j := 62) dw_h_prog_10_method_61_code_0 rfl dw_b_X9_placeNow_0.2.2.2.2.2.2.2.2.2.2.2.2.2.1
theorem dc_X9_placeNow_63 : decode prog_10_method_61_code 63 = .ok (.ireturn, 1) := dw_row (j := 63) dw_h_prog_10_method_61_code_0 rfl dw_b_X9_placeNow_0.2.2.2.2.2.2.2.2.2.2.2.2.2.2.1
theorem dc_X9_placeNow_21 : decode prog_10_method_61_code 21 = .ok (.aload_n 3, 1) := dw_row (j := 21) dw_h_prog_10_method_61_code_0 rfl dw_b_X9_placeNow_0.2.2.2.2.2.2.2.2.2.2.2.2.2.2.2.1
theorem dc_X9_placeNow_22 : decode prog_10_method_61_code 22 = .ok (.iload 5, 2) := dw_row (j := 22) dw_h_prog_10_method_61_code_0 rfl dw_b_X9_placeNow_0.2.2.2.2.2.2.2.2.2.2.2.2.2.2.2.2.1
theorem dc_X9_placeNow_24 : decode prog_10_method_61_code 24 = .ok (.aaload, 1) := dw_row (j := 24) dw_h_prog_10_method_61_code_0 rfl dw_b_X9_placeNow_0.2.2.2.2.2.2.2.2.2.2.2.2.2.2.2.2.2.1
theorem dc_X9_placeNow_25 : decode prog_10_method_61_code 25 = .ok (.astore 6, 2) := dw_row (j := 25) dw_h_prog_10_method_61_code_0 rfl dw_b_X9_placeNow_0.2.2.2.2.2.2.2.2.2.2.2.2.2.2.2.2.2.2.1
theorem dc_X9_placeNow_27 : decode prog_10_method_61_code 27 = .ok (.iload_n 2, 1) := dw_row (j := 27) dw_h_prog_10_method_61_code_0 rfl dw_b_X9_placeNow_0.2.2.2.2.2.2.2.2.2.2.2.2.2.2.2.2.2.2.2.1
theorem dc_X9_placeNow_28 : decode prog_10_method_61_code 28 = .ok (.aload 6, 2) := dw_row (j := 28) dw_h_prog_10_method_61_code_0 rfl dw_b_X9_placeNow_0.2.2.2.2.2.2.2.2.2.2.2.2.2.2.2.2.2.2.2.2.1
theorem dc_X9_placeNow_30 : decode prog_10_method_61_code 30 = .ok (.invokevirtual 147, 3) := dw_row (j := 30) dw_h_prog_10_method_61_code_0 rfl dw_b_X9_placeNow_0.2.2.2.2.2.2.2.2.2.2.2.2.2.2.2.2.2.2.2.2.2.1
theorem dc_X9_placeNow_33 : decode prog_10_method_61_code 33 = .ok (.aload_n 0, 1) := dw_row (j := 33) dw_h_prog_10_method_61_code_0 rfl dw_b_X9_placeNow_0.2.2.2.2.2.2.2.2.2.2.2.2.2.2.2.2.2.2.2.2.2.2.1
theorem dc_X9_placeNow_34 : decode prog_10_method_61_code 34 = .ok (.getfield 25, 3) := dw_row (j := 34) dw_h_prog_10_method_61_code_0 rfl dw_b_X9_placeNow_0.2.2.2.2.2.2.2.2.2.2.2.2.2.2.2.2.2.2.2.2.2.2.2.1
theorem dc_X9_placeNow_37 : decode prog_10_method_61_code 37 = .ok (.iload_n 1, 1) := dw_row (j := 37) dw_h_prog_10_method_61_code_0 rfl dw_b_X9_placeNow_0.2.2.2.2.2.2.2.2.2.2.2.2.2.2.2.2.2.2.2.2.2.2.2.2.1
theorem dc_X9_placeNow_38 : decode prog_10_method_61_code 38 = .ok (.aaload, 1) := dw_row (j := 38) dw_h_prog_10_method_61_code_0 rfl dw_b_X9_placeNow_0.2.2.2.2.2.2.2.2.2.2.2.2.2.2.2.2.2.2.2.2.2.2.2.2.2.1
theorem dc_X9_placeNow_39 : decode prog_10_method_61_code 39 = .ok (.invokevirtual 147, 3) := dw_row (j := 39) dw_h_prog_10_method_61_code_0 rfl dw_b_X9_placeNow_0.2.2.2.2.2.2.2.2.2.2.2.2.2.2.2.2.2.2.2.2.2.2.2.2.2.2.1
theorem dc_X9_placeNow_42 : decode prog_10_method_61_code 42 = .ok (.lcmp, 1) := dw_row (j := 42) dw_h_prog_10_method_61_code_0 rfl dw_b_X9_placeNow_0.2.2.2.2.2.2.2.2.2.2.2.2.2.2.2.2.2.2.2.2.2.2.2.2.2.2.2.1
theorem dc_X9_placeNow_43 : decode prog_10_method_61_code 43 = .ok (.ifCond .ge 7, 3) := dw_row (j := 43) dw_h_prog_10_method_61_code_0 rfl dw_b_X9_placeNow_0.2.2.2.2.2.2.2.2.2.2.2.2.2.2.2.2.2.2.2.2.2.2.2.2.2.2.2.2.1
theorem dc_X9_placeNow_50 : decode prog_10_method_61_code 50 = .ok (.iconst 0, 1) := dw_row (j := 50) dw_h_prog_10_method_61_code_0 rfl dw_b_X9_placeNow_0.2.2.2.2.2.2.2.2.2.2.2.2.2.2.2.2.2.2.2.2.2.2.2.2.2.2.2.2.2.1
theorem dc_X9_placeNow_51 : decode prog_10_method_61_code 51 = .ok (.invokestatic 59, 3) := dw_row (j := 51) dw_h_prog_10_method_61_code_0 rfl dw_b_X9_placeNow_0.2.2.2.2.2.2.2.2.2.2.2.2.2.2.2.2.2.2.2.2.2.2.2.2.2.2.2.2.2.2.1
theorem dc_X9_placeNow_54 : decode prog_10_method_61_code 54 = .ok (.iadd, 1) := dw_row (j := 54) dw_h_prog_10_method_61_code_0 rfl dw_b_X9_placeNow_0.2.2.2.2.2.2.2.2.2.2.2.2.2.2.2.2.2.2.2.2.2.2.2.2.2.2.2.2.2.2.2.1
theorem dc_X9_placeNow_55 : decode prog_10_method_61_code 55 = .ok (.istore_n 2, 1) := dw_row (j := 55) dw_h_prog_10_method_61_code_0 rfl dw_b_X9_placeNow_0.2.2.2.2.2.2.2.2.2.2.2.2.2.2.2.2.2.2.2.2.2.2.2.2.2.2.2.2.2.2.2.2.1
theorem dc_X9_placeNow_56 : decode prog_10_method_61_code 56 = .ok (.iinc 5 1, 3) := dw_row (j := 56) dw_h_prog_10_method_61_code_0 rfl dw_b_X9_placeNow_0.2.2.2.2.2.2.2.2.2.2.2.2.2.2.2.2.2.2.2.2.2.2.2.2.2.2.2.2.2.2.2.2.2.1
theorem dc_X9_placeNow_59 : decode prog_10_method_61_code 59 = .ok (.goto (-45), 3) := dw_row (j := 59) dw_h_prog_10_method_61_code_0 rfl dw_b_X9_placeNow_0.2.2.2.2.2.2.2.2.2.2.2.2.2.2.2.2.2.2.2.2.2.2.2.2.2.2.2.2.2.2.2.2.2.2.1
theorem dc_X9_placeNow_46 : decode prog_10_method_61_code 46 = .ok (.iconst 1, 1) := dw_row (j := 46) dw_h_prog_10_method_61_code_0 rfl dw_b_X9_placeNow_0.2.2.2.2.2.2.2.2.2.2.2.2.2.2.2.2.2.2.2.2.2.2.2.2.2.2.2.2.2.2.2.2.2.2.2.1
theorem dc_X9_placeNow_47 : decode prog_10_method_61_code 47 = .ok (.goto 4, 3) := dw_row (j := 47) dw_h_prog_10_method_61_code_0 rfl dw_b_X9_placeNow_0.2.2.2.2.2.2.2.2.2.2.2.2.2.2.2.2.2.2.2.2.2.2.2.2.2.2.2.2.2.2.2.2.2.2.2.2
def dw_C_prog_10_method_62_code_0 : List UInt8 := [42, 27, 184, 0, 51, 182, 0, 55, 153, 0, 7, 3, 167, 0, 8, 42, 27, 182, 0, 244, 172]
theorem dw_h_prog_10_method_62_code_0 : (prog_10_method_62_code.data.toList.drop 0).take 72 = dw_C_prog_10_method_62_code_0 := by decide +kernel
theorem dw_b_X9_place_0 : dw_chk dw_C_prog_10_method_62_code_0 0 0 (.aload_n 0) 1 = true ∧ dw_chk dw_C_prog_10_method_62_code_0 1 1 (.iload_n 1) 1 = true ∧ dw_chk dw_C_prog_10_method_62_code_0 2 2 (.invokestatic 51) 3 = true ∧ dw_chk dw_C_prog_10_method_62_code_0 5 5 (.invokevirtual 55) 3 = true ∧ dw_chk dw_C_prog_10_method_62_code_0 8 8 (.ifCond .eq 7) 3 = true ∧ dw_chk dw_C_prog_10_method_62_code_0 15 15 (.aload_n 0) 1 = true ∧ dw_chk dw_C_prog_10_method_62_code_0 16 16 (.iload_n 1) 1 = true ∧ dw_chk dw_C_prog_10_method_62_code_0 17 17 (.invokevirtual 244) 3 = true ∧ dw_chk dw_C_prog_10_method_62_code_0 20 20 (.ireturn) 1 = true ∧ dw_chk dw_C_prog_10_method_62_code_0 11 11 (.iconst 0) 1 = true ∧ dw_chk dw_C_prog_10_method_62_code_0 12 12 (.goto 8) 3 = true := by decide +kernel
theorem dc_X9_place_0 : decode prog_10_method_62_code 0 = .ok (.aload_n 0, 1) := dw_row (j := 0) dw_h_prog_10_method_62_code_0 rfl dw_b_X9_place_0.1
theorem dc_X9_place_1 : decode prog_10_method_62_code 1 = .ok (.iload_n 1, 1) := dw_row (j := 1) dw_h_prog_10_method_62_code_0 rfl dw_b_X9_place_0.2.1
theorem dc_X9_place_2 : decode prog_10_method_62_code 2 = .ok (.invokestatic 51, 3) := dw_row (j := 2) dw_h_prog_10_method_62_code_0 rfl dw_b_X9_place_0.2.2.1
theorem dc_X9_place_5 : decode prog_10_method_62_code 5 = .ok (.invokevirtual 55, 3) := dw_row (j := 5) dw_h_prog_10_method_62_code_0 rfl dw_b_X9_place_0.2.2.2.1
theorem dc_X9_place_8 : decode prog_10_method_62_code 8 = .ok (.ifCond .eq 7, 3) := dw_row (j := 8) dw_h_prog_10_method_62_code_0 rfl dw_b_X9_place_0.2.2.2.2.1
theorem dc_X9_place_15 : decode prog_10_method_62_code 15 = .ok (.aload_n 0, 1) := dw_row (j := 15) dw_h_prog_10_method_62_code_0 rfl dw_b_X9_place_0.2.2.2.2.2.1
theorem dc_X9_place_16 : decode prog_10_method_62_code 16 = .ok (.iload_n 1, 1) := dw_row (j := 16) dw_h_prog_10_method_62_code_0 rfl dw_b_X9_place_0.2.2.2.2.2.2.1
theorem dc_X9_place_17 : decode prog_10_method_62_code 17 = .ok (.invokevirtual 244, 3) := dw_row (j := 17) dw_h_prog_10_method_62_code_0 rfl dw_b_X9_place_0.2.2.2.2.2.2.2.1
theorem dc_X9_place_20 : decode prog_10_method_62_code 20 = .ok (.ireturn, 1) := dw_row (j := 20) dw_h_prog_10_method_62_code_0 rfl dw_b_X9_place_0.2.2.2.2.2.2.2.2.1
theorem dc_X9_place_11 : decode prog_10_method_62_code 11 = .ok (.iconst 0, 1) := dw_row (j := 11) dw_h_prog_10_method_62_code_0 rfl dw_b_X9_place_0.2.2.2.2.2.2.2.2.2.1
theorem dc_X9_place_12 : decode prog_10_method_62_code 12 = .ok (.goto 8, 3) := dw_row (j := 12) dw_h_prog_10_method_62_code_0 rfl dw_b_X9_place_0.2.2.2.2.2.2.2.2.2.2
theorem dc_X9_houseNow_45 : decode prog_10_method_75_code 45 = .ok (.newarray .int, 2) := by decide +kernel
def dw_C_prog_10_method_75_code_0 : List UInt8 := [3, 61, 42, 180, 0, 25, 78, 45, 190, 54, 4, 3, 54, 5, 21, 5, 21, 4, 162, 0, 26, 45, 21, 5, 50, 58, 6, 28, 25, 6, 182, 0, 224, 184, 0, 59, 96, 61, 132, 5, 1, 167, 255, 229, 7, 188, 10, 89, 3, 42, 180, 0, 44, 79, 89, 4, 42, 180, 0, 79, 79, 89, 5, 42, 180, 0, 255, 79, 89, 6, 28, 79]
theorem dw_h_prog_10_method_75_code_0 : (prog_10_method_75_code.data.toList.drop 0).take 72 = dw_C_prog_10_method_75_code_0 := by decide +kernel
theorem dw_b_X9_houseNow_0 : dw_chk dw_C_prog_10_method_75_code_0 0 0 (.iconst 0) 1 = true ∧ dw_chk dw_C_prog_10_method_75_code_0 1 1 (.istore_n 2) 1 = true ∧ dw_chk dw_C_prog_10_method_75_code_0 2 2 (.aload_n 0) 1 = true ∧ dw_chk dw_C_prog_10_method_75_code_0 3 3 (.getfield 25) 3 = true ∧ dw_chk dw_C_prog_10_method_75_code_0 6 6 (.astore_n 3) 1 = true ∧ dw_chk dw_C_prog_10_method_75_code_0 7 7 (.aload_n 3) 1 = true ∧ dw_chk dw_C_prog_10_method_75_code_0 8 8 (.arraylength) 1 = true ∧ dw_chk dw_C_prog_10_method_75_code_0 9 9 (.istore 4) 2 = true ∧ dw_chk dw_C_prog_10_method_75_code_0 11 11 (.iconst 0) 1 = true ∧ dw_chk dw_C_prog_10_method_75_code_0 12 12 (.istore 5) 2 = true ∧ dw_chk dw_C_prog_10_method_75_code_0 14 14 (.iload 5) 2 = true ∧ dw_chk dw_C_prog_10_method_75_code_0 16 16 (.iload 4) 2 = true ∧ dw_chk dw_C_prog_10_method_75_code_0 18 18 (.if_icmp .ge 26) 3 = true ∧ dw_chk dw_C_prog_10_method_75_code_0 44 44 (.iconst 4) 1 = true ∧ dw_chk dw_C_prog_10_method_75_code_0 47 47 (.dup) 1 = true ∧ dw_chk dw_C_prog_10_method_75_code_0 48 48 (.iconst 0) 1 = true ∧ dw_chk dw_C_prog_10_method_75_code_0 49 49 (.aload_n 0) 1 = true ∧ dw_chk dw_C_prog_10_method_75_code_0 50 50 (.getfield 44) 3 = true ∧ dw_chk dw_C_prog_10_method_75_code_0 53 53 (.iastore) 1 = true ∧ dw_chk dw_C_prog_10_method_75_code_0 54 54 (.dup) 1 = true ∧ dw_chk dw_C_prog_10_method_75_code_0 55 55 (.iconst 1) 1 = true ∧ dw_chk dw_C_prog_10_method_75_code_0 56 56 (.aload_n 0) 1 = true ∧ dw_chk dw_C_prog_10_method_75_code_0 57 57 (.getfield 79) 3 = true ∧ dw_chk dw_C_prog_10_method_75_code_0 60 60 (.iastore) 1 = true ∧ dw_chk dw_C_prog_10_method_75_code_0 61 61 (.dup) 1 = true ∧ dw_chk dw_C_prog_10_method_75_code_0 62 62 (.iconst 2) 1 = true ∧ dw_chk dw_C_prog_10_method_75_code_0 63 63 (.aload_n 0) 1 = true ∧ dw_chk dw_C_prog_10_method_75_code_0 21 21 (.aload_n 3) 1 = true ∧ dw_chk dw_C_prog_10_method_75_code_0 22 22 (.iload 5) 2 = true ∧ dw_chk dw_C_prog_10_method_75_code_0 24 24 (.aaload) 1 = true ∧ dw_chk dw_C_prog_10_method_75_code_0 25 25 (.astore 6) 2 = true ∧ dw_chk dw_C_prog_10_method_75_code_0 27 27 (.iload_n 2) 1 = true ∧ dw_chk dw_C_prog_10_method_75_code_0 28 28 (.aload 6) 2 = true ∧ dw_chk dw_C_prog_10_method_75_code_0 30 30 (.invokevirtual 224) 3 = true ∧ dw_chk dw_C_prog_10_method_75_code_0 33 33 (.invokestatic 59) 3 = true ∧ dw_chk dw_C_prog_10_method_75_code_0 36 36 (.iadd) 1 = true ∧ dw_chk dw_C_prog_10_method_75_code_0 37 37 (.istore_n 2) 1 = true ∧ dw_chk dw_C_prog_10_method_75_code_0 38 38 (.iinc 5 1) 3 = true ∧ dw_chk dw_C_prog_10_method_75_code_0 41 41 (.goto (-27)) 3 = true := by decide +kernel
theorem dc_X9_houseNow_0 : decode prog_10_method_75_code 0 = .ok (.iconst 0, 1) := dw_row (j := 0) dw_h_prog_10_method_75_code_0 rfl dw_b_X9_houseNow_0.1
theorem dc_X9_houseNow_1 : decode prog_10_method_75_code 1 = .ok (.istore_n 2, 1) := dw_row (j := 1) dw_h_prog_10_method_75_code_0 rfl dw_b_X9_houseNow_0.2.1
theorem dc_X9_houseNow_2 : decode prog_10_method_75_code 2 = .ok (.aload_n 0, 1) := dw_row (j := 2) dw_h_prog_10_method_75_code_0 rfl dw_b_X9_houseNow_0.2.2.1
theorem dc_X9_houseNow_3 : decode prog_10_method_75_code 3 = .ok (.getfield 25, 3) := dw_row (j := 3) dw_h_prog_10_method_75_code_0 rfl dw_b_X9_houseNow_0.2.2.2.1
theorem dc_X9_houseNow_6 : decode prog_10_method_75_code 6 = .ok (.astore_n 3, 1) := dw_row (j := 6) dw_h_prog_10_method_75_code_0 rfl dw_b_X9_houseNow_0.2.2.2.2.1
theorem dc_X9_houseNow_7 : decode prog_10_method_75_code 7 = .ok (.aload_n 3, 1) := dw_row (j := 7) dw_h_prog_10_method_75_code_0 rfl dw_b_X9_houseNow_0.2.2.2.2.2.1
theorem dc_X9_houseNow_8 : decode prog_10_method_75_code 8 = .ok (.arraylength, 1) := dw_row (j := 8) dw_h_prog_10_method_75_code_0 rfl dw_b_X9_houseNow_0.2.2.2.2.2.2.1
theorem dc_X9_houseNow_9 : decode prog_10_method_75_code 9 = .ok (.istore 4, 2) := dw_row (j := 9) dw_h_prog_10_method_75_code_0 rfl dw_b_X9_houseNow_0.2.2.2.2.2.2.2.1
theorem dc_X9_houseNow_11 : decode prog_10_method_75_code 11 = .ok (.iconst 0, 1) := dw_row (j := 11) dw_h_prog_10_method_75_code_0 rfl dw_b_X9_houseNow_0.2.2.2.2.2.2.2.2.1
theorem dc_X9_houseNow_12 : decode prog_10_method_75_code 12 = .ok (.istore 5, 2) := dw_row (j := 12) dw_h_prog_10_method_75_code_0 rfl dw_b_X9_houseNow_0.2.2.2.2.2.2.2.2.2.1
theorem dc_X9_houseNow_14 : decode prog_10_method_75_code 14 = .ok (.iload 5, 2) := dw_row (j := 14) dw_h_prog_10_method_75_code_0 rfl dw_b_X9_houseNow_0.2.2.2.2.2.2.2.2.2.2.1
theorem dc_X9_houseNow_16 : decode prog_10_method_75_code 16 = .ok (.iload 4, 2) := dw_row (j := 16) dw_h_prog_10_method_75_code_0 rfl dw_b_X9_houseNow_0.2.2.2.2.2.2.2.2.2.2.2.1
theorem dc_X9_houseNow_18 : decode prog_10_method_75_code 18 = .ok (.if_icmp .ge 26, 3) := dw_row (j := 18) dw_h_prog_10_method_75_code_0 rfl dw_b_X9_houseNow_0.2.2.2.2.2.2.2.2.2.2.2.2.1
theorem dc_X9_houseNow_44 : decode prog_10_method_75_code 44 = .ok (.iconst 4, 1) := dw_row (j := 44) dw_h_prog_10_method_75_code_0 rfl dw_b_X9_houseNow_0.2.2.2.2.2.2.2.2.2.2.2.2.2.1
theorem dc_X9_houseNow_47 : decode prog_10_method_75_code 47 = .ok (.dup, 1) := dw_row (j := 47) dw_h_prog_10_method_75_code_0 rfl dw_b_X9_houseNow_0.2.2.2.2.2.2.2.2.2.2.2.2.2.2.1
theorem dc_X9_houseNow_48 : decode prog_10_method_75_code 48 = .ok (.iconst 0, 1) := dw_row (j := 48) dw_h_prog_10_method_75_code_0 rfl dw_b_X9_houseNow_0.2.2.2.2.2.2.2.2.2.2.2.2.2.2.2.1
theorem dc_X9_houseNow_49 : decode prog_10_method_75_code 49 = .ok (.aload_n 0, 1) := dw_row (j := 49) dw_h_prog_10_method_75_code_0 rfl dw_b_X9_houseNow_0.2.2.2.2.2.2.2.2.2.2.2.2.2.2.2.2.1
theorem dc_X9_houseNow_50 : decode prog_10_method_75_code 50 = .ok (.getfield 44, 3) := dw_row (j := 50) dw_h_prog_10_method_75_code_0 rfl dw_b_X9_houseNow_0.2.2.2.2.2.2.2.2.2.2.2.2.2.2.2.2.2.1
theorem dc_X9_houseNow_53 : decode prog_10_method_75_code 53 = .ok (.iastore, 1) := dw_row (j := 53) dw_h_prog_10_method_75_code_0 rfl dw_b_X9_houseNow_0.2.2.2.2.2.2.2.2.2.2.2.2.2.2.2.2.2.2.1
theorem dc_X9_houseNow_54 : decode prog_10_method_75_code 54 = .ok (.dup, 1) := dw_row (j := 54) dw_h_prog_10_method_75_code_0 rfl dw_b_X9_houseNow_0.2.2.2.2.2.2.2.2.2.2.2.2.2.2.2.2.2.2.2.1
theorem dc_X9_houseNow_55 : decode prog_10_method_75_code 55 = .ok (.iconst 1, 1) := dw_row (j := 55) dw_h_prog_10_method_75_code_0 rfl dw_b_X9_houseNow_0.2.2.2.2.2.2.2.2.2.2.2.2.2.2.2.2.2.2.2.2.1
theorem dc_X9_houseNow_56 : decode prog_10_method_75_code 56 = .ok (.aload_n 0, 1) := dw_row (j := 56) dw_h_prog_10_method_75_code_0 rfl dw_b_X9_houseNow_0.2.2.2.2.2.2.2.2.2.2.2.2.2.2.2.2.2.2.2.2.2.1
theorem dc_X9_houseNow_57 : decode prog_10_method_75_code 57 = .ok (.getfield 79, 3) := dw_row (j := 57) dw_h_prog_10_method_75_code_0 rfl dw_b_X9_houseNow_0.2.2.2.2.2.2.2.2.2.2.2.2.2.2.2.2.2.2.2.2.2.2.1
theorem dc_X9_houseNow_60 : decode prog_10_method_75_code 60 = .ok (.iastore, 1) := dw_row (j := 60) dw_h_prog_10_method_75_code_0 rfl dw_b_X9_houseNow_0.2.2.2.2.2.2.2.2.2.2.2.2.2.2.2.2.2.2.2.2.2.2.2.1
theorem dc_X9_houseNow_61 : decode prog_10_method_75_code 61 = .ok (.dup, 1) := dw_row (j := 61) dw_h_prog_10_method_75_code_0 rfl dw_b_X9_houseNow_0.2.2.2.2.2.2.2.2.2.2.2.2.2.2.2.2.2.2.2.2.2.2.2.2.1
theorem dc_X9_houseNow_62 : decode prog_10_method_75_code 62 = .ok (.iconst 2, 1) := dw_row (j := 62) dw_h_prog_10_method_75_code_0 rfl dw_b_X9_houseNow_0.2.2.2.2.2.2.2.2.2.2.2.2.2.2.2.2.2.2.2.2.2.2.2.2.2.1
theorem dc_X9_houseNow_63 : decode prog_10_method_75_code 63 = .ok (.aload_n 0, 1) := dw_row (j := 63) dw_h_prog_10_method_75_code_0 rfl dw_b_X9_houseNow_0.2.2.2.2.2.2.2.2.2.2.2.2.2.2.2.2.2.2.2.2.2.2.2.2.2.2.1
theorem dc_X9_houseNow_21 : decode prog_10_method_75_code 21 = .ok (.aload_n 3, 1) := dw_row (j := 21) dw_h_prog_10_method_75_code_0 rfl dw_b_X9_houseNow_0.2.2.2.2.2.2.2.2.2.2.2.2.2.2.2.2.2.2.2.2.2.2.2.2.2.2.2.1
theorem dc_X9_houseNow_22 : decode prog_10_method_75_code 22 = .ok (.iload 5, 2) := dw_row (j := 22) dw_h_prog_10_method_75_code_0 rfl dw_b_X9_houseNow_0.2.2.2.2.2.2.2.2.2.2.2.2.2.2.2.2.2.2.2.2.2.2.2.2.2.2.2.2.1
theorem dc_X9_houseNow_24 : decode prog_10_method_75_code 24 = .ok (.aaload, 1) := dw_row (j := 24) dw_h_prog_10_method_75_code_0 rfl dw_b_X9_houseNow_0.2.2.2.2.2.2.2.2.2.2.2.2.2.2.2.2.2.2.2.2.2.2.2.2.2.2.2.2.2.1
theorem dc_X9_houseNow_25 : decode prog_10_method_75_code 25 = .ok (.astore 6, 2) := dw_row (j := 25) dw_h_prog_10_method_75_code_0 rfl dw_b_X9_houseNow_0.2.2.2.2.2.2.2.2.2.2.2.2.2.2.2.2.2.2.2.2.2.2.2.2.2.2.2.2.2.2.1
theorem dc_X9_houseNow_27 : decode prog_10_method_75_code 27 = .ok (.iload_n 2, 1) := dw_row (j := 27) dw_h_prog_10_method_75_code_0 rfl dw_b_X9_houseNow_0.2.2.2.2.2.2.2.2.2.2.2.2.2.2.2.2.2.2.2.2.2.2.2.2.2.2.2.2.2.2.2.1
theorem dc_X9_houseNow_28 : decode prog_10_method_75_code 28 = .ok (.aload 6, 2) := dw_row (j := 28) dw_h_prog_10_method_75_code_0 rfl dw_b_X9_houseNow_0.2.2.2.2.2.2.2.2.2.2.2.2.2.2.2.2.2.2.2.2.2.2.2.2.2.2.2.2.2.2.2.2.1
theorem dc_X9_houseNow_30 : decode prog_10_method_75_code 30 = .ok (.invokevirtual 224, 3) := dw_row (j := 30) dw_h_prog_10_method_75_code_0 rfl dw_b_X9_houseNow_0.2.2.2.2.2.2.2.2.2.2.2.2.2.2.2.2.2.2.2.2.2.2.2.2.2.2.2.2.2.2.2.2.2.1
theorem dc_X9_houseNow_33 : decode prog_10_method_75_code 33 = .ok (.invokestatic 59, 3) := dw_row (j := 33) dw_h_prog_10_method_75_code_0 rfl dw_b_X9_houseNow_0.2.2.2.2.2.2.2.2.2.2.2.2.2.2.2.2.2.2.2.2.2.2.2.2.2.2.2.2.2.2.2.2.2.2.1
theorem dc_X9_houseNow_36 : decode prog_10_method_75_code 36 = .ok (.iadd, 1) := dw_row (j := 36) dw_h_prog_10_method_75_code_0 rfl dw_b_X9_houseNow_0.2.2.2.2.2.2.2.2.2.2.2.2.2.2.2.2.2.2.2.2.2.2.2.2.2.2.2.2.2.2.2.2.2.2.2.1
theorem dc_X9_houseNow_37 : decode prog_10_method_75_code 37 = .ok (.istore_n 2, 1) := dw_row (j := 37) dw_h_prog_10_method_75_code_0 rfl dw_b_X9_houseNow_0.2.2.2.2.2.2.2.2.2.2.2.2.2.2.2.2.2.2.2.2.2.2.2.2.2.2.2.2.2.2.2.2.2.2.2.2.1
theorem dc_X9_houseNow_38 : decode prog_10_method_75_code 38 = .ok (.iinc 5 1, 3) := dw_row (j := 38) dw_h_prog_10_method_75_code_0 rfl dw_b_X9_houseNow_0.2.2.2.2.2.2.2.2.2.2.2.2.2.2.2.2.2.2.2.2.2.2.2.2.2.2.2.2.2.2.2.2.2.2.2.2.2.1
theorem dc_X9_houseNow_41 : decode prog_10_method_75_code 41 = .ok (.goto (-27), 3) := dw_row (j := 41) dw_h_prog_10_method_75_code_0 rfl dw_b_X9_houseNow_0.2.2.2.2.2.2.2.2.2.2.2.2.2.2.2.2.2.2.2.2.2.2.2.2.2.2.2.2.2.2.2.2.2.2.2.2.2.2
def dw_C_prog_10_method_75_code_1 : List UInt8 := [180, 0, 255, 79, 89, 6, 28, 79, 78, 45, 27, 46, 172]
theorem dw_h_prog_10_method_75_code_1 : (prog_10_method_75_code.data.toList.drop 64).take 72 = dw_C_prog_10_method_75_code_1 := by decide +kernel
theorem dw_b_X9_houseNow_64 : dw_chk dw_C_prog_10_method_75_code_1 64 0 (.getfield 255) 3 = true ∧ dw_chk dw_C_prog_10_method_75_code_1 67 3 (.iastore) 1 = true ∧ dw_chk dw_C_prog_10_method_75_code_1 68 4 (.dup) 1 = true ∧ dw_chk dw_C_prog_10_method_75_code_1 69 5 (.iconst 3) 1 = true ∧ dw_chk dw_C_prog_10_method_75_code_1 70 6 (.iload_n 2) 1 = true ∧ dw_chk dw_C_prog_10_method_75_code_1 71 7 (.iastore) 1 = true ∧ dw_chk dw_C_prog_10_method_75_code_1 72 8 (.astore_n 3) 1 = true ∧ dw_chk dw_C_prog_10_method_75_code_1 73 9 (.aload_n 3) 1 = true ∧ dw_chk dw_C_prog_10_method_75_code_1 74 10 (.iload_n 1) 1 = true ∧ dw_chk dw_C_prog_10_method_75_code_1 75 11 (.iaload) 1 = true ∧ dw_chk dw_C_prog_10_method_75_code_1 76 12 (.ireturn) 1 = true := by decide +kernel
theorem dc_X9_houseNow_64 : decode prog_10_method_75_code 64 = .ok (.getfield 255, 3) := dw_row (j := 0) dw_h_prog_10_method_75_code_1 rfl dw_b_X9_houseNow_64.1
theorem dc_X9_houseNow_67 : decode prog_10_method_75_code 67 = .ok (.iastore, 1) := dw_row (j := 3) dw_h_prog_10_method_75_code_1 rfl dw_b_X9_houseNow_64.2.1
theorem dc_X9_houseNow_68 : decode prog_10_method_75_code 68 = .ok (.dup, 1) := dw_row (j := 4) dw_h_prog_10_method_75_code_1 rfl dw_b_X9_houseNow_64.2.2.1
theorem dc_X9_houseNow_69 : decode prog_10_method_75_code 69 = .ok (.iconst 3, 1) := dw_row (j := 5) dw_h_prog_10_method_75_code_1 rfl dw_b_X9_houseNow_64.2.2.2.1
theorem dc_X9_houseNow_70 : decode prog_10_method_75_code 70 = .ok (.iload_n 2, 1) := dw_row (j := 6) dw_h_prog_10_method_75_code_1 rfl dw_b_X9_houseNow_64.2.2.2.2.1
theorem dc_X9_houseNow_71 : decode prog_10_method_75_code 71 = .ok (.iastore, 1) := dw_row (j := 7) dw_h_prog_10_method_75_code_1 rfl dw_b_X9_houseNow_64.2.2.2.2.2.1
theorem dc_X9_houseNow_72 : decode prog_10_method_75_code 72 = .ok (.astore_n 3, 1) := dw_row (j := 8) dw_h_prog_10_method_75_code_1 rfl dw_b_X9_houseNow_64.2.2.2.2.2.2.1
theorem dc_X9_houseNow_73 : decode prog_10_method_75_code 73 = .ok (.aload_n 3, 1) := dw_row (j := 9) dw_h_prog_10_method_75_code_1 rfl dw_b_X9_houseNow_64.2.2.2.2.2.2.2.1
theorem dc_X9_houseNow_74 : decode prog_10_method_75_code 74 = .ok (.iload_n 1, 1) := dw_row (j := 10) dw_h_prog_10_method_75_code_1 rfl dw_b_X9_houseNow_64.2.2.2.2.2.2.2.2.1
theorem dc_X9_houseNow_75 : decode prog_10_method_75_code 75 = .ok (.iaload, 1) := dw_row (j := 11) dw_h_prog_10_method_75_code_1 rfl dw_b_X9_houseNow_64.2.2.2.2.2.2.2.2.2.1
theorem dc_X9_houseNow_76 : decode prog_10_method_75_code 76 = .ok (.ireturn, 1) := dw_row (j := 12) dw_h_prog_10_method_75_code_1 rfl dw_b_X9_houseNow_64.2.2.2.2.2.2.2.2.2.2
def dw_C_prog_10_method_76_code_0 : List UInt8 := [42, 3, 182, 0, 55, 154, 0, 25, 42, 27, 3, 6, 184, 0, 40, 154, 0, 7, 4, 167, 0, 4, 3, 4, 182, 0, 36, 153, 0, 7, 3, 167, 0, 8, 42, 27, 182, 1, 2, 172]
theorem dw_h_prog_10_method_76_code_0 : (prog_10_method_76_code.data.toList.drop 0).take 72 = dw_C_prog_10_method_76_code_0 := by decide +kernel
theorem dw_b_X9_house_0 : dw_chk dw_C_prog_10_method_76_code_0 0 0 (.aload_n 0) 1 = true ∧ dw_chk dw_C_prog_10_method_76_code_0 1 1 (.iconst 0) 1 = true ∧ dw_chk dw_C_prog_10_method_76_code_0 2 2 (.invokevirtual 55) 3 = true ∧ dw_chk dw_C_prog_10_method_76_code_0 5 5 (.ifCond .ne 25) 3 = true ∧ dw_chk dw_C_prog_10_method_76_code_0 8 8 (.aload_n 0) 1 = true ∧ dw_chk dw_C_prog_10_method_76_code_0 9 9 (.iload_n 1) 1 = true ∧ dw_chk dw_C_prog_10_method_76_code_0 10 10 (.iconst 0) 1 = true ∧ dw_chk dw_C_prog_10_method_76_code_0 11 11 (.iconst 3) 1 = true ∧ dw_chk dw_C_prog_10_method_76_code_0 12 12 (.invokestatic 40) 3 = true ∧ dw_chk dw_C_prog_10_method_76_code_0 15 15 (.ifCond .ne 7) 3 = true ∧ dw_chk dw_C_prog_10_method_76_code_0 22 22 (.iconst 0) 1 = true ∧ dw_chk dw_C_prog_10_method_76_code_0 23 23 (.iconst 1) 1 = true ∧ dw_chk dw_C_prog_10_method_76_code_0 24 24 (.invokevirtual 36) 3 = true ∧ dw_chk dw_C_prog_10_method_76_code_0 27 27 (.ifCond .eq 7) 3 = true ∧ dw_chk dw_C_prog_10_method_76_code_0 34 34 (.aload_n 0) 1 = true ∧ dw_chk dw_C_prog_10_method_76_code_0 35 35 (.iload_n 1) 1 = true ∧ dw_chk dw_C_prog_10_method_76_code_0 36 36 (.invokevirtual 258) 3 = true ∧ dw_chk dw_C_prog_10_method_76_code_0 39 39 (.ireturn) 1 = true ∧ dw_chk dw_C_prog_10_method_76_code_0 30 30 (.iconst 0) 1 = true ∧ dw_chk dw_C_prog_10_method_76_code_0 31 31 (.goto 8) 3 = true ∧ dw_chk dw_C_prog_10_method_76_code_0 18 18 (.iconst 1) 1 = true ∧ dw_chk dw_C_prog_10_method_76_code_0 19 19 (.goto 4) 3 = true := by decide +kernel
theorem dc_X9_house_0 : decode prog_10_method_76_code 0 = .ok (.aload_n 0, 1) := dw_row (j := 0) dw_h_prog_10_method_76_code_0 rfl dw_b_X9_house_0.1
theorem dc_X9_house_1 : decode prog_10_method_76_code 1 = .ok (.iconst 0, 1) := dw_row (j := 1) dw_h_prog_10_method_76_code_0 rfl dw_b_X9_house_0.2.1
theorem dc_X9_house_2 : decode prog_10_method_76_code 2 = .ok (.invokevirtual 55, 3) := dw_row (j := 2) dw_h_prog_10_method_76_code_0 rfl dw_b_X9_house_0.2.2.1
theorem dc_X9_house_5 : decode prog_10_method_76_code 5 = .ok (.ifCond .ne 25, 3) := dw_row (j := 5) dw_h_prog_10_method_76_code_0 rfl dw_b_X9_house_0.2.2.2.1
theorem dc_X9_house_8 : decode prog_10_method_76_code 8 = .ok (.aload_n 0, 1) := dw_row (j := 8) dw_h_prog_10_method_76_code_0 rfl dw_b_X9_house_0.2.2.2.2.1
theorem dc_X9_house_9 : decode prog_10_method_76_code 9 = .ok (.iload_n 1, 1) := dw_row (j := 9) dw_h_prog_10_method_76_code_0 rfl dw_b_X9_house_0.2.2.2.2.2.1
theorem dc_X9_house_10 : decode prog_10_method_76_code 10 = .ok (.iconst 0, 1) := dw_row (j := 10) dw_h_prog_10_method_76_code_0 rfl dw_b_X9_house_0.2.2.2.2.2.2.1
theorem dc_X9_house_11 : decode prog_10_method_76_code 11 = .ok (.iconst 3, 1) := dw_row (j := 11) dw_h_prog_10_method_76_code_0 rfl dw_b_X9_house_0.2.2.2.2.2.2.2.1
theorem dc_X9_house_12 : decode prog_10_method_76_code 12 = .ok (.invokestatic 40, 3) := dw_row (j := 12) dw_h_prog_10_method_76_code_0 rfl dw_b_X9_house_0.2.2.2.2.2.2.2.2.1
theorem dc_X9_house_15 : decode prog_10_method_76_code 15 = .ok (.ifCond .ne 7, 3) := dw_row (j := 15) dw_h_prog_10_method_76_code_0 rfl dw_b_X9_house_0.2.2.2.2.2.2.2.2.2.1
theorem dc_X9_house_22 : decode prog_10_method_76_code 22 = .ok (.iconst 0, 1) := dw_row (j := 22) dw_h_prog_10_method_76_code_0 rfl dw_b_X9_house_0.2.2.2.2.2.2.2.2.2.2.1
theorem dc_X9_house_23 : decode prog_10_method_76_code 23 = .ok (.iconst 1, 1) := dw_row (j := 23) dw_h_prog_10_method_76_code_0 rfl dw_b_X9_house_0.2.2.2.2.2.2.2.2.2.2.2.1
theorem dc_X9_house_24 : decode prog_10_method_76_code 24 = .ok (.invokevirtual 36, 3) := dw_row (j := 24) dw_h_prog_10_method_76_code_0 rfl dw_b_X9_house_0.2.2.2.2.2.2.2.2.2.2.2.2.1
theorem dc_X9_house_27 : decode prog_10_method_76_code 27 = .ok (.ifCond .eq 7, 3) := dw_row (j := 27) dw_h_prog_10_method_76_code_0 rfl dw_b_X9_house_0.2.2.2.2.2.2.2.2.2.2.2.2.2.1
theorem dc_X9_house_34 : decode prog_10_method_76_code 34 = .ok (.aload_n 0, 1) := dw_row (j := 34) dw_h_prog_10_method_76_code_0 rfl dw_b_X9_house_0.2.2.2.2.2.2.2.2.2.2.2.2.2.2.1
theorem dc_X9_house_35 : decode prog_10_method_76_code 35 = .ok (.iload_n 1, 1) := dw_row (j := 35) dw_h_prog_10_method_76_code_0 rfl dw_b_X9_house_0.2.2.2.2.2.2.2.2.2.2.2.2.2.2.2.1
theorem dc_X9_house_36 : decode prog_10_method_76_code 36 = .ok (.invokevirtual 258, 3) := dw_row (j := 36) dw_h_prog_10_method_76_code_0 rfl dw_b_X9_house_0.2.2.2.2.2.2.2.2.2.2.2.2.2.2.2.2.1
theorem dc_X9_house_39 : decode prog_10_method_76_code 39 = .ok (.ireturn, 1) := dw_row (j := 39) dw_h_prog_10_method_76_code_0 rfl dw_b_X9_house_0.2.2.2.2.2.2.2.2.2.2.2.2.2.2.2.2.2.1
theorem dc_X9_house_30 : decode prog_10_method_76_code 30 = .ok (.iconst 0, 1) := dw_row (j := 30) dw_h_prog_10_method_76_code_0 rfl dw_b_X9_house_0.2.2.2.2.2.2.2.2.2.2.2.2.2.2.2.2.2.2.1
theorem dc_X9_house_31 : decode prog_10_method_76_code 31 = .ok (.goto 8, 3) := dw_row (j := 31) dw_h_prog_10_method_76_code_0 rfl dw_b_X9_house_0.2.2.2.2.2.2.2.2.2.2.2.2.2.2.2.2.2.2.2.1
theorem dc_X9_house_18 : decode prog_10_method_76_code 18 = .ok (.iconst 1, 1) := dw_row (j := 18) dw_h_prog_10_method_76_code_0 rfl dw_b_X9_house_0.2.2.2.2.2.2.2.2.2.2.2.2.2.2.2.2.2.2.2.2.1
theorem dc_X9_house_19 : decode prog_10_method_76_code 19 = .ok (.goto 4, 3) := dw_row (j := 19) dw_h_prog_10_method_76_code_0 rfl dw_b_X9_house_0.2.2.2.2.2.2.2.2.2.2.2.2.2.2.2.2.2.2.2.2.2
def dw_C_prog_1_method_63_code_0 : List UInt8 := [3, 60, 3, 61, 28, 16, 6, 162, 0, 24, 42, 180, 0, 9, 28, 47, 184, 0, 163, 153, 0, 6, 132, 1, 1, 132, 2, 1, 167, 255, 232, 27, 172]
theorem dw_h_prog_1_method_63_code_0 : (prog_1_method_63_code.data.toList.drop 0).take 72 = dw_C_prog_1_method_63_code_0 := by decide +kernel
theorem dw_b_X6_countWholeOnes_0 : dw_chk dw_C_prog_1_method_63_code_0 0 0 (.iconst 0) 1 = true ∧ dw_chk dw_C_prog_1_method_63_code_0 1 1 (.istore_n 1) 1 = true ∧ dw_chk dw_C_prog_1_method_63_code_0 2 2 (.iconst 0) 1 = true ∧ dw_chk dw_C_prog_1_method_63_code_0 3 3 (.istore_n 2) 1 = true ∧ dw_chk dw_C_prog_1_method_63_code_0 4 4 (.iload_n 2) 1 = true ∧ dw_chk dw_C_prog_1_method_63_code_0 5 5 (.bipush 6) 2 = true ∧ dw_chk dw_C_prog_1_method_63_code_0 7 7 (.if_icmp .ge 24) 3 = true ∧ dw_chk dw_C_prog_1_method_63_code_0 31 31 (.iload_n 1) 1 = true ∧ dw_chk dw_C_prog_1_method_63_code_0 32 32 (.ireturn) 1 = true ∧ dw_chk dw_C_prog_1_method_63_code_0 10 10 (.aload_n 0) 1 = true ∧ dw_chk dw_C_prog_1_method_63_code_0 11 11 (.getfield 9) 3 = true ∧ dw_chk dw_C_prog_1_method_63_code_0 14 14 (.iload_n 2) 1 = true ∧ dw_chk dw_C_prog_1_method_63_code_0 15 15 (.laload) 1 = true ∧ dw_chk dw_C_prog_1_method_63_code_0 16 16 (.invokestatic 163) 3 = true ∧ dw_chk dw_C_prog_1_method_63_code_0 19 19 (.ifCond .eq 6) 3 = true ∧ dw_chk dw_C_prog_1_method_63_code_0 25 25 (.iinc 2 1) 3 = true ∧ dw_chk dw_C_prog_1_method_63_code_0 28 28 (.goto (-24)) 3 = true ∧ dw_chk dw_C_prog_1_method_63_code_0 22 22 (.iinc 1 1) 3 = true := by decide +kernel
theorem dc_X6_countWholeOnes_0 : decode prog_1_method_63_code 0 = .ok (.iconst 0, 1) := dw_row (j := 0) dw_h_prog_1_method_63_code_0 rfl dw_b_X6_countWholeOnes_0.1
theorem dc_X6_countWholeOnes_1 : decode prog_1_method_63_code 1 = .ok (.istore_n 1, 1) := dw_row (j := 1) dw_h_prog_1_method_63_code_0 rfl dw_b_X6_countWholeOnes_0.2.1
theorem dc_X6_countWholeOnes_2 : decode prog_1_method_63_code 2 = .ok (.iconst 0, 1) := dw_row (j := 2) dw_h_prog_1_method_63_code_0 rfl dw_b_X6_countWholeOnes_0.2.2.1
theorem dc_X6_countWholeOnes_3 : decode prog_1_method_63_code 3 = .ok (.istore_n 2, 1) := dw_row (j := 3) dw_h_prog_1_method_63_code_0 rfl dw_b_X6_countWholeOnes_0.2.2.2.1
theorem dc_X6_countWholeOnes_4 : decode prog_1_method_63_code 4 = .ok (.iload_n 2, 1) := dw_row (j := 4) dw_h_prog_1_method_63_code_0 rfl dw_b_X6_countWholeOnes_0.2.2.2.2.1
theorem dc_X6_countWholeOnes_5 : decode prog_1_method_63_code 5 = .ok (.bipush 6, 2) := dw_row (j := 5) dw_h_prog_1_method_63_code_0 rfl dw_b_X6_countWholeOnes_0.2.2.2.2.2.1
theorem dc_X6_countWholeOnes_7 : decode prog_1_method_63_code 7 = .ok (.if_icmp .ge 24, 3) := dw_row (j := 7) dw_h_prog_1_method_63_code_0 rfl dw_b_X6_countWholeOnes_0.2.2.2.2.2.2.1
theorem dc_X6_countWholeOnes_31 : decode prog_1_method_63_code 31 = .ok (.iload_n 1, 1) := dw_row (j := 31) dw_h_prog_1_method_63_code_0 rfl dw_b_X6_countWholeOnes_0.2.2.2.2.2.2.2.1
theorem dc_X6_countWholeOnes_32 : decode prog_1_method_63_code 32 = .ok (.ireturn, 1) := dw_row (j := 32) dw_h_prog_1_method_63_code_0 rfl dw_b_X6_countWholeOnes_0.2.2.2.2.2.2.2.2.1
theorem dc_X6_countWholeOnes_10 : decode prog_1_method_63_code 10 = .ok (.aload_n 0, 1) := dw_row (j := 10) dw_h_prog_1_method_63_code_0 rfl dw_b_X6_countWholeOnes_0.2.2.2.2.2.2.2.2.2.1
theorem dc_X6_countWholeOnes_11 : decode prog_1_method_63_code 11 = .ok (.getfield 9, 3) := dw_row (j := 11) dw_h_prog_1_method_63_code_0 rfl dw_b_X6_countWholeOnes_0.2.2.2.2.2.2.2.2.2.2.1
theorem dc_X6_countWholeOnes_14 : decode prog_1_method_63_code 14 = .ok (.iload_n 2, 1) := dw_row (j := 14) dw_h_prog_1_method_63_code_0 rfl dw_b_X6_countWholeOnes_0.2.2.2.2.2.2.2.2.2.2.2.1
theorem dc_X6_countWholeOnes_15 : decode prog_1_method_63_code 15 = .ok (.laload, 1) := dw_row (j := 15) dw_h_prog_1_method_63_code_0 rfl dw_b_X6_countWholeOnes_0.2.2.2.2.2.2.2.2.2.2.2.2.1
theorem dc_X6_countWholeOnes_16 : decode prog_1_method_63_code 16 = .ok (.invokestatic 163, 3) := dw_row (j := 16) dw_h_prog_1_method_63_code_0 rfl dw_b_X6_countWholeOnes_0.2.2.2.2.2.2.2.2.2.2.2.2.2.1
theorem dc_X6_countWholeOnes_19 : decode prog_1_method_63_code 19 = .ok (.ifCond .eq 6, 3) := dw_row (j := 19) dw_h_prog_1_method_63_code_0 rfl dw_b_X6_countWholeOnes_0.2.2.2.2.2.2.2.2.2.2.2.2.2.2.1
theorem dc_X6_countWholeOnes_25 : decode prog_1_method_63_code 25 = .ok (.iinc 2 1, 3) := dw_row (j := 25) dw_h_prog_1_method_63_code_0 rfl dw_b_X6_countWholeOnes_0.2.2.2.2.2.2.2.2.2.2.2.2.2.2.2.1
theorem dc_X6_countWholeOnes_28 : decode prog_1_method_63_code 28 = .ok (.goto (-24), 3) := dw_row (j := 28) dw_h_prog_1_method_63_code_0 rfl dw_b_X6_countWholeOnes_0.2.2.2.2.2.2.2.2.2.2.2.2.2.2.2.2.1
theorem dc_X6_countWholeOnes_22 : decode prog_1_method_63_code 22 = .ok (.iinc 1 1, 3) := dw_row (j := 22) dw_h_prog_1_method_63_code_0 rfl dw_b_X6_countWholeOnes_0.2.2.2.2.2.2.2.2.2.2.2.2.2.2.2.2.2
def dw_C_prog_1_method_68_code_0 : List UInt8 := [3, 62, 3, 54, 4, 21, 4, 16, 6, 162, 0, 30, 42, 180, 0, 9, 21, 4, 47, 184, 0, 240, 31, 184, 0, 240, 148, 156, 0, 6, 132, 3, 1, 132, 4, 1, 167, 255, 225, 29, 172]
theorem dw_h_prog_1_method_68_code_0 : (prog_1_method_68_code.data.toList.drop 0).take 72 = dw_C_prog_1_method_68_code_0 := by decide +kernel
theorem dw_b_X6_placeOf_0 : dw_chk dw_C_prog_1_method_68_code_0 0 0 (.iconst 0) 1 = true ∧ dw_chk dw_C_prog_1_method_68_code_0 1 1 (.istore_n 3) 1 = true ∧ dw_chk dw_C_prog_1_method_68_code_0 2 2 (.iconst 0) 1 = true ∧ dw_chk dw_C_prog_1_method_68_code_0 3 3 (.istore 4) 2 = true ∧ dw_chk dw_C_prog_1_method_68_code_0 5 5 (.iload 4) 2 = true ∧ dw_chk dw_C_prog_1_method_68_code_0 7 7 (.bipush 6) 2 = true ∧ dw_chk dw_C_prog_1_method_68_code_0 9 9 (.if_icmp .ge 30) 3 = true ∧ dw_chk dw_C_prog_1_method_68_code_0 39 39 (.iload_n 3) 1 = true ∧ dw_chk dw_C_prog_1_method_68_code_0 40 40 (.ireturn) 1 = true ∧ dw_chk dw_C_prog_1_method_68_code_0 12 12 (.aload_n 0) 1 = true ∧ dw_chk dw_C_prog_1_method_68_code_0 13 13 (.getfield 9) 3 = true ∧ dw_chk dw_C_prog_1_method_68_code_0 16 16 (.iload 4) 2 = true ∧ dw_chk dw_C_prog_1_method_68_code_0 18 18 (.laload) 1 = true ∧ dw_chk dw_C_prog_1_method_68_code_0 19 19 (.invokestatic 240) 3 = true ∧ dw_chk dw_C_prog_1_method_68_code_0 22 22 (.lload_n 1) 1 = true ∧ dw_chk dw_C_prog_1_method_68_code_0 23 23 (.invokestatic 240) 3 = true ∧ dw_chk dw_C_prog_1_method_68_code_0 26 26 (.lcmp) 1 = true ∧ dw_chk dw_C_prog_1_method_68_code_0 27 27 (.ifCond .ge 6) 3 = true ∧ dw_chk dw_C_prog_1_method_68_code_0 33 33 (.iinc 4 1) 3 = true ∧ dw_chk dw_C_prog_1_method_68_code_0 36 36 (.goto (-31)) 3 = true ∧ dw_chk dw_C_prog_1_method_68_code_0 30 30 (.iinc 3 1) 3 = true := by decide +kernel
theorem dc_X6_placeOf_0 : decode prog_1_method_68_code 0 = .ok (.iconst 0, 1) := dw_row (j := 0) dw_h_prog_1_method_68_code_0 rfl dw_b_X6_placeOf_0.1
theorem dc_X6_placeOf_1 : decode prog_1_method_68_code 1 = .ok (.istore_n 3, 1) := dw_row (j := 1) dw_h_prog_1_method_68_code_0 rfl dw_b_X6_placeOf_0.2.1
theorem dc_X6_placeOf_2 : decode prog_1_method_68_code 2 = .ok (.iconst 0, 1) := dw_row (j := 2) dw_h_prog_1_method_68_code_0 rfl dw_b_X6_placeOf_0.2.2.1
theorem dc_X6_placeOf_3 : decode prog_1_method_68_code 3 = .ok (.istore 4, 2) := dw_row (j := 3) dw_h_prog_1_method_68_code_0 rfl dw_b_X6_placeOf_0.2.2.2.1
theorem dc_X6_placeOf_5 : decode prog_1_method_68_code 5 = .ok (.iload 4, 2) := dw_row (j := 5) dw_h_prog_1_method_68_code_0 rfl dw_b_X6_placeOf_0.2.2.2.2.1
theorem dc_X6_placeOf_7 : decode prog_1_method_68_code 7 = .ok (.bipush 6, 2) := dw_row (j := 7) dw_h_prog_1_method_68_code_0 rfl dw_b_X6_placeOf_0.2.2.2.2.2.1
theorem dc_X6_placeOf_9 : decode prog_1_method_68_code 9 = .ok (.if_icmp .ge 30, 3) := dw_row (j := 9) dw_h_prog_1_method_68_code_0 rfl dw_b_X6_placeOf_0.2.2.2.2.2.2.1
theorem dc_X6_placeOf_39 : decode prog_1_method_68_code 39 = .ok (.iload_n 3, 1) := dw_row (j := 39) dw_h_prog_1_method_68_code_0 rfl dw_b_X6_placeOf_0.2.2.2.2.2.2.2.1
theorem dc_X6_placeOf_40 : decode prog_1_method_68_code 40 = .ok (.ireturn, 1) := dw_row (j := 40) dw_h_prog_1_method_68_code_0 rfl dw_b_X6_placeOf_0.2.2.2.2.2.2.2.2.1
theorem dc_X6_placeOf_12 : decode prog_1_method_68_code 12 = .ok (.aload_n 0, 1) := dw_row (j := 12) dw_h_prog_1_method_68_code_0 rfl dw_b_X6_placeOf_0.2.2.2.2.2.2.2.2.2.1
theorem dc_X6_placeOf_13 : decode prog_1_method_68_code 13 = .ok (.getfield 9, 3) := dw_row (j := 13) dw_h_prog_1_method_68_code_0 rfl dw_b_X6_placeOf_0.2.2.2.2.2.2.2.2.2.2.1
theorem dc_X6_placeOf_16 : decode prog_1_method_68_code 16 = .ok (.iload 4, 2) := dw_row (j := 16) dw_h_prog_1_method_68_code_0 rfl dw_b_X6_placeOf_0.2.2.2.2.2.2.2.2.2.2.2.1
theorem dc_X6_placeOf_18 : decode prog_1_method_68_code 18 = .ok (.laload, 1) := dw_row (j := 18) dw_h_prog_1_method_68_code_0 rfl dw_b_X6_placeOf_0.2.2.2.2.2.2.2.2.2.2.2.2.1
theorem dc_X6_placeOf_19 : decode prog_1_method_68_code 19 = .ok (.invokestatic 240, 3) := dw_row (j := 19) dw_h_prog_1_method_68_code_0 rfl dw_b_X6_placeOf_0.2.2.2.2.2.2.2.2.2.2.2.2.2.1
theorem dc_X6_placeOf_22 : decode prog_1_method_68_code 22 = .ok (.lload_n 1, 1) := dw_row (j := 22) dw_h_prog_1_method_68_code_0 rfl dw_b_X6_placeOf_0.2.2.2.2.2.2.2.2.2.2.2.2.2.2.1
theorem dc_X6_placeOf_23 : decode prog_1_method_68_code 23 = .ok (.invokestatic 240, 3) := dw_row (j := 23) dw_h_prog_1_method_68_code_0 rfl dw_b_X6_placeOf_0.2.2.2.2.2.2.2.2.2.2.2.2.2.2.2.1
theorem dc_X6_placeOf_26 : decode prog_1_method_68_code 26 = .ok (.lcmp, 1) := dw_row (j := 26) dw_h_prog_1_method_68_code_0 rfl dw_b_X6_placeOf_0.2.2.2.2.2.2.2.2.2.2.2.2.2.2.2.2.1
theorem dc_X6_placeOf_27 : decode prog_1_method_68_code 27 = .ok (.ifCond .ge 6, 3) := dw_row (j := 27) dw_h_prog_1_method_68_code_0 rfl dw_b_X6_placeOf_0.2.2.2.2.2.2.2.2.2.2.2.2.2.2.2.2.2.1
theorem dc_X6_placeOf_33 : decode prog_1_method_68_code 33 = .ok (.iinc 4 1, 3) := dw_row (j := 33) dw_h_prog_1_method_68_code_0 rfl dw_b_X6_placeOf_0.2.2.2.2.2.2.2.2.2.2.2.2.2.2.2.2.2.2.1
theorem dc_X6_placeOf_36 : decode prog_1_method_68_code 36 = .ok (.goto (-31), 3) := dw_row (j := 36) dw_h_prog_1_method_68_code_0 rfl dw_b_X6_placeOf_0.2.2.2.2.2.2.2.2.2.2.2.2.2.2.2.2.2.2.2.1
theorem dc_X6_placeOf_30 : decode prog_1_method_68_code 30 = .ok (.iinc 3 1, 3) := dw_row (j := 30) dw_h_prog_1_method_68_code_0 rfl dw_b_X6_placeOf_0.2.2.2.2.2.2.2.2.2.2.2.2.2.2.2.2.2.2.2.2
def dw_C_prog_1_method_69_code_0 : List UInt8 := [42, 180, 0, 9, 3, 47, 64, 4, 62, 29, 16, 6, 162, 0, 20, 31, 42, 180, 0, 9, 29, 47, 184, 0, 122, 64, 132, 3, 1, 167, 255, 236, 31, 173]
theorem dw_h_prog_1_method_69_code_0 : (prog_1_method_69_code.data.toList.drop 0).take 72 = dw_C_prog_1_method_69_code_0 := by decide +kernel
theorem dw_b_X6_lastOfAll_0 : dw_chk dw_C_prog_1_method_69_code_0 0 0 (.aload_n 0) 1 = true ∧ dw_chk dw_C_prog_1_method_69_code_0 1 1 (.getfield 9) 3 = true ∧ dw_chk dw_C_prog_1_method_69_code_0 4 4 (.iconst 0) 1 = true ∧ dw_chk dw_C_prog_1_method_69_code_0 5 5 (.laload) 1 = true ∧ dw_chk dw_C_prog_1_method_69_code_0 6 6 (.lstore_n 1) 1 = true ∧ dw_chk dw_C_prog_1_method_69_code_0 7 7 (.iconst 1) 1 = true ∧ dw_chk dw_C_prog_1_method_69_code_0 8 8 (.istore_n 3) 1 = true ∧ dw_chk dw_C_prog_1_method_69_code_0 9 9 (.iload_n 3) 1 = true ∧ dw_chk dw_C_prog_1_method_69_code_0 10 10 (.bipush 6) 2 = true ∧ dw_chk dw_C_prog_1_method_69_code_0 12 12 (.if_icmp .ge 20) 3 = true ∧ dw_chk dw_C_prog_1_method_69_code_0 32 32 (.lload_n 1) 1 = true ∧ dw_chk dw_C_prog_1_method_69_code_0 33 33 (.lreturn) 1 = true ∧ dw_chk dw_C_prog_1_method_69_code_0 15 15 (.lload_n 1) 1 = true ∧ dw_chk dw_C_prog_1_method_69_code_0 16 16 (.aload_n 0) 1 = true ∧ dw_chk dw_C_prog_1_method_69_code_0 17 17 (.getfield 9) 3 = true ∧ dw_chk dw_C_prog_1_method_69_code_0 20 20 (.iload_n 3) 1 = true ∧ dw_chk dw_C_prog_1_method_69_code_0 21 21 (.laload) 1 = true ∧ dw_chk dw_C_prog_1_method_69_code_0 22 22 (.invokestatic 122) 3 = true ∧ dw_chk dw_C_prog_1_method_69_code_0 25 25 (.lstore_n 1) 1 = true ∧ dw_chk dw_C_prog_1_method_69_code_0 26 26 (.iinc 3 1) 3 = true ∧ dw_chk dw_C_prog_1_method_69_code_0 29 29 (.goto (-20)) 3 = true := by decide +kernel
theorem dc_X6_lastOfAll_0 : decode prog_1_method_69_code 0 = .ok (.aload_n 0, 1) := dw_row (j := 0) dw_h_prog_1_method_69_code_0 rfl dw_b_X6_lastOfAll_0.1
theorem dc_X6_lastOfAll_1 : decode prog_1_method_69_code 1 = .ok (.getfield 9, 3) := dw_row (j := 1) dw_h_prog_1_method_69_code_0 rfl dw_b_X6_lastOfAll_0.2.1
theorem dc_X6_lastOfAll_4 : decode prog_1_method_69_code 4 = .ok (.iconst 0, 1) := dw_row (j := 4) dw_h_prog_1_method_69_code_0 rfl dw_b_X6_lastOfAll_0.2.2.1
theorem dc_X6_lastOfAll_5 : decode prog_1_method_69_code 5 = .ok (.laload, 1) := dw_row (j := 5) dw_h_prog_1_method_69_code_0 rfl dw_b_X6_lastOfAll_0.2.2.2.1
theorem dc_X6_lastOfAll_6 : decode prog_1_method_69_code 6 = .ok (.lstore_n 1, 1) := dw_row (j := 6) dw_h_prog_1_method_69_code_0 rfl dw_b_X6_lastOfAll_0.2.2.2.2.1
theorem dc_X6_lastOfAll_7 : decode prog_1_method_69_code 7 = .ok (.iconst 1, 1) := dw_row (j := 7) dw_h_prog_1_method_69_code_0 rfl dw_b_X6_lastOfAll_0.2.2.2.2.2.1
theorem dc_X6_lastOfAll_8 : decode prog_1_method_69_code 8 = .ok (.istore_n 3, 1) := dw_row (j := 8) dw_h_prog_1_method_69_code_0 rfl dw_b_X6_lastOfAll_0.2.2.2.2.2.2.1
theorem dc_X6_lastOfAll_9 : decode prog_1_method_69_code 9 = .ok (.iload_n 3, 1) := dw_row (j := 9) dw_h_prog_1_method_69_code_0 rfl dw_b_X6_lastOfAll_0.2.2.2.2.2.2.2.1
theorem dc_X6_lastOfAll_10 : decode prog_1_method_69_code 10 = .ok (.bipush 6, 2) := dw_row (j := 10) dw_h_prog_1_method_69_code_0 rfl dw_b_X6_lastOfAll_0.2.2.2.2.2.2.2.2.1
theorem dc_X6_lastOfAll_12 : decode prog_1_method_69_code 12 = .ok (.if_icmp .ge 20, 3) := dw_row (j := 12) dw_h_prog_1_method_69_code_0 rfl dw_b_X6_lastOfAll_0.2.2.2.2.2.2.2.2.2.1
theorem dc_X6_lastOfAll_32 : decode prog_1_method_69_code 32 = .ok (.lload_n 1, 1) := dw_row (j := 32) dw_h_prog_1_method_69_code_0 rfl dw_b_X6_lastOfAll_0.2.2.2.2.2.2.2.2.2.2.1
theorem dc_X6_lastOfAll_33 : decode prog_1_method_69_code 33 = .ok (.lreturn, 1) := dw_row (j := 33) dw_h_prog_1_method_69_code_0 rfl dw_b_X6_lastOfAll_0.2.2.2.2.2.2.2.2.2.2.2.1
theorem dc_X6_lastOfAll_15 : decode prog_1_method_69_code 15 = .ok (.lload_n 1, 1) := dw_row (j := 15) dw_h_prog_1_method_69_code_0 rfl dw_b_X6_lastOfAll_0.2.2.2.2.2.2.2.2.2.2.2.2.1
theorem dc_X6_lastOfAll_16 : decode prog_1_method_69_code 16 = .ok (.aload_n 0, 1) := dw_row (j := 16) dw_h_prog_1_method_69_code_0 rfl dw_b_X6_lastOfAll_0.2.2.2.2.2.2.2.2.2.2.2.2.2.1
theorem dc_X6_lastOfAll_17 : decode prog_1_method_69_code 17 = .ok (.getfield 9, 3) := dw_row (j := 17) dw_h_prog_1_method_69_code_0 rfl dw_b_X6_lastOfAll_0.2.2.2.2.2.2.2.2.2.2.2.2.2.2.1
theorem dc_X6_lastOfAll_20 : decode prog_1_method_69_code 20 = .ok (.iload_n 3, 1) := dw_row (j := 20) dw_h_prog_1_method_69_code_0 rfl dw_b_X6_lastOfAll_0.2.2.2.2.2.2.2.2.2.2.2.2.2.2.2.1
theorem dc_X6_lastOfAll_21 : decode prog_1_method_69_code 21 = .ok (.laload, 1) := dw_row (j := 21) dw_h_prog_1_method_69_code_0 rfl dw_b_X6_lastOfAll_0.2.2.2.2.2.2.2.2.2.2.2.2.2.2.2.2.1
theorem dc_X6_lastOfAll_22 : decode prog_1_method_69_code 22 = .ok (.invokestatic 122, 3) := dw_row (j := 22) dw_h_prog_1_method_69_code_0 rfl dw_b_X6_lastOfAll_0.2.2.2.2.2.2.2.2.2.2.2.2.2.2.2.2.2.1
theorem dc_X6_lastOfAll_25 : decode prog_1_method_69_code 25 = .ok (.lstore_n 1, 1) := dw_row (j := 25) dw_h_prog_1_method_69_code_0 rfl dw_b_X6_lastOfAll_0.2.2.2.2.2.2.2.2.2.2.2.2.2.2.2.2.2.2.1
theorem dc_X6_lastOfAll_26 : decode prog_1_method_69_code 26 = .ok (.iinc 3 1, 3) := dw_row (j := 26) dw_h_prog_1_method_69_code_0 rfl dw_b_X6_lastOfAll_0.2.2.2.2.2.2.2.2.2.2.2.2.2.2.2.2.2.2.2.1
theorem dc_X6_lastOfAll_29 : decode prog_1_method_69_code 29 = .ok (.goto (-20), 3) := dw_row (j := 29) dw_h_prog_1_method_69_code_0 rfl dw_b_X6_lastOfAll_0.2.2.2.2.2.2.2.2.2.2.2.2.2.2.2.2.2.2.2.2
def dw_C_prog_1_method_70_code_0 : List UInt8 := [42, 180, 0, 9, 3, 47, 64, 4, 62, 29, 16, 6, 162, 0, 20, 31, 42, 180, 0, 9, 29, 47, 184, 0, 125, 64, 132, 3, 1, 167, 255, 236, 31, 173]
theorem dw_h_prog_1_method_70_code_0 : (prog_1_method_70_code.data.toList.drop 0).take 72 = dw_C_prog_1_method_70_code_0 := by decide +kernel
theorem dw_b_X6_firstOfAll_0 : dw_chk dw_C_prog_1_method_70_code_0 0 0 (.aload_n 0) 1 = true ∧ dw_chk dw_C_prog_1_method_70_code_0 1 1 (.getfield 9) 3 = true ∧ dw_chk dw_C_prog_1_method_70_code_0 4 4 (.iconst 0) 1 = true ∧ dw_chk dw_C_prog_1_method_70_code_0 5 5 (.laload) 1 = true ∧ dw_chk dw_C_prog_1_method_70_code_0 6 6 (.lstore_n 1) 1 = true ∧ dw_chk dw_C_prog_1_method_70_code_0 7 7 (.iconst 1) 1 = true ∧ dw_chk dw_C_prog_1_method_70_code_0 8 8 (.istore_n 3) 1 = true ∧ dw_chk dw_C_prog_1_method_70_code_0 9 9 (.iload_n 3) 1 = true ∧ dw_chk dw_C_prog_1_method_70_code_0 10 10 (.bipush 6) 2 = true ∧ dw_chk dw_C_prog_1_method_70_code_0 12 12 (.if_icmp .ge 20) 3 = true ∧ dw_chk dw_C_prog_1_method_70_code_0 32 32 (.lload_n 1) 1 = true ∧ dw_chk dw_C_prog_1_method_70_code_0 33 33 (.lreturn) 1 = true ∧ dw_chk dw_C_prog_1_method_70_code_0 15 15 (.lload_n 1) 1 = true ∧ dw_chk dw_C_prog_1_method_70_code_0 16 16 (.aload_n 0) 1 = true ∧ dw_chk dw_C_prog_1_method_70_code_0 17 17 (.getfield 9) 3 = true ∧ dw_chk dw_C_prog_1_method_70_code_0 20 20 (.iload_n 3) 1 = true ∧ dw_chk dw_C_prog_1_method_70_code_0 21 21 (.laload) 1 = true ∧ dw_chk dw_C_prog_1_method_70_code_0 22 22 (.invokestatic 125) 3 = true ∧ dw_chk dw_C_prog_1_method_70_code_0 25 25 (.lstore_n 1) 1 = true ∧ dw_chk dw_C_prog_1_method_70_code_0 26 26 (.iinc 3 1) 3 = true ∧ dw_chk dw_C_prog_1_method_70_code_0 29 29 (.goto (-20)) 3 = true := by decide +kernel
theorem dc_X6_firstOfAll_0 : decode prog_1_method_70_code 0 = .ok (.aload_n 0, 1) := dw_row (j := 0) dw_h_prog_1_method_70_code_0 rfl dw_b_X6_firstOfAll_0.1
theorem dc_X6_firstOfAll_1 : decode prog_1_method_70_code 1 = .ok (.getfield 9, 3) := dw_row (j := 1) dw_h_prog_1_method_70_code_0 rfl dw_b_X6_firstOfAll_0.2.1
theorem dc_X6_firstOfAll_4 : decode prog_1_method_70_code 4 = .ok (.iconst 0, 1) := dw_row (j := 4) dw_h_prog_1_method_70_code_0 rfl dw_b_X6_firstOfAll_0.2.2.1
theorem dc_X6_firstOfAll_5 : decode prog_1_method_70_code 5 = .ok (.laload, 1) := dw_row (j := 5) dw_h_prog_1_method_70_code_0 rfl dw_b_X6_firstOfAll_0.2.2.2.1
theorem dc_X6_firstOfAll_6 : decode prog_1_method_70_code 6 = .ok (.lstore_n 1, 1) := dw_row (j := 6) dw_h_prog_1_method_70_code_0 rfl dw_b_X6_firstOfAll_0.2.2.2.2.1
theorem dc_X6_firstOfAll_7 : decode prog_1_method_70_code 7 = .ok (.iconst 1, 1) := dw_row (j := 7) dw_h_prog_1_method_70_code_0 rfl dw_b_X6_firstOfAll_0.2.2.2.2.2.1
theorem dc_X6_firstOfAll_8 : decode prog_1_method_70_code 8 = .ok (.istore_n 3, 1) := dw_row (j := 8) dw_h_prog_1_method_70_code_0 rfl dw_b_X6_firstOfAll_0.2.2.2.2.2.2.1
theorem dc_X6_firstOfAll_9 : decode prog_1_method_70_code 9 = .ok (.iload_n 3, 1) := dw_row (j := 9) dw_h_prog_1_method_70_code_0 rfl dw_b_X6_firstOfAll_0.2.2.2.2.2.2.2.1
theorem dc_X6_firstOfAll_10 : decode prog_1_method_70_code 10 = .ok (.bipush 6, 2) := dw_row (j := 10) dw_h_prog_1_method_70_code_0 rfl dw_b_X6_firstOfAll_0.2.2.2.2.2.2.2.2.1
theorem dc_X6_firstOfAll_12 : decode prog_1_method_70_code 12 = .ok (.if_icmp .ge 20, 3) := dw_row (j := 12) dw_h_prog_1_method_70_code_0 rfl dw_b_X6_firstOfAll_0.2.2.2.2.2.2.2.2.2.1
theorem dc_X6_firstOfAll_32 : decode prog_1_method_70_code 32 = .ok (.lload_n 1, 1) := dw_row (j := 32) dw_h_prog_1_method_70_code_0 rfl dw_b_X6_firstOfAll_0.2.2.2.2.2.2.2.2.2.2.1
theorem dc_X6_firstOfAll_33 : decode prog_1_method_70_code 33 = .ok (.lreturn, 1) := dw_row (j := 33) dw_h_prog_1_method_70_code_0 rfl dw_b_X6_firstOfAll_0.2.2.2.2.2.2.2.2.2.2.2.1
theorem dc_X6_firstOfAll_15 : decode prog_1_method_70_code 15 = .ok (.lload_n 1, 1) := dw_row (j := 15) dw_h_prog_1_method_70_code_0 rfl dw_b_X6_firstOfAll_0.2.2.2.2.2.2.2.2.2.2.2.2.1
theorem dc_X6_firstOfAll_16 : decode prog_1_method_70_code 16 = .ok (.aload_n 0, 1) := dw_row (j := 16) dw_h_prog_1_method_70_code_0 rfl dw_b_X6_firstOfAll_0.2.2.2.2.2.2.2.2.2.2.2.2.2.1
theorem dc_X6_firstOfAll_17 : decode prog_1_method_70_code 17 = .ok (.getfield 9, 3) := dw_row (j := 17) dw_h_prog_1_method_70_code_0 rfl dw_b_X6_firstOfAll_0.2.2.2.2.2.2.2.2.2.2.2.2.2.2.1
theorem dc_X6_firstOfAll_20 : decode prog_1_method_70_code 20 = .ok (.iload_n 3, 1) := dw_row (j := 20) dw_h_prog_1_method_70_code_0 rfl dw_b_X6_firstOfAll_0.2.2.2.2.2.2.2.2.2.2.2.2.2.2.2.1
theorem dc_X6_firstOfAll_21 : decode prog_1_method_70_code 21 = .ok (.laload, 1) := dw_row (j := 21) dw_h_prog_1_method_70_code_0 rfl dw_b_X6_firstOfAll_0.2.2.2.2.2.2.2.2.2.2.2.2.2.2.2.2.1
theorem dc_X6_firstOfAll_22 : decode prog_1_method_70_code 22 = .ok (.invokestatic 125, 3) := dw_row (j := 22) dw_h_prog_1_method_70_code_0 rfl dw_b_X6_firstOfAll_0.2.2.2.2.2.2.2.2.2.2.2.2.2.2.2.2.2.1
theorem dc_X6_firstOfAll_25 : decode prog_1_method_70_code 25 = .ok (.lstore_n 1, 1) := dw_row (j := 25) dw_h_prog_1_method_70_code_0 rfl dw_b_X6_firstOfAll_0.2.2.2.2.2.2.2.2.2.2.2.2.2.2.2.2.2.2.1
theorem dc_X6_firstOfAll_26 : decode prog_1_method_70_code 26 = .ok (.iinc 3 1, 3) := dw_row (j := 26) dw_h_prog_1_method_70_code_0 rfl dw_b_X6_firstOfAll_0.2.2.2.2.2.2.2.2.2.2.2.2.2.2.2.2.2.2.2.1
theorem dc_X6_firstOfAll_29 : decode prog_1_method_70_code 29 = .ok (.goto (-20), 3) := dw_row (j := 29) dw_h_prog_1_method_70_code_0 rfl dw_b_X6_firstOfAll_0.2.2.2.2.2.2.2.2.2.2.2.2.2.2.2.2.2.2.2.2
theorem dc_X6_countOf_1 : decode prog_1_method_62_code 1 = .ok (.tableswitch 42 0 2 #[27, 32, 37], 27) := by decide +kernel
def dw_C_prog_1_method_62_code_0 : List UInt8 := [27, 170, 0, 0, 0, 0, 0, 42, 0, 0, 0, 0, 0, 0, 0, 2, 0, 0, 0, 27, 0, 0, 0, 32, 0, 0, 0, 37, 42, 180, 0, 228, 172, 42, 180, 0, 70, 172, 42, 180, 0, 186, 172, 42, 182, 0, 231, 172]
theorem dw_h_prog_1_method_62_code_0 : (prog_1_method_62_code.data.toList.drop 0).take 72 = dw_C_prog_1_method_62_code_0 := by decide +kernel
theorem dw_b_X6_countOf_0 : dw_chk dw_C_prog_1_method_62_code_0 0 0 (.iload_n 1) 1 = true ∧ dw_chk dw_C_prog_1_method_62_code_0 28 28 (.aload_n 0) 1 = true ∧ dw_chk dw_C_prog_1_method_62_code_0 29 29 (.getfield 228) 3 = true ∧ dw_chk dw_C_prog_1_method_62_code_0 32 32 (.ireturn) 1 = true ∧ dw_chk dw_C_prog_1_method_62_code_0 33 33 (.aload_n 0) 1 = true ∧ dw_chk dw_C_prog_1_method_62_code_0 34 34 (.getfield 70) 3 = true ∧ dw_chk dw_C_prog_1_method_62_code_0 37 37 (.ireturn) 1 = true ∧ dw_chk dw_C_prog_1_method_62_code_0 38 38 (.aload_n 0) 1 = true ∧ dw_chk dw_C_prog_1_method_62_code_0 39 39 (.getfield 186) 3 = true ∧ dw_chk dw_C_prog_1_method_62_code_0 42 42 (.ireturn) 1 = true ∧ dw_chk dw_C_prog_1_method_62_code_0 43 43 (.aload_n 0) 1 = true ∧ dw_chk dw_C_prog_1_method_62_code_0 44 44 (.invokevirtual 231) 3 = true ∧ dw_chk dw_C_prog_1_method_62_code_0 47 47 (.ireturn) 1 = true := by decide +kernel
theorem dc_X6_countOf_0 : decode prog_1_method_62_code 0 = .ok (.iload_n 1, 1) := dw_row (j := 0) dw_h_prog_1_method_62_code_0 rfl dw_b_X6_countOf_0.1
theorem dc_X6_countOf_28 : decode prog_1_method_62_code 28 = .ok (.aload_n 0, 1) := dw_row (j := 28) dw_h_prog_1_method_62_code_0 rfl dw_b_X6_countOf_0.2.1
theorem dc_X6_countOf_29 : decode prog_1_method_62_code 29 = .ok (.getfield 228, 3) := dw_row (j := 29) dw_h_prog_1_method_62_code_0 rfl dw_b_X6_countOf_0.2.2.1
theorem dc_X6_countOf_32 : decode prog_1_method_62_code 32 = .ok (.ireturn, 1) := dw_row (j := 32) dw_h_prog_1_method_62_code_0 rfl dw_b_X6_countOf_0.2.2.2.1
theorem dc_X6_countOf_33 : decode prog_1_method_62_code 33 = .ok (.aload_n 0, 1) := dw_row (j := 33) dw_h_prog_1_method_62_code_0 rfl dw_b_X6_countOf_0.2.2.2.2.1
theorem dc_X6_countOf_34 : decode prog_1_method_62_code 34 = .ok (.getfield 70, 3) := dw_row (j := 34) dw_h_prog_1_method_62_code_0 rfl dw_b_X6_countOf_0.2.2.2.2.2.1
theorem dc_X6_countOf_37 : decode prog_1_method_62_code 37 = .ok (.ireturn, 1) := dw_row (j := 37) dw_h_prog_1_method_62_code_0 rfl dw_b_X6_countOf_0.2.2.2.2.2.2.1
theorem dc_X6_countOf_38 : decode prog_1_method_62_code 38 = .ok (.aload_n 0, 1) := dw_row (j := 38) dw_h_prog_1_method_62_code_0 rfl dw_b_X6_countOf_0.2.2.2.2.2.2.2.1
theorem dc_X6_countOf_39 : decode prog_1_method_62_code 39 = .ok (.getfield 186, 3) := dw_row (j := 39) dw_h_prog_1_method_62_code_0 rfl dw_b_X6_countOf_0.2.2.2.2.2.2.2.2.1
theorem dc_X6_countOf_42 : decode prog_1_method_62_code 42 = .ok (.ireturn, 1) := dw_row (j := 42) dw_h_prog_1_method_62_code_0 rfl dw_b_X6_countOf_0.2.2.2.2.2.2.2.2.2.1
theorem dc_X6_countOf_43 : decode prog_1_method_62_code 43 = .ok (.aload_n 0, 1) := dw_row (j := 43) dw_h_prog_1_method_62_code_0 rfl dw_b_X6_countOf_0.2.2.2.2.2.2.2.2.2.2.1
theorem dc_X6_countOf_44 : decode prog_1_method_62_code 44 = .ok (.invokevirtual 231, 3) := dw_row (j := 44) dw_h_prog_1_method_62_code_0 rfl dw_b_X6_countOf_0.2.2.2.2.2.2.2.2.2.2.2.1
theorem dc_X6_countOf_47 : decode prog_1_method_62_code 47 = .ok (.ireturn, 1) := dw_row (j := 47) dw_h_prog_1_method_62_code_0 rfl dw_b_X6_countOf_0.2.2.2.2.2.2.2.2.2.2.2.2
def dw_C_prog_1_method_41_code_0 : List UInt8 := [27, 184, 0, 27, 42, 42, 180, 0, 9, 27, 47, 182, 0, 176, 172]
theorem dw_h_prog_1_method_41_code_0 : (prog_1_method_41_code.data.toList.drop 0).take 72 = dw_C_prog_1_method_41_code_0 := by decide +kernel
theorem dw_b_X6_place_0 : dw_chk dw_C_prog_1_method_41_code_0 0 0 (.iload_n 1) 1 = true ∧ dw_chk dw_C_prog_1_method_41_code_0 1 1 (.invokestatic 27) 3 = true ∧ dw_chk dw_C_prog_1_method_41_code_0 4 4 (.aload_n 0) 1 = true ∧ dw_chk dw_C_prog_1_method_41_code_0 5 5 (.aload_n 0) 1 = true ∧ dw_chk dw_C_prog_1_method_41_code_0 6 6 (.getfield 9) 3 = true ∧ dw_chk dw_C_prog_1_method_41_code_0 9 9 (.iload_n 1) 1 = true ∧ dw_chk dw_C_prog_1_method_41_code_0 10 10 (.laload) 1 = true ∧ dw_chk dw_C_prog_1_method_41_code_0 11 11 (.invokevirtual 176) 3 = true ∧ dw_chk dw_C_prog_1_method_41_code_0 14 14 (.ireturn) 1 = true := by decide +kernel
theorem dc_X6_place_0 : decode prog_1_method_41_code 0 = .ok (.iload_n 1, 1) := dw_row (j := 0) dw_h_prog_1_method_41_code_0 rfl dw_b_X6_place_0.1
theorem dc_X6_place_1 : decode prog_1_method_41_code 1 = .ok (.invokestatic 27, 3) := dw_row (j := 1) dw_h_prog_1_method_41_code_0 rfl dw_b_X6_place_0.2.1
theorem dc_X6_place_4 : decode prog_1_method_41_code 4 = .ok (.aload_n 0, 1) := dw_row (j := 4) dw_h_prog_1_method_41_code_0 rfl dw_b_X6_place_0.2.2.1
theorem dc_X6_place_5 : decode prog_1_method_41_code 5 = .ok (.aload_n 0, 1) := dw_row (j := 5) dw_h_prog_1_method_41_code_0 rfl dw_b_X6_place_0.2.2.2.1
theorem dc_X6_place_6 : decode prog_1_method_41_code 6 = .ok (.getfield 9, 3) := dw_row (j := 6) dw_h_prog_1_method_41_code_0 rfl dw_b_X6_place_0.2.2.2.2.1
theorem dc_X6_place_9 : decode prog_1_method_41_code 9 = .ok (.iload_n 1, 1) := dw_row (j := 9) dw_h_prog_1_method_41_code_0 rfl dw_b_X6_place_0.2.2.2.2.2.1
theorem dc_X6_place_10 : decode prog_1_method_41_code 10 = .ok (.laload, 1) := dw_row (j := 10) dw_h_prog_1_method_41_code_0 rfl dw_b_X6_place_0.2.2.2.2.2.2.1
theorem dc_X6_place_11 : decode prog_1_method_41_code 11 = .ok (.invokevirtual 176, 3) := dw_row (j := 11) dw_h_prog_1_method_41_code_0 rfl dw_b_X6_place_0.2.2.2.2.2.2.2.1
theorem dc_X6_place_14 : decode prog_1_method_41_code 14 = .ok (.ireturn, 1) := dw_row (j := 14) dw_h_prog_1_method_41_code_0 rfl dw_b_X6_place_0.2.2.2.2.2.2.2.2
def dw_C_prog_1_method_52_code_0 : List UInt8 := [27, 3, 6, 184, 0, 55, 42, 27, 182, 0, 189, 172]
theorem dw_h_prog_1_method_52_code_0 : (prog_1_method_52_code.data.toList.drop 0).take 72 = dw_C_prog_1_method_52_code_0 := by decide +kernel
theorem dw_b_X6_house_0 : dw_chk dw_C_prog_1_method_52_code_0 0 0 (.iload_n 1) 1 = true ∧ dw_chk dw_C_prog_1_method_52_code_0 1 1 (.iconst 0) 1 = true ∧ dw_chk dw_C_prog_1_method_52_code_0 2 2 (.iconst 3) 1 = true ∧ dw_chk dw_C_prog_1_method_52_code_0 3 3 (.invokestatic 55) 3 = true ∧ dw_chk dw_C_prog_1_method_52_code_0 6 6 (.aload_n 0) 1 = true ∧ dw_chk dw_C_prog_1_method_52_code_0 7 7 (.iload_n 1) 1 = true ∧ dw_chk dw_C_prog_1_method_52_code_0 8 8 (.invokevirtual 189) 3 = true ∧ dw_chk dw_C_prog_1_method_52_code_0 11 11 (.ireturn) 1 = true := by decide +kernel
theorem dc_X6_house_0 : decode prog_1_method_52_code 0 = .ok (.iload_n 1, 1) := dw_row (j := 0) dw_h_prog_1_method_52_code_0 rfl dw_b_X6_house_0.1
theorem dc_X6_house_1 : decode prog_1_method_52_code 1 = .ok (.iconst 0, 1) := dw_row (j := 1) dw_h_prog_1_method_52_code_0 rfl dw_b_X6_house_0.2.1
theorem dc_X6_house_2 : decode prog_1_method_52_code 2 = .ok (.iconst 3, 1) := dw_row (j := 2) dw_h_prog_1_method_52_code_0 rfl dw_b_X6_house_0.2.2.1
theorem dc_X6_house_3 : decode prog_1_method_52_code 3 = .ok (.invokestatic 55, 3) := dw_row (j := 3) dw_h_prog_1_method_52_code_0 rfl dw_b_X6_house_0.2.2.2.1
theorem dc_X6_house_6 : decode prog_1_method_52_code 6 = .ok (.aload_n 0, 1) := dw_row (j := 6) dw_h_prog_1_method_52_code_0 rfl dw_b_X6_house_0.2.2.2.2.1
theorem dc_X6_house_7 : decode prog_1_method_52_code 7 = .ok (.iload_n 1, 1) := dw_row (j := 7) dw_h_prog_1_method_52_code_0 rfl dw_b_X6_house_0.2.2.2.2.2.1
theorem dc_X6_house_8 : decode prog_1_method_52_code 8 = .ok (.invokevirtual 189, 3) := dw_row (j := 8) dw_h_prog_1_method_52_code_0 rfl dw_b_X6_house_0.2.2.2.2.2.2.1
theorem dc_X6_house_11 : decode prog_1_method_52_code 11 = .ok (.ireturn, 1) := dw_row (j := 11) dw_h_prog_1_method_52_code_0 rfl dw_b_X6_house_0.2.2.2.2.2.2.2
end
section
def fn_X9_placeNow_L14 (a1 : Int32) (w : ky_MV) : Nat → Int32 → Int32 → Int32 × ky_MV
  | 0, _, _ => (0, w)
  | n + 1, v2, v5 => if ((6 : Int32)) ≤ (v5) then ((v2, w)) else (if (0 : Int32) ≤ (lg_cmp (fn_X8_place ((w.2.2.2.2) (v5).toNatClampNeg)) (fn_X8_place ((w.2.2.2.2) (a1).toNatClampNeg))) then (fn_X9_placeNow_L14 a1 w n ((v2) + (fn_X9_one ((0 : Int32)))) ((v5) + 1)) else (fn_X9_placeNow_L14 a1 w n ((v2) + (fn_X9_one ((1 : Int32)))) ((v5) + 1)))
def fk_X9_placeNow_L14 (a1 : Int32) (w : ky_MV) : Nat → Int32 → Int32 → Prop
  | 0, _, _ => False
  | n + 1, v2, v5 => ((((6 : Int32)) ≤ (v5)) → (True)) ∧ (¬ (((6 : Int32)) ≤ (v5)) → ((vp_in (v5) 6) ∧ ((((0 : Int32) ≤ (lg_cmp (fn_X8_place ((w.2.2.2.2) (v5).toNatClampNeg)) (fn_X8_place ((w.2.2.2.2) (a1).toNatClampNeg)))) → (fk_X9_placeNow_L14 a1 w n ((v2) + (fn_X9_one ((0 : Int32)))) ((v5) + 1))) ∧ (¬ ((0 : Int32) ≤ (lg_cmp (fn_X8_place ((w.2.2.2.2) (v5).toNatClampNeg)) (fn_X8_place ((w.2.2.2.2) (a1).toNatClampNeg)))) → (fk_X9_placeNow_L14 a1 w n ((v2) + (fn_X9_one ((1 : Int32)))) ((v5) + 1))))))
set_option linter.constructorNameAsVariable false in
set_option maxHeartbeats 4000000 in
set_option maxRecDepth 100000 in
theorem ml_X9_placeNow_L14 {p : Program} {l : Launch} {e : Env} {s : State} {m : MethodId} {args : Array Value} {below : List Frame} {meth : Method} {c : Code} {G : ky_G} {mo cs : Nat} {N : Nat → Prop} {w : ky_MV} {f : Nat → Option Nat} {A : Nat → Prop} (F : ky_F p s m meth c my_X9_placeNow.cls prog_10_method_61_code 7 (some .int) args) (hE : ky_E G s) (hAe : A = va_A (ky_WM G mo cs w f) s.heap.size) (hA : ∀ q, s.heap.size ≤ q → A q) (hfr : ∀ q, A q → ky_fr G q) (hP : va_P G.1 kcl [(mo, .inr (5, [.int (w.1), .ref cs, .int (w.2.1), .int (w.2.2.1), .int (w.2.2.2.1)])), (cs, .inl (G.2.1 3, 6, .inr (.inr (.inr (.inr (f))))))] s.heap) (hD : va_D A [(mo, .inr (5, [.int (w.1), .ref cs, .int (w.2.1), .int (w.2.2.1), .int (w.2.2.2.1)])), (cs, .inl (G.2.1 3, 6, .inr (.inr (.inr (.inr (f))))))]) (hS : va_S A s.heap s.heap []) (hIT0 : ky_IT G mo cs N f w.2.2.2.2 s.heap) (a1 : Int32) (h1 : vp_in (a1) 6) : ∀ (n : Nat) (v2 : Int32) (v5 : Int32), fk_X9_placeNow_L14 a1 w n v2 v5 → ∀ ls : Array Slot, lv_has ls 7 [(0, .ref mo), (1, .int (a1)), (3, .ref cs), (4, .int ((6 : Int32))), (2, .int (v2)), (5, .int (v5))] → W p l e { frames := 1, cells := 0, slots := 0, locals := 20 } s m args below meth c s.heap [] 0 0 (MQ below (ky_Q (S := ky_MV × (Nat → Option Nat)) G A (fun v u => v = some (.int (fn_X9_placeNow_L14 a1 w n v2 v5).1) ∧ u.1 = (fn_X9_placeNow_L14 a1 w n v2 v5).2) (fun u => ky_WM G mo cs u.1 u.2) (fun u H => ky_IT G mo cs N u.2 u.1.2.2.2.2 H)) args s 0 0 A) (F0 m 14 ls []) := by
  obtain ⟨hx, hb, hml, hown, hr, hlocks, hts⟩ := id F
  have hIT := hIT0
  intro n
  induction n with
  | zero => intro v2 v5 hk; exact False.elim hk
  | succ n ih =>
      intro v2 v5 hk ls hl
      have hw : fn_X9_placeNow_L14 a1 w (n + 1) v2 v5 = (if ((6 : Int32)) ≤ (v5) then ((v2, w)) else (if (0 : Int32) ≤ (lg_cmp (fn_X8_place ((w.2.2.2.2) (v5).toNatClampNeg)) (fn_X8_place ((w.2.2.2.2) (a1).toNatClampNeg))) then (fn_X9_placeNow_L14 a1 w n ((v2) + (fn_X9_one ((0 : Int32)))) ((v5) + 1)) else (fn_X9_placeNow_L14 a1 w n ((v2) + (fn_X9_one ((1 : Int32)))) ((v5) + 1)))) := rfl
      have hk : ((((6 : Int32)) ≤ (v5)) → (True)) ∧ (¬ (((6 : Int32)) ≤ (v5)) → ((vp_in (v5) 6) ∧ ((((0 : Int32) ≤ (lg_cmp (fn_X8_place ((w.2.2.2.2) (v5).toNatClampNeg)) (fn_X8_place ((w.2.2.2.2) (a1).toNatClampNeg)))) → (fk_X9_placeNow_L14 a1 w n ((v2) + (fn_X9_one ((0 : Int32)))) ((v5) + 1))) ∧ (¬ ((0 : Int32) ≤ (lg_cmp (fn_X8_place ((w.2.2.2.2) (v5).toNatClampNeg)) (fn_X8_place ((w.2.2.2.2) (a1).toNatClampNeg)))) → (fk_X9_placeNow_L14 a1 w n ((v2) + (fn_X9_one ((1 : Int32)))) ((v5) + 1)))))) := hk
      refine lv_iload hx hb dc_X9_placeNow_14 (lv_at hl 5 rfl) ?_
      refine lv_iload hx hb dc_X9_placeNow_16 (lv_at hl 3 rfl) ?_
      refine lv_icmp_ge (tgt := 62) hx hb dc_X9_placeNow_18 (by decide) (fun c_0 => ?_) (fun c_0 => ?_)
      · have hw := hw.trans (if_pos c_0)
        have hk := hk.1 c_0
        refine lv_iload_n hx hb dc_X9_placeNow_62 rfl (lv_at hl 4 rfl) ?_
        have hP9 : va_P G.1 kcl (ky_WM G mo cs (w) (f)) s.heap := hP.sub [0, 1] rfl
        have hD9 : va_D A (ky_WM G mo cs (w) (f)) := hD.sub [0, 1] (by decide) rfl
        refine W.widen (k := 0) (n := 0) (Nat.le_of_ble_eq_true rfl) (Nat.le_of_ble_eq_true rfl) ?_
        exact W.iret (v := v2) hx hb hr (fun t ht hW => ⟨by rw [ht]; exact ky_endM (fun z => some (.int z)) (v2) hw hP9 hD9 (hIT), hS.F ht⟩) hS.2.2 dc_X9_placeNow_63
      · have hw := hw.trans (if_neg c_0)
        have hk := hk.2 c_0
        refine lv_aload_n hx hb dc_X9_placeNow_21 rfl (lv_at hl 2 rfl) ?_
        refine lv_iload hx hb dc_X9_placeNow_22 (lv_at hl 5 rfl) ?_
        obtain ⟨hq_1, hk⟩ := hk
        refine va_aldq hx hb hE.1 hP 1 3 rfl rfl hq_1 dc_X9_placeNow_24 ?_
        obtain ⟨b_2, hb_2, hI_2, ho_2⟩ := hIT.2 _ (ky_i6 hq_1)
        rw [ky_rf hb_2]
        have hX_2 : ky_It G b_2 ((w.2.2.2.2) (v5).toNatClampNeg) s.heap := by obtain ⟨b9, e9, i9, -⟩ := hIT0.2 _ (ky_i6 hq_1); have z9 : b9 = b_2 := Option.some.inj (e9.symm.trans hb_2); exact z9 ▸ i9
        refine lv_astore (lv' := [(6, .ref b_2), (0, .ref mo), (1, .int (a1)), (3, .ref cs), (4, .int ((6 : Int32))), (2, .int (v2)), (5, .int (v5))]) hx hb dc_X9_placeNow_25 hl (by decide) rfl (fun ls hl => ?_)
        refine lv_iload_n hx hb dc_X9_placeNow_27 rfl (lv_at hl 5 rfl) ?_
        refine lv_aload hx hb dc_X9_placeNow_28 (lv_at hl 0 rfl) ?_
        refine ky_cV1 (As := []) F (hE.at hfr hS) (mt_X8_place l G (b_2) (((w.2.2.2.2) (v5).toNatClampNeg)) ) kv_X9_147 ⟨⟨rfl, rfl⟩, by decide, by decide⟩ rfl hl.1 rfl (Nat.le_of_ble_eq_true rfl) ⟨Nat.le_of_ble_eq_true rfl, Nat.le_of_ble_eq_true rfl⟩ (va_recv hE.1 hI_2 (ci := 4) (q0 := 0) rfl rfl) hI_2 dc_X9_placeNow_30 ?_
        refine lv_aload_n hx hb dc_X9_placeNow_33 rfl (lv_at hl 1 rfl) ?_
        refine va_get (D := G.1) (ci := 5) (v := .ref cs) (C := RX9) (T := TX9) (N := 5) hx hb hts ki_X9 hown hE.1 hP 0 rfl rfl 1 (by decide) (hts _ kw_6_20) (fun _ h9 => h9) rfl dc_X9_placeNow_34 ?_
        refine lv_iload_n hx hb dc_X9_placeNow_37 rfl (lv_at hl 2 rfl) ?_
        refine va_aldq hx hb hE.1 hP 1 3 rfl rfl h1 dc_X9_placeNow_38 ?_
        obtain ⟨b_3, hb_3, hI_3, ho_3⟩ := hIT.2 _ (ky_i6 h1)
        rw [ky_rf hb_3]
        have hX_3 : ky_It G b_3 ((w.2.2.2.2) (a1).toNatClampNeg) s.heap := by obtain ⟨b9, e9, i9, -⟩ := hIT0.2 _ (ky_i6 h1); have z9 : b9 = b_3 := Option.some.inj (e9.symm.trans hb_3); exact z9 ▸ i9
        refine ky_cV1 (As := []) F (hE.at hfr hS) (mt_X8_place l G (b_3) (((w.2.2.2.2) (a1).toNatClampNeg)) ) kv_X9_147 ⟨⟨rfl, rfl⟩, by decide, by decide⟩ rfl hl.1 rfl (Nat.le_of_ble_eq_true rfl) ⟨Nat.le_of_ble_eq_true rfl, Nat.le_of_ble_eq_true rfl⟩ (va_recv hE.1 hI_3 (ci := 4) (q0 := 0) rfl rfl) hI_3 dc_X9_placeNow_39 ?_
        refine W.lcmp hx hb dc_X9_placeNow_42 ?_
        refine lv_if_ge (tgt := 50) hx hb dc_X9_placeNow_43 (by decide) (fun c_4 => ?_) (fun c_4 => ?_)
        · have hw := hw.trans (if_pos c_4)
          have hk := hk.1 c_4
          refine lv_iconst (v := 0) hx hb dc_X9_placeNow_50 (by decide) ?_
          refine ky_cS0 (As := [.int ((0 : Int32))]) F (mt_X9_one l ((0 : Int32))) ks_X9_59 ⟨⟨rfl, rfl⟩, by decide, by decide⟩ rfl hl.1 rfl (Nat.le_of_ble_eq_true rfl) ⟨Nat.le_of_ble_eq_true rfl, Nat.le_of_ble_eq_true rfl⟩ dc_X9_placeNow_51 ?_
          refine lv_iadd hx hb dc_X9_placeNow_54 ?_
          refine lv_istore_n (lv' := [(2, .int ((v2) + (fn_X9_one ((0 : Int32))))), (6, .ref b_2), (0, .ref mo), (1, .int (a1)), (3, .ref cs), (4, .int ((6 : Int32))), (5, .int (v5))]) hx hb dc_X9_placeNow_55 rfl hl (by decide) rfl (fun ls hl => ?_)
          refine lv_iinc (v := (v5) + 1) (lv' := [(5, .int ((v5) + 1)), (2, .int ((v2) + (fn_X9_one ((0 : Int32))))), (6, .ref b_2), (0, .ref mo), (1, .int (a1)), (3, .ref cs), (4, .int ((6 : Int32)))]) hx hb dc_X9_placeNow_56 hl (k := 6) rfl rfl (by decide) rfl (fun ls hl => ?_)
          refine lv_goto (tgt := 14) hx hb dc_X9_placeNow_59 (by decide) ?_
          rw [hw]
          exact ih ((v2) + (fn_X9_one ((0 : Int32)))) ((v5) + 1) hk _ (lv_sub hl [3, 4, 5, 6, 1, 0] rfl)
        · have hw := hw.trans (if_neg c_4)
          have hk := hk.2 c_4
          refine lv_iconst (v := 1) hx hb dc_X9_placeNow_46 (by decide) ?_
          refine lv_goto (tgt := 51) hx hb dc_X9_placeNow_47 (by decide) ?_
          refine ky_cS0 (As := [.int ((1 : Int32))]) F (mt_X9_one l ((1 : Int32))) ks_X9_59 ⟨⟨rfl, rfl⟩, by decide, by decide⟩ rfl hl.1 rfl (Nat.le_of_ble_eq_true rfl) ⟨Nat.le_of_ble_eq_true rfl, Nat.le_of_ble_eq_true rfl⟩ dc_X9_placeNow_51 ?_
          refine lv_iadd hx hb dc_X9_placeNow_54 ?_
          refine lv_istore_n (lv' := [(2, .int ((v2) + (fn_X9_one ((1 : Int32))))), (6, .ref b_2), (0, .ref mo), (1, .int (a1)), (3, .ref cs), (4, .int ((6 : Int32))), (5, .int (v5))]) hx hb dc_X9_placeNow_55 rfl hl (by decide) rfl (fun ls hl => ?_)
          refine lv_iinc (v := (v5) + 1) (lv' := [(5, .int ((v5) + 1)), (2, .int ((v2) + (fn_X9_one ((1 : Int32))))), (6, .ref b_2), (0, .ref mo), (1, .int (a1)), (3, .ref cs), (4, .int ((6 : Int32)))]) hx hb dc_X9_placeNow_56 hl (k := 6) rfl rfl (by decide) rfl (fun ls hl => ?_)
          refine lv_goto (tgt := 14) hx hb dc_X9_placeNow_59 (by decide) ?_
          rw [hw]
          exact ih ((v2) + (fn_X9_one ((1 : Int32)))) ((v5) + 1) hk _ (lv_sub hl [3, 4, 5, 6, 1, 0] rfl)
def fn_X9_placeNow (a1 : Int32)  (w : ky_MV) : Int32 × ky_MV :=
  fn_X9_placeNow_L14 a1 w (7) ((0 : Int32)) ((0 : Int32))
def fk_X9_placeNow (a1 : Int32)  (w : ky_MV) : Prop :=
  (fk_X9_placeNow_L14 a1 w (7) ((0 : Int32)) ((0 : Int32))) ∧ True
set_option linter.constructorNameAsVariable false in
set_option maxHeartbeats 4000000 in
set_option maxRecDepth 100000 in
theorem mt_X9_placeNow (l : Launch) (G : ky_G) (mo cs : Nat) (N : Nat → Prop) (w : ky_MV) (f : Nat → Option Nat)    (a1 : Int32) (sz : Nat) (h1 : vp_in (a1) 6) (hk : fk_X9_placeNow a1 w) : Met l my_X9_placeNow (.code my_X9_placeNow prog_10_method_61_code 7 (some .int) :: ky_B) { frames := 1, cells := 0, slots := 0, locals := 20 } (ky_P G [.ref mo, .int (a1)] (ky_WM G mo cs w f) sz (fun H => ky_IT G mo cs N f w.2.2.2.2 H)) (ky_Q (S := ky_MV × (Nat → Option Nat)) G (va_A (ky_WM G mo cs w f) sz) (fun v u => v = some (.int (fn_X9_placeNow a1 w).1) ∧ u.1 = (fn_X9_placeNow a1 w).2) (fun u => ky_WM G mo cs u.1 u.2) (fun u H => ky_IT G mo cs N u.2 u.1.2.2.2.2 H)) 0 0 (va_A (ky_WM G mo cs w f) sz) := by
  refine ky_start (by decide) (Nat.le_of_ble_eq_true rfl) (fun p e s m below meth c F hE A hAe hsz hA hfr hP hD hS hX ls hl => ?_)
  obtain ⟨hx, hb, hml, hown, hr, hlocks, hts⟩ := id F
  have hIT0 := hX
  have hIT := hIT0
  have hl : lv_has ls 7 [(0, .ref mo), (1, .int (a1))] := hl
  have hP : va_P G.1 kcl [(mo, .inr (5, [.int (w.1), .ref cs, .int (w.2.1), .int (w.2.2.1), .int (w.2.2.2.1)])), (cs, .inl (G.2.1 3, 6, .inr (.inr (.inr (.inr (f))))))] s.heap := hP
  have hD : va_D A [(mo, .inr (5, [.int (w.1), .ref cs, .int (w.2.1), .int (w.2.2.1), .int (w.2.2.2.1)])), (cs, .inl (G.2.1 3, 6, .inr (.inr (.inr (.inr (f))))))] := hD
  have hw : fn_X9_placeNow a1 w = _ := fn_X9_placeNow.eq_1 a1 w
  have hk : fk_X9_placeNow_L14 a1 w (7) ((0 : Int32)) ((0 : Int32)) := hk.1
  refine lv_iconst (v := 0) hx hb dc_X9_placeNow_0 (by decide) ?_
  refine lv_istore_n (lv' := [(2, .int ((0 : Int32))), (0, .ref mo), (1, .int (a1))]) hx hb dc_X9_placeNow_1 rfl hl (by decide) rfl (fun ls hl => ?_)
  refine lv_aload_n hx hb dc_X9_placeNow_2 rfl (lv_at hl 1 rfl) ?_
  refine va_get (D := G.1) (ci := 5) (v := .ref cs) (C := RX9) (T := TX9) (N := 5) hx hb hts ki_X9 hown hE.1 hP 0 rfl rfl 1 (by decide) (hts _ kw_6_20) (fun _ h9 => h9) rfl dc_X9_placeNow_3 ?_
  refine lv_astore_n (lv' := [(3, .ref cs), (2, .int ((0 : Int32))), (0, .ref mo), (1, .int (a1))]) hx hb dc_X9_placeNow_6 rfl hl (by decide) rfl (fun ls hl => ?_)
  refine lv_aload_n hx hb dc_X9_placeNow_7 rfl (lv_at hl 0 rfl) ?_
  refine va_alen hx hb hE.1 hP 1 3 rfl rfl (v := (6 : Int32)) rfl dc_X9_placeNow_8 ?_
  refine lv_istore (lv' := [(4, .int ((6 : Int32))), (3, .ref cs), (2, .int ((0 : Int32))), (0, .ref mo), (1, .int (a1))]) hx hb dc_X9_placeNow_9 hl (by decide) rfl (fun ls hl => ?_)
  refine lv_iconst (v := 0) hx hb dc_X9_placeNow_11 (by decide) ?_
  refine lv_istore (lv' := [(5, .int ((0 : Int32))), (4, .int ((6 : Int32))), (3, .ref cs), (2, .int ((0 : Int32))), (0, .ref mo), (1, .int (a1))]) hx hb dc_X9_placeNow_12 hl (by decide) rfl (fun ls hl => ?_)
  rw [hw]
  exact ml_X9_placeNow_L14 F hE hAe hA hfr hP hD hS hIT0 a1 h1 (7) ((0 : Int32)) ((0 : Int32)) hk _ (lv_sub hl [4, 5, 2, 1, 3, 0] rfl)
end
section
def fn_X9_place (a1 : Int32)  (w : ky_MV) : Int32 × ky_MV :=
  if (jst (fn_X9_isNo (a1))) = (0 : Int32) then (((fn_X9_placeNow (a1) (jst (fn_X9_isNo (a1)), w.2.1, w.2.2.1, w.2.2.2.1, w.2.2.2.2)).1, ((fn_X9_placeNow (a1) (jst (fn_X9_isNo (a1)), w.2.1, w.2.2.1, w.2.2.2.1, w.2.2.2.2)).2))) else (((0 : Int32), (jst (fn_X9_isNo (a1)), w.2.1, w.2.2.1, w.2.2.2.1, w.2.2.2.2)))
def fk_X9_place (a1 : Int32)  (w : ky_MV) : Prop :=
  ((((jst (fn_X9_isNo (a1))) = (0 : Int32)) → ((fk_X9_placeNow (a1) (jst (fn_X9_isNo (a1)), w.2.1, w.2.2.1, w.2.2.2.1, w.2.2.2.2)) ∧ (True))) ∧ (¬ ((jst (fn_X9_isNo (a1))) = (0 : Int32)) → (True))) ∧ True
set_option linter.constructorNameAsVariable false in
set_option maxHeartbeats 4000000 in
set_option maxRecDepth 100000 in
theorem mt_X9_place (l : Launch) (G : ky_G) (mo cs : Nat) (N : Nat → Prop) (w : ky_MV) (f : Nat → Option Nat)    (a1 : Int32) (sz : Nat) (hk : fk_X9_place a1 w) : Met l my_X9_place (.code my_X9_place prog_10_method_62_code 2 (some .int) :: ky_B) { frames := 2, cells := 0, slots := 0, locals := 46 } (ky_P G [.ref mo, .int (a1)] (ky_WM G mo cs w f) sz (fun H => ky_IT G mo cs N f w.2.2.2.2 H)) (ky_Q (S := ky_MV × (Nat → Option Nat)) G (va_A (ky_WM G mo cs w f) sz) (fun v u => v = some (.int (fn_X9_place a1 w).1) ∧ u.1 = (fn_X9_place a1 w).2) (fun u => ky_WM G mo cs u.1 u.2) (fun u H => ky_IT G mo cs N u.2 u.1.2.2.2.2 H)) 0 0 (va_A (ky_WM G mo cs w f) sz) := by
  refine ky_start (by decide) (Nat.le_of_ble_eq_true rfl) (fun p e s m below meth c F hE A hAe hsz hA hfr hP hD hS hX ls hl => ?_)
  obtain ⟨hx, hb, hml, hown, hr, hlocks, hts⟩ := id F
  have hIT0 := hX
  have hIT := hIT0
  have hl : lv_has ls 2 [(0, .ref mo), (1, .int (a1))] := hl
  have hP : va_P G.1 kcl [(mo, .inr (5, [.int (w.1), .ref cs, .int (w.2.1), .int (w.2.2.1), .int (w.2.2.2.1)])), (cs, .inl (G.2.1 3, 6, .inr (.inr (.inr (.inr (f))))))] s.heap := hP
  have hD : va_D A [(mo, .inr (5, [.int (w.1), .ref cs, .int (w.2.1), .int (w.2.2.1), .int (w.2.2.2.1)])), (cs, .inl (G.2.1 3, 6, .inr (.inr (.inr (.inr (f))))))] := hD
  have hw : fn_X9_place a1 w = _ := fn_X9_place.eq_1 a1 w
  have hk : (((jst (fn_X9_isNo (a1))) = (0 : Int32)) → ((fk_X9_placeNow (a1) (jst (fn_X9_isNo (a1)), w.2.1, w.2.2.1, w.2.2.2.1, w.2.2.2.2)) ∧ (True))) ∧ (¬ ((jst (fn_X9_isNo (a1))) = (0 : Int32)) → (True)) := hk.1
  refine lv_aload_n hx hb dc_X9_place_0 rfl (lv_at hl 0 rfl) ?_
  refine lv_iload_n hx hb dc_X9_place_1 rfl (lv_at hl 1 rfl) ?_
  refine ky_cS0 (As := [.int (a1)]) F (mt_X9_isNo l (a1)) ks_X9_51 ⟨⟨rfl, rfl⟩, by decide, by decide⟩ rfl hl.1 rfl (Nat.le_of_ble_eq_true rfl) ⟨Nat.le_of_ble_eq_true rfl, Nat.le_of_ble_eq_true rfl⟩ dc_X9_place_2 ?_
  refine ky_cVh (As := [.int (fn_X9_isNo (a1))]) (wr := []) F (hE.at hfr hS) hfr (mt_X9_startJ l G (mo) (cs) ((w.1, w.2.1, w.2.2.1, w.2.2.2.1)) (f) (fn_X9_isNo (a1)) s.heap.size ) kv_X9_55 ⟨⟨rfl, rfl⟩, by decide, by decide⟩ rfl hl.1 rfl (Nat.le_of_ble_eq_true rfl) ⟨Nat.le_of_ble_eq_true rfl, Nat.le_of_ble_eq_true rfl⟩ (va_recv hE.1 hP (ci := 5) (q0 := 0) rfl rfl) trivial hP hD hS hA [0, 1] [] rfl rfl (by decide) (by decide) (by decide) dc_X9_place_5 ?_
  rintro v9 u9 H locs ⟨rfl, rfl⟩ hP hD hS - hz hk9
  obtain ⟨j_1, hj_1⟩ : ∃ j9, j9 = jst (fn_X9_isNo (a1)) := ⟨_, rfl⟩
  rw [← hj_1] at hP hD ⊢
  try rw [← hj_1] at hw
  try rw [← hj_1] at hk
  have hP : va_P G.1 kcl [(mo, .inr (5, [.int (j_1), .ref cs, .int (w.2.1), .int (w.2.2.1), .int (w.2.2.2.1)])), (cs, .inl (G.2.1 3, 6, .inr (.inr (.inr (.inr (f))))))] H := hP
  have hD : va_D A [(mo, .inr (5, [.int (j_1), .ref cs, .int (w.2.1), .int (w.2.2.1), .int (w.2.2.2.1)])), (cs, .inl (G.2.1 3, 6, .inr (.inr (.inr (.inr (f))))))] := hD
  have hIT := hIT0.ro hAe hS
  refine W.widen (k := 0) (n := 0) (Nat.le_refl _) (Nat.le_refl _) ?_
  refine lv_if_eq (tgt := 15) hx hb dc_X9_place_8 (by decide) (fun c_2 => ?_) (fun c_2 => ?_)
  · have hw := hw.trans (if_pos c_2)
    have hk := hk.1 c_2
    refine lv_aload_n hx hb dc_X9_place_15 rfl (lv_at hl 0 rfl) ?_
    refine lv_iload_n hx hb dc_X9_place_16 rfl (lv_at hl 1 rfl) ?_
    obtain ⟨hq_3, hk⟩ := hk
    refine ky_cVh (As := [.int (a1)]) (wr := []) F (hE.at hfr hS) hfr (mt_X9_placeNow l G mo cs N (j_1, w.2.1, w.2.2.1, w.2.2.2.1, w.2.2.2.2) (f)    (a1) H.size (lr_start (hj_1.symm.trans c_2)) hq_3) kv_X9_244 ⟨⟨rfl, rfl⟩, by decide, by decide⟩ rfl hl.1 rfl (Nat.le_of_ble_eq_true rfl) ⟨Nat.le_of_ble_eq_true rfl, Nat.le_of_ble_eq_true rfl⟩ (va_recv hE.1 hP (ci := 5) (q0 := 0) rfl rfl) hIT hP hD hS hA [0, 1] [] rfl rfl (by decide) (by decide) (by decide) dc_X9_place_17 ?_
    rintro v9 ⟨w_4, f_4⟩ H locs ⟨rfl, hw_4⟩ hP hD hS hIT9 hz hk9
    have hw_4 : w_4 = (fn_X9_placeNow (a1) (j_1, w.2.1, w.2.2.1, w.2.2.2.1, w.2.2.2.2)).2 := hw_4
    try rw [← hw_4] at hw
    try rw [← hw_4] at hk
    have hP : va_P G.1 kcl [(mo, .inr (5, [.int ((w_4).1), .ref cs, .int ((w_4).2.1), .int ((w_4).2.2.1), .int ((w_4).2.2.2.1)])), (cs, .inl (G.2.1 3, 6, .inr (.inr (.inr (.inr (f_4))))))] H := hP
    have hD : va_D A [(mo, .inr (5, [.int ((w_4).1), .ref cs, .int ((w_4).2.1), .int ((w_4).2.2.1), .int ((w_4).2.2.2.1)])), (cs, .inl (G.2.1 3, 6, .inr (.inr (.inr (.inr (f_4))))))] := hD
    have hIT : ky_IT G mo cs N f_4 ((w_4).2.2.2.2) H := hIT9
    refine W.widen (k := 0) (n := 0) (Nat.le_refl _) (Nat.le_refl _) ?_
    have hP9 : va_P G.1 kcl (ky_WM G mo cs ((w_4)) (f_4)) H := hP.sub [0, 1] rfl
    have hD9 : va_D A (ky_WM G mo cs ((w_4)) (f_4)) := hD.sub [0, 1] (by decide) rfl
    refine W.widen (k := 0) (n := 0) (Nat.le_of_ble_eq_true rfl) (Nat.le_of_ble_eq_true rfl) ?_
    exact W.iret (v := (fn_X9_placeNow (a1) (j_1, w.2.1, w.2.2.1, w.2.2.2.1, w.2.2.2.2)).1) hx hb hr (fun t ht hW => ⟨by rw [ht]; exact ky_endM (fun z => some (.int z)) ((fn_X9_placeNow (a1) (j_1, w.2.1, w.2.2.1, w.2.2.2.1, w.2.2.2.2)).1) hw hP9 hD9 (hIT), hS.F ht⟩) hS.2.2 dc_X9_place_20
  · have hw := hw.trans (if_neg c_2)
    have hk := hk.2 c_2
    refine lv_iconst (v := 0) hx hb dc_X9_place_11 (by decide) ?_
    refine lv_goto (tgt := 20) hx hb dc_X9_place_12 (by decide) ?_
    have hP9 : va_P G.1 kcl (ky_WM G mo cs ((j_1, w.2.1, w.2.2.1, w.2.2.2.1, w.2.2.2.2)) (f)) H := hP.sub [0, 1] rfl
    have hD9 : va_D A (ky_WM G mo cs ((j_1, w.2.1, w.2.2.1, w.2.2.2.1, w.2.2.2.2)) (f)) := hD.sub [0, 1] (by decide) rfl
    refine W.widen (k := 0) (n := 0) (Nat.le_of_ble_eq_true rfl) (Nat.le_of_ble_eq_true rfl) ?_
    exact W.iret (v := (0 : Int32)) hx hb hr (fun t ht hW => ⟨by rw [ht]; exact ky_endM (fun z => some (.int z)) ((0 : Int32)) hw hP9 hD9 (hIT), hS.F ht⟩) hS.2.2 dc_X9_place_20
end
section
def fn_X9_houseNow_L14 (a1 : Int32) (w : ky_MV) : Nat → Int32 → Int32 → Int32 × ky_MV
  | 0, _, _ => (0, w)
  | n + 1, v2, v5 => if ((6 : Int32)) ≤ (v5) then (((upd (upd (upd (upd (fun _ => 0) ((0 : Int32)).toNatClampNeg (w.2.1)) ((1 : Int32)).toNatClampNeg (w.2.2.1)) ((2 : Int32)).toNatClampNeg (w.2.2.2.1)) ((3 : Int32)).toNatClampNeg (v2)) (a1).toNatClampNeg, w)) else (fn_X9_houseNow_L14 a1 w n ((v2) + (fn_X9_one (fn_X8_isWhole ((w.2.2.2.2) (v5).toNatClampNeg)))) ((v5) + 1))
def fk_X9_houseNow_L14 (a1 : Int32) (w : ky_MV) : Nat → Int32 → Int32 → Prop
  | 0, _, _ => False
  | n + 1, v2, v5 => ((((6 : Int32)) ≤ (v5)) → (True)) ∧ (¬ (((6 : Int32)) ≤ (v5)) → ((vp_in (v5) 6) ∧ (fk_X9_houseNow_L14 a1 w n ((v2) + (fn_X9_one (fn_X8_isWhole ((w.2.2.2.2) (v5).toNatClampNeg)))) ((v5) + 1))))
set_option linter.constructorNameAsVariable false in
set_option maxHeartbeats 4000000 in
set_option maxRecDepth 100000 in
theorem ml_X9_houseNow_L14 {p : Program} {l : Launch} {e : Env} {s : State} {m : MethodId} {args : Array Value} {below : List Frame} {meth : Method} {c : Code} {G : ky_G} {mo cs : Nat} {N : Nat → Prop} {w : ky_MV} {f : Nat → Option Nat} {A : Nat → Prop} (F : ky_F p s m meth c my_X9_houseNow.cls prog_10_method_75_code 7 (some .int) args) (hE : ky_E G s) (hAe : A = va_A (ky_WM G mo cs w f) s.heap.size) (hA : ∀ q, s.heap.size ≤ q → A q) (hfr : ∀ q, A q → ky_fr G q) (hP : va_P G.1 kcl [(mo, .inr (5, [.int (w.1), .ref cs, .int (w.2.1), .int (w.2.2.1), .int (w.2.2.2.1)])), (cs, .inl (G.2.1 3, 6, .inr (.inr (.inr (.inr (f))))))] s.heap) (hD : va_D A [(mo, .inr (5, [.int (w.1), .ref cs, .int (w.2.1), .int (w.2.2.1), .int (w.2.2.2.1)])), (cs, .inl (G.2.1 3, 6, .inr (.inr (.inr (.inr (f))))))]) (hS : va_S A s.heap s.heap []) (hIT0 : ky_IT G mo cs N f w.2.2.2.2 s.heap) (a1 : Int32) (h1 : vp_in (a1) 4) : ∀ (n : Nat) (v2 : Int32) (v5 : Int32), fk_X9_houseNow_L14 a1 w n v2 v5 → ∀ ls : Array Slot, lv_has ls 7 [(0, .ref mo), (1, .int (a1)), (3, .ref cs), (4, .int ((6 : Int32))), (2, .int (v2)), (5, .int (v5))] → W p l e { frames := 6, cells := 1, slots := 4, locals := 125 } s m args below meth c s.heap [] 0 0 (MQ below (ky_Q (S := ky_MV × (Nat → Option Nat)) G A (fun v u => v = some (.int (fn_X9_houseNow_L14 a1 w n v2 v5).1) ∧ u.1 = (fn_X9_houseNow_L14 a1 w n v2 v5).2) (fun u => ky_WM G mo cs u.1 u.2) (fun u H => ky_IT G mo cs N u.2 u.1.2.2.2.2 H)) args s 1 4 A) (F0 m 14 ls []) := by
  obtain ⟨hx, hb, hml, hown, hr, hlocks, hts⟩ := id F
  have hIT := hIT0
  intro n
  induction n with
  | zero => intro v2 v5 hk; exact False.elim hk
  | succ n ih =>
      intro v2 v5 hk ls hl
      have hw : fn_X9_houseNow_L14 a1 w (n + 1) v2 v5 = (if ((6 : Int32)) ≤ (v5) then (((upd (upd (upd (upd (fun _ => 0) ((0 : Int32)).toNatClampNeg (w.2.1)) ((1 : Int32)).toNatClampNeg (w.2.2.1)) ((2 : Int32)).toNatClampNeg (w.2.2.2.1)) ((3 : Int32)).toNatClampNeg (v2)) (a1).toNatClampNeg, w)) else (fn_X9_houseNow_L14 a1 w n ((v2) + (fn_X9_one (fn_X8_isWhole ((w.2.2.2.2) (v5).toNatClampNeg)))) ((v5) + 1))) := rfl
      have hk : ((((6 : Int32)) ≤ (v5)) → (True)) ∧ (¬ (((6 : Int32)) ≤ (v5)) → ((vp_in (v5) 6) ∧ (fk_X9_houseNow_L14 a1 w n ((v2) + (fn_X9_one (fn_X8_isWhole ((w.2.2.2.2) (v5).toNatClampNeg)))) ((v5) + 1)))) := hk
      refine lv_iload hx hb dc_X9_houseNow_14 (lv_at hl 5 rfl) ?_
      refine lv_iload hx hb dc_X9_houseNow_16 (lv_at hl 3 rfl) ?_
      refine lv_icmp_ge (tgt := 44) hx hb dc_X9_houseNow_18 (by decide) (fun c_0 => ?_) (fun c_0 => ?_)
      · have hw := hw.trans (if_pos c_0)
        have hk := hk.1 c_0
        refine lv_iconst (v := 4) hx hb dc_X9_houseNow_44 (by decide) ?_
        refine va_newa (atype := .int) (ty := .int) (N' := 4) (a0 := (4, .inl (fun _ => 0))) hx hb (hts _ kw_8_21) rfl hE.1 hP hD hS hA (fun _ => rfl) (by decide) (by decide) (by decide) (Nat.le_of_ble_eq_true rfl) (Nat.le_of_ble_eq_true rfl) dc_X9_houseNow_45 (fun q_1 cA_1 H hK_1 hP hD hS => ?_)
        have hP : va_P G.1 kcl [(mo, .inr (5, [.int (w.1), .ref cs, .int (w.2.1), .int (w.2.2.1), .int (w.2.2.2.1)])), (cs, .inl (G.2.1 3, 6, .inr (.inr (.inr (.inr (f)))))), (q_1, .inl (cA_1, 4, .inl (fun _ => 0)))] H := hP
        have hD : va_D A [(mo, .inr (5, [.int (w.1), .ref cs, .int (w.2.1), .int (w.2.2.1), .int (w.2.2.2.1)])), (cs, .inl (G.2.1 3, 6, .inr (.inr (.inr (.inr (f)))))), (q_1, .inl (cA_1, 4, .inl (fun _ => 0)))] := hD
        have hIT := hIT0.ro hAe hS
        refine W.widen (k := 1) (n := 4) (Nat.le_refl _) (Nat.le_refl _) ?_
        refine lv_dup hx hb dc_X9_houseNow_47 rfl ?_
        refine lv_iconst (v := 0) hx hb dc_X9_houseNow_48 (by decide) ?_
        refine lv_aload_n hx hb dc_X9_houseNow_49 rfl (lv_at hl 0 rfl) ?_
        refine va_get (D := G.1) (ci := 5) (v := .int (w.2.1)) (C := RX9) (T := TX9) (N := 5) hx hb hts ki_X9 hown hE.1 hP 0 rfl rfl 2 (by decide) (hts _ kw_6_21) (fun _ h9 => h9) rfl dc_X9_houseNow_50 ?_
        refine va_iast hx hb hK_1 hP hD hS 2 6 rfl rfl (vp_in_iff.mpr (by decide)) dc_X9_houseNow_53 (fun H locs hP hD hS => ?_)
        have hP : va_P G.1 kcl [(mo, .inr (5, [.int (w.1), .ref cs, .int (w.2.1), .int (w.2.2.1), .int (w.2.2.2.1)])), (cs, .inl (G.2.1 3, 6, .inr (.inr (.inr (.inr (f)))))), (q_1, .inl (cA_1, 4, .inl (upd (fun _ => 0) ((0 : Int32)).toNatClampNeg (w.2.1))))] H := hP
        have hD : va_D A [(mo, .inr (5, [.int (w.1), .ref cs, .int (w.2.1), .int (w.2.2.1), .int (w.2.2.2.1)])), (cs, .inl (G.2.1 3, 6, .inr (.inr (.inr (.inr (f)))))), (q_1, .inl (cA_1, 4, .inl (upd (fun _ => 0) ((0 : Int32)).toNatClampNeg (w.2.1))))] := hD
        have hIT := hIT0.ro hAe hS
        refine lv_dup hx hb dc_X9_houseNow_54 rfl ?_
        refine lv_iconst (v := 1) hx hb dc_X9_houseNow_55 (by decide) ?_
        refine lv_aload_n hx hb dc_X9_houseNow_56 rfl (lv_at hl 0 rfl) ?_
        refine va_get (D := G.1) (ci := 5) (v := .int (w.2.2.1)) (C := RX9) (T := TX9) (N := 5) hx hb hts ki_X9 hown hE.1 hP 0 rfl rfl 3 (by decide) (hts _ kw_6_22) (fun _ h9 => h9) rfl dc_X9_houseNow_57 ?_
        refine va_iast hx hb hK_1 hP hD hS 2 6 rfl rfl (vp_in_iff.mpr (by decide)) dc_X9_houseNow_60 (fun H locs hP hD hS => ?_)
        have hP : va_P G.1 kcl [(mo, .inr (5, [.int (w.1), .ref cs, .int (w.2.1), .int (w.2.2.1), .int (w.2.2.2.1)])), (cs, .inl (G.2.1 3, 6, .inr (.inr (.inr (.inr (f)))))), (q_1, .inl (cA_1, 4, .inl (upd (upd (fun _ => 0) ((0 : Int32)).toNatClampNeg (w.2.1)) ((1 : Int32)).toNatClampNeg (w.2.2.1))))] H := hP
        have hD : va_D A [(mo, .inr (5, [.int (w.1), .ref cs, .int (w.2.1), .int (w.2.2.1), .int (w.2.2.2.1)])), (cs, .inl (G.2.1 3, 6, .inr (.inr (.inr (.inr (f)))))), (q_1, .inl (cA_1, 4, .inl (upd (upd (fun _ => 0) ((0 : Int32)).toNatClampNeg (w.2.1)) ((1 : Int32)).toNatClampNeg (w.2.2.1))))] := hD
        have hIT := hIT0.ro hAe hS
        refine lv_dup hx hb dc_X9_houseNow_61 rfl ?_
        refine lv_iconst (v := 2) hx hb dc_X9_houseNow_62 (by decide) ?_
        refine lv_aload_n hx hb dc_X9_houseNow_63 rfl (lv_at hl 0 rfl) ?_
        refine va_get (D := G.1) (ci := 5) (v := .int (w.2.2.2.1)) (C := RX9) (T := TX9) (N := 5) hx hb hts ki_X9 hown hE.1 hP 0 rfl rfl 4 (by decide) (hts _ kw_6_23) (fun _ h9 => h9) rfl dc_X9_houseNow_64 ?_
        refine va_iast hx hb hK_1 hP hD hS 2 6 rfl rfl (vp_in_iff.mpr (by decide)) dc_X9_houseNow_67 (fun H locs hP hD hS => ?_)
        have hP : va_P G.1 kcl [(mo, .inr (5, [.int (w.1), .ref cs, .int (w.2.1), .int (w.2.2.1), .int (w.2.2.2.1)])), (cs, .inl (G.2.1 3, 6, .inr (.inr (.inr (.inr (f)))))), (q_1, .inl (cA_1, 4, .inl (upd (upd (upd (fun _ => 0) ((0 : Int32)).toNatClampNeg (w.2.1)) ((1 : Int32)).toNatClampNeg (w.2.2.1)) ((2 : Int32)).toNatClampNeg (w.2.2.2.1))))] H := hP
        have hD : va_D A [(mo, .inr (5, [.int (w.1), .ref cs, .int (w.2.1), .int (w.2.2.1), .int (w.2.2.2.1)])), (cs, .inl (G.2.1 3, 6, .inr (.inr (.inr (.inr (f)))))), (q_1, .inl (cA_1, 4, .inl (upd (upd (upd (fun _ => 0) ((0 : Int32)).toNatClampNeg (w.2.1)) ((1 : Int32)).toNatClampNeg (w.2.2.1)) ((2 : Int32)).toNatClampNeg (w.2.2.2.1))))] := hD
        have hIT := hIT0.ro hAe hS
        refine lv_dup hx hb dc_X9_houseNow_68 rfl ?_
        refine lv_iconst (v := 3) hx hb dc_X9_houseNow_69 (by decide) ?_
        refine lv_iload_n hx hb dc_X9_houseNow_70 rfl (lv_at hl 4 rfl) ?_
        refine va_iast hx hb hK_1 hP hD hS 2 6 rfl rfl (vp_in_iff.mpr (by decide)) dc_X9_houseNow_71 (fun H locs hP hD hS => ?_)
        have hP : va_P G.1 kcl [(mo, .inr (5, [.int (w.1), .ref cs, .int (w.2.1), .int (w.2.2.1), .int (w.2.2.2.1)])), (cs, .inl (G.2.1 3, 6, .inr (.inr (.inr (.inr (f)))))), (q_1, .inl (cA_1, 4, .inl (upd (upd (upd (upd (fun _ => 0) ((0 : Int32)).toNatClampNeg (w.2.1)) ((1 : Int32)).toNatClampNeg (w.2.2.1)) ((2 : Int32)).toNatClampNeg (w.2.2.2.1)) ((3 : Int32)).toNatClampNeg (v2))))] H := hP
        have hD : va_D A [(mo, .inr (5, [.int (w.1), .ref cs, .int (w.2.1), .int (w.2.2.1), .int (w.2.2.2.1)])), (cs, .inl (G.2.1 3, 6, .inr (.inr (.inr (.inr (f)))))), (q_1, .inl (cA_1, 4, .inl (upd (upd (upd (upd (fun _ => 0) ((0 : Int32)).toNatClampNeg (w.2.1)) ((1 : Int32)).toNatClampNeg (w.2.2.1)) ((2 : Int32)).toNatClampNeg (w.2.2.2.1)) ((3 : Int32)).toNatClampNeg (v2))))] := hD
        have hIT := hIT0.ro hAe hS
        refine lv_astore_n (lv' := [(3, .ref q_1), (0, .ref mo), (1, .int (a1)), (4, .int ((6 : Int32))), (2, .int (v2)), (5, .int (v5))]) hx hb dc_X9_houseNow_72 rfl hl (by decide) rfl (fun ls hl => ?_)
        refine lv_aload_n hx hb dc_X9_houseNow_73 rfl (lv_at hl 0 rfl) ?_
        refine lv_iload_n hx hb dc_X9_houseNow_74 rfl (lv_at hl 2 rfl) ?_
        refine va_iald hx hb hK_1 hP 2 6 rfl rfl h1 dc_X9_houseNow_75 ?_
        have hP9 : va_P G.1 kcl (ky_WM G mo cs (w) (f)) H := hP.sub [0, 1] rfl
        have hD9 : va_D A (ky_WM G mo cs (w) (f)) := hD.sub [0, 1] (by decide) rfl
        refine W.widen (k := 1) (n := 4) (Nat.le_of_ble_eq_true rfl) (Nat.le_of_ble_eq_true rfl) ?_
        exact W.iret (v := (upd (upd (upd (upd (fun _ => 0) ((0 : Int32)).toNatClampNeg (w.2.1)) ((1 : Int32)).toNatClampNeg (w.2.2.1)) ((2 : Int32)).toNatClampNeg (w.2.2.2.1)) ((3 : Int32)).toNatClampNeg (v2)) (a1).toNatClampNeg) hx hb hr (fun t ht hW => ⟨by rw [ht]; exact ky_endM (fun z => some (.int z)) ((upd (upd (upd (upd (fun _ => 0) ((0 : Int32)).toNatClampNeg (w.2.1)) ((1 : Int32)).toNatClampNeg (w.2.2.1)) ((2 : Int32)).toNatClampNeg (w.2.2.2.1)) ((3 : Int32)).toNatClampNeg (v2)) (a1).toNatClampNeg) hw hP9 hD9 (hIT), hS.F ht⟩) hS.2.2 dc_X9_houseNow_76
      · have hw := hw.trans (if_neg c_0)
        have hk := hk.2 c_0
        refine lv_aload_n hx hb dc_X9_houseNow_21 rfl (lv_at hl 2 rfl) ?_
        refine lv_iload hx hb dc_X9_houseNow_22 (lv_at hl 5 rfl) ?_
        obtain ⟨hq_1, hk⟩ := hk
        refine va_aldq hx hb hE.1 hP 1 3 rfl rfl hq_1 dc_X9_houseNow_24 ?_
        obtain ⟨b_2, hb_2, hI_2, ho_2⟩ := hIT.2 _ (ky_i6 hq_1)
        rw [ky_rf hb_2]
        have hX_2 : ky_It G b_2 ((w.2.2.2.2) (v5).toNatClampNeg) s.heap := by obtain ⟨b9, e9, i9, -⟩ := hIT0.2 _ (ky_i6 hq_1); have z9 : b9 = b_2 := Option.some.inj (e9.symm.trans hb_2); exact z9 ▸ i9
        refine lv_astore (lv' := [(6, .ref b_2), (0, .ref mo), (1, .int (a1)), (3, .ref cs), (4, .int ((6 : Int32))), (2, .int (v2)), (5, .int (v5))]) hx hb dc_X9_houseNow_25 hl (by decide) rfl (fun ls hl => ?_)
        refine lv_iload_n hx hb dc_X9_houseNow_27 rfl (lv_at hl 5 rfl) ?_
        refine lv_aload hx hb dc_X9_houseNow_28 (lv_at hl 0 rfl) ?_
        refine ky_cV1 (As := []) F (hE.at hfr hS) (mt_X8_isWhole l G (b_2) (((w.2.2.2.2) (v5).toNatClampNeg)) ) kv_X9_224 ⟨⟨rfl, rfl⟩, by decide, by decide⟩ rfl hl.1 rfl (Nat.le_of_ble_eq_true rfl) ⟨Nat.le_of_ble_eq_true rfl, Nat.le_of_ble_eq_true rfl⟩ (va_recv hE.1 hI_2 (ci := 4) (q0 := 0) rfl rfl) hI_2 dc_X9_houseNow_30 ?_
        refine ky_cS0 (As := [.int (fn_X8_isWhole ((w.2.2.2.2) (v5).toNatClampNeg))]) F (mt_X9_one l (fn_X8_isWhole ((w.2.2.2.2) (v5).toNatClampNeg))) ks_X9_59 ⟨⟨rfl, rfl⟩, by decide, by decide⟩ rfl hl.1 rfl (Nat.le_of_ble_eq_true rfl) ⟨Nat.le_of_ble_eq_true rfl, Nat.le_of_ble_eq_true rfl⟩ dc_X9_houseNow_33 ?_
        refine lv_iadd hx hb dc_X9_houseNow_36 ?_
        refine lv_istore_n (lv' := [(2, .int ((v2) + (fn_X9_one (fn_X8_isWhole ((w.2.2.2.2) (v5).toNatClampNeg))))), (6, .ref b_2), (0, .ref mo), (1, .int (a1)), (3, .ref cs), (4, .int ((6 : Int32))), (5, .int (v5))]) hx hb dc_X9_houseNow_37 rfl hl (by decide) rfl (fun ls hl => ?_)
        refine lv_iinc (v := (v5) + 1) (lv' := [(5, .int ((v5) + 1)), (2, .int ((v2) + (fn_X9_one (fn_X8_isWhole ((w.2.2.2.2) (v5).toNatClampNeg))))), (6, .ref b_2), (0, .ref mo), (1, .int (a1)), (3, .ref cs), (4, .int ((6 : Int32)))]) hx hb dc_X9_houseNow_38 hl (k := 6) rfl rfl (by decide) rfl (fun ls hl => ?_)
        refine lv_goto (tgt := 14) hx hb dc_X9_houseNow_41 (by decide) ?_
        rw [hw]
        exact ih ((v2) + (fn_X9_one (fn_X8_isWhole ((w.2.2.2.2) (v5).toNatClampNeg)))) ((v5) + 1) hk _ (lv_sub hl [3, 4, 5, 6, 1, 0] rfl)
def fn_X9_houseNow (a1 : Int32)  (w : ky_MV) : Int32 × ky_MV :=
  fn_X9_houseNow_L14 a1 w (7) ((0 : Int32)) ((0 : Int32))
def fk_X9_houseNow (a1 : Int32)  (w : ky_MV) : Prop :=
  (fk_X9_houseNow_L14 a1 w (7) ((0 : Int32)) ((0 : Int32))) ∧ True
set_option linter.constructorNameAsVariable false in
set_option maxHeartbeats 4000000 in
set_option maxRecDepth 100000 in
theorem mt_X9_houseNow (l : Launch) (G : ky_G) (mo cs : Nat) (N : Nat → Prop) (w : ky_MV) (f : Nat → Option Nat)    (a1 : Int32) (sz : Nat) (h1 : vp_in (a1) 4) (hk : fk_X9_houseNow a1 w) : Met l my_X9_houseNow (.code my_X9_houseNow prog_10_method_75_code 7 (some .int) :: ky_B) { frames := 6, cells := 1, slots := 4, locals := 125 } (ky_P G [.ref mo, .int (a1)] (ky_WM G mo cs w f) sz (fun H => ky_IT G mo cs N f w.2.2.2.2 H)) (ky_Q (S := ky_MV × (Nat → Option Nat)) G (va_A (ky_WM G mo cs w f) sz) (fun v u => v = some (.int (fn_X9_houseNow a1 w).1) ∧ u.1 = (fn_X9_houseNow a1 w).2) (fun u => ky_WM G mo cs u.1 u.2) (fun u H => ky_IT G mo cs N u.2 u.1.2.2.2.2 H)) 1 4 (va_A (ky_WM G mo cs w f) sz) := by
  refine ky_start (by decide) (Nat.le_of_ble_eq_true rfl) (fun p e s m below meth c F hE A hAe hsz hA hfr hP hD hS hX ls hl => ?_)
  obtain ⟨hx, hb, hml, hown, hr, hlocks, hts⟩ := id F
  have hIT0 := hX
  have hIT := hIT0
  have hl : lv_has ls 7 [(0, .ref mo), (1, .int (a1))] := hl
  have hP : va_P G.1 kcl [(mo, .inr (5, [.int (w.1), .ref cs, .int (w.2.1), .int (w.2.2.1), .int (w.2.2.2.1)])), (cs, .inl (G.2.1 3, 6, .inr (.inr (.inr (.inr (f))))))] s.heap := hP
  have hD : va_D A [(mo, .inr (5, [.int (w.1), .ref cs, .int (w.2.1), .int (w.2.2.1), .int (w.2.2.2.1)])), (cs, .inl (G.2.1 3, 6, .inr (.inr (.inr (.inr (f))))))] := hD
  have hw : fn_X9_houseNow a1 w = _ := fn_X9_houseNow.eq_1 a1 w
  have hk : fk_X9_houseNow_L14 a1 w (7) ((0 : Int32)) ((0 : Int32)) := hk.1
  refine lv_iconst (v := 0) hx hb dc_X9_houseNow_0 (by decide) ?_
  refine lv_istore_n (lv' := [(2, .int ((0 : Int32))), (0, .ref mo), (1, .int (a1))]) hx hb dc_X9_houseNow_1 rfl hl (by decide) rfl (fun ls hl => ?_)
  refine lv_aload_n hx hb dc_X9_houseNow_2 rfl (lv_at hl 1 rfl) ?_
  refine va_get (D := G.1) (ci := 5) (v := .ref cs) (C := RX9) (T := TX9) (N := 5) hx hb hts ki_X9 hown hE.1 hP 0 rfl rfl 1 (by decide) (hts _ kw_6_20) (fun _ h9 => h9) rfl dc_X9_houseNow_3 ?_
  refine lv_astore_n (lv' := [(3, .ref cs), (2, .int ((0 : Int32))), (0, .ref mo), (1, .int (a1))]) hx hb dc_X9_houseNow_6 rfl hl (by decide) rfl (fun ls hl => ?_)
  refine lv_aload_n hx hb dc_X9_houseNow_7 rfl (lv_at hl 0 rfl) ?_
  refine va_alen hx hb hE.1 hP 1 3 rfl rfl (v := (6 : Int32)) rfl dc_X9_houseNow_8 ?_
  refine lv_istore (lv' := [(4, .int ((6 : Int32))), (3, .ref cs), (2, .int ((0 : Int32))), (0, .ref mo), (1, .int (a1))]) hx hb dc_X9_houseNow_9 hl (by decide) rfl (fun ls hl => ?_)
  refine lv_iconst (v := 0) hx hb dc_X9_houseNow_11 (by decide) ?_
  refine lv_istore (lv' := [(5, .int ((0 : Int32))), (4, .int ((6 : Int32))), (3, .ref cs), (2, .int ((0 : Int32))), (0, .ref mo), (1, .int (a1))]) hx hb dc_X9_houseNow_12 hl (by decide) rfl (fun ls hl => ?_)
  rw [hw]
  exact ml_X9_houseNow_L14 F hE hAe hA hfr hP hD hS hIT0 a1 h1 (7) ((0 : Int32)) ((0 : Int32)) hk _ (lv_sub hl [4, 5, 2, 1, 3, 0] rfl)
end
section
def fn_X9_house (a1 : Int32)  (w : ky_MV) : Int32 × ky_MV :=
  if (fn_X9_isOf (a1) ((0 : Int32)) ((3 : Int32))) = (0 : Int32) then (if (jrr (jrt ((1 : Int32)) ((1 : Int32)) (jst ((0 : Int32))))) = (0 : Int32) then (((fn_X9_houseNow (a1) (jrt ((1 : Int32)) ((1 : Int32)) (jst ((0 : Int32))), w.2.1, w.2.2.1, w.2.2.2.1, w.2.2.2.2)).1, ((fn_X9_houseNow (a1) (jrt ((1 : Int32)) ((1 : Int32)) (jst ((0 : Int32))), w.2.1, w.2.2.1, w.2.2.2.1, w.2.2.2.2)).2))) else (((0 : Int32), (jrt ((1 : Int32)) ((1 : Int32)) (jst ((0 : Int32))), w.2.1, w.2.2.1, w.2.2.2.1, w.2.2.2.2)))) else (if (jrr (jrt ((0 : Int32)) ((1 : Int32)) (jst ((0 : Int32))))) = (0 : Int32) then (((fn_X9_houseNow (a1) (jrt ((0 : Int32)) ((1 : Int32)) (jst ((0 : Int32))), w.2.1, w.2.2.1, w.2.2.2.1, w.2.2.2.2)).1, ((fn_X9_houseNow (a1) (jrt ((0 : Int32)) ((1 : Int32)) (jst ((0 : Int32))), w.2.1, w.2.2.1, w.2.2.2.1, w.2.2.2.2)).2))) else (((0 : Int32), (jrt ((0 : Int32)) ((1 : Int32)) (jst ((0 : Int32))), w.2.1, w.2.2.1, w.2.2.2.1, w.2.2.2.2))))
def fk_X9_house (a1 : Int32)  (w : ky_MV) : Prop :=
  ((((fn_X9_isOf (a1) ((0 : Int32)) ((3 : Int32))) = (0 : Int32)) → ((((jrr (jrt ((1 : Int32)) ((1 : Int32)) (jst ((0 : Int32))))) = (0 : Int32)) → ((vp_in (a1) 4) ∧ ((fk_X9_houseNow (a1) (jrt ((1 : Int32)) ((1 : Int32)) (jst ((0 : Int32))), w.2.1, w.2.2.1, w.2.2.2.1, w.2.2.2.2)) ∧ (True)))) ∧ (¬ ((jrr (jrt ((1 : Int32)) ((1 : Int32)) (jst ((0 : Int32))))) = (0 : Int32)) → (True)))) ∧ (¬ ((fn_X9_isOf (a1) ((0 : Int32)) ((3 : Int32))) = (0 : Int32)) → ((((jrr (jrt ((0 : Int32)) ((1 : Int32)) (jst ((0 : Int32))))) = (0 : Int32)) → ((vp_in (a1) 4) ∧ ((fk_X9_houseNow (a1) (jrt ((0 : Int32)) ((1 : Int32)) (jst ((0 : Int32))), w.2.1, w.2.2.1, w.2.2.2.1, w.2.2.2.2)) ∧ (True)))) ∧ (¬ ((jrr (jrt ((0 : Int32)) ((1 : Int32)) (jst ((0 : Int32))))) = (0 : Int32)) → (True))))) ∧ True
set_option linter.constructorNameAsVariable false in
set_option maxHeartbeats 4000000 in
set_option maxRecDepth 100000 in
theorem mt_X9_house (l : Launch) (G : ky_G) (mo cs : Nat) (N : Nat → Prop) (w : ky_MV) (f : Nat → Option Nat)    (a1 : Int32) (sz : Nat) (hk : fk_X9_house a1 w) : Met l my_X9_house (.code my_X9_house prog_10_method_76_code 2 (some .int) :: ky_B) { frames := 7, cells := 1, slots := 4, locals := 151 } (ky_P G [.ref mo, .int (a1)] (ky_WM G mo cs w f) sz (fun H => ky_IT G mo cs N f w.2.2.2.2 H)) (ky_Q (S := ky_MV × (Nat → Option Nat)) G (va_A (ky_WM G mo cs w f) sz) (fun v u => v = some (.int (fn_X9_house a1 w).1) ∧ u.1 = (fn_X9_house a1 w).2) (fun u => ky_WM G mo cs u.1 u.2) (fun u H => ky_IT G mo cs N u.2 u.1.2.2.2.2 H)) 1 4 (va_A (ky_WM G mo cs w f) sz) := by
  refine ky_start (by decide) (Nat.le_of_ble_eq_true rfl) (fun p e s m below meth c F hE A hAe hsz hA hfr hP hD hS hX ls hl => ?_)
  obtain ⟨hx, hb, hml, hown, hr, hlocks, hts⟩ := id F
  have hIT0 := hX
  have hIT := hIT0
  have hl : lv_has ls 2 [(0, .ref mo), (1, .int (a1))] := hl
  have hP : va_P G.1 kcl [(mo, .inr (5, [.int (w.1), .ref cs, .int (w.2.1), .int (w.2.2.1), .int (w.2.2.2.1)])), (cs, .inl (G.2.1 3, 6, .inr (.inr (.inr (.inr (f))))))] s.heap := hP
  have hD : va_D A [(mo, .inr (5, [.int (w.1), .ref cs, .int (w.2.1), .int (w.2.2.1), .int (w.2.2.2.1)])), (cs, .inl (G.2.1 3, 6, .inr (.inr (.inr (.inr (f))))))] := hD
  have hw : fn_X9_house a1 w = _ := fn_X9_house.eq_1 a1 w
  have hk : (((fn_X9_isOf (a1) ((0 : Int32)) ((3 : Int32))) = (0 : Int32)) → ((((jrr (jrt ((1 : Int32)) ((1 : Int32)) (jst ((0 : Int32))))) = (0 : Int32)) → ((vp_in (a1) 4) ∧ ((fk_X9_houseNow (a1) (jrt ((1 : Int32)) ((1 : Int32)) (jst ((0 : Int32))), w.2.1, w.2.2.1, w.2.2.2.1, w.2.2.2.2)) ∧ (True)))) ∧ (¬ ((jrr (jrt ((1 : Int32)) ((1 : Int32)) (jst ((0 : Int32))))) = (0 : Int32)) → (True)))) ∧ (¬ ((fn_X9_isOf (a1) ((0 : Int32)) ((3 : Int32))) = (0 : Int32)) → ((((jrr (jrt ((0 : Int32)) ((1 : Int32)) (jst ((0 : Int32))))) = (0 : Int32)) → ((vp_in (a1) 4) ∧ ((fk_X9_houseNow (a1) (jrt ((0 : Int32)) ((1 : Int32)) (jst ((0 : Int32))), w.2.1, w.2.2.1, w.2.2.2.1, w.2.2.2.2)) ∧ (True)))) ∧ (¬ ((jrr (jrt ((0 : Int32)) ((1 : Int32)) (jst ((0 : Int32))))) = (0 : Int32)) → (True)))) := hk.1
  refine lv_aload_n hx hb dc_X9_house_0 rfl (lv_at hl 0 rfl) ?_
  refine lv_iconst (v := 0) hx hb dc_X9_house_1 (by decide) ?_
  refine ky_cVh (As := [.int ((0 : Int32))]) (wr := []) F (hE.at hfr hS) hfr (mt_X9_startJ l G (mo) (cs) ((w.1, w.2.1, w.2.2.1, w.2.2.2.1)) (f) ((0 : Int32)) s.heap.size ) kv_X9_55 ⟨⟨rfl, rfl⟩, by decide, by decide⟩ rfl hl.1 rfl (Nat.le_of_ble_eq_true rfl) ⟨Nat.le_of_ble_eq_true rfl, Nat.le_of_ble_eq_true rfl⟩ (va_recv hE.1 hP (ci := 5) (q0 := 0) rfl rfl) trivial hP hD hS hA [0, 1] [] rfl rfl (by decide) (by decide) (by decide) dc_X9_house_2 ?_
  rintro v9 u9 H locs ⟨rfl, rfl⟩ hP hD hS - hz hk9
  have hP : va_P G.1 kcl [(mo, .inr (5, [.int (jst ((0 : Int32))), .ref cs, .int (w.2.1), .int (w.2.2.1), .int (w.2.2.2.1)])), (cs, .inl (G.2.1 3, 6, .inr (.inr (.inr (.inr (f))))))] H := hP
  have hD : va_D A [(mo, .inr (5, [.int (jst ((0 : Int32))), .ref cs, .int (w.2.1), .int (w.2.2.1), .int (w.2.2.2.1)])), (cs, .inl (G.2.1 3, 6, .inr (.inr (.inr (.inr (f))))))] := hD
  have hIT := hIT0.ro hAe hS
  refine W.widen (k := 0) (n := 0) (Nat.le_refl _) (Nat.le_refl _) ?_
  refine lv_if_ne (tgt := 30) hx hb dc_X9_house_5 (by decide) (fun c_1 => absurd c_1 (by decide)) (fun _ => ?_)
  refine lv_aload_n hx hb dc_X9_house_8 rfl (lv_at hl 0 rfl) ?_
  refine lv_iload_n hx hb dc_X9_house_9 rfl (lv_at hl 1 rfl) ?_
  refine lv_iconst (v := 0) hx hb dc_X9_house_10 (by decide) ?_
  refine lv_iconst (v := 3) hx hb dc_X9_house_11 (by decide) ?_
  refine ky_cS0 (As := [.int (a1), .int ((0 : Int32)), .int ((3 : Int32))]) F (mt_X9_isOf l (a1) ((0 : Int32)) ((3 : Int32))) ks_X9_40 ⟨⟨rfl, rfl⟩, by decide, by decide⟩ rfl hl.1 rfl (Nat.le_of_ble_eq_true rfl) ⟨Nat.le_of_ble_eq_true rfl, Nat.le_of_ble_eq_true rfl⟩ dc_X9_house_12 ?_
  refine lv_if_ne (tgt := 22) hx hb dc_X9_house_15 (by decide) (fun c_2 => ?_) (fun c_2 => ?_)
  · have hw := hw.trans (if_neg c_2)
    have hk := hk.2 c_2
    refine lv_iconst (v := 0) hx hb dc_X9_house_22 (by decide) ?_
    refine lv_iconst (v := 1) hx hb dc_X9_house_23 (by decide) ?_
    refine ky_cVh (As := [.int ((0 : Int32)), .int ((1 : Int32))]) (wr := []) F (hE.at hfr hS) hfr (mt_X9_refuseJ l G (mo) (cs) ((jst ((0 : Int32)), w.2.1, w.2.2.1, w.2.2.2.1)) (f) ((0 : Int32)) ((1 : Int32)) H.size ) kv_X9_36 ⟨⟨rfl, rfl⟩, by decide, by decide⟩ rfl hl.1 rfl (Nat.le_of_ble_eq_true rfl) ⟨Nat.le_of_ble_eq_true rfl, Nat.le_of_ble_eq_true rfl⟩ (va_recv hE.1 hP (ci := 5) (q0 := 0) rfl rfl) trivial hP hD hS hA [0, 1] [] rfl rfl (by decide) (by decide) (by decide) dc_X9_house_24 ?_
    rintro v9 u9 H locs ⟨rfl, rfl⟩ hP hD hS - hz hk9
    have hP : va_P G.1 kcl [(mo, .inr (5, [.int (jrt ((0 : Int32)) ((1 : Int32)) (jst ((0 : Int32)))), .ref cs, .int (w.2.1), .int (w.2.2.1), .int (w.2.2.2.1)])), (cs, .inl (G.2.1 3, 6, .inr (.inr (.inr (.inr (f))))))] H := hP
    have hD : va_D A [(mo, .inr (5, [.int (jrt ((0 : Int32)) ((1 : Int32)) (jst ((0 : Int32)))), .ref cs, .int (w.2.1), .int (w.2.2.1), .int (w.2.2.2.1)])), (cs, .inl (G.2.1 3, 6, .inr (.inr (.inr (.inr (f))))))] := hD
    have hIT := hIT0.ro hAe hS
    refine W.widen (k := 0) (n := 0) (Nat.le_refl _) (Nat.le_refl _) ?_
    refine lv_if_eq (tgt := 34) hx hb dc_X9_house_27 (by decide) (fun c_4 => ?_) (fun c_4 => ?_)
    · have hw := hw.trans (if_pos c_4)
      have hk := hk.1 c_4
      refine lv_aload_n hx hb dc_X9_house_34 rfl (lv_at hl 0 rfl) ?_
      refine lv_iload_n hx hb dc_X9_house_35 rfl (lv_at hl 1 rfl) ?_
      obtain ⟨hq_5, hk⟩ := hk
      obtain ⟨hq_6, hk⟩ := hk
      refine ky_cVh (As := [.int (a1)]) (wr := []) F (hE.at hfr hS) hfr (mt_X9_houseNow l G mo cs N (jrt ((0 : Int32)) ((1 : Int32)) (jst ((0 : Int32))), w.2.1, w.2.2.1, w.2.2.2.1, w.2.2.2.2) (f)    (a1) H.size hq_5 hq_6) kv_X9_258 ⟨⟨rfl, rfl⟩, by decide, by decide⟩ rfl hl.1 rfl (Nat.le_of_ble_eq_true rfl) ⟨Nat.le_of_ble_eq_true rfl, Nat.le_of_ble_eq_true rfl⟩ (va_recv hE.1 hP (ci := 5) (q0 := 0) rfl rfl) hIT hP hD hS hA [0, 1] [] rfl rfl (by decide) (by decide) (by decide) dc_X9_house_36 ?_
      rintro v9 ⟨w_7, f_7⟩ H locs ⟨rfl, hw_7⟩ hP hD hS hIT9 hz hk9
      have hw_7 : w_7 = (fn_X9_houseNow (a1) (jrt ((0 : Int32)) ((1 : Int32)) (jst ((0 : Int32))), w.2.1, w.2.2.1, w.2.2.2.1, w.2.2.2.2)).2 := hw_7
      try rw [← hw_7] at hw
      try rw [← hw_7] at hk
      have hP : va_P G.1 kcl [(mo, .inr (5, [.int ((w_7).1), .ref cs, .int ((w_7).2.1), .int ((w_7).2.2.1), .int ((w_7).2.2.2.1)])), (cs, .inl (G.2.1 3, 6, .inr (.inr (.inr (.inr (f_7))))))] H := hP
      have hD : va_D A [(mo, .inr (5, [.int ((w_7).1), .ref cs, .int ((w_7).2.1), .int ((w_7).2.2.1), .int ((w_7).2.2.2.1)])), (cs, .inl (G.2.1 3, 6, .inr (.inr (.inr (.inr (f_7))))))] := hD
      have hIT : ky_IT G mo cs N f_7 ((w_7).2.2.2.2) H := hIT9
      refine W.widen (k := 1) (n := 4) (Nat.le_refl _) (Nat.le_refl _) ?_
      have hP9 : va_P G.1 kcl (ky_WM G mo cs ((w_7)) (f_7)) H := hP.sub [0, 1] rfl
      have hD9 : va_D A (ky_WM G mo cs ((w_7)) (f_7)) := hD.sub [0, 1] (by decide) rfl
      refine W.widen (k := 1) (n := 4) (Nat.le_of_ble_eq_true rfl) (Nat.le_of_ble_eq_true rfl) ?_
      exact W.iret (v := (fn_X9_houseNow (a1) (jrt ((0 : Int32)) ((1 : Int32)) (jst ((0 : Int32))), w.2.1, w.2.2.1, w.2.2.2.1, w.2.2.2.2)).1) hx hb hr (fun t ht hW => ⟨by rw [ht]; exact ky_endM (fun z => some (.int z)) ((fn_X9_houseNow (a1) (jrt ((0 : Int32)) ((1 : Int32)) (jst ((0 : Int32))), w.2.1, w.2.2.1, w.2.2.2.1, w.2.2.2.2)).1) hw hP9 hD9 (hIT), hS.F ht⟩) hS.2.2 dc_X9_house_39
    · have hw := hw.trans (if_neg c_4)
      have hk := hk.2 c_4
      refine lv_iconst (v := 0) hx hb dc_X9_house_30 (by decide) ?_
      refine lv_goto (tgt := 39) hx hb dc_X9_house_31 (by decide) ?_
      have hP9 : va_P G.1 kcl (ky_WM G mo cs ((jrt ((0 : Int32)) ((1 : Int32)) (jst ((0 : Int32))), w.2.1, w.2.2.1, w.2.2.2.1, w.2.2.2.2)) (f)) H := hP.sub [0, 1] rfl
      have hD9 : va_D A (ky_WM G mo cs ((jrt ((0 : Int32)) ((1 : Int32)) (jst ((0 : Int32))), w.2.1, w.2.2.1, w.2.2.2.1, w.2.2.2.2)) (f)) := hD.sub [0, 1] (by decide) rfl
      refine W.widen (k := 1) (n := 4) (Nat.le_of_ble_eq_true rfl) (Nat.le_of_ble_eq_true rfl) ?_
      exact W.iret (v := (0 : Int32)) hx hb hr (fun t ht hW => ⟨by rw [ht]; exact ky_endM (fun z => some (.int z)) ((0 : Int32)) hw hP9 hD9 (hIT), hS.F ht⟩) hS.2.2 dc_X9_house_39
  · have hw := hw.trans (if_pos c_2)
    have hk := hk.1 c_2
    refine lv_iconst (v := 1) hx hb dc_X9_house_18 (by decide) ?_
    refine lv_goto (tgt := 23) hx hb dc_X9_house_19 (by decide) ?_
    refine lv_iconst (v := 1) hx hb dc_X9_house_23 (by decide) ?_
    refine ky_cVh (As := [.int ((1 : Int32)), .int ((1 : Int32))]) (wr := []) F (hE.at hfr hS) hfr (mt_X9_refuseJ l G (mo) (cs) ((jst ((0 : Int32)), w.2.1, w.2.2.1, w.2.2.2.1)) (f) ((1 : Int32)) ((1 : Int32)) H.size ) kv_X9_36 ⟨⟨rfl, rfl⟩, by decide, by decide⟩ rfl hl.1 rfl (Nat.le_of_ble_eq_true rfl) ⟨Nat.le_of_ble_eq_true rfl, Nat.le_of_ble_eq_true rfl⟩ (va_recv hE.1 hP (ci := 5) (q0 := 0) rfl rfl) trivial hP hD hS hA [0, 1] [] rfl rfl (by decide) (by decide) (by decide) dc_X9_house_24 ?_
    rintro v9 u9 H locs ⟨rfl, rfl⟩ hP hD hS - hz hk9
    have hP : va_P G.1 kcl [(mo, .inr (5, [.int (jrt ((1 : Int32)) ((1 : Int32)) (jst ((0 : Int32)))), .ref cs, .int (w.2.1), .int (w.2.2.1), .int (w.2.2.2.1)])), (cs, .inl (G.2.1 3, 6, .inr (.inr (.inr (.inr (f))))))] H := hP
    have hD : va_D A [(mo, .inr (5, [.int (jrt ((1 : Int32)) ((1 : Int32)) (jst ((0 : Int32)))), .ref cs, .int (w.2.1), .int (w.2.2.1), .int (w.2.2.2.1)])), (cs, .inl (G.2.1 3, 6, .inr (.inr (.inr (.inr (f))))))] := hD
    have hIT := hIT0.ro hAe hS
    refine W.widen (k := 0) (n := 0) (Nat.le_refl _) (Nat.le_refl _) ?_
    refine lv_if_eq (tgt := 34) hx hb dc_X9_house_27 (by decide) (fun c_4 => ?_) (fun c_4 => ?_)
    · have hw := hw.trans (if_pos c_4)
      have hk := hk.1 c_4
      refine lv_aload_n hx hb dc_X9_house_34 rfl (lv_at hl 0 rfl) ?_
      refine lv_iload_n hx hb dc_X9_house_35 rfl (lv_at hl 1 rfl) ?_
      obtain ⟨hq_5, hk⟩ := hk
      obtain ⟨hq_6, hk⟩ := hk
      refine ky_cVh (As := [.int (a1)]) (wr := []) F (hE.at hfr hS) hfr (mt_X9_houseNow l G mo cs N (jrt ((1 : Int32)) ((1 : Int32)) (jst ((0 : Int32))), w.2.1, w.2.2.1, w.2.2.2.1, w.2.2.2.2) (f)    (a1) H.size hq_5 hq_6) kv_X9_258 ⟨⟨rfl, rfl⟩, by decide, by decide⟩ rfl hl.1 rfl (Nat.le_of_ble_eq_true rfl) ⟨Nat.le_of_ble_eq_true rfl, Nat.le_of_ble_eq_true rfl⟩ (va_recv hE.1 hP (ci := 5) (q0 := 0) rfl rfl) hIT hP hD hS hA [0, 1] [] rfl rfl (by decide) (by decide) (by decide) dc_X9_house_36 ?_
      rintro v9 ⟨w_7, f_7⟩ H locs ⟨rfl, hw_7⟩ hP hD hS hIT9 hz hk9
      have hw_7 : w_7 = (fn_X9_houseNow (a1) (jrt ((1 : Int32)) ((1 : Int32)) (jst ((0 : Int32))), w.2.1, w.2.2.1, w.2.2.2.1, w.2.2.2.2)).2 := hw_7
      try rw [← hw_7] at hw
      try rw [← hw_7] at hk
      have hP : va_P G.1 kcl [(mo, .inr (5, [.int ((w_7).1), .ref cs, .int ((w_7).2.1), .int ((w_7).2.2.1), .int ((w_7).2.2.2.1)])), (cs, .inl (G.2.1 3, 6, .inr (.inr (.inr (.inr (f_7))))))] H := hP
      have hD : va_D A [(mo, .inr (5, [.int ((w_7).1), .ref cs, .int ((w_7).2.1), .int ((w_7).2.2.1), .int ((w_7).2.2.2.1)])), (cs, .inl (G.2.1 3, 6, .inr (.inr (.inr (.inr (f_7))))))] := hD
      have hIT : ky_IT G mo cs N f_7 ((w_7).2.2.2.2) H := hIT9
      refine W.widen (k := 1) (n := 4) (Nat.le_refl _) (Nat.le_refl _) ?_
      have hP9 : va_P G.1 kcl (ky_WM G mo cs ((w_7)) (f_7)) H := hP.sub [0, 1] rfl
      have hD9 : va_D A (ky_WM G mo cs ((w_7)) (f_7)) := hD.sub [0, 1] (by decide) rfl
      refine W.widen (k := 1) (n := 4) (Nat.le_of_ble_eq_true rfl) (Nat.le_of_ble_eq_true rfl) ?_
      exact W.iret (v := (fn_X9_houseNow (a1) (jrt ((1 : Int32)) ((1 : Int32)) (jst ((0 : Int32))), w.2.1, w.2.2.1, w.2.2.2.1, w.2.2.2.2)).1) hx hb hr (fun t ht hW => ⟨by rw [ht]; exact ky_endM (fun z => some (.int z)) ((fn_X9_houseNow (a1) (jrt ((1 : Int32)) ((1 : Int32)) (jst ((0 : Int32))), w.2.1, w.2.2.1, w.2.2.2.1, w.2.2.2.2)).1) hw hP9 hD9 (hIT), hS.F ht⟩) hS.2.2 dc_X9_house_39
    · have hw := hw.trans (if_neg c_4)
      have hk := hk.2 c_4
      refine lv_iconst (v := 0) hx hb dc_X9_house_30 (by decide) ?_
      refine lv_goto (tgt := 39) hx hb dc_X9_house_31 (by decide) ?_
      have hP9 : va_P G.1 kcl (ky_WM G mo cs ((jrt ((1 : Int32)) ((1 : Int32)) (jst ((0 : Int32))), w.2.1, w.2.2.1, w.2.2.2.1, w.2.2.2.2)) (f)) H := hP.sub [0, 1] rfl
      have hD9 : va_D A (ky_WM G mo cs ((jrt ((1 : Int32)) ((1 : Int32)) (jst ((0 : Int32))), w.2.1, w.2.2.1, w.2.2.2.1, w.2.2.2.2)) (f)) := hD.sub [0, 1] (by decide) rfl
      refine W.widen (k := 1) (n := 4) (Nat.le_of_ble_eq_true rfl) (Nat.le_of_ble_eq_true rfl) ?_
      exact W.iret (v := (0 : Int32)) hx hb hr (fun t ht hW => ⟨by rw [ht]; exact ky_endM (fun z => some (.int z)) ((0 : Int32)) hw hP9 hD9 (hIT), hS.F ht⟩) hS.2.2 dc_X9_house_39
end
