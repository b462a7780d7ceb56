def fn_X9_min (a1 : Int32) (a2 : Int32) (a3 : Int32)  (w : ky_MV) : Int32 × ky_MV :=
  if (fn_X9_areNo (a1) (a2)) = (0 : Int32) then (if (fn_X9_isNo (a3)) = (0 : Int32) then (((fn_X9_give (a3) (fn_X9_last (a1) (a2) ((0 : Int32)) (jst ((0 : Int32)), w.2.1, w.2.2.1, w.2.2.2.1, w.2.2.2.2)) (jst ((0 : Int32)), w.2.1, w.2.2.1, w.2.2.2.1, w.2.2.2.2)).1, ((fn_X9_give (a3) (fn_X9_last (a1) (a2) ((0 : Int32)) (jst ((0 : Int32)), w.2.1, w.2.2.1, w.2.2.2.1, w.2.2.2.2)) (jst ((0 : Int32)), w.2.1, w.2.2.1, w.2.2.2.1, w.2.2.2.2)).2))) else (((0 : Int32), (jst ((1 : Int32)), w.2.1, w.2.2.1, w.2.2.2.1, w.2.2.2.2)))) else (((0 : Int32), (jst ((1 : Int32)), w.2.1, w.2.2.1, w.2.2.2.1, w.2.2.2.2)))
set_option linter.constructorNameAsVariable false in
set_option maxHeartbeats 4000000 in
set_option maxRecDepth 100000 in
theorem mt_X9_min (l : Launch) (G : ky_G) (mo cs : Nat) (N : Nat → Prop) (w : ky_MV) (f : Nat → Option Nat)    (a1 : Int32) (a2 : Int32) (a3 : Int32) (sz : Nat) : Met l my_X9_min (.code my_X9_min prog_10_method_37_code 4 (some .int) :: ky_B) { frames := 6, cells := 0, slots := 0, locals := 127 } (ky_P G [.ref mo, .int (a1), .int (a2), .int (a3)] (ky_WM G mo cs w f) sz (fun H => ky_IT G mo cs N f w.2.2.2.2 H)) (ky_Q (S := ky_MV × (Nat → Option Nat)) G (va_A (ky_WM G mo cs w f) sz) (fun v u => v = some (.int (fn_X9_min a1 a2 a3 w).1) ∧ u.1 = (fn_X9_min a1 a2 a3 w).2) (fun u => ky_WM G mo cs u.1 u.2) (fun u H => ky_IT G mo cs N u.2 u.1.2.2.2.2 H)) 0 0 (va_A (ky_WM G mo cs w f) sz) := by
  refine ky_start (by decide) (Nat.le_of_ble_eq_true rfl) (fun p e s m below meth c F hE A hAe hsz hA hfr hP hD hS hX ls hl => ?_)
  obtain ⟨hx, hb, hml, hown, hr, hlocks, hts⟩ := id F
  have hIT0 := hX
  have hIT := hIT0
  have hl : lv_has ls 4 [(0, .ref mo), (1, .int (a1)), (2, .int (a2)), (3, .int (a3))] := hl
  have hP : va_P G.1 kcl [(mo, .inr (5, [.int (w.1), .ref cs, .int (w.2.1), .int (w.2.2.1), .int (w.2.2.2.1)])), (cs, .inl (G.2.1 3, 6, .inr (.inr (.inr (.inr (f))))))] s.heap := hP
  have hD : va_D A [(mo, .inr (5, [.int (w.1), .ref cs, .int (w.2.1), .int (w.2.2.1), .int (w.2.2.2.1)])), (cs, .inl (G.2.1 3, 6, .inr (.inr (.inr (.inr (f))))))] := hD
  have hw : fn_X9_min a1 a2 a3 w = _ := fn_X9_min.eq_1 a1 a2 a3 w
  refine lv_aload_n hx hb dc_X9_min_0 rfl (lv_at hl 0 rfl) ?_
  refine lv_aload_n hx hb dc_X9_min_1 rfl (lv_at hl 0 rfl) ?_
  refine lv_iload_n hx hb dc_X9_min_2 rfl (lv_at hl 1 rfl) ?_
  refine lv_iload_n hx hb dc_X9_min_3 rfl (lv_at hl 2 rfl) ?_
  refine ky_cV1 (As := [.int (a1), .int (a2)]) F (hE.at hfr hS) (mt_X9_areNo l G (mo) (a1) (a2)) kv_X9_104 ⟨⟨rfl, rfl⟩, by decide, by decide⟩ rfl hl.1 rfl (Nat.le_of_ble_eq_true rfl) ⟨Nat.le_of_ble_eq_true rfl, Nat.le_of_ble_eq_true rfl⟩ (va_recv hE.1 hP (ci := 5) (q0 := 0) rfl rfl) trivial dc_X9_min_4 ?_
  refine lv_if_ne (tgt := 17) hx hb dc_X9_min_7 (by decide) (fun c_0 => ?_) (fun c_0 => ?_)
  · have hw := hw.trans (if_neg c_0)
    refine lv_iconst (v := 1) hx hb dc_X9_min_17 (by decide) ?_
    refine lv_goto (tgt := 22) hx hb dc_X9_min_18 (by decide) ?_
    refine ky_cVh (As := [.int ((1 : Int32))]) (wr := []) F (hE.at hfr hS) hfr (mt_X9_startJ l G (mo) (cs) ((w.1, w.2.1, w.2.2.1, w.2.2.2.1)) (f) ((1 : Int32)) s.heap.size ) kv_X9_55 ⟨⟨rfl, rfl⟩, by decide, by decide⟩ rfl hl.1 rfl (Nat.le_of_ble_eq_true rfl) ⟨Nat.le_of_ble_eq_true rfl, Nat.le_of_ble_eq_true rfl⟩ (va_recv hE.1 hP (ci := 5) (q0 := 0) rfl rfl) trivial hP hD hS hA [0, 1] [] rfl rfl (by decide) (by decide) (by decide) dc_X9_min_22 ?_
    rintro v9 u9 H locs ⟨rfl, rfl⟩ hP hD hS - hz hk9
    have hP : va_P G.1 kcl [(mo, .inr (5, [.int (jst ((1 : Int32))), .ref cs, .int (w.2.1), .int (w.2.2.1), .int (w.2.2.2.1)])), (cs, .inl (G.2.1 3, 6, .inr (.inr (.inr (.inr (f))))))] H := hP
    have hD : va_D A [(mo, .inr (5, [.int (jst ((1 : Int32))), .ref cs, .int (w.2.1), .int (w.2.2.1), .int (w.2.2.2.1)])), (cs, .inl (G.2.1 3, 6, .inr (.inr (.inr (.inr (f))))))] := hD
    have hIT := hIT0.ro hAe hS
    refine W.widen (k := 0) (n := 0) (Nat.le_refl _) (Nat.le_refl _) ?_
    refine lv_if_eq (tgt := 32) hx hb dc_X9_min_25 (by decide) (fun c_2 => absurd c_2 (by decide)) (fun _ => ?_)
    refine lv_iconst (v := 0) hx hb dc_X9_min_28 (by decide) ?_
    refine lv_goto (tgt := 44) hx hb dc_X9_min_29 (by decide) ?_
    have hP9 : va_P G.1 kcl (ky_WM G mo cs ((jst ((1 : Int32)), w.2.1, w.2.2.1, w.2.2.2.1, w.2.2.2.2)) (f)) H := hP.sub [0, 1] rfl
    have hD9 : va_D A (ky_WM G mo cs ((jst ((1 : Int32)), w.2.1, w.2.2.1, w.2.2.2.1, w.2.2.2.2)) (f)) := hD.sub [0, 1] (by decide) rfl
    refine W.widen (k := 0) (n := 0) (Nat.le_of_ble_eq_true rfl) (Nat.le_of_ble_eq_true rfl) ?_
    exact W.iret (v := (0 : Int32)) hx hb hr (fun t ht hW => ⟨by rw [ht]; exact ky_endM (fun z => some (.int z)) ((0 : Int32)) hw hP9 hD9 (hIT), hS.F ht⟩) hS.2.2 dc_X9_min_44
  · have hw := hw.trans (if_pos c_0)
    refine lv_iload_n hx hb dc_X9_min_10 rfl (lv_at hl 3 rfl) ?_
    refine ky_cS0 (As := [.int (a3)]) F (mt_X9_isNo l (a3)) ks_X9_51 ⟨⟨rfl, rfl⟩, by decide, by decide⟩ rfl hl.1 rfl (Nat.le_of_ble_eq_true rfl) ⟨Nat.le_of_ble_eq_true rfl, Nat.le_of_ble_eq_true rfl⟩ dc_X9_min_11 ?_
    refine lv_if_eq (tgt := 21) hx hb dc_X9_min_14 (by decide) (fun c_1 => ?_) (fun c_1 => ?_)
    · have hw := hw.trans (if_pos c_1)
      refine lv_iconst (v := 0) hx hb dc_X9_min_21 (by decide) ?_
      refine ky_cVh (As := [.int ((0 : Int32))]) (wr := []) F (hE.at hfr hS) hfr (mt_X9_startJ l G (mo) (cs) ((w.1, w.2.1, w.2.2.1, w.2.2.2.1)) (f) ((0 : Int32)) s.heap.size ) kv_X9_55 ⟨⟨rfl, rfl⟩, by decide, by decide⟩ rfl hl.1 rfl (Nat.le_of_ble_eq_true rfl) ⟨Nat.le_of_ble_eq_true rfl, Nat.le_of_ble_eq_true rfl⟩ (va_recv hE.1 hP (ci := 5) (q0 := 0) rfl rfl) trivial hP hD hS hA [0, 1] [] rfl rfl (by decide) (by decide) (by decide) dc_X9_min_22 ?_
      rintro v9 u9 H locs ⟨rfl, rfl⟩ hP hD hS - hz hk9
      have hP : va_P G.1 kcl [(mo, .inr (5, [.int (jst ((0 : Int32))), .ref cs, .int (w.2.1), .int (w.2.2.1), .int (w.2.2.2.1)])), (cs, .inl (G.2.1 3, 6, .inr (.inr (.inr (.inr (f))))))] H := hP
      have hD : va_D A [(mo, .inr (5, [.int (jst ((0 : Int32))), .ref cs, .int (w.2.1), .int (w.2.2.1), .int (w.2.2.2.1)])), (cs, .inl (G.2.1 3, 6, .inr (.inr (.inr (.inr (f))))))] := hD
      have hIT := hIT0.ro hAe hS
      refine W.widen (k := 0) (n := 0) (Nat.le_refl _) (Nat.le_refl _) ?_
      refine lv_if_eq (tgt := 32) hx hb dc_X9_min_25 (by decide) (fun _ => ?_) (fun c_3 => absurd c_3 (by decide))
      refine lv_aload_n hx hb dc_X9_min_32 rfl (lv_at hl 0 rfl) ?_
      refine lv_iload_n hx hb dc_X9_min_33 rfl (lv_at hl 3 rfl) ?_
      refine lv_aload_n hx hb dc_X9_min_34 rfl (lv_at hl 0 rfl) ?_
      refine lv_iload_n hx hb dc_X9_min_35 rfl (lv_at hl 1 rfl) ?_
      refine lv_iload_n hx hb dc_X9_min_36 rfl (lv_at hl 2 rfl) ?_
      refine lv_iconst (v := 0) hx hb dc_X9_min_37 (by decide) ?_
      refine ky_cVh (As := [.int (a1), .int (a2), .int ((0 : Int32))]) (wr := []) F (hE.at hfr hS) hfr (mt_X9_last l G mo cs N (jst ((0 : Int32)), w.2.1, w.2.2.1, w.2.2.2.1, w.2.2.2.2) (f)    (a1) (a2) ((0 : Int32)) H.size (lr_areNo c_0).1 (lr_areNo c_0).2) kv_X9_151 ⟨⟨rfl, rfl⟩, by decide, by decide⟩ rfl hl.1 rfl (Nat.le_of_ble_eq_true rfl) ⟨Nat.le_of_ble_eq_true rfl, Nat.le_of_ble_eq_true rfl⟩ (va_recv hE.1 hP (ci := 5) (q0 := 0) rfl rfl) hIT hP hD hS hA [0, 1] [] rfl rfl (by decide) (by decide) (by decide) dc_X9_min_38 ?_
      rintro v9 b_4 H locs rfl hP hD hS ⟨hI_4, ho_4⟩ hz hk9
      have hP : va_P G.1 kcl [(mo, .inr (5, [.int (jst ((0 : Int32))), .ref cs, .int (w.2.1), .int (w.2.2.1), .int (w.2.2.2.1)])), (cs, .inl (G.2.1 3, 6, .inr (.inr (.inr (.inr (f))))))] H := hP
      have hD : va_D A [(mo, .inr (5, [.int (jst ((0 : Int32))), .ref cs, .int (w.2.1), .int (w.2.2.1), .int (w.2.2.2.1)])), (cs, .inl (G.2.1 3, 6, .inr (.inr (.inr (.inr (f))))))] := hD
      have hIT := hIT.keep hz (fun q9 ho9 hl9 => hk9 q9 hl9 (ky_nwc ho9 hl9))
      refine W.widen (k := 0) (n := 0) (Nat.le_refl _) (Nat.le_refl _) ?_
      refine ky_cVh (As := [.int (a3), .ref b_4]) (wr := []) F (hE.at hfr hS) hfr (mt_X9_give l G mo cs N (jst ((0 : Int32)), w.2.1, w.2.2.1, w.2.2.2.1, w.2.2.2.2) (f) (b_4) (fn_X9_last (a1) (a2) ((0 : Int32)) (jst ((0 : Int32)), w.2.1, w.2.2.1, w.2.2.2.1, w.2.2.2.2)) ho_4 (a3) H.size (lr_isNo c_1)) kv_X9_63 ⟨⟨rfl, rfl⟩, by decide, by decide⟩ rfl hl.1 rfl (Nat.le_of_ble_eq_true rfl) ⟨Nat.le_of_ble_eq_true rfl, Nat.le_of_ble_eq_true rfl⟩ (va_recv hE.1 hP (ci := 5) (q0 := 0) rfl rfl) ⟨hIT, hI_4⟩ hP hD hS hA [0, 1] [] rfl rfl (by decide) (by decide) (by decide) dc_X9_min_41 ?_
      rintro v9 ⟨w_5, f_5⟩ H locs ⟨rfl, hw_5⟩ hP hD hS hIT9 hz hk9
      have hw_5 : w_5 = (fn_X9_give (a3) (fn_X9_last (a1) (a2) ((0 : Int32)) (jst ((0 : Int32)), w.2.1, w.2.2.1, w.2.2.2.1, w.2.2.2.2)) (jst ((0 : Int32)), w.2.1, w.2.2.1, w.2.2.2.1, w.2.2.2.2)).2 := hw_5
      try rw [← hw_5] at hw
      have hP : va_P G.1 kcl [(mo, .inr (5, [.int ((w_5).1), .ref cs, .int ((w_5).2.1), .int ((w_5).2.2.1), .int ((w_5).2.2.2.1)])), (cs, .inl (G.2.1 3, 6, .inr (.inr (.inr (.inr (f_5))))))] H := hP
      have hD : va_D A [(mo, .inr (5, [.int ((w_5).1), .ref cs, .int ((w_5).2.1), .int ((w_5).2.2.1), .int ((w_5).2.2.2.1)])), (cs, .inl (G.2.1 3, 6, .inr (.inr (.inr (.inr (f_5))))))] := hD
      have hI_4 := hI_4.keep (hk9 _ hI_4.low (ky_nwc ho_4 hI_4.low))
      have hIT : ky_IT G mo cs N f_5 ((w_5).2.2.2.2) H := hIT9
      refine W.widen (k := 0) (n := 0) (Nat.le_refl _) (Nat.le_refl _) ?_
      have hP9 : va_P G.1 kcl (ky_WM G mo cs ((w_5)) (f_5)) H := hP.sub [0, 1] rfl
      have hD9 : va_D A (ky_WM G mo cs ((w_5)) (f_5)) := hD.sub [0, 1] (by decide) rfl
      refine W.widen (k := 0) (n := 0) (Nat.le_of_ble_eq_true rfl) (Nat.le_of_ble_eq_true rfl) ?_
      exact W.iret (v := (fn_X9_give (a3) (fn_X9_last (a1) (a2) ((0 : Int32)) (jst ((0 : Int32)), w.2.1, w.2.2.1, w.2.2.2.1, w.2.2.2.2)) (jst ((0 : Int32)), w.2.1, w.2.2.1, w.2.2.2.1, w.2.2.2.2)).1) hx hb hr (fun t ht hW => ⟨by rw [ht]; exact ky_endM (fun z => some (.int z)) ((fn_X9_give (a3) (fn_X9_last (a1) (a2) ((0 : Int32)) (jst ((0 : Int32)), w.2.1, w.2.2.1, w.2.2.2.1, w.2.2.2.2)) (jst ((0 : Int32)), w.2.1, w.2.2.1, w.2.2.2.1, w.2.2.2.2)).1) hw hP9 hD9 (hIT), hS.F ht⟩) hS.2.2 dc_X9_min_44
    · have hw := hw.trans (if_neg c_1)
      refine lv_iconst (v := 1) hx hb dc_X9_min_17 (by decide) ?_
      refine lv_goto (tgt := 22) hx hb dc_X9_min_18 (by decide) ?_
      refine ky_cVh (As := [.int ((1 : Int32))]) (wr := []) F (hE.at hfr hS) hfr (mt_X9_startJ l G (mo) (cs) ((w.1, w.2.1, w.2.2.1, w.2.2.2.1)) (f) ((1 : Int32)) s.heap.size ) kv_X9_55 ⟨⟨rfl, rfl⟩, by decide, by decide⟩ rfl hl.1 rfl (Nat.le_of_ble_eq_true rfl) ⟨Nat.le_of_ble_eq_true rfl, Nat.le_of_ble_eq_true rfl⟩ (va_recv hE.1 hP (ci := 5) (q0 := 0) rfl rfl) trivial hP hD hS hA [0, 1] [] rfl rfl (by decide) (by decide) (by decide) dc_X9_min_22 ?_
      rintro v9 u9 H locs ⟨rfl, rfl⟩ hP hD hS - hz hk9
      have hP : va_P G.1 kcl [(mo, .inr (5, [.int (jst ((1 : Int32))), .ref cs, .int (w.2.1), .int (w.2.2.1), .int (w.2.2.2.1)])), (cs, .inl (G.2.1 3, 6, .inr (.inr (.inr (.inr (f))))))] H := hP
      have hD : va_D A [(mo, .inr (5, [.int (jst ((1 : Int32))), .ref cs, .int (w.2.1), .int (w.2.2.1), .int (w.2.2.2.1)])), (cs, .inl (G.2.1 3, 6, .inr (.inr (.inr (.inr (f))))))] := hD
      have hIT := hIT0.ro hAe hS
      refine W.widen (k := 0) (n := 0) (Nat.le_refl _) (Nat.le_refl _) ?_
      refine lv_if_eq (tgt := 32) hx hb dc_X9_min_25 (by decide) (fun c_3 => absurd c_3 (by decide)) (fun _ => ?_)
      refine lv_iconst (v := 0) hx hb dc_X9_min_28 (by decide) ?_
      refine lv_goto (tgt := 44) hx hb dc_X9_min_29 (by decide) ?_
      have hP9 : va_P G.1 kcl (ky_WM G mo cs ((jst ((1 : Int32)), w.2.1, w.2.2.1, w.2.2.2.1, w.2.2.2.2)) (f)) H := hP.sub [0, 1] rfl
      have hD9 : va_D A (ky_WM G mo cs ((jst ((1 : Int32)), w.2.1, w.2.2.1, w.2.2.2.1, w.2.2.2.2)) (f)) := hD.sub [0, 1] (by decide) rfl
      refine W.widen (k := 0) (n := 0) (Nat.le_of_ble_eq_true rfl) (Nat.le_of_ble_eq_true rfl) ?_
      exact W.iret (v := (0 : Int32)) hx hb hr (fun t ht hW => ⟨by rw [ht]; exact ky_endM (fun z => some (.int z)) ((0 : Int32)) hw hP9 hD9 (hIT), hS.F ht⟩) hS.2.2 dc_X9_min_44
