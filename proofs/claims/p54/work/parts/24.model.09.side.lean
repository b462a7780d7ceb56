def fn_X9_side (a1 : Int32) (a2 : Int32) (a3 : Int32)  (w : ky_MV) : Int32 × ky_MV :=
  if (fn_X9_areNo (a1) (a2)) = (0 : Int32) then (if (fn_X9_isNo (a3)) = (0 : Int32) then (((fn_X9_give (a3) (((w.2.2.2.2) (a2).toNatClampNeg).1, ((w.2.2.2.2) (a1).toNatClampNeg).2) (jst ((0 : Int32)), w.2.1, w.2.2.1, w.2.2.2.1, w.2.2.2.2)).1, ((fn_X9_give (a3) (((w.2.2.2.2) (a2).toNatClampNeg).1, ((w.2.2.2.2) (a1).toNatClampNeg).2) (jst ((0 : Int32)), w.2.1, w.2.2.1, w.2.2.2.1, w.2.2.2.2)).2))) else (((0 : Int32), (jst ((1 : Int32)), w.2.1, w.2.2.1, w.2.2.2.1, w.2.2.2.2)))) else (((0 : Int32), (jst ((1 : Int32)), w.2.1, w.2.2.1, w.2.2.2.1, w.2.2.2.2)))
set_option linter.constructorNameAsVariable false in
set_option maxHeartbeats 4000000 in
set_option maxRecDepth 100000 in
theorem mt_X9_side (l : Launch) (G : ky_G) (mo cs : Nat) (N : Nat → Prop) (w : ky_MV) (f : Nat → Option Nat)    (a1 : Int32) (a2 : Int32) (a3 : Int32) (sz : Nat) : Met l my_X9_side (.code my_X9_side prog_10_method_34_code 4 (some .int) :: ky_B) { frames := 6, cells := 1, slots := 2, locals := 127 } (ky_P G [.ref mo, .int (a1), .int (a2), .int (a3)] (ky_WM G mo cs w f) sz (fun H => ky_IT G mo cs N f w.2.2.2.2 H)) (ky_Q (S := ky_MV × (Nat → Option Nat)) G (va_A (ky_WM G mo cs w f) sz) (fun v u => v = some (.int (fn_X9_side a1 a2 a3 w).1) ∧ u.1 = (fn_X9_side a1 a2 a3 w).2) (fun u => ky_WM G mo cs u.1 u.2) (fun u H => ky_IT G mo cs N u.2 u.1.2.2.2.2 H)) 1 2 (va_A (ky_WM G mo cs w f) sz) := by
  refine ky_start (by decide) (Nat.le_of_ble_eq_true rfl) (fun p e s m below meth c F hE A hAe hsz hA hfr hP hD hS hX ls hl => ?_)
  obtain ⟨hx, hb, hml, hown, hr, hlocks, hts⟩ := id F
  have hIT0 := hX
  have hIT := hIT0
  have hl : lv_has ls 4 [(0, .ref mo), (1, .int (a1)), (2, .int (a2)), (3, .int (a3))] := hl
  have hP : va_P G.1 kcl [(mo, .inr (5, [.int (w.1), .ref cs, .int (w.2.1), .int (w.2.2.1), .int (w.2.2.2.1)])), (cs, .inl (G.2.1 3, 6, .inr (.inr (.inr (.inr (f))))))] s.heap := hP
  have hD : va_D A [(mo, .inr (5, [.int (w.1), .ref cs, .int (w.2.1), .int (w.2.2.1), .int (w.2.2.2.1)])), (cs, .inl (G.2.1 3, 6, .inr (.inr (.inr (.inr (f))))))] := hD
  have hw : fn_X9_side a1 a2 a3 w = _ := fn_X9_side.eq_1 a1 a2 a3 w
  refine lv_aload_n hx hb dc_X9_side_0 rfl (lv_at hl 0 rfl) ?_
  refine lv_aload_n hx hb dc_X9_side_1 rfl (lv_at hl 0 rfl) ?_
  refine lv_iload_n hx hb dc_X9_side_2 rfl (lv_at hl 1 rfl) ?_
  refine lv_iload_n hx hb dc_X9_side_3 rfl (lv_at hl 2 rfl) ?_
  refine ky_cV1 (As := [.int (a1), .int (a2)]) F (hE.at hfr hS) (mt_X9_areNo l G (mo) (a1) (a2)) kv_X9_104 ⟨⟨rfl, rfl⟩, by decide, by decide⟩ rfl hl.1 rfl (Nat.le_of_ble_eq_true rfl) ⟨Nat.le_of_ble_eq_true rfl, Nat.le_of_ble_eq_true rfl⟩ (va_recv hE.1 hP (ci := 5) (q0 := 0) rfl rfl) trivial dc_X9_side_4 ?_
  refine lv_if_ne (tgt := 17) hx hb dc_X9_side_7 (by decide) (fun c_0 => ?_) (fun c_0 => ?_)
  · have hw := hw.trans (if_neg c_0)
    refine lv_iconst (v := 1) hx hb dc_X9_side_17 (by decide) ?_
    refine lv_goto (tgt := 22) hx hb dc_X9_side_18 (by decide) ?_
    refine ky_cVh (As := [.int ((1 : Int32))]) (wr := []) F (hE.at hfr hS) hfr (mt_X9_startJ l G (mo) (cs) ((w.1, w.2.1, w.2.2.1, w.2.2.2.1)) (f) ((1 : Int32)) s.heap.size ) kv_X9_55 ⟨⟨rfl, rfl⟩, by decide, by decide⟩ rfl hl.1 rfl (Nat.le_of_ble_eq_true rfl) ⟨Nat.le_of_ble_eq_true rfl, Nat.le_of_ble_eq_true rfl⟩ (va_recv hE.1 hP (ci := 5) (q0 := 0) rfl rfl) trivial hP hD hS hA [0, 1] [] rfl rfl (by decide) (by decide) (by decide) dc_X9_side_22 ?_
    rintro v9 u9 H locs ⟨rfl, rfl⟩ hP hD hS - hz hk9
    have hP : va_P G.1 kcl [(mo, .inr (5, [.int (jst ((1 : Int32))), .ref cs, .int (w.2.1), .int (w.2.2.1), .int (w.2.2.2.1)])), (cs, .inl (G.2.1 3, 6, .inr (.inr (.inr (.inr (f))))))] H := hP
    have hD : va_D A [(mo, .inr (5, [.int (jst ((1 : Int32))), .ref cs, .int (w.2.1), .int (w.2.2.1), .int (w.2.2.2.1)])), (cs, .inl (G.2.1 3, 6, .inr (.inr (.inr (.inr (f))))))] := hD
    have hIT := hIT0.ro hAe hS
    refine W.widen (k := 0) (n := 0) (Nat.le_refl _) (Nat.le_refl _) ?_
    refine lv_if_eq (tgt := 32) hx hb dc_X9_side_25 (by decide) (fun c_2 => absurd c_2 (by decide)) (fun _ => ?_)
    refine lv_iconst (v := 0) hx hb dc_X9_side_28 (by decide) ?_
    refine lv_goto (tgt := 62) hx hb dc_X9_side_29 (by decide) ?_
    have hP9 : va_P G.1 kcl (ky_WM G mo cs ((jst ((1 : Int32)), w.2.1, w.2.2.1, w.2.2.2.1, w.2.2.2.2)) (f)) H := hP.sub [0, 1] rfl
    have hD9 : va_D A (ky_WM G mo cs ((jst ((1 : Int32)), w.2.1, w.2.2.1, w.2.2.2.1, w.2.2.2.2)) (f)) := hD.sub [0, 1] (by decide) rfl
    refine W.widen (k := 1) (n := 2) (Nat.le_of_ble_eq_true rfl) (Nat.le_of_ble_eq_true rfl) ?_
    exact W.iret (v := (0 : Int32)) hx hb hr (fun t ht hW => ⟨by rw [ht]; exact ky_endM (fun z => some (.int z)) ((0 : Int32)) hw hP9 hD9 (hIT), hS.F ht⟩) hS.2.2 dc_X9_side_62
  · have hw := hw.trans (if_pos c_0)
    refine lv_iload_n hx hb dc_X9_side_10 rfl (lv_at hl 3 rfl) ?_
    refine ky_cS0 (As := [.int (a3)]) F (mt_X9_isNo l (a3)) ks_X9_51 ⟨⟨rfl, rfl⟩, by decide, by decide⟩ rfl hl.1 rfl (Nat.le_of_ble_eq_true rfl) ⟨Nat.le_of_ble_eq_true rfl, Nat.le_of_ble_eq_true rfl⟩ dc_X9_side_11 ?_
    refine lv_if_eq (tgt := 21) hx hb dc_X9_side_14 (by decide) (fun c_1 => ?_) (fun c_1 => ?_)
    · have hw := hw.trans (if_pos c_1)
      refine lv_iconst (v := 0) hx hb dc_X9_side_21 (by decide) ?_
      refine ky_cVh (As := [.int ((0 : Int32))]) (wr := []) F (hE.at hfr hS) hfr (mt_X9_startJ l G (mo) (cs) ((w.1, w.2.1, w.2.2.1, w.2.2.2.1)) (f) ((0 : Int32)) s.heap.size ) kv_X9_55 ⟨⟨rfl, rfl⟩, by decide, by decide⟩ rfl hl.1 rfl (Nat.le_of_ble_eq_true rfl) ⟨Nat.le_of_ble_eq_true rfl, Nat.le_of_ble_eq_true rfl⟩ (va_recv hE.1 hP (ci := 5) (q0 := 0) rfl rfl) trivial hP hD hS hA [0, 1] [] rfl rfl (by decide) (by decide) (by decide) dc_X9_side_22 ?_
      rintro v9 u9 H locs ⟨rfl, rfl⟩ hP hD hS - hz hk9
      have hP : va_P G.1 kcl [(mo, .inr (5, [.int (jst ((0 : Int32))), .ref cs, .int (w.2.1), .int (w.2.2.1), .int (w.2.2.2.1)])), (cs, .inl (G.2.1 3, 6, .inr (.inr (.inr (.inr (f))))))] H := hP
      have hD : va_D A [(mo, .inr (5, [.int (jst ((0 : Int32))), .ref cs, .int (w.2.1), .int (w.2.2.1), .int (w.2.2.2.1)])), (cs, .inl (G.2.1 3, 6, .inr (.inr (.inr (.inr (f))))))] := hD
      have hIT := hIT0.ro hAe hS
      refine W.widen (k := 0) (n := 0) (Nat.le_refl _) (Nat.le_refl _) ?_
      refine lv_if_eq (tgt := 32) hx hb dc_X9_side_25 (by decide) (fun _ => ?_) (fun c_3 => absurd c_3 (by decide))
      refine lv_aload_n hx hb dc_X9_side_32 rfl (lv_at hl 0 rfl) ?_
      refine lv_iload_n hx hb dc_X9_side_33 rfl (lv_at hl 3 rfl) ?_
      refine va_new (ci := 4) (fs := [.int (0), .long (0)]) (C := RX8) (T := TX8) (N := 2) hx hb hts ki_X8 tyX8 tyX8_ok hown (hts _ kw_6_3) (hts _ kw_6_5) (hts _ kw_1_9) hE.1 hP hD hS hA rfl (fun j hj => by rcases (show j = 0 ∨ j = 1 by omega) with rfl | rfl <;> rfl) (Nat.le_of_ble_eq_true rfl) (Nat.le_of_ble_eq_true rfl) dc_X9_side_34 (fun q_4 H hP hD hS => ?_)
      have hP : va_P G.1 kcl [(mo, .inr (5, [.int (jst ((0 : Int32))), .ref cs, .int (w.2.1), .int (w.2.2.1), .int (w.2.2.2.1)])), (cs, .inl (G.2.1 3, 6, .inr (.inr (.inr (.inr (f)))))), (q_4, .inr (4, [.int (0), .long (0)]))] H := hP
      have hD : va_D A [(mo, .inr (5, [.int (jst ((0 : Int32))), .ref cs, .int (w.2.1), .int (w.2.2.1), .int (w.2.2.2.1)])), (cs, .inl (G.2.1 3, 6, .inr (.inr (.inr (.inr (f)))))), (q_4, .inr (4, [.int (0), .long (0)]))] := hD
      have hIT := hIT0.ro hAe hS
      refine W.widen (k := 1) (n := 2) (Nat.le_refl _) (Nat.le_refl _) ?_
      refine lv_dup hx hb dc_X9_side_37 rfl ?_
      refine lv_aload_n hx hb dc_X9_side_38 rfl (lv_at hl 0 rfl) ?_
      refine va_get (D := G.1) (ci := 5) (v := .ref cs) (C := RX9) (T := TX9) (N := 5) hx hb hts ki_X9 hown hE.1 hP 0 rfl rfl 1 (by decide) (hts _ kw_6_20) (fun _ h9 => h9) rfl dc_X9_side_39 ?_
      refine lv_iload_n hx hb dc_X9_side_42 rfl (lv_at hl 2 rfl) ?_
      refine va_aldq hx hb hE.1 hP 1 3 rfl rfl (lr_areNo c_0).2 dc_X9_side_43 ?_
      obtain ⟨b_5, hb_5, hI_5, ho_5⟩ := hIT.2 _ (ky_i6 (lr_areNo c_0).2)
      rw [ky_rf hb_5]
      have hX_5 : ky_It G b_5 ((w.2.2.2.2) (a2).toNatClampNeg) s.heap := by obtain ⟨b9, e9, i9, -⟩ := hIT0.2 _ (ky_i6 (lr_areNo c_0).2); have z9 : b9 = b_5 := Option.some.inj (e9.symm.trans hb_5); exact z9 ▸ i9
      refine va_get (D := G.1) (ci := 4) (v := .int (((w.2.2.2.2) (a2).toNatClampNeg).1)) (C := RX8) (T := TX8) (N := 2) hx hb hts ki_X8 hown hE.1 hI_5 0 rfl rfl 0 (by decide) (hts _ kw_6_11) (fun _ h9 => h9) rfl dc_X9_side_44 ?_
      refine lv_aload_n hx hb dc_X9_side_47 rfl (lv_at hl 0 rfl) ?_
      refine va_get (D := G.1) (ci := 5) (v := .ref cs) (C := RX9) (T := TX9) (N := 5) hx hb hts ki_X9 hown hE.1 hP 0 rfl rfl 1 (by decide) (hts _ kw_6_20) (fun _ h9 => h9) rfl dc_X9_side_48 ?_
      refine lv_iload_n hx hb dc_X9_side_51 rfl (lv_at hl 1 rfl) ?_
      refine va_aldq hx hb hE.1 hP 1 3 rfl rfl (lr_areNo c_0).1 dc_X9_side_52 ?_
      obtain ⟨b_6, hb_6, hI_6, ho_6⟩ := hIT.2 _ (ky_i6 (lr_areNo c_0).1)
      rw [ky_rf hb_6]
      have hX_6 : ky_It G b_6 ((w.2.2.2.2) (a1).toNatClampNeg) s.heap := by obtain ⟨b9, e9, i9, -⟩ := hIT0.2 _ (ky_i6 (lr_areNo c_0).1); have z9 : b9 = b_6 := Option.some.inj (e9.symm.trans hb_6); exact z9 ▸ i9
      refine va_get (D := G.1) (ci := 4) (v := .long (((w.2.2.2.2) (a1).toNatClampNeg).2)) (C := RX8) (T := TX8) (N := 2) hx hb hts ki_X8 hown hE.1 hI_6 0 rfl rfl 1 (by decide) (hts _ kw_6_13) (fun _ h9 => h9) rfl dc_X9_side_53 ?_
      refine ky_cIh (As := [.int (((w.2.2.2.2) (a2).toNatClampNeg).1), .long (((w.2.2.2.2) (a1).toNatClampNeg).2)]) (wr := [(mo, .inr (5, [.int (jst ((0 : Int32))), .ref cs, .int (w.2.1), .int (w.2.2.1), .int (w.2.2.2.1)])), (cs, .inl (G.2.1 3, 6, .inr (.inr (.inr (.inr (f))))))]) F (hE.at hfr hS) hfr (mt_X8_init l G (q_4) (((w.2.2.2.2) (a2).toNatClampNeg).1) (((w.2.2.2.2) (a1).toNatClampNeg).2) H.size ) kI_X9_29 ⟨⟨rfl, rfl⟩, by decide, by decide⟩ rfl hl.1 rfl (Nat.le_of_ble_eq_true rfl) ⟨Nat.le_of_ble_eq_true rfl, Nat.le_of_ble_eq_true rfl⟩ trivial hP hD hS hA [2] [0, 1] rfl rfl (by decide) (by decide) (by decide) dc_X9_side_56 ?_
      rintro v9 u9 H locs ⟨rfl, rfl⟩ hP hD hS - hz hk9
      have hP : va_P G.1 kcl [(mo, .inr (5, [.int (jst ((0 : Int32))), .ref cs, .int (w.2.1), .int (w.2.2.1), .int (w.2.2.2.1)])), (cs, .inl (G.2.1 3, 6, .inr (.inr (.inr (.inr (f)))))), (q_4, .inr (4, [.int (((w.2.2.2.2) (a2).toNatClampNeg).1), .long (((w.2.2.2.2) (a1).toNatClampNeg).2)]))] H := hP
      have hD : va_D A [(mo, .inr (5, [.int (jst ((0 : Int32))), .ref cs, .int (w.2.1), .int (w.2.2.1), .int (w.2.2.2.1)])), (cs, .inl (G.2.1 3, 6, .inr (.inr (.inr (.inr (f)))))), (q_4, .inr (4, [.int (((w.2.2.2.2) (a2).toNatClampNeg).1), .long (((w.2.2.2.2) (a1).toNatClampNeg).2)]))] := hD
      have hIT := hIT0.ro hAe hS
      have hI_5 := ky_ro2 hX_5 ho_5 hAe hS
      have hI_6 := ky_ro2 hX_6 ho_6 hAe hS
      refine W.widen (k := 1) (n := 2) (Nat.le_refl _) (Nat.le_refl _) ?_
      have hJ_8 : ky_It G q_4 ((((w.2.2.2.2) (a2).toNatClampNeg).1, ((w.2.2.2.2) (a1).toNatClampNeg).2)) H := ky_itp (hP.sub (ws' := [(q_4, .inr (4, [.int (((w.2.2.2.2) (a2).toNatClampNeg).1), .long (((w.2.2.2.2) (a1).toNatClampNeg).2)]))]) [2] rfl)
      have hk_8 : ky_ok mo cs N q_4 := ky_ok.own hAe hIT0.1 hD 0 1 2 rfl rfl rfl (by decide) (by decide)
      refine ky_cVh (As := [.int (a3), .ref q_4]) (wr := [(q_4, .inr (4, [.int (((w.2.2.2.2) (a2).toNatClampNeg).1), .long (((w.2.2.2.2) (a1).toNatClampNeg).2)]))]) F (hE.at hfr hS) hfr (mt_X9_give l G mo cs N (jst ((0 : Int32)), w.2.1, w.2.2.1, w.2.2.2.1, w.2.2.2.2) (f) (q_4) (((w.2.2.2.2) (a2).toNatClampNeg).1, ((w.2.2.2.2) (a1).toNatClampNeg).2) hk_8 (a3) H.size (lr_isNo c_1)) kv_X9_63 ⟨⟨rfl, rfl⟩, by decide, by decide⟩ rfl hl.1 rfl (Nat.le_of_ble_eq_true rfl) ⟨Nat.le_of_ble_eq_true rfl, Nat.le_of_ble_eq_true rfl⟩ (va_recv hE.1 hP (ci := 5) (q0 := 0) rfl rfl) ⟨hIT, hJ_8⟩ hP hD hS hA [0, 1] [2] rfl rfl (by decide) (by decide) (by decide) dc_X9_side_59 ?_
      rintro v9 ⟨w_9, f_9⟩ H locs ⟨rfl, hw_9⟩ hP hD hS hIT9 hz hk9
      have hw_9 : w_9 = (fn_X9_give (a3) (((w.2.2.2.2) (a2).toNatClampNeg).1, ((w.2.2.2.2) (a1).toNatClampNeg).2) (jst ((0 : Int32)), w.2.1, w.2.2.1, w.2.2.2.1, w.2.2.2.2)).2 := hw_9
      try rw [← hw_9] at hw
      have hP : va_P G.1 kcl [(q_4, .inr (4, [.int (((w.2.2.2.2) (a2).toNatClampNeg).1), .long (((w.2.2.2.2) (a1).toNatClampNeg).2)])), (mo, .inr (5, [.int ((w_9).1), .ref cs, .int ((w_9).2.1), .int ((w_9).2.2.1), .int ((w_9).2.2.2.1)])), (cs, .inl (G.2.1 3, 6, .inr (.inr (.inr (.inr (f_9))))))] H := hP
      have hD : va_D A [(q_4, .inr (4, [.int (((w.2.2.2.2) (a2).toNatClampNeg).1), .long (((w.2.2.2.2) (a1).toNatClampNeg).2)])), (mo, .inr (5, [.int ((w_9).1), .ref cs, .int ((w_9).2.1), .int ((w_9).2.2.1), .int ((w_9).2.2.2.1)])), (cs, .inl (G.2.1 3, 6, .inr (.inr (.inr (.inr (f_9))))))] := hD
      have hI_5 := hI_5.keep (hk9 _ hI_5.low (ky_nwc ho_5 hI_5.low))
      have hI_6 := hI_6.keep (hk9 _ hI_6.low (ky_nwc ho_6 hI_6.low))
      have hIT : ky_IT G mo cs N f_9 ((w_9).2.2.2.2) H := hIT9
      refine W.widen (k := 1) (n := 2) (Nat.le_refl _) (Nat.le_refl _) ?_
      have hP9 : va_P G.1 kcl (ky_WM G mo cs ((w_9)) (f_9)) H := hP.sub [1, 2] rfl
      have hD9 : va_D A (ky_WM G mo cs ((w_9)) (f_9)) := hD.sub [1, 2] (by decide) rfl
      refine W.widen (k := 1) (n := 2) (Nat.le_of_ble_eq_true rfl) (Nat.le_of_ble_eq_true rfl) ?_
      exact W.iret (v := (fn_X9_give (a3) (((w.2.2.2.2) (a2).toNatClampNeg).1, ((w.2.2.2.2) (a1).toNatClampNeg).2) (jst ((0 : Int32)), w.2.1, w.2.2.1, w.2.2.2.1, w.2.2.2.2)).1) hx hb hr (fun t ht hW => ⟨by rw [ht]; exact ky_endM (fun z => some (.int z)) ((fn_X9_give (a3) (((w.2.2.2.2) (a2).toNatClampNeg).1, ((w.2.2.2.2) (a1).toNatClampNeg).2) (jst ((0 : Int32)), w.2.1, w.2.2.1, w.2.2.2.1, w.2.2.2.2)).1) hw hP9 hD9 (hIT), hS.F ht⟩) hS.2.2 dc_X9_side_62
    · have hw := hw.trans (if_neg c_1)
      refine lv_iconst (v := 1) hx hb dc_X9_side_17 (by decide) ?_
      refine lv_goto (tgt := 22) hx hb dc_X9_side_18 (by decide) ?_
      refine ky_cVh (As := [.int ((1 : Int32))]) (wr := []) F (hE.at hfr hS) hfr (mt_X9_startJ l G (mo) (cs) ((w.1, w.2.1, w.2.2.1, w.2.2.2.1)) (f) ((1 : Int32)) s.heap.size ) kv_X9_55 ⟨⟨rfl, rfl⟩, by decide, by decide⟩ rfl hl.1 rfl (Nat.le_of_ble_eq_true rfl) ⟨Nat.le_of_ble_eq_true rfl, Nat.le_of_ble_eq_true rfl⟩ (va_recv hE.1 hP (ci := 5) (q0 := 0) rfl rfl) trivial hP hD hS hA [0, 1] [] rfl rfl (by decide) (by decide) (by decide) dc_X9_side_22 ?_
      rintro v9 u9 H locs ⟨rfl, rfl⟩ hP hD hS - hz hk9
      have hP : va_P G.1 kcl [(mo, .inr (5, [.int (jst ((1 : Int32))), .ref cs, .int (w.2.1), .int (w.2.2.1), .int (w.2.2.2.1)])), (cs, .inl (G.2.1 3, 6, .inr (.inr (.inr (.inr (f))))))] H := hP
      have hD : va_D A [(mo, .inr (5, [.int (jst ((1 : Int32))), .ref cs, .int (w.2.1), .int (w.2.2.1), .int (w.2.2.2.1)])), (cs, .inl (G.2.1 3, 6, .inr (.inr (.inr (.inr (f))))))] := hD
      have hIT := hIT0.ro hAe hS
      refine W.widen (k := 0) (n := 0) (Nat.le_refl _) (Nat.le_refl _) ?_
      refine lv_if_eq (tgt := 32) hx hb dc_X9_side_25 (by decide) (fun c_3 => absurd c_3 (by decide)) (fun _ => ?_)
      refine lv_iconst (v := 0) hx hb dc_X9_side_28 (by decide) ?_
      refine lv_goto (tgt := 62) hx hb dc_X9_side_29 (by decide) ?_
      have hP9 : va_P G.1 kcl (ky_WM G mo cs ((jst ((1 : Int32)), w.2.1, w.2.2.1, w.2.2.2.1, w.2.2.2.2)) (f)) H := hP.sub [0, 1] rfl
      have hD9 : va_D A (ky_WM G mo cs ((jst ((1 : Int32)), w.2.1, w.2.2.1, w.2.2.2.1, w.2.2.2.2)) (f)) := hD.sub [0, 1] (by decide) rfl
      refine W.widen (k := 1) (n := 2) (Nat.le_of_ble_eq_true rfl) (Nat.le_of_ble_eq_true rfl) ?_
      exact W.iret (v := (0 : Int32)) hx hb hr (fun t ht hW => ⟨by rw [ht]; exact ky_endM (fun z => some (.int z)) ((0 : Int32)) hw hP9 hD9 (hIT), hS.F ht⟩) hS.2.2 dc_X9_side_62
