def fn_X9_size (a1 : Int32) (a2 : Int32)  (w : ky_MV) : Int32 × ky_MV :=
  if (jst (fn_X9_areNo (a1) (a2))) = (0 : Int32) then (((fn_X9_give (a2) ((0 : Int32), ((w.2.2.2.2) (a1).toNatClampNeg).2) (jst (fn_X9_areNo (a1) (a2)), w.2.1, w.2.2.1, w.2.2.2.1, w.2.2.2.2)).1, ((fn_X9_give (a2) ((0 : Int32), ((w.2.2.2.2) (a1).toNatClampNeg).2) (jst (fn_X9_areNo (a1) (a2)), w.2.1, w.2.2.1, w.2.2.2.1, w.2.2.2.2)).2))) else (((0 : Int32), (jst (fn_X9_areNo (a1) (a2)), w.2.1, w.2.2.1, w.2.2.2.1, w.2.2.2.2)))
set_option linter.constructorNameAsVariable false in
set_option maxHeartbeats 4000000 in
set_option maxRecDepth 100000 in
theorem mt_X9_size (l : Launch) (G : ky_G) (mo cs : Nat) (N : Nat → Prop) (w : ky_MV) (f : Nat → Option Nat)    (a1 : Int32) (a2 : Int32) (sz : Nat) : Met l my_X9_size (.code my_X9_size prog_10_method_26_code 3 (some .int) :: ky_B) { frames := 6, cells := 1, slots := 2, locals := 127 } (ky_P G [.ref mo, .int (a1), .int (a2)] (ky_WM G mo cs w f) sz (fun H => ky_IT G mo cs N f w.2.2.2.2 H)) (ky_Q (S := ky_MV × (Nat → Option Nat)) G (va_A (ky_WM G mo cs w f) sz) (fun v u => v = some (.int (fn_X9_size a1 a2 w).1) ∧ u.1 = (fn_X9_size a1 a2 w).2) (fun u => ky_WM G mo cs u.1 u.2) (fun u H => ky_IT G mo cs N u.2 u.1.2.2.2.2 H)) 1 2 (va_A (ky_WM G mo cs w f) sz) := by
  refine ky_start (by decide) (Nat.le_of_ble_eq_true rfl) (fun p e s m below meth c F hE A hAe hsz hA hfr hP hD hS hX ls hl => ?_)
  obtain ⟨hx, hb, hml, hown, hr, hlocks, hts⟩ := id F
  have hIT0 := hX
  have hIT := hIT0
  have hl : lv_has ls 3 [(0, .ref mo), (1, .int (a1)), (2, .int (a2))] := hl
  have hP : va_P G.1 kcl [(mo, .inr (5, [.int (w.1), .ref cs, .int (w.2.1), .int (w.2.2.1), .int (w.2.2.2.1)])), (cs, .inl (G.2.1 3, 6, .inr (.inr (.inr (.inr (f))))))] s.heap := hP
  have hD : va_D A [(mo, .inr (5, [.int (w.1), .ref cs, .int (w.2.1), .int (w.2.2.1), .int (w.2.2.2.1)])), (cs, .inl (G.2.1 3, 6, .inr (.inr (.inr (.inr (f))))))] := hD
  have hw : fn_X9_size a1 a2 w = _ := fn_X9_size.eq_1 a1 a2 w
  refine lv_aload_n hx hb dc_X9_size_0 rfl (lv_at hl 0 rfl) ?_
  refine lv_aload_n hx hb dc_X9_size_1 rfl (lv_at hl 0 rfl) ?_
  refine lv_iload_n hx hb dc_X9_size_2 rfl (lv_at hl 1 rfl) ?_
  refine lv_iload_n hx hb dc_X9_size_3 rfl (lv_at hl 2 rfl) ?_
  refine ky_cV1 (As := [.int (a1), .int (a2)]) F (hE.at hfr hS) (mt_X9_areNo l G (mo) (a1) (a2)) kv_X9_104 ⟨⟨rfl, rfl⟩, by decide, by decide⟩ rfl hl.1 rfl (Nat.le_of_ble_eq_true rfl) ⟨Nat.le_of_ble_eq_true rfl, Nat.le_of_ble_eq_true rfl⟩ (va_recv hE.1 hP (ci := 5) (q0 := 0) rfl rfl) trivial dc_X9_size_4 ?_
  refine ky_cVh (As := [.int (fn_X9_areNo (a1) (a2))]) (wr := []) F (hE.at hfr hS) hfr (mt_X9_startJ l G (mo) (cs) ((w.1, w.2.1, w.2.2.1, w.2.2.2.1)) (f) (fn_X9_areNo (a1) (a2)) s.heap.size ) kv_X9_55 ⟨⟨rfl, rfl⟩, by decide, by decide⟩ rfl hl.1 rfl (Nat.le_of_ble_eq_true rfl) ⟨Nat.le_of_ble_eq_true rfl, Nat.le_of_ble_eq_true rfl⟩ (va_recv hE.1 hP (ci := 5) (q0 := 0) rfl rfl) trivial hP hD hS hA [0, 1] [] rfl rfl (by decide) (by decide) (by decide) dc_X9_size_7 ?_
  rintro v9 u9 H locs ⟨rfl, rfl⟩ hP hD hS - hz hk9
  obtain ⟨j_1, hj_1⟩ : ∃ j9, j9 = jst (fn_X9_areNo (a1) (a2)) := ⟨_, rfl⟩
  rw [← hj_1] at hP hD ⊢
  try rw [← hj_1] at hw
  have hP : va_P G.1 kcl [(mo, .inr (5, [.int (j_1), .ref cs, .int (w.2.1), .int (w.2.2.1), .int (w.2.2.2.1)])), (cs, .inl (G.2.1 3, 6, .inr (.inr (.inr (.inr (f))))))] H := hP
  have hD : va_D A [(mo, .inr (5, [.int (j_1), .ref cs, .int (w.2.1), .int (w.2.2.1), .int (w.2.2.2.1)])), (cs, .inl (G.2.1 3, 6, .inr (.inr (.inr (.inr (f))))))] := hD
  have hIT := hIT0.ro hAe hS
  refine W.widen (k := 0) (n := 0) (Nat.le_refl _) (Nat.le_refl _) ?_
  refine lv_if_eq (tgt := 17) hx hb dc_X9_size_10 (by decide) (fun c_2 => ?_) (fun c_2 => ?_)
  · have hw := hw.trans (if_pos c_2)
    refine lv_aload_n hx hb dc_X9_size_17 rfl (lv_at hl 0 rfl) ?_
    refine lv_iload_n hx hb dc_X9_size_18 rfl (lv_at hl 2 rfl) ?_
    refine va_new (ci := 4) (fs := [.int (0), .long (0)]) (C := RX8) (T := TX8) (N := 2) hx hb hts ki_X8 tyX8 tyX8_ok hown (hts _ kw_6_3) (hts _ kw_6_5) (hts _ kw_1_9) hE.1 hP hD hS hA rfl (fun j hj => by rcases (show j = 0 ∨ j = 1 by omega) with rfl | rfl <;> rfl) (Nat.le_of_ble_eq_true rfl) (Nat.le_of_ble_eq_true rfl) dc_X9_size_19 (fun q_3 H hP hD hS => ?_)
    have hP : va_P G.1 kcl [(mo, .inr (5, [.int (j_1), .ref cs, .int (w.2.1), .int (w.2.2.1), .int (w.2.2.2.1)])), (cs, .inl (G.2.1 3, 6, .inr (.inr (.inr (.inr (f)))))), (q_3, .inr (4, [.int (0), .long (0)]))] H := hP
    have hD : va_D A [(mo, .inr (5, [.int (j_1), .ref cs, .int (w.2.1), .int (w.2.2.1), .int (w.2.2.2.1)])), (cs, .inl (G.2.1 3, 6, .inr (.inr (.inr (.inr (f)))))), (q_3, .inr (4, [.int (0), .long (0)]))] := hD
    have hIT := hIT0.ro hAe hS
    refine W.widen (k := 1) (n := 2) (Nat.le_refl _) (Nat.le_refl _) ?_
    refine lv_dup hx hb dc_X9_size_22 rfl ?_
    refine lv_iconst (v := 0) hx hb dc_X9_size_23 (by decide) ?_
    refine lv_aload_n hx hb dc_X9_size_24 rfl (lv_at hl 0 rfl) ?_
    refine va_get (D := G.1) (ci := 5) (v := .ref cs) (C := RX9) (T := TX9) (N := 5) hx hb hts ki_X9 hown hE.1 hP 0 rfl rfl 1 (by decide) (hts _ kw_6_20) (fun _ h9 => h9) rfl dc_X9_size_25 ?_
    refine lv_iload_n hx hb dc_X9_size_28 rfl (lv_at hl 1 rfl) ?_
    refine va_aldq hx hb hE.1 hP 1 3 rfl rfl (lr_startB (hj_1.symm.trans c_2)).1 dc_X9_size_29 ?_
    obtain ⟨b_4, hb_4, hI_4, ho_4⟩ := hIT.2 _ (ky_i6 (lr_startB (hj_1.symm.trans c_2)).1)
    rw [ky_rf hb_4]
    have hX_4 : ky_It G b_4 ((w.2.2.2.2) (a1).toNatClampNeg) s.heap := by obtain ⟨b9, e9, i9, -⟩ := hIT0.2 _ (ky_i6 (lr_startB (hj_1.symm.trans c_2)).1); have z9 : b9 = b_4 := Option.some.inj (e9.symm.trans hb_4); exact z9 ▸ i9
    refine va_get (D := G.1) (ci := 4) (v := .long (((w.2.2.2.2) (a1).toNatClampNeg).2)) (C := RX8) (T := TX8) (N := 2) hx hb hts ki_X8 hown hE.1 hI_4 0 rfl rfl 1 (by decide) (hts _ kw_6_13) (fun _ h9 => h9) rfl dc_X9_size_30 ?_
    refine ky_cIh (As := [.int ((0 : Int32)), .long (((w.2.2.2.2) (a1).toNatClampNeg).2)]) (wr := [(mo, .inr (5, [.int (j_1), .ref cs, .int (w.2.1), .int (w.2.2.1), .int (w.2.2.2.1)])), (cs, .inl (G.2.1 3, 6, .inr (.inr (.inr (.inr (f))))))]) F (hE.at hfr hS) hfr (mt_X8_init l G (q_3) ((0 : Int32)) (((w.2.2.2.2) (a1).toNatClampNeg).2) H.size ) kI_X9_29 ⟨⟨rfl, rfl⟩, by decide, by decide⟩ rfl hl.1 rfl (Nat.le_of_ble_eq_true rfl) ⟨Nat.le_of_ble_eq_true rfl, Nat.le_of_ble_eq_true rfl⟩ trivial hP hD hS hA [2] [0, 1] rfl rfl (by decide) (by decide) (by decide) dc_X9_size_33 ?_
    rintro v9 u9 H locs ⟨rfl, rfl⟩ hP hD hS - hz hk9
    have hP : va_P G.1 kcl [(mo, .inr (5, [.int (j_1), .ref cs, .int (w.2.1), .int (w.2.2.1), .int (w.2.2.2.1)])), (cs, .inl (G.2.1 3, 6, .inr (.inr (.inr (.inr (f)))))), (q_3, .inr (4, [.int ((0 : Int32)), .long (((w.2.2.2.2) (a1).toNatClampNeg).2)]))] H := hP
    have hD : va_D A [(mo, .inr (5, [.int (j_1), .ref cs, .int (w.2.1), .int (w.2.2.1), .int (w.2.2.2.1)])), (cs, .inl (G.2.1 3, 6, .inr (.inr (.inr (.inr (f)))))), (q_3, .inr (4, [.int ((0 : Int32)), .long (((w.2.2.2.2) (a1).toNatClampNeg).2)]))] := hD
    have hIT := hIT0.ro hAe hS
    have hI_4 := ky_ro2 hX_4 ho_4 hAe hS
    refine W.widen (k := 1) (n := 2) (Nat.le_refl _) (Nat.le_refl _) ?_
    have hJ_6 : ky_It G q_3 (((0 : Int32), ((w.2.2.2.2) (a1).toNatClampNeg).2)) H := ky_itp (hP.sub (ws' := [(q_3, .inr (4, [.int ((0 : Int32)), .long (((w.2.2.2.2) (a1).toNatClampNeg).2)]))]) [2] rfl)
    have hk_6 : ky_ok mo cs N q_3 := ky_ok.own hAe hIT0.1 hD 0 1 2 rfl rfl rfl (by decide) (by decide)
    refine ky_cVh (As := [.int (a2), .ref q_3]) (wr := [(q_3, .inr (4, [.int ((0 : Int32)), .long (((w.2.2.2.2) (a1).toNatClampNeg).2)]))]) F (hE.at hfr hS) hfr (mt_X9_give l G mo cs N (j_1, w.2.1, w.2.2.1, w.2.2.2.1, w.2.2.2.2) (f) (q_3) ((0 : Int32), ((w.2.2.2.2) (a1).toNatClampNeg).2) hk_6 (a2) H.size (lr_startB (hj_1.symm.trans c_2)).2) kv_X9_63 ⟨⟨rfl, rfl⟩, by decide, by decide⟩ rfl hl.1 rfl (Nat.le_of_ble_eq_true rfl) ⟨Nat.le_of_ble_eq_true rfl, Nat.le_of_ble_eq_true rfl⟩ (va_recv hE.1 hP (ci := 5) (q0 := 0) rfl rfl) ⟨hIT, hJ_6⟩ hP hD hS hA [0, 1] [2] rfl rfl (by decide) (by decide) (by decide) dc_X9_size_36 ?_
    rintro v9 ⟨w_7, f_7⟩ H locs ⟨rfl, hw_7⟩ hP hD hS hIT9 hz hk9
    have hw_7 : w_7 = (fn_X9_give (a2) ((0 : Int32), ((w.2.2.2.2) (a1).toNatClampNeg).2) (j_1, w.2.1, w.2.2.1, w.2.2.2.1, w.2.2.2.2)).2 := hw_7
    try rw [← hw_7] at hw
    have hP : va_P G.1 kcl [(q_3, .inr (4, [.int ((0 : Int32)), .long (((w.2.2.2.2) (a1).toNatClampNeg).2)])), (mo, .inr (5, [.int ((w_7).1), .ref cs, .int ((w_7).2.1), .int ((w_7).2.2.1), .int ((w_7).2.2.2.1)])), (cs, .inl (G.2.1 3, 6, .inr (.inr (.inr (.inr (f_7))))))] H := hP
    have hD : va_D A [(q_3, .inr (4, [.int ((0 : Int32)), .long (((w.2.2.2.2) (a1).toNatClampNeg).2)])), (mo, .inr (5, [.int ((w_7).1), .ref cs, .int ((w_7).2.1), .int ((w_7).2.2.1), .int ((w_7).2.2.2.1)])), (cs, .inl (G.2.1 3, 6, .inr (.inr (.inr (.inr (f_7))))))] := hD
    have hI_4 := hI_4.keep (hk9 _ hI_4.low (ky_nwc ho_4 hI_4.low))
    have hIT : ky_IT G mo cs N f_7 ((w_7).2.2.2.2) H := hIT9
    refine W.widen (k := 1) (n := 2) (Nat.le_refl _) (Nat.le_refl _) ?_
    have hP9 : va_P G.1 kcl (ky_WM G mo cs ((w_7)) (f_7)) H := hP.sub [1, 2] rfl
    have hD9 : va_D A (ky_WM G mo cs ((w_7)) (f_7)) := hD.sub [1, 2] (by decide) rfl
    refine W.widen (k := 1) (n := 2) (Nat.le_of_ble_eq_true rfl) (Nat.le_of_ble_eq_true rfl) ?_
    exact W.iret (v := (fn_X9_give (a2) ((0 : Int32), ((w.2.2.2.2) (a1).toNatClampNeg).2) (j_1, w.2.1, w.2.2.1, w.2.2.2.1, w.2.2.2.2)).1) hx hb hr (fun t ht hW => ⟨by rw [ht]; exact ky_endM (fun z => some (.int z)) ((fn_X9_give (a2) ((0 : Int32), ((w.2.2.2.2) (a1).toNatClampNeg).2) (j_1, w.2.1, w.2.2.1, w.2.2.2.1, w.2.2.2.2)).1) hw hP9 hD9 (hIT), hS.F ht⟩) hS.2.2 dc_X9_size_39
  · have hw := hw.trans (if_neg c_2)
    refine lv_iconst (v := 0) hx hb dc_X9_size_13 (by decide) ?_
    refine lv_goto (tgt := 39) hx hb dc_X9_size_14 (by decide) ?_
    have hP9 : va_P G.1 kcl (ky_WM G mo cs ((j_1, w.2.1, w.2.2.1, w.2.2.2.1, w.2.2.2.2)) (f)) H := hP.sub [0, 1] rfl
    have hD9 : va_D A (ky_WM G mo cs ((j_1, w.2.1, w.2.2.1, w.2.2.2.1, w.2.2.2.2)) (f)) := hD.sub [0, 1] (by decide) rfl
    refine W.widen (k := 1) (n := 2) (Nat.le_of_ble_eq_true rfl) (Nat.le_of_ble_eq_true rfl) ?_
    exact W.iret (v := (0 : Int32)) hx hb hr (fun t ht hW => ⟨by rw [ht]; exact ky_endM (fun z => some (.int z)) ((0 : Int32)) hw hP9 hD9 (hIT), hS.F ht⟩) hS.2.2 dc_X9_size_39
