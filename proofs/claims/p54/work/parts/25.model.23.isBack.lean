def fn_X9_isBack (a1 : Int32) (a2 : Int32)  (w : ky_MV) : Int32 × ky_MV :=
  if (jst (fn_X9_isNo (a1))) = (0 : Int32) then (if (fn_X9_isOf (a2) ((-2200 : Int32)) ((2200 : Int32))) = (0 : Int32) then (if (jrr (jrt ((1 : Int32)) ((2 : Int32)) (jst (fn_X9_isNo (a1))))) = (0 : Int32) then (if (fn_X8_isSame (fn_X8_times ((-(a2)).toInt64) (fn_X8_times ((a2).toInt64) ((w.2.2.2.2) (a1).toNatClampNeg))) ((w.2.2.2.2) (a1).toNatClampNeg)) = (0 : Int32) then (((0 : Int32), (jrt ((1 : Int32)) ((2 : Int32)) (jst (fn_X9_isNo (a1))), w.2.1, w.2.2.1, w.2.2.2.1, w.2.2.2.2))) else (((1 : Int32), (jrt ((1 : Int32)) ((2 : Int32)) (jst (fn_X9_isNo (a1))), w.2.1, w.2.2.1, w.2.2.2.1, w.2.2.2.2)))) else (((0 : Int32), (jrt ((1 : Int32)) ((2 : Int32)) (jst (fn_X9_isNo (a1))), w.2.1, w.2.2.1, w.2.2.2.1, w.2.2.2.2)))) else (if (jrr (jrt ((0 : Int32)) ((2 : Int32)) (jst (fn_X9_isNo (a1))))) = (0 : Int32) then (if (fn_X8_isSame (fn_X8_times ((-(a2)).toInt64) (fn_X8_times ((a2).toInt64) ((w.2.2.2.2) (a1).toNatClampNeg))) ((w.2.2.2.2) (a1).toNatClampNeg)) = (0 : Int32) then (((0 : Int32), (jrt ((0 : Int32)) ((2 : Int32)) (jst (fn_X9_isNo (a1))), w.2.1, w.2.2.1, w.2.2.2.1, w.2.2.2.2))) else (((1 : Int32), (jrt ((0 : Int32)) ((2 : Int32)) (jst (fn_X9_isNo (a1))), w.2.1, w.2.2.1, w.2.2.2.1, w.2.2.2.2)))) else (((0 : Int32), (jrt ((0 : Int32)) ((2 : Int32)) (jst (fn_X9_isNo (a1))), w.2.1, w.2.2.1, w.2.2.2.1, w.2.2.2.2))))) else (((0 : Int32), (jst (fn_X9_isNo (a1)), w.2.1, w.2.2.1, w.2.2.2.1, w.2.2.2.2)))
def fk_X9_isBack (a1 : Int32) (a2 : Int32)  (w : ky_MV) : Prop :=
  ((((jst (fn_X9_isNo (a1))) = (0 : Int32)) → ((((fn_X9_isOf (a2) ((-2200 : Int32)) ((2200 : Int32))) = (0 : Int32)) → ((((jrr (jrt ((1 : Int32)) ((2 : Int32)) (jst (fn_X9_isNo (a1))))) = (0 : Int32)) → ((fk_X8_times ((a2).toInt64) ((w.2.2.2.2) (a1).toNatClampNeg)) ∧ ((fk_X8_times ((-(a2)).toInt64) (fn_X8_times ((a2).toInt64) ((w.2.2.2.2) (a1).toNatClampNeg))) ∧ ((((fn_X8_isSame (fn_X8_times ((-(a2)).toInt64) (fn_X8_times ((a2).toInt64) ((w.2.2.2.2) (a1).toNatClampNeg))) ((w.2.2.2.2) (a1).toNatClampNeg)) = (0 : Int32)) → (True)) ∧ (¬ ((fn_X8_isSame (fn_X8_times ((-(a2)).toInt64) (fn_X8_times ((a2).toInt64) ((w.2.2.2.2) (a1).toNatClampNeg))) ((w.2.2.2.2) (a1).toNatClampNeg)) = (0 : Int32)) → (True)))))) ∧ (¬ ((jrr (jrt ((1 : Int32)) ((2 : Int32)) (jst (fn_X9_isNo (a1))))) = (0 : Int32)) → (True)))) ∧ (¬ ((fn_X9_isOf (a2) ((-2200 : Int32)) ((2200 : Int32))) = (0 : Int32)) → ((((jrr (jrt ((0 : Int32)) ((2 : Int32)) (jst (fn_X9_isNo (a1))))) = (0 : Int32)) → ((fk_X8_times ((a2).toInt64) ((w.2.2.2.2) (a1).toNatClampNeg)) ∧ ((fk_X8_times ((-(a2)).toInt64) (fn_X8_times ((a2).toInt64) ((w.2.2.2.2) (a1).toNatClampNeg))) ∧ ((((fn_X8_isSame (fn_X8_times ((-(a2)).toInt64) (fn_X8_times ((a2).toInt64) ((w.2.2.2.2) (a1).toNatClampNeg))) ((w.2.2.2.2) (a1).toNatClampNeg)) = (0 : Int32)) → (True)) ∧ (¬ ((fn_X8_isSame (fn_X8_times ((-(a2)).toInt64) (fn_X8_times ((a2).toInt64) ((w.2.2.2.2) (a1).toNatClampNeg))) ((w.2.2.2.2) (a1).toNatClampNeg)) = (0 : Int32)) → (True)))))) ∧ (¬ ((jrr (jrt ((0 : Int32)) ((2 : Int32)) (jst (fn_X9_isNo (a1))))) = (0 : Int32)) → (True)))))) ∧ (¬ ((jst (fn_X9_isNo (a1))) = (0 : Int32)) → (True))) ∧ True
set_option linter.constructorNameAsVariable false in
set_option maxHeartbeats 4000000 in
set_option maxRecDepth 100000 in
theorem mt_X9_isBack (l : Launch) (G : ky_G) (mo cs : Nat) (N : Nat → Prop) (w : ky_MV) (f : Nat → Option Nat)    (a1 : Int32) (a2 : Int32) (sz : Nat) (hk : fk_X9_isBack a1 a2 w) : Met l my_X9_isBack (.code my_X9_isBack prog_10_method_70_code 3 (some .boolean) :: ky_B) { frames := 3, cells := 2, slots := 4, locals := 62 } (ky_P G [.ref mo, .int (a1), .int (a2)] (ky_WM G mo cs w f) sz (fun H => ky_IT G mo cs N f w.2.2.2.2 H)) (ky_Q (S := ky_MV × (Nat → Option Nat)) G (va_A (ky_WM G mo cs w f) sz) (fun v u => v = some (.int (fn_X9_isBack a1 a2 w).1) ∧ u.1 = (fn_X9_isBack a1 a2 w).2) (fun u => ky_WM G mo cs u.1 u.2) (fun u H => ky_IT G mo cs N u.2 u.1.2.2.2.2 H)) 2 4 (va_A (ky_WM G mo cs w f) sz) := by
  refine ky_start (by decide) (Nat.le_of_ble_eq_true rfl) (fun p e s m below meth c F hE A hAe hsz hA hfr hP hD hS hX ls hl => ?_)
  obtain ⟨hx, hb, hml, hown, hr, hlocks, hts⟩ := id F
  have hIT0 := hX
  have hIT := hIT0
  have hl : lv_has ls 3 [(0, .ref mo), (1, .int (a1)), (2, .int (a2))] := hl
  have hP : va_P G.1 kcl [(mo, .inr (5, [.int (w.1), .ref cs, .int (w.2.1), .int (w.2.2.1), .int (w.2.2.2.1)])), (cs, .inl (G.2.1 3, 6, .inr (.inr (.inr (.inr (f))))))] s.heap := hP
  have hD : va_D A [(mo, .inr (5, [.int (w.1), .ref cs, .int (w.2.1), .int (w.2.2.1), .int (w.2.2.2.1)])), (cs, .inl (G.2.1 3, 6, .inr (.inr (.inr (.inr (f))))))] := hD
  have hw : fn_X9_isBack a1 a2 w = _ := fn_X9_isBack.eq_1 a1 a2 w
  have hk : (((jst (fn_X9_isNo (a1))) = (0 : Int32)) → ((((fn_X9_isOf (a2) ((-2200 : Int32)) ((2200 : Int32))) = (0 : Int32)) → ((((jrr (jrt ((1 : Int32)) ((2 : Int32)) (jst (fn_X9_isNo (a1))))) = (0 : Int32)) → ((fk_X8_times ((a2).toInt64) ((w.2.2.2.2) (a1).toNatClampNeg)) ∧ ((fk_X8_times ((-(a2)).toInt64) (fn_X8_times ((a2).toInt64) ((w.2.2.2.2) (a1).toNatClampNeg))) ∧ ((((fn_X8_isSame (fn_X8_times ((-(a2)).toInt64) (fn_X8_times ((a2).toInt64) ((w.2.2.2.2) (a1).toNatClampNeg))) ((w.2.2.2.2) (a1).toNatClampNeg)) = (0 : Int32)) → (True)) ∧ (¬ ((fn_X8_isSame (fn_X8_times ((-(a2)).toInt64) (fn_X8_times ((a2).toInt64) ((w.2.2.2.2) (a1).toNatClampNeg))) ((w.2.2.2.2) (a1).toNatClampNeg)) = (0 : Int32)) → (True)))))) ∧ (¬ ((jrr (jrt ((1 : Int32)) ((2 : Int32)) (jst (fn_X9_isNo (a1))))) = (0 : Int32)) → (True)))) ∧ (¬ ((fn_X9_isOf (a2) ((-2200 : Int32)) ((2200 : Int32))) = (0 : Int32)) → ((((jrr (jrt ((0 : Int32)) ((2 : Int32)) (jst (fn_X9_isNo (a1))))) = (0 : Int32)) → ((fk_X8_times ((a2).toInt64) ((w.2.2.2.2) (a1).toNatClampNeg)) ∧ ((fk_X8_times ((-(a2)).toInt64) (fn_X8_times ((a2).toInt64) ((w.2.2.2.2) (a1).toNatClampNeg))) ∧ ((((fn_X8_isSame (fn_X8_times ((-(a2)).toInt64) (fn_X8_times ((a2).toInt64) ((w.2.2.2.2) (a1).toNatClampNeg))) ((w.2.2.2.2) (a1).toNatClampNeg)) = (0 : Int32)) → (True)) ∧ (¬ ((fn_X8_isSame (fn_X8_times ((-(a2)).toInt64) (fn_X8_times ((a2).toInt64) ((w.2.2.2.2) (a1).toNatClampNeg))) ((w.2.2.2.2) (a1).toNatClampNeg)) = (0 : Int32)) → (True)))))) ∧ (¬ ((jrr (jrt ((0 : Int32)) ((2 : Int32)) (jst (fn_X9_isNo (a1))))) = (0 : Int32)) → (True)))))) ∧ (¬ ((jst (fn_X9_isNo (a1))) = (0 : Int32)) → (True)) := hk.1
  refine lv_aload_n hx hb dc_X9_isBack_0 rfl (lv_at hl 0 rfl) ?_
  refine lv_iload_n hx hb dc_X9_isBack_1 rfl (lv_at hl 1 rfl) ?_
  refine ky_cS0 (As := [.int (a1)]) F (mt_X9_isNo l (a1)) ks_X9_51 ⟨⟨rfl, rfl⟩, by decide, by decide⟩ rfl hl.1 rfl (Nat.le_of_ble_eq_true rfl) ⟨Nat.le_of_ble_eq_true rfl, Nat.le_of_ble_eq_true rfl⟩ dc_X9_isBack_2 ?_
  refine ky_cVh (As := [.int (fn_X9_isNo (a1))]) (wr := []) F (hE.at hfr hS) hfr (mt_X9_startJ l G (mo) (cs) ((w.1, w.2.1, w.2.2.1, w.2.2.2.1)) (f) (fn_X9_isNo (a1)) s.heap.size ) kv_X9_55 ⟨⟨rfl, rfl⟩, by decide, by decide⟩ rfl hl.1 rfl (Nat.le_of_ble_eq_true rfl) ⟨Nat.le_of_ble_eq_true rfl, Nat.le_of_ble_eq_true rfl⟩ (va_recv hE.1 hP (ci := 5) (q0 := 0) rfl rfl) trivial hP hD hS hA [0, 1] [] rfl rfl (by decide) (by decide) (by decide) dc_X9_isBack_5 ?_
  rintro v9 u9 H locs ⟨rfl, rfl⟩ hP hD hS - hz hk9
  obtain ⟨j_1, hj_1⟩ : ∃ j9, j9 = jst (fn_X9_isNo (a1)) := ⟨_, rfl⟩
  rw [← hj_1] at hP hD ⊢
  try rw [← hj_1] at hw
  try rw [← hj_1] at hk
  have hP : va_P G.1 kcl [(mo, .inr (5, [.int (j_1), .ref cs, .int (w.2.1), .int (w.2.2.1), .int (w.2.2.2.1)])), (cs, .inl (G.2.1 3, 6, .inr (.inr (.inr (.inr (f))))))] H := hP
  have hD : va_D A [(mo, .inr (5, [.int (j_1), .ref cs, .int (w.2.1), .int (w.2.2.1), .int (w.2.2.2.1)])), (cs, .inl (G.2.1 3, 6, .inr (.inr (.inr (.inr (f))))))] := hD
  have hIT := hIT0.ro hAe hS
  refine W.widen (k := 0) (n := 0) (Nat.le_refl _) (Nat.le_refl _) ?_
  refine lv_if_ne (tgt := 70) hx hb dc_X9_isBack_8 (by decide) (fun c_2 => ?_) (fun c_2 => ?_)
  · have hw := hw.trans (if_neg c_2)
    have hk := hk.2 c_2
    refine lv_iconst (v := 0) hx hb dc_X9_isBack_70 (by decide) ?_
    have hP9 : va_P G.1 kcl (ky_WM G mo cs ((j_1, w.2.1, w.2.2.1, w.2.2.2.1, w.2.2.2.2)) (f)) H := hP.sub [0, 1] rfl
    have hD9 : va_D A (ky_WM G mo cs ((j_1, w.2.1, w.2.2.1, w.2.2.2.1, w.2.2.2.2)) (f)) := hD.sub [0, 1] (by decide) rfl
    refine W.widen (k := 2) (n := 4) (Nat.le_of_ble_eq_true rfl) (Nat.le_of_ble_eq_true rfl) ?_
    exact W.zret (v := (0 : Int32)) hx hb hr (by decide) (fun t ht hW => ⟨by rw [ht]; exact ky_endM (fun z => some (.int z)) ((0 : Int32)) hw hP9 hD9 (hIT), hS.F ht⟩) hS.2.2 dc_X9_isBack_71
  · have hw := hw.trans (if_pos c_2)
    have hk := hk.1 c_2
    refine lv_aload_n hx hb dc_X9_isBack_11 rfl (lv_at hl 0 rfl) ?_
    refine lv_iload_n hx hb dc_X9_isBack_12 rfl (lv_at hl 2 rfl) ?_
    refine lv_sipush (v := (-2200)) hx hb dc_X9_isBack_13 (by decide) ?_
    refine lv_sipush (v := 2200) hx hb dc_X9_isBack_16 (by decide) ?_
    refine ky_cS0 (As := [.int (a2), .int ((-2200 : Int32)), .int ((2200 : Int32))]) F (mt_X9_isOf l (a2) ((-2200 : Int32)) ((2200 : Int32))) ks_X9_40 ⟨⟨rfl, rfl⟩, by decide, by decide⟩ rfl hl.1 rfl (Nat.le_of_ble_eq_true rfl) ⟨Nat.le_of_ble_eq_true rfl, Nat.le_of_ble_eq_true rfl⟩ dc_X9_isBack_19 ?_
    refine lv_if_ne (tgt := 29) hx hb dc_X9_isBack_22 (by decide) (fun c_3 => ?_) (fun c_3 => ?_)
    · have hw := hw.trans (if_neg c_3)
      have hk := hk.2 c_3
      refine lv_iconst (v := 0) hx hb dc_X9_isBack_29 (by decide) ?_
      refine lv_iconst (v := 2) hx hb dc_X9_isBack_30 (by decide) ?_
      refine ky_cVh (As := [.int ((0 : Int32)), .int ((2 : Int32))]) (wr := []) F (hE.at hfr hS) hfr (mt_X9_refuseJ l G (mo) (cs) ((j_1, w.2.1, w.2.2.1, w.2.2.2.1)) (f) ((0 : Int32)) ((2 : Int32)) H.size ) kv_X9_36 ⟨⟨rfl, rfl⟩, by decide, by decide⟩ rfl hl.1 rfl (Nat.le_of_ble_eq_true rfl) ⟨Nat.le_of_ble_eq_true rfl, Nat.le_of_ble_eq_true rfl⟩ (va_recv hE.1 hP (ci := 5) (q0 := 0) rfl rfl) trivial hP hD hS hA [0, 1] [] rfl rfl (by decide) (by decide) (by decide) dc_X9_isBack_31 ?_
      rintro v9 u9 H locs ⟨rfl, rfl⟩ hP hD hS - hz hk9
      obtain ⟨j_5, hj_5⟩ : ∃ j9, j9 = jrt ((0 : Int32)) ((2 : Int32)) (j_1) := ⟨_, rfl⟩
      rw [← hj_5] at hP hD ⊢
      try rw [← hj_5] at hw
      try rw [← hj_5] at hk
      have hP : va_P G.1 kcl [(mo, .inr (5, [.int (j_5), .ref cs, .int (w.2.1), .int (w.2.2.1), .int (w.2.2.2.1)])), (cs, .inl (G.2.1 3, 6, .inr (.inr (.inr (.inr (f))))))] H := hP
      have hD : va_D A [(mo, .inr (5, [.int (j_5), .ref cs, .int (w.2.1), .int (w.2.2.1), .int (w.2.2.2.1)])), (cs, .inl (G.2.1 3, 6, .inr (.inr (.inr (.inr (f))))))] := hD
      have hIT := hIT0.ro hAe hS
      refine W.widen (k := 0) (n := 0) (Nat.le_refl _) (Nat.le_refl _) ?_
      refine lv_if_ne (tgt := 70) hx hb dc_X9_isBack_34 (by decide) (fun c_6 => ?_) (fun c_6 => ?_)
      · have hw := hw.trans (if_neg c_6)
        have hk := hk.2 c_6
        refine lv_iconst (v := 0) hx hb dc_X9_isBack_70 (by decide) ?_
        have hP9 : va_P G.1 kcl (ky_WM G mo cs ((j_5, w.2.1, w.2.2.1, w.2.2.2.1, w.2.2.2.2)) (f)) H := hP.sub [0, 1] rfl
        have hD9 : va_D A (ky_WM G mo cs ((j_5, w.2.1, w.2.2.1, w.2.2.2.1, w.2.2.2.2)) (f)) := hD.sub [0, 1] (by decide) rfl
        refine W.widen (k := 2) (n := 4) (Nat.le_of_ble_eq_true rfl) (Nat.le_of_ble_eq_true rfl) ?_
        exact W.zret (v := (0 : Int32)) hx hb hr (by decide) (fun t ht hW => ⟨by rw [ht]; exact ky_endM (fun z => some (.int z)) ((0 : Int32)) hw hP9 hD9 (hIT), hS.F ht⟩) hS.2.2 dc_X9_isBack_71
      · have hw := hw.trans (if_pos c_6)
        have hk := hk.1 c_6
        refine lv_aload_n hx hb dc_X9_isBack_37 rfl (lv_at hl 0 rfl) ?_
        refine va_get (D := G.1) (ci := 5) (v := .ref cs) (C := RX9) (T := TX9) (N := 5) hx hb hts ki_X9 hown hE.1 hP 0 rfl rfl 1 (by decide) (hts _ kw_6_20) (fun _ h9 => h9) rfl dc_X9_isBack_38 ?_
        refine lv_iload_n hx hb dc_X9_isBack_41 rfl (lv_at hl 1 rfl) ?_
        refine va_aldq hx hb hE.1 hP 1 3 rfl rfl (lr_start (hj_1.symm.trans c_2)) dc_X9_isBack_42 ?_
        obtain ⟨b_7, hb_7, hI_7, ho_7⟩ := hIT.2 _ (ky_i6 (lr_start (hj_1.symm.trans c_2)))
        rw [ky_rf hb_7]
        have hX_7 : ky_It G b_7 ((w.2.2.2.2) (a1).toNatClampNeg) s.heap := by obtain ⟨b9, e9, i9, -⟩ := hIT0.2 _ (ky_i6 (lr_start (hj_1.symm.trans c_2))); have z9 : b9 = b_7 := Option.some.inj (e9.symm.trans hb_7); exact z9 ▸ i9
        refine lv_iload_n hx hb dc_X9_isBack_43 rfl (lv_at hl 2 rfl) ?_
        refine lv_i2l (v := (a2).toInt64) hx hb dc_X9_isBack_44 rfl ?_
        have hm_8 := (hP 0 _ rfl).lt
        have hc_8 := (hP 1 _ rfl).lt
        have hN_8 := hIT.1
        obtain ⟨hq_8, hk⟩ := hk
        have hs_9 := hS.1
        refine ky_cVh (As := [.long ((a2).toInt64)]) (wr := [(mo, .inr (5, [.int (j_5), .ref cs, .int (w.2.1), .int (w.2.2.1), .int (w.2.2.2.1)])), (cs, .inl (G.2.1 3, 6, .inr (.inr (.inr (.inr (f))))))]) F (hE.at hfr hS) hfr (mt_X8_times l G (b_7) ((w.2.2.2.2) (a1).toNatClampNeg) ((a2).toInt64) H.size hq_8) kv_X9_140 ⟨⟨rfl, rfl⟩, by decide, by decide⟩ rfl hl.1 rfl (Nat.le_of_ble_eq_true rfl) ⟨Nat.le_of_ble_eq_true rfl, Nat.le_of_ble_eq_true rfl⟩ (va_recv hE.1 hI_7 (ci := 4) (q0 := 0) rfl rfl) hI_7 hP hD hS hA [] [0, 1] rfl rfl (by decide) (by decide) (by decide) dc_X9_isBack_45 ?_
        rintro v9 q_9 H locs rfl hP hD hS ⟨hI_9, hd_9⟩ hz hk9
        have hP : va_P G.1 kcl [(mo, .inr (5, [.int (j_5), .ref cs, .int (w.2.1), .int (w.2.2.1), .int (w.2.2.2.1)])), (cs, .inl (G.2.1 3, 6, .inr (.inr (.inr (.inr (f))))))] H := hP
        have hD : va_D A [(mo, .inr (5, [.int (j_5), .ref cs, .int (w.2.1), .int (w.2.2.1), .int (w.2.2.2.1)])), (cs, .inl (G.2.1 3, 6, .inr (.inr (.inr (.inr (f))))))] := hD
        have hI_7 := hI_7.fr hk9
        refine W.widen (k := 1) (n := 2) (Nat.le_refl _) (Nat.le_refl _) ?_
        have hIT := hIT.keep hz (fun q9 ho9 hl9 => hk9 q9 hl9 (ky_nemp hl9))
        have hk_9 := ho_7.or hm_8 hc_8 hN_8 hd_9
        refine lv_iload_n hx hb dc_X9_isBack_48 rfl (lv_at hl 2 rfl) ?_
        refine lv_ineg hx hb dc_X9_isBack_49 ?_
        refine lv_i2l (v := (-(a2)).toInt64) hx hb dc_X9_isBack_50 rfl ?_
        have hm_10 := (hP 0 _ rfl).lt
        have hc_10 := (hP 1 _ rfl).lt
        have hN_10 := hIT.1
        obtain ⟨hq_10, hk⟩ := hk
        have hs_11 := hS.1
        refine ky_cVh (As := [.long ((-(a2)).toInt64)]) (wr := [(mo, .inr (5, [.int (j_5), .ref cs, .int (w.2.1), .int (w.2.2.1), .int (w.2.2.2.1)])), (cs, .inl (G.2.1 3, 6, .inr (.inr (.inr (.inr (f))))))]) F (hE.at hfr hS) hfr (mt_X8_times l G (q_9) (fn_X8_times ((a2).toInt64) ((w.2.2.2.2) (a1).toNatClampNeg)) ((-(a2)).toInt64) H.size hq_10) kv_X9_140 ⟨⟨rfl, rfl⟩, by decide, by decide⟩ rfl hl.1 rfl (Nat.le_of_ble_eq_true rfl) ⟨Nat.le_of_ble_eq_true rfl, Nat.le_of_ble_eq_true rfl⟩ (va_recv hE.1 hI_9 (ci := 4) (q0 := 0) rfl rfl) hI_9 hP hD hS hA [] [0, 1] rfl rfl (by decide) (by decide) (by decide) dc_X9_isBack_51 ?_
        rintro v9 q_11 H locs rfl hP hD hS ⟨hI_11, hd_11⟩ hz hk9
        have hP : va_P G.1 kcl [(mo, .inr (5, [.int (j_5), .ref cs, .int (w.2.1), .int (w.2.2.1), .int (w.2.2.2.1)])), (cs, .inl (G.2.1 3, 6, .inr (.inr (.inr (.inr (f))))))] H := hP
        have hD : va_D A [(mo, .inr (5, [.int (j_5), .ref cs, .int (w.2.1), .int (w.2.2.1), .int (w.2.2.2.1)])), (cs, .inl (G.2.1 3, 6, .inr (.inr (.inr (.inr (f))))))] := hD
        have hI_7 := hI_7.fr hk9
        have hI_9 := hI_9.fr hk9
        refine W.widen (k := 2) (n := 4) (Nat.le_refl _) (Nat.le_refl _) ?_
        have hIT := hIT.keep hz (fun q9 ho9 hl9 => hk9 q9 hl9 (ky_nemp hl9))
        have hk_11 := hk_9.or hm_10 hc_10 hN_10 hd_11
        refine lv_aload_n hx hb dc_X9_isBack_54 rfl (lv_at hl 0 rfl) ?_
        refine va_get (D := G.1) (ci := 5) (v := .ref cs) (C := RX9) (T := TX9) (N := 5) hx hb hts ki_X9 hown hE.1 hP 0 rfl rfl 1 (by decide) (hts _ kw_6_20) (fun _ h9 => h9) rfl dc_X9_isBack_55 ?_
        refine lv_iload_n hx hb dc_X9_isBack_58 rfl (lv_at hl 1 rfl) ?_
        refine va_aldq hx hb hE.1 hP 1 3 rfl rfl (lr_start (hj_1.symm.trans c_2)) dc_X9_isBack_59 ?_
        obtain ⟨b_12, hb_12, hI_12, ho_12⟩ := hIT.2 _ (ky_i6 (lr_start (hj_1.symm.trans c_2)))
        rw [ky_rf hb_12]
        have hX_12 : ky_It G b_12 ((w.2.2.2.2) (a1).toNatClampNeg) s.heap := by obtain ⟨b9, e9, i9, -⟩ := hIT0.2 _ (ky_i6 (lr_start (hj_1.symm.trans c_2))); have z9 : b9 = b_12 := Option.some.inj (e9.symm.trans hb_12); exact z9 ▸ i9
        refine ky_cV1 (As := [.ref b_12]) F (hE.at hfr hS) (mt_X8_isSame l G (q_11) (b_12) ((fn_X8_times ((-(a2)).toInt64) (fn_X8_times ((a2).toInt64) ((w.2.2.2.2) (a1).toNatClampNeg)))) (((w.2.2.2.2) (a1).toNatClampNeg)) ) kv_X9_235 ⟨⟨rfl, rfl⟩, by decide, by decide⟩ rfl hl.1 rfl (Nat.le_of_ble_eq_true rfl) ⟨Nat.le_of_ble_eq_true rfl, Nat.le_of_ble_eq_true rfl⟩ (va_recv hE.1 hI_11 (ci := 4) (q0 := 0) rfl rfl) ⟨hI_11, hI_12⟩ dc_X9_isBack_60 ?_
        refine lv_if_eq (tgt := 70) hx hb dc_X9_isBack_63 (by decide) (fun c_13 => ?_) (fun c_13 => ?_)
        · have hw := hw.trans (if_pos c_13)
          have hk := hk.1 c_13
          refine lv_iconst (v := 0) hx hb dc_X9_isBack_70 (by decide) ?_
          have hP9 : va_P G.1 kcl (ky_WM G mo cs ((j_5, w.2.1, w.2.2.1, w.2.2.2.1, w.2.2.2.2)) (f)) H := hP.sub [0, 1] rfl
          have hD9 : va_D A (ky_WM G mo cs ((j_5, w.2.1, w.2.2.1, w.2.2.2.1, w.2.2.2.2)) (f)) := hD.sub [0, 1] (by decide) rfl
          refine W.widen (k := 2) (n := 4) (Nat.le_of_ble_eq_true rfl) (Nat.le_of_ble_eq_true rfl) ?_
          exact W.zret (v := (0 : Int32)) hx hb hr (by decide) (fun t ht hW => ⟨by rw [ht]; exact ky_endM (fun z => some (.int z)) ((0 : Int32)) hw hP9 hD9 (hIT), hS.F ht⟩) hS.2.2 dc_X9_isBack_71
        · have hw := hw.trans (if_neg c_13)
          have hk := hk.2 c_13
          refine lv_iconst (v := 1) hx hb dc_X9_isBack_66 (by decide) ?_
          refine lv_goto (tgt := 71) hx hb dc_X9_isBack_67 (by decide) ?_
          have hP9 : va_P G.1 kcl (ky_WM G mo cs ((j_5, w.2.1, w.2.2.1, w.2.2.2.1, w.2.2.2.2)) (f)) H := hP.sub [0, 1] rfl
          have hD9 : va_D A (ky_WM G mo cs ((j_5, w.2.1, w.2.2.1, w.2.2.2.1, w.2.2.2.2)) (f)) := hD.sub [0, 1] (by decide) rfl
          refine W.widen (k := 2) (n := 4) (Nat.le_of_ble_eq_true rfl) (Nat.le_of_ble_eq_true rfl) ?_
          exact W.zret (v := (1 : Int32)) hx hb hr (by decide) (fun t ht hW => ⟨by rw [ht]; exact ky_endM (fun z => some (.int z)) ((1 : Int32)) hw hP9 hD9 (hIT), hS.F ht⟩) hS.2.2 dc_X9_isBack_71
    · have hw := hw.trans (if_pos c_3)
      have hk := hk.1 c_3
      refine lv_iconst (v := 1) hx hb dc_X9_isBack_25 (by decide) ?_
      refine lv_goto (tgt := 30) hx hb dc_X9_isBack_26 (by decide) ?_
      refine lv_iconst (v := 2) hx hb dc_X9_isBack_30 (by decide) ?_
      refine ky_cVh (As := [.int ((1 : Int32)), .int ((2 : Int32))]) (wr := []) F (hE.at hfr hS) hfr (mt_X9_refuseJ l G (mo) (cs) ((j_1, w.2.1, w.2.2.1, w.2.2.2.1)) (f) ((1 : Int32)) ((2 : Int32)) H.size ) kv_X9_36 ⟨⟨rfl, rfl⟩, by decide, by decide⟩ rfl hl.1 rfl (Nat.le_of_ble_eq_true rfl) ⟨Nat.le_of_ble_eq_true rfl, Nat.le_of_ble_eq_true rfl⟩ (va_recv hE.1 hP (ci := 5) (q0 := 0) rfl rfl) trivial hP hD hS hA [0, 1] [] rfl rfl (by decide) (by decide) (by decide) dc_X9_isBack_31 ?_
      rintro v9 u9 H locs ⟨rfl, rfl⟩ hP hD hS - hz hk9
      obtain ⟨j_5, hj_5⟩ : ∃ j9, j9 = jrt ((1 : Int32)) ((2 : Int32)) (j_1) := ⟨_, rfl⟩
      rw [← hj_5] at hP hD ⊢
      try rw [← hj_5] at hw
      try rw [← hj_5] at hk
      have hP : va_P G.1 kcl [(mo, .inr (5, [.int (j_5), .ref cs, .int (w.2.1), .int (w.2.2.1), .int (w.2.2.2.1)])), (cs, .inl (G.2.1 3, 6, .inr (.inr (.inr (.inr (f))))))] H := hP
      have hD : va_D A [(mo, .inr (5, [.int (j_5), .ref cs, .int (w.2.1), .int (w.2.2.1), .int (w.2.2.2.1)])), (cs, .inl (G.2.1 3, 6, .inr (.inr (.inr (.inr (f))))))] := hD
      have hIT := hIT0.ro hAe hS
      refine W.widen (k := 0) (n := 0) (Nat.le_refl _) (Nat.le_refl _) ?_
      refine lv_if_ne (tgt := 70) hx hb dc_X9_isBack_34 (by decide) (fun c_6 => ?_) (fun c_6 => ?_)
      · have hw := hw.trans (if_neg c_6)
        have hk := hk.2 c_6
        refine lv_iconst (v := 0) hx hb dc_X9_isBack_70 (by decide) ?_
        have hP9 : va_P G.1 kcl (ky_WM G mo cs ((j_5, w.2.1, w.2.2.1, w.2.2.2.1, w.2.2.2.2)) (f)) H := hP.sub [0, 1] rfl
        have hD9 : va_D A (ky_WM G mo cs ((j_5, w.2.1, w.2.2.1, w.2.2.2.1, w.2.2.2.2)) (f)) := hD.sub [0, 1] (by decide) rfl
        refine W.widen (k := 2) (n := 4) (Nat.le_of_ble_eq_true rfl) (Nat.le_of_ble_eq_true rfl) ?_
        exact W.zret (v := (0 : Int32)) hx hb hr (by decide) (fun t ht hW => ⟨by rw [ht]; exact ky_endM (fun z => some (.int z)) ((0 : Int32)) hw hP9 hD9 (hIT), hS.F ht⟩) hS.2.2 dc_X9_isBack_71
      · have hw := hw.trans (if_pos c_6)
        have hk := hk.1 c_6
        refine lv_aload_n hx hb dc_X9_isBack_37 rfl (lv_at hl 0 rfl) ?_
        refine va_get (D := G.1) (ci := 5) (v := .ref cs) (C := RX9) (T := TX9) (N := 5) hx hb hts ki_X9 hown hE.1 hP 0 rfl rfl 1 (by decide) (hts _ kw_6_20) (fun _ h9 => h9) rfl dc_X9_isBack_38 ?_
        refine lv_iload_n hx hb dc_X9_isBack_41 rfl (lv_at hl 1 rfl) ?_
        refine va_aldq hx hb hE.1 hP 1 3 rfl rfl (lr_start (hj_1.symm.trans c_2)) dc_X9_isBack_42 ?_
        obtain ⟨b_7, hb_7, hI_7, ho_7⟩ := hIT.2 _ (ky_i6 (lr_start (hj_1.symm.trans c_2)))
        rw [ky_rf hb_7]
        have hX_7 : ky_It G b_7 ((w.2.2.2.2) (a1).toNatClampNeg) s.heap := by obtain ⟨b9, e9, i9, -⟩ := hIT0.2 _ (ky_i6 (lr_start (hj_1.symm.trans c_2))); have z9 : b9 = b_7 := Option.some.inj (e9.symm.trans hb_7); exact z9 ▸ i9
        refine lv_iload_n hx hb dc_X9_isBack_43 rfl (lv_at hl 2 rfl) ?_
        refine lv_i2l (v := (a2).toInt64) hx hb dc_X9_isBack_44 rfl ?_
        have hm_8 := (hP 0 _ rfl).lt
        have hc_8 := (hP 1 _ rfl).lt
        have hN_8 := hIT.1
        obtain ⟨hq_8, hk⟩ := hk
        have hs_9 := hS.1
        refine ky_cVh (As := [.long ((a2).toInt64)]) (wr := [(mo, .inr (5, [.int (j_5), .ref cs, .int (w.2.1), .int (w.2.2.1), .int (w.2.2.2.1)])), (cs, .inl (G.2.1 3, 6, .inr (.inr (.inr (.inr (f))))))]) F (hE.at hfr hS) hfr (mt_X8_times l G (b_7) ((w.2.2.2.2) (a1).toNatClampNeg) ((a2).toInt64) H.size hq_8) kv_X9_140 ⟨⟨rfl, rfl⟩, by decide, by decide⟩ rfl hl.1 rfl (Nat.le_of_ble_eq_true rfl) ⟨Nat.le_of_ble_eq_true rfl, Nat.le_of_ble_eq_true rfl⟩ (va_recv hE.1 hI_7 (ci := 4) (q0 := 0) rfl rfl) hI_7 hP hD hS hA [] [0, 1] rfl rfl (by decide) (by decide) (by decide) dc_X9_isBack_45 ?_
        rintro v9 q_9 H locs rfl hP hD hS ⟨hI_9, hd_9⟩ hz hk9
        have hP : va_P G.1 kcl [(mo, .inr (5, [.int (j_5), .ref cs, .int (w.2.1), .int (w.2.2.1), .int (w.2.2.2.1)])), (cs, .inl (G.2.1 3, 6, .inr (.inr (.inr (.inr (f))))))] H := hP
        have hD : va_D A [(mo, .inr (5, [.int (j_5), .ref cs, .int (w.2.1), .int (w.2.2.1), .int (w.2.2.2.1)])), (cs, .inl (G.2.1 3, 6, .inr (.inr (.inr (.inr (f))))))] := hD
        have hI_7 := hI_7.fr hk9
        refine W.widen (k := 1) (n := 2) (Nat.le_refl _) (Nat.le_refl _) ?_
        have hIT := hIT.keep hz (fun q9 ho9 hl9 => hk9 q9 hl9 (ky_nemp hl9))
        have hk_9 := ho_7.or hm_8 hc_8 hN_8 hd_9
        refine lv_iload_n hx hb dc_X9_isBack_48 rfl (lv_at hl 2 rfl) ?_
        refine lv_ineg hx hb dc_X9_isBack_49 ?_
        refine lv_i2l (v := (-(a2)).toInt64) hx hb dc_X9_isBack_50 rfl ?_
        have hm_10 := (hP 0 _ rfl).lt
        have hc_10 := (hP 1 _ rfl).lt
        have hN_10 := hIT.1
        obtain ⟨hq_10, hk⟩ := hk
        have hs_11 := hS.1
        refine ky_cVh (As := [.long ((-(a2)).toInt64)]) (wr := [(mo, .inr (5, [.int (j_5), .ref cs, .int (w.2.1), .int (w.2.2.1), .int (w.2.2.2.1)])), (cs, .inl (G.2.1 3, 6, .inr (.inr (.inr (.inr (f))))))]) F (hE.at hfr hS) hfr (mt_X8_times l G (q_9) (fn_X8_times ((a2).toInt64) ((w.2.2.2.2) (a1).toNatClampNeg)) ((-(a2)).toInt64) H.size hq_10) kv_X9_140 ⟨⟨rfl, rfl⟩, by decide, by decide⟩ rfl hl.1 rfl (Nat.le_of_ble_eq_true rfl) ⟨Nat.le_of_ble_eq_true rfl, Nat.le_of_ble_eq_true rfl⟩ (va_recv hE.1 hI_9 (ci := 4) (q0 := 0) rfl rfl) hI_9 hP hD hS hA [] [0, 1] rfl rfl (by decide) (by decide) (by decide) dc_X9_isBack_51 ?_
        rintro v9 q_11 H locs rfl hP hD hS ⟨hI_11, hd_11⟩ hz hk9
        have hP : va_P G.1 kcl [(mo, .inr (5, [.int (j_5), .ref cs, .int (w.2.1), .int (w.2.2.1), .int (w.2.2.2.1)])), (cs, .inl (G.2.1 3, 6, .inr (.inr (.inr (.inr (f))))))] H := hP
        have hD : va_D A [(mo, .inr (5, [.int (j_5), .ref cs, .int (w.2.1), .int (w.2.2.1), .int (w.2.2.2.1)])), (cs, .inl (G.2.1 3, 6, .inr (.inr (.inr (.inr (f))))))] := hD
        have hI_7 := hI_7.fr hk9
        have hI_9 := hI_9.fr hk9
        refine W.widen (k := 2) (n := 4) (Nat.le_refl _) (Nat.le_refl _) ?_
        have hIT := hIT.keep hz (fun q9 ho9 hl9 => hk9 q9 hl9 (ky_nemp hl9))
        have hk_11 := hk_9.or hm_10 hc_10 hN_10 hd_11
        refine lv_aload_n hx hb dc_X9_isBack_54 rfl (lv_at hl 0 rfl) ?_
        refine va_get (D := G.1) (ci := 5) (v := .ref cs) (C := RX9) (T := TX9) (N := 5) hx hb hts ki_X9 hown hE.1 hP 0 rfl rfl 1 (by decide) (hts _ kw_6_20) (fun _ h9 => h9) rfl dc_X9_isBack_55 ?_
        refine lv_iload_n hx hb dc_X9_isBack_58 rfl (lv_at hl 1 rfl) ?_
        refine va_aldq hx hb hE.1 hP 1 3 rfl rfl (lr_start (hj_1.symm.trans c_2)) dc_X9_isBack_59 ?_
        obtain ⟨b_12, hb_12, hI_12, ho_12⟩ := hIT.2 _ (ky_i6 (lr_start (hj_1.symm.trans c_2)))
        rw [ky_rf hb_12]
        have hX_12 : ky_It G b_12 ((w.2.2.2.2) (a1).toNatClampNeg) s.heap := by obtain ⟨b9, e9, i9, -⟩ := hIT0.2 _ (ky_i6 (lr_start (hj_1.symm.trans c_2))); have z9 : b9 = b_12 := Option.some.inj (e9.symm.trans hb_12); exact z9 ▸ i9
        refine ky_cV1 (As := [.ref b_12]) F (hE.at hfr hS) (mt_X8_isSame l G (q_11) (b_12) ((fn_X8_times ((-(a2)).toInt64) (fn_X8_times ((a2).toInt64) ((w.2.2.2.2) (a1).toNatClampNeg)))) (((w.2.2.2.2) (a1).toNatClampNeg)) ) kv_X9_235 ⟨⟨rfl, rfl⟩, by decide, by decide⟩ rfl hl.1 rfl (Nat.le_of_ble_eq_true rfl) ⟨Nat.le_of_ble_eq_true rfl, Nat.le_of_ble_eq_true rfl⟩ (va_recv hE.1 hI_11 (ci := 4) (q0 := 0) rfl rfl) ⟨hI_11, hI_12⟩ dc_X9_isBack_60 ?_
        refine lv_if_eq (tgt := 70) hx hb dc_X9_isBack_63 (by decide) (fun c_13 => ?_) (fun c_13 => ?_)
        · have hw := hw.trans (if_pos c_13)
          have hk := hk.1 c_13
          refine lv_iconst (v := 0) hx hb dc_X9_isBack_70 (by decide) ?_
          have hP9 : va_P G.1 kcl (ky_WM G mo cs ((j_5, w.2.1, w.2.2.1, w.2.2.2.1, w.2.2.2.2)) (f)) H := hP.sub [0, 1] rfl
          have hD9 : va_D A (ky_WM G mo cs ((j_5, w.2.1, w.2.2.1, w.2.2.2.1, w.2.2.2.2)) (f)) := hD.sub [0, 1] (by decide) rfl
          refine W.widen (k := 2) (n := 4) (Nat.le_of_ble_eq_true rfl) (Nat.le_of_ble_eq_true rfl) ?_
          exact W.zret (v := (0 : Int32)) hx hb hr (by decide) (fun t ht hW => ⟨by rw [ht]; exact ky_endM (fun z => some (.int z)) ((0 : Int32)) hw hP9 hD9 (hIT), hS.F ht⟩) hS.2.2 dc_X9_isBack_71
        · have hw := hw.trans (if_neg c_13)
          have hk := hk.2 c_13
          refine lv_iconst (v := 1) hx hb dc_X9_isBack_66 (by decide) ?_
          refine lv_goto (tgt := 71) hx hb dc_X9_isBack_67 (by decide) ?_
          have hP9 : va_P G.1 kcl (ky_WM G mo cs ((j_5, w.2.1, w.2.2.1, w.2.2.2.1, w.2.2.2.2)) (f)) H := hP.sub [0, 1] rfl
          have hD9 : va_D A (ky_WM G mo cs ((j_5, w.2.1, w.2.2.1, w.2.2.2.1, w.2.2.2.2)) (f)) := hD.sub [0, 1] (by decide) rfl
          refine W.widen (k := 2) (n := 4) (Nat.le_of_ble_eq_true rfl) (Nat.le_of_ble_eq_true rfl) ?_
          exact W.zret (v := (1 : Int32)) hx hb hr (by decide) (fun t ht hW => ⟨by rw [ht]; exact ky_endM (fun z => some (.int z)) ((1 : Int32)) hw hP9 hD9 (hIT), hS.F ht⟩) hS.2.2 dc_X9_isBack_71
