def fn_X9_house (a1 : Int32)  (w : ky_MV) : Int32 × ky_MV :=
  if (fn_X9_isOf (a1) ((0 : Int32)) ((3 : Int32))) = (0 : Int32) then (if (jrr (jrt ((1 : Int32)) ((1 : Int32)) (jst ((0 : Int32))))) = (0 : Int32) then (((fn_X9_houseNow (a1) (jrt ((1 : Int32)) ((1 : Int32)) (jst ((0 : Int32))), w.2.1, w.2.2.1, w.2.2.2.1, w.2.2.2.2)).1, ((fn_X9_houseNow (a1) (jrt ((1 : Int32)) ((1 : Int32)) (jst ((0 : Int32))), w.2.1, w.2.2.1, w.2.2.2.1, w.2.2.2.2)).2))) else (((0 : Int32), (jrt ((1 : Int32)) ((1 : Int32)) (jst ((0 : Int32))), w.2.1, w.2.2.1, w.2.2.2.1, w.2.2.2.2)))) else (if (jrr (jrt ((0 : Int32)) ((1 : Int32)) (jst ((0 : Int32))))) = (0 : Int32) then (((fn_X9_houseNow (a1) (jrt ((0 : Int32)) ((1 : Int32)) (jst ((0 : Int32))), w.2.1, w.2.2.1, w.2.2.2.1, w.2.2.2.2)).1, ((fn_X9_houseNow (a1) (jrt ((0 : Int32)) ((1 : Int32)) (jst ((0 : Int32))), w.2.1, w.2.2.1, w.2.2.2.1, w.2.2.2.2)).2))) else (((0 : Int32), (jrt ((0 : Int32)) ((1 : Int32)) (jst ((0 : Int32))), w.2.1, w.2.2.1, w.2.2.2.1, w.2.2.2.2))))
def fk_X9_house (a1 : Int32)  (w : ky_MV) : Prop :=
  ((((fn_X9_isOf (a1) ((0 : Int32)) ((3 : Int32))) = (0 : Int32)) → ((((jrr (jrt ((1 : Int32)) ((1 : Int32)) (jst ((0 : Int32))))) = (0 : Int32)) → ((vp_in (a1) 4) ∧ ((fk_X9_houseNow (a1) (jrt ((1 : Int32)) ((1 : Int32)) (jst ((0 : Int32))), w.2.1, w.2.2.1, w.2.2.2.1, w.2.2.2.2)) ∧ (True)))) ∧ (¬ ((jrr (jrt ((1 : Int32)) ((1 : Int32)) (jst ((0 : Int32))))) = (0 : Int32)) → (True)))) ∧ (¬ ((fn_X9_isOf (a1) ((0 : Int32)) ((3 : Int32))) = (0 : Int32)) → ((((jrr (jrt ((0 : Int32)) ((1 : Int32)) (jst ((0 : Int32))))) = (0 : Int32)) → ((vp_in (a1) 4) ∧ ((fk_X9_houseNow (a1) (jrt ((0 : Int32)) ((1 : Int32)) (jst ((0 : Int32))), w.2.1, w.2.2.1, w.2.2.2.1, w.2.2.2.2)) ∧ (True)))) ∧ (¬ ((jrr (jrt ((0 : Int32)) ((1 : Int32)) (jst ((0 : Int32))))) = (0 : Int32)) → (True))))) ∧ True
set_option linter.constructorNameAsVariable false in
set_option maxHeartbeats 4000000 in
set_option maxRecDepth 100000 in
theorem mt_X9_house (l : Launch) (G : ky_G) (mo cs : Nat) (N : Nat → Prop) (w : ky_MV) (f : Nat → Option Nat)    (a1 : Int32) (sz : Nat) (hk : fk_X9_house a1 w) : Met l my_X9_house (.code my_X9_house prog_10_method_76_code 2 (some .int) :: ky_B) { frames := 7, cells := 1, slots := 4, locals := 151 } (ky_P G [.ref mo, .int (a1)] (ky_WM G mo cs w f) sz (fun H => ky_IT G mo cs N f w.2.2.2.2 H)) (ky_Q (S := ky_MV × (Nat → Option Nat)) G (va_A (ky_WM G mo cs w f) sz) (fun v u => v = some (.int (fn_X9_house a1 w).1) ∧ u.1 = (fn_X9_house a1 w).2) (fun u => ky_WM G mo cs u.1 u.2) (fun u H => ky_IT G mo cs N u.2 u.1.2.2.2.2 H)) 1 4 (va_A (ky_WM G mo cs w f) sz) := by
  refine ky_start (by decide) (Nat.le_of_ble_eq_true rfl) (fun p e s m below meth c F hE A hAe hsz hA hfr hP hD hS hX ls hl => ?_)
  obtain ⟨hx, hb, hml, hown, hr, hlocks, hts⟩ := id F
  have hIT0 := hX
  have hIT := hIT0
  have hl : lv_has ls 2 [(0, .ref mo), (1, .int (a1))] := hl
  have hP : va_P G.1 kcl [(mo, .inr (5, [.int (w.1), .ref cs, .int (w.2.1), .int (w.2.2.1), .int (w.2.2.2.1)])), (cs, .inl (G.2.1 3, 6, .inr (.inr (.inr (.inr (f))))))] s.heap := hP
  have hD : va_D A [(mo, .inr (5, [.int (w.1), .ref cs, .int (w.2.1), .int (w.2.2.1), .int (w.2.2.2.1)])), (cs, .inl (G.2.1 3, 6, .inr (.inr (.inr (.inr (f))))))] := hD
  have hw : fn_X9_house a1 w = _ := fn_X9_house.eq_1 a1 w
  have hk : (((fn_X9_isOf (a1) ((0 : Int32)) ((3 : Int32))) = (0 : Int32)) → ((((jrr (jrt ((1 : Int32)) ((1 : Int32)) (jst ((0 : Int32))))) = (0 : Int32)) → ((vp_in (a1) 4) ∧ ((fk_X9_houseNow (a1) (jrt ((1 : Int32)) ((1 : Int32)) (jst ((0 : Int32))), w.2.1, w.2.2.1, w.2.2.2.1, w.2.2.2.2)) ∧ (True)))) ∧ (¬ ((jrr (jrt ((1 : Int32)) ((1 : Int32)) (jst ((0 : Int32))))) = (0 : Int32)) → (True)))) ∧ (¬ ((fn_X9_isOf (a1) ((0 : Int32)) ((3 : Int32))) = (0 : Int32)) → ((((jrr (jrt ((0 : Int32)) ((1 : Int32)) (jst ((0 : Int32))))) = (0 : Int32)) → ((vp_in (a1) 4) ∧ ((fk_X9_houseNow (a1) (jrt ((0 : Int32)) ((1 : Int32)) (jst ((0 : Int32))), w.2.1, w.2.2.1, w.2.2.2.1, w.2.2.2.2)) ∧ (True)))) ∧ (¬ ((jrr (jrt ((0 : Int32)) ((1 : Int32)) (jst ((0 : Int32))))) = (0 : Int32)) → (True)))) := hk.1
  refine lv_aload_n hx hb dc_X9_house_0 rfl (lv_at hl 0 rfl) ?_
  refine lv_iconst (v := 0) hx hb dc_X9_house_1 (by decide) ?_
  refine ky_cVh (As := [.int ((0 : Int32))]) (wr := []) F (hE.at hfr hS) hfr (mt_X9_startJ l G (mo) (cs) ((w.1, w.2.1, w.2.2.1, w.2.2.2.1)) (f) ((0 : Int32)) s.heap.size ) kv_X9_55 ⟨⟨rfl, rfl⟩, by decide, by decide⟩ rfl hl.1 rfl (Nat.le_of_ble_eq_true rfl) ⟨Nat.le_of_ble_eq_true rfl, Nat.le_of_ble_eq_true rfl⟩ (va_recv hE.1 hP (ci := 5) (q0 := 0) rfl rfl) trivial hP hD hS hA [0, 1] [] rfl rfl (by decide) (by decide) (by decide) dc_X9_house_2 ?_
  rintro v9 u9 H locs ⟨rfl, rfl⟩ hP hD hS - hz hk9
  have hP : va_P G.1 kcl [(mo, .inr (5, [.int (jst ((0 : Int32))), .ref cs, .int (w.2.1), .int (w.2.2.1), .int (w.2.2.2.1)])), (cs, .inl (G.2.1 3, 6, .inr (.inr (.inr (.inr (f))))))] H := hP
  have hD : va_D A [(mo, .inr (5, [.int (jst ((0 : Int32))), .ref cs, .int (w.2.1), .int (w.2.2.1), .int (w.2.2.2.1)])), (cs, .inl (G.2.1 3, 6, .inr (.inr (.inr (.inr (f))))))] := hD
  have hIT := hIT0.ro hAe hS
  refine W.widen (k := 0) (n := 0) (Nat.le_refl _) (Nat.le_refl _) ?_
  refine lv_if_ne (tgt := 30) hx hb dc_X9_house_5 (by decide) (fun c_1 => absurd c_1 (by decide)) (fun _ => ?_)
  refine lv_aload_n hx hb dc_X9_house_8 rfl (lv_at hl 0 rfl) ?_
  refine lv_iload_n hx hb dc_X9_house_9 rfl (lv_at hl 1 rfl) ?_
  refine lv_iconst (v := 0) hx hb dc_X9_house_10 (by decide) ?_
  refine lv_iconst (v := 3) hx hb dc_X9_house_11 (by decide) ?_
  refine ky_cS0 (As := [.int (a1), .int ((0 : Int32)), .int ((3 : Int32))]) F (mt_X9_isOf l (a1) ((0 : Int32)) ((3 : Int32))) ks_X9_40 ⟨⟨rfl, rfl⟩, by decide, by decide⟩ rfl hl.1 rfl (Nat.le_of_ble_eq_true rfl) ⟨Nat.le_of_ble_eq_true rfl, Nat.le_of_ble_eq_true rfl⟩ dc_X9_house_12 ?_
  refine lv_if_ne (tgt := 22) hx hb dc_X9_house_15 (by decide) (fun c_2 => ?_) (fun c_2 => ?_)
  · have hw := hw.trans (if_neg c_2)
    have hk := hk.2 c_2
    refine lv_iconst (v := 0) hx hb dc_X9_house_22 (by decide) ?_
    refine lv_iconst (v := 1) hx hb dc_X9_house_23 (by decide) ?_
    refine ky_cVh (As := [.int ((0 : Int32)), .int ((1 : Int32))]) (wr := []) F (hE.at hfr hS) hfr (mt_X9_refuseJ l G (mo) (cs) ((jst ((0 : Int32)), w.2.1, w.2.2.1, w.2.2.2.1)) (f) ((0 : Int32)) ((1 : Int32)) H.size ) kv_X9_36 ⟨⟨rfl, rfl⟩, by decide, by decide⟩ rfl hl.1 rfl (Nat.le_of_ble_eq_true rfl) ⟨Nat.le_of_ble_eq_true rfl, Nat.le_of_ble_eq_true rfl⟩ (va_recv hE.1 hP (ci := 5) (q0 := 0) rfl rfl) trivial hP hD hS hA [0, 1] [] rfl rfl (by decide) (by decide) (by decide) dc_X9_house_24 ?_
    rintro v9 u9 H locs ⟨rfl, rfl⟩ hP hD hS - hz hk9
    have hP : va_P G.1 kcl [(mo, .inr (5, [.int (jrt ((0 : Int32)) ((1 : Int32)) (jst ((0 : Int32)))), .ref cs, .int (w.2.1), .int (w.2.2.1), .int (w.2.2.2.1)])), (cs, .inl (G.2.1 3, 6, .inr (.inr (.inr (.inr (f))))))] H := hP
    have hD : va_D A [(mo, .inr (5, [.int (jrt ((0 : Int32)) ((1 : Int32)) (jst ((0 : Int32)))), .ref cs, .int (w.2.1), .int (w.2.2.1), .int (w.2.2.2.1)])), (cs, .inl (G.2.1 3, 6, .inr (.inr (.inr (.inr (f))))))] := hD
    have hIT := hIT0.ro hAe hS
    refine W.widen (k := 0) (n := 0) (Nat.le_refl _) (Nat.le_refl _) ?_
    refine lv_if_eq (tgt := 34) hx hb dc_X9_house_27 (by decide) (fun c_4 => ?_) (fun c_4 => ?_)
    · have hw := hw.trans (if_pos c_4)
      have hk := hk.1 c_4
      refine lv_aload_n hx hb dc_X9_house_34 rfl (lv_at hl 0 rfl) ?_
      refine lv_iload_n hx hb dc_X9_house_35 rfl (lv_at hl 1 rfl) ?_
      obtain ⟨hq_5, hk⟩ := hk
      obtain ⟨hq_6, hk⟩ := hk
      refine ky_cVh (As := [.int (a1)]) (wr := []) F (hE.at hfr hS) hfr (mt_X9_houseNow l G mo cs N (jrt ((0 : Int32)) ((1 : Int32)) (jst ((0 : Int32))), w.2.1, w.2.2.1, w.2.2.2.1, w.2.2.2.2) (f)    (a1) H.size hq_5 hq_6) kv_X9_258 ⟨⟨rfl, rfl⟩, by decide, by decide⟩ rfl hl.1 rfl (Nat.le_of_ble_eq_true rfl) ⟨Nat.le_of_ble_eq_true rfl, Nat.le_of_ble_eq_true rfl⟩ (va_recv hE.1 hP (ci := 5) (q0 := 0) rfl rfl) hIT hP hD hS hA [0, 1] [] rfl rfl (by decide) (by decide) (by decide) dc_X9_house_36 ?_
      rintro v9 ⟨w_7, f_7⟩ H locs ⟨rfl, hw_7⟩ hP hD hS hIT9 hz hk9
      have hw_7 : w_7 = (fn_X9_houseNow (a1) (jrt ((0 : Int32)) ((1 : Int32)) (jst ((0 : Int32))), w.2.1, w.2.2.1, w.2.2.2.1, w.2.2.2.2)).2 := hw_7
      try rw [← hw_7] at hw
      try rw [← hw_7] at hk
      have hP : va_P G.1 kcl [(mo, .inr (5, [.int ((w_7).1), .ref cs, .int ((w_7).2.1), .int ((w_7).2.2.1), .int ((w_7).2.2.2.1)])), (cs, .inl (G.2.1 3, 6, .inr (.inr (.inr (.inr (f_7))))))] H := hP
      have hD : va_D A [(mo, .inr (5, [.int ((w_7).1), .ref cs, .int ((w_7).2.1), .int ((w_7).2.2.1), .int ((w_7).2.2.2.1)])), (cs, .inl (G.2.1 3, 6, .inr (.inr (.inr (.inr (f_7))))))] := hD
      have hIT : ky_IT G mo cs N f_7 ((w_7).2.2.2.2) H := hIT9
      refine W.widen (k := 1) (n := 4) (Nat.le_refl _) (Nat.le_refl _) ?_
      have hP9 : va_P G.1 kcl (ky_WM G mo cs ((w_7)) (f_7)) H := hP.sub [0, 1] rfl
      have hD9 : va_D A (ky_WM G mo cs ((w_7)) (f_7)) := hD.sub [0, 1] (by decide) rfl
      refine W.widen (k := 1) (n := 4) (Nat.le_of_ble_eq_true rfl) (Nat.le_of_ble_eq_true rfl) ?_
      exact W.iret (v := (fn_X9_houseNow (a1) (jrt ((0 : Int32)) ((1 : Int32)) (jst ((0 : Int32))), w.2.1, w.2.2.1, w.2.2.2.1, w.2.2.2.2)).1) hx hb hr (fun t ht hW => ⟨by rw [ht]; exact ky_endM (fun z => some (.int z)) ((fn_X9_houseNow (a1) (jrt ((0 : Int32)) ((1 : Int32)) (jst ((0 : Int32))), w.2.1, w.2.2.1, w.2.2.2.1, w.2.2.2.2)).1) hw hP9 hD9 (hIT), hS.F ht⟩) hS.2.2 dc_X9_house_39
    · have hw := hw.trans (if_neg c_4)
      have hk := hk.2 c_4
      refine lv_iconst (v := 0) hx hb dc_X9_house_30 (by decide) ?_
      refine lv_goto (tgt := 39) hx hb dc_X9_house_31 (by decide) ?_
      have hP9 : va_P G.1 kcl (ky_WM G mo cs ((jrt ((0 : Int32)) ((1 : Int32)) (jst ((0 : Int32))), w.2.1, w.2.2.1, w.2.2.2.1, w.2.2.2.2)) (f)) H := hP.sub [0, 1] rfl
      have hD9 : va_D A (ky_WM G mo cs ((jrt ((0 : Int32)) ((1 : Int32)) (jst ((0 : Int32))), w.2.1, w.2.2.1, w.2.2.2.1, w.2.2.2.2)) (f)) := hD.sub [0, 1] (by decide) rfl
      refine W.widen (k := 1) (n := 4) (Nat.le_of_ble_eq_true rfl) (Nat.le_of_ble_eq_true rfl) ?_
      exact W.iret (v := (0 : Int32)) hx hb hr (fun t ht hW => ⟨by rw [ht]; exact ky_endM (fun z => some (.int z)) ((0 : Int32)) hw hP9 hD9 (hIT), hS.F ht⟩) hS.2.2 dc_X9_house_39
  · have hw := hw.trans (if_pos c_2)
    have hk := hk.1 c_2
    refine lv_iconst (v := 1) hx hb dc_X9_house_18 (by decide) ?_
    refine lv_goto (tgt := 23) hx hb dc_X9_house_19 (by decide) ?_
    refine lv_iconst (v := 1) hx hb dc_X9_house_23 (by decide) ?_
    refine ky_cVh (As := [.int ((1 : Int32)), .int ((1 : Int32))]) (wr := []) F (hE.at hfr hS) hfr (mt_X9_refuseJ l G (mo) (cs) ((jst ((0 : Int32)), w.2.1, w.2.2.1, w.2.2.2.1)) (f) ((1 : Int32)) ((1 : Int32)) H.size ) kv_X9_36 ⟨⟨rfl, rfl⟩, by decide, by decide⟩ rfl hl.1 rfl (Nat.le_of_ble_eq_true rfl) ⟨Nat.le_of_ble_eq_true rfl, Nat.le_of_ble_eq_true rfl⟩ (va_recv hE.1 hP (ci := 5) (q0 := 0) rfl rfl) trivial hP hD hS hA [0, 1] [] rfl rfl (by decide) (by decide) (by decide) dc_X9_house_24 ?_
    rintro v9 u9 H locs ⟨rfl, rfl⟩ hP hD hS - hz hk9
    have hP : va_P G.1 kcl [(mo, .inr (5, [.int (jrt ((1 : Int32)) ((1 : Int32)) (jst ((0 : Int32)))), .ref cs, .int (w.2.1), .int (w.2.2.1), .int (w.2.2.2.1)])), (cs, .inl (G.2.1 3, 6, .inr (.inr (.inr (.inr (f))))))] H := hP
    have hD : va_D A [(mo, .inr (5, [.int (jrt ((1 : Int32)) ((1 : Int32)) (jst ((0 : Int32)))), .ref cs, .int (w.2.1), .int (w.2.2.1), .int (w.2.2.2.1)])), (cs, .inl (G.2.1 3, 6, .inr (.inr (.inr (.inr (f))))))] := hD
    have hIT := hIT0.ro hAe hS
    refine W.widen (k := 0) (n := 0) (Nat.le_refl _) (Nat.le_refl _) ?_
    refine lv_if_eq (tgt := 34) hx hb dc_X9_house_27 (by decide) (fun c_4 => ?_) (fun c_4 => ?_)
    · have hw := hw.trans (if_pos c_4)
      have hk := hk.1 c_4
      refine lv_aload_n hx hb dc_X9_house_34 rfl (lv_at hl 0 rfl) ?_
      refine lv_iload_n hx hb dc_X9_house_35 rfl (lv_at hl 1 rfl) ?_
      obtain ⟨hq_5, hk⟩ := hk
      obtain ⟨hq_6, hk⟩ := hk
      refine ky_cVh (As := [.int (a1)]) (wr := []) F (hE.at hfr hS) hfr (mt_X9_houseNow l G mo cs N (jrt ((1 : Int32)) ((1 : Int32)) (jst ((0 : Int32))), w.2.1, w.2.2.1, w.2.2.2.1, w.2.2.2.2) (f)    (a1) H.size hq_5 hq_6) kv_X9_258 ⟨⟨rfl, rfl⟩, by decide, by decide⟩ rfl hl.1 rfl (Nat.le_of_ble_eq_true rfl) ⟨Nat.le_of_ble_eq_true rfl, Nat.le_of_ble_eq_true rfl⟩ (va_recv hE.1 hP (ci := 5) (q0 := 0) rfl rfl) hIT hP hD hS hA [0, 1] [] rfl rfl (by decide) (by decide) (by decide) dc_X9_house_36 ?_
      rintro v9 ⟨w_7, f_7⟩ H locs ⟨rfl, hw_7⟩ hP hD hS hIT9 hz hk9
      have hw_7 : w_7 = (fn_X9_houseNow (a1) (jrt ((1 : Int32)) ((1 : Int32)) (jst ((0 : Int32))), w.2.1, w.2.2.1, w.2.2.2.1, w.2.2.2.2)).2 := hw_7
      try rw [← hw_7] at hw
      try rw [← hw_7] at hk
      have hP : va_P G.1 kcl [(mo, .inr (5, [.int ((w_7).1), .ref cs, .int ((w_7).2.1), .int ((w_7).2.2.1), .int ((w_7).2.2.2.1)])), (cs, .inl (G.2.1 3, 6, .inr (.inr (.inr (.inr (f_7))))))] H := hP
      have hD : va_D A [(mo, .inr (5, [.int ((w_7).1), .ref cs, .int ((w_7).2.1), .int ((w_7).2.2.1), .int ((w_7).2.2.2.1)])), (cs, .inl (G.2.1 3, 6, .inr (.inr (.inr (.inr (f_7))))))] := hD
      have hIT : ky_IT G mo cs N f_7 ((w_7).2.2.2.2) H := hIT9
      refine W.widen (k := 1) (n := 4) (Nat.le_refl _) (Nat.le_refl _) ?_
      have hP9 : va_P G.1 kcl (ky_WM G mo cs ((w_7)) (f_7)) H := hP.sub [0, 1] rfl
      have hD9 : va_D A (ky_WM G mo cs ((w_7)) (f_7)) := hD.sub [0, 1] (by decide) rfl
      refine W.widen (k := 1) (n := 4) (Nat.le_of_ble_eq_true rfl) (Nat.le_of_ble_eq_true rfl) ?_
      exact W.iret (v := (fn_X9_houseNow (a1) (jrt ((1 : Int32)) ((1 : Int32)) (jst ((0 : Int32))), w.2.1, w.2.2.1, w.2.2.2.1, w.2.2.2.2)).1) hx hb hr (fun t ht hW => ⟨by rw [ht]; exact ky_endM (fun z => some (.int z)) ((fn_X9_houseNow (a1) (jrt ((1 : Int32)) ((1 : Int32)) (jst ((0 : Int32))), w.2.1, w.2.2.1, w.2.2.2.1, w.2.2.2.2)).1) hw hP9 hD9 (hIT), hS.F ht⟩) hS.2.2 dc_X9_house_39
    · have hw := hw.trans (if_neg c_4)
      have hk := hk.2 c_4
      refine lv_iconst (v := 0) hx hb dc_X9_house_30 (by decide) ?_
      refine lv_goto (tgt := 39) hx hb dc_X9_house_31 (by decide) ?_
      have hP9 : va_P G.1 kcl (ky_WM G mo cs ((jrt ((1 : Int32)) ((1 : Int32)) (jst ((0 : Int32))), w.2.1, w.2.2.1, w.2.2.2.1, w.2.2.2.2)) (f)) H := hP.sub [0, 1] rfl
      have hD9 : va_D A (ky_WM G mo cs ((jrt ((1 : Int32)) ((1 : Int32)) (jst ((0 : Int32))), w.2.1, w.2.2.1, w.2.2.2.1, w.2.2.2.2)) (f)) := hD.sub [0, 1] (by decide) rfl
      refine W.widen (k := 1) (n := 4) (Nat.le_of_ble_eq_true rfl) (Nat.le_of_ble_eq_true rfl) ?_
      exact W.iret (v := (0 : Int32)) hx hb hr (fun t ht hW => ⟨by rw [ht]; exact ky_endM (fun z => some (.int z)) ((0 : Int32)) hw hP9 hD9 (hIT), hS.F ht⟩) hS.2.2 dc_X9_house_39
