def fn_X9_give (a1 : Int32) (v2 : Int32 × Int64) (w : ky_MV) : Int32 × ky_MV :=
  (fn_X8_kind v2, (w.1, (w.2.1) + ((1 : Int32)), w.2.2.1, w.2.2.2.1, ky_vu (w.2.2.2.2) (a1).toNatClampNeg (v2)))
set_option linter.constructorNameAsVariable false in
set_option maxHeartbeats 4000000 in
set_option maxRecDepth 100000 in
theorem mt_X9_give (l : Launch) (G : ky_G) (mo cs : Nat) (N : Nat → Prop) (w : ky_MV) (f : Nat → Option Nat) (b2 : Nat) (v2 : Int32 × Int64) (ho2 : ky_ok mo cs N b2) (a1 : Int32) (sz : Nat) (h1 : vp_in (a1) 6) : Met l my_X9_give (.code my_X9_give prog_10_method_11_code 3 (some .int) :: ky_B) { frames := 5, cells := 0, slots := 0, locals := 105 } (ky_P G [.ref mo, .int (a1), .ref b2] (ky_WM G mo cs w f) sz (fun H => ky_IT G mo cs N f w.2.2.2.2 H ∧ ky_It G b2 v2 H)) (ky_Q (S := ky_MV × (Nat → Option Nat)) G (va_A (ky_WM G mo cs w f) sz) (fun v u => v = some (.int (fn_X9_give a1 v2 w).1) ∧ u.1 = (fn_X9_give a1 v2 w).2) (fun u => ky_WM G mo cs u.1 u.2) (fun u H => ky_IT G mo cs N u.2 u.1.2.2.2.2 H)) 0 0 (va_A (ky_WM G mo cs w f) sz) := by
  refine ky_start (by decide) (Nat.le_of_ble_eq_true rfl) (fun p e s m below meth c F hE A hAe hsz hA hfr hP hD hS hX ls hl => ?_)
  obtain ⟨hx, hb, hml, hown, hr, hlocks, hts⟩ := id F
  obtain ⟨hIT0, hX2⟩ := hX
  have hIT := hIT0
  have hI2 := hX2
  have hl : lv_has ls 3 [(0, .ref mo), (1, .int (a1)), (2, .ref b2)] := hl
  have hP : va_P G.1 kcl [(mo, .inr (5, [.int (w.1), .ref cs, .int (w.2.1), .int (w.2.2.1), .int (w.2.2.2.1)])), (cs, .inl (G.2.1 3, 6, .inr (.inr (.inr (.inr (f))))))] s.heap := hP
  have hD : va_D A [(mo, .inr (5, [.int (w.1), .ref cs, .int (w.2.1), .int (w.2.2.1), .int (w.2.2.2.1)])), (cs, .inl (G.2.1 3, 6, .inr (.inr (.inr (.inr (f))))))] := hD
  have hw : fn_X9_give a1 v2 w = _ := fn_X9_give.eq_1 a1 v2 w
  refine lv_aload_n hx hb dc_X9_give_0 rfl (lv_at hl 0 rfl) ?_
  refine va_get (D := G.1) (ci := 5) (v := .ref cs) (C := RX9) (T := TX9) (N := 5) hx hb hts ki_X9 hown hE.1 hP 0 rfl rfl 1 (by decide) (hts _ kw_6_20) (fun _ h9 => h9) rfl dc_X9_give_1 ?_
  refine lv_iload_n hx hb dc_X9_give_4 rfl (lv_at hl 1 rfl) ?_
  refine lv_aload_n hx hb dc_X9_give_5 rfl (lv_at hl 2 rfl) ?_
  refine ky_astI hx hb hE.1 hP hD hS 1 rfl hI2 h1 dc_X9_give_6 (fun H locs hP hD hS => ?_)
  have hP : va_P G.1 kcl [(mo, .inr (5, [.int (w.1), .ref cs, .int (w.2.1), .int (w.2.2.1), .int (w.2.2.2.1)])), (cs, .inl (G.2.1 3, 6, .inr (.inr (.inr (.inr (va_up (f) (a1).toNatClampNeg (some b2)))))))] H := hP
  have hD : va_D A [(mo, .inr (5, [.int (w.1), .ref cs, .int (w.2.1), .int (w.2.2.1), .int (w.2.2.2.1)])), (cs, .inl (G.2.1 3, 6, .inr (.inr (.inr (.inr (va_up (f) (a1).toNatClampNeg (some b2)))))))] := hD
  have hIT := hIT0.ro hAe hS
  have hI2 := ky_ro2 hX2 ho2 hAe hS
  refine lv_aload_n hx hb dc_X9_give_7 rfl (lv_at hl 0 rfl) ?_
  refine lv_dup hx hb dc_X9_give_8 rfl ?_
  refine va_get (D := G.1) (ci := 5) (v := .int (w.2.1)) (C := RX9) (T := TX9) (N := 5) hx hb hts ki_X9 hown hE.1 hP 0 rfl rfl 2 (by decide) (hts _ kw_6_21) (fun _ h9 => h9) rfl dc_X9_give_9 ?_
  refine lv_iconst (v := 1) hx hb dc_X9_give_12 (by decide) ?_
  refine lv_iadd hx hb dc_X9_give_13 ?_
  refine va_put (D := G.1) (ci := 5) (v := .int ((w.2.1) + ((1 : Int32)))) (ty := .int) (C := RX9) (T := TX9) (N := 5) hx hb hts ki_X9 tyX9 tyX9_ok nmX9 hown hE.1 hP hD hS 0 rfl rfl 2 (by decide) (hts _ kw_6_21) (fun _ h9 => h9) rfl (by decide +kernel) rfl rfl (Nat.le_of_ble_eq_true rfl) dc_X9_give_14 (fun H locs hP hD hS => ?_)
  have hP : va_P G.1 kcl [(mo, .inr (5, [.int (w.1), .ref cs, .int ((w.2.1) + ((1 : Int32))), .int (w.2.2.1), .int (w.2.2.2.1)])), (cs, .inl (G.2.1 3, 6, .inr (.inr (.inr (.inr (va_up (f) (a1).toNatClampNeg (some b2)))))))] H := hP
  have hD : va_D A [(mo, .inr (5, [.int (w.1), .ref cs, .int ((w.2.1) + ((1 : Int32))), .int (w.2.2.1), .int (w.2.2.2.1)])), (cs, .inl (G.2.1 3, 6, .inr (.inr (.inr (.inr (va_up (f) (a1).toNatClampNeg (some b2)))))))] := hD
  have hIT := hIT0.ro hAe hS
  have hI2 := ky_ro2 hX2 ho2 hAe hS
  refine lv_aload_n hx hb dc_X9_give_17 rfl (lv_at hl 2 rfl) ?_
  refine ky_cV1 (As := []) F (hE.at hfr hS) (mt_X8_kind l G (b2) (v2) ) kv_X9_47 ⟨⟨rfl, rfl⟩, by decide, by decide⟩ rfl hl.1 rfl (Nat.le_of_ble_eq_true rfl) ⟨Nat.le_of_ble_eq_true rfl, Nat.le_of_ble_eq_true rfl⟩ (va_recv hE.1 hI2 (ci := 4) (q0 := 0) rfl rfl) hI2 dc_X9_give_18 ?_
  have hP9 : va_P G.1 kcl (ky_WM G mo cs ((w.1, (w.2.1) + ((1 : Int32)), w.2.2.1, w.2.2.2.1, ky_vu (w.2.2.2.2) (a1).toNatClampNeg (v2))) (va_up (f) (a1).toNatClampNeg (some b2))) H := hP.sub [0, 1] rfl
  have hD9 : va_D A (ky_WM G mo cs ((w.1, (w.2.1) + ((1 : Int32)), w.2.2.1, w.2.2.2.1, ky_vu (w.2.2.2.2) (a1).toNatClampNeg (v2))) (va_up (f) (a1).toNatClampNeg (some b2))) := hD.sub [0, 1] (by decide) rfl
  refine W.widen (k := 0) (n := 0) (Nat.le_of_ble_eq_true rfl) (Nat.le_of_ble_eq_true rfl) ?_
  exact W.iret (v := fn_X8_kind v2) hx hb hr (fun t ht hW => ⟨by rw [ht]; exact ky_endM (fun z => some (.int z)) (fn_X8_kind v2) hw hP9 hD9 (hIT.put hI2 ho2), hS.F ht⟩) hS.2.2 dc_X9_give_21
