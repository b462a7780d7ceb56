def fn_X9_last (a1 : Int32) (a2 : Int32) (a3 : Int32)  (w : ky_MV) : Int32 × Int64 :=
  if (lg_cmp (fn_X8_place ((w.2.2.2.2) (a1).toNatClampNeg)) (fn_X8_place ((w.2.2.2.2) (a2).toNatClampNeg))) ≤ (0 : Int32) then (if ((0 : Int32)) = (a3) then (((w.2.2.2.2) (a1).toNatClampNeg)) else (((w.2.2.2.2) (a2).toNatClampNeg))) else (if ((1 : Int32)) = (a3) then (((w.2.2.2.2) (a1).toNatClampNeg)) else (((w.2.2.2.2) (a2).toNatClampNeg)))
set_option linter.constructorNameAsVariable false in
set_option maxHeartbeats 4000000 in
set_option maxRecDepth 100000 in
theorem mt_X9_last (l : Launch) (G : ky_G) (mo cs : Nat) (N : Nat → Prop) (w : ky_MV) (f : Nat → Option Nat)    (a1 : Int32) (a2 : Int32) (a3 : Int32) (sz : Nat) (h1 : vp_in (a1) 6) (h2 : vp_in (a2) 6) : Met l my_X9_last (.code my_X9_last prog_10_method_35_code 4 (some (.object "ExactdoublesModel$Its")) :: ky_B) { frames := 1, cells := 0, slots := 0, locals := 20 } (ky_P G [.ref mo, .int (a1), .int (a2), .int (a3)] (ky_WM G mo cs w f) sz (fun H => ky_IT G mo cs N f w.2.2.2.2 H)) (ky_Q (S := Nat) G (va_A (ky_WM G mo cs w f) sz) (fun v u => v = some (.ref u)) (fun _ => ky_WM G mo cs w f) (fun u H => ky_It G u (fn_X9_last a1 a2 a3 w) H ∧ ky_ok mo cs N u)) 0 0 (va_A (ky_WM G mo cs w f) sz) := by
  refine ky_start (by decide) (Nat.le_of_ble_eq_true rfl) (fun p e s m below meth c F hE A hAe hsz hA hfr hP hD hS hX ls hl => ?_)
  obtain ⟨hx, hb, hml, hown, hr, hlocks, hts⟩ := id F
  have hIT0 := hX
  have hIT := hIT0
  have hl : lv_has ls 4 [(0, .ref mo), (1, .int (a1)), (2, .int (a2)), (3, .int (a3))] := hl
  have hP : va_P G.1 kcl [(mo, .inr (5, [.int (w.1), .ref cs, .int (w.2.1), .int (w.2.2.1), .int (w.2.2.2.1)])), (cs, .inl (G.2.1 3, 6, .inr (.inr (.inr (.inr (f))))))] s.heap := hP
  have hD : va_D A [(mo, .inr (5, [.int (w.1), .ref cs, .int (w.2.1), .int (w.2.2.1), .int (w.2.2.2.1)])), (cs, .inl (G.2.1 3, 6, .inr (.inr (.inr (.inr (f))))))] := hD
  have hw : fn_X9_last a1 a2 a3 w = _ := fn_X9_last.eq_1 a1 a2 a3 w
  refine lv_aload_n hx hb dc_X9_last_0 rfl (lv_at hl 0 rfl) ?_
  refine va_get (D := G.1) (ci := 5) (v := .ref cs) (C := RX9) (T := TX9) (N := 5) hx hb hts ki_X9 hown hE.1 hP 0 rfl rfl 1 (by decide) (hts _ kw_6_20) (fun _ h9 => h9) rfl dc_X9_last_1 ?_
  refine lv_iload_n hx hb dc_X9_last_4 rfl (lv_at hl 1 rfl) ?_
  refine va_aldq hx hb hE.1 hP 1 3 rfl rfl h1 dc_X9_last_5 ?_
  obtain ⟨b_0, hb_0, hI_0, ho_0⟩ := hIT.2 _ (ky_i6 h1)
  rw [ky_rf hb_0]
  have hX_0 : ky_It G b_0 ((w.2.2.2.2) (a1).toNatClampNeg) s.heap := by obtain ⟨b9, e9, i9, -⟩ := hIT0.2 _ (ky_i6 h1); have z9 : b9 = b_0 := Option.some.inj (e9.symm.trans hb_0); exact z9 ▸ i9
  refine ky_cV1 (As := []) F (hE.at hfr hS) (mt_X8_place l G (b_0) (((w.2.2.2.2) (a1).toNatClampNeg)) ) kv_X9_147 ⟨⟨rfl, rfl⟩, by decide, by decide⟩ rfl hl.1 rfl (Nat.le_of_ble_eq_true rfl) ⟨Nat.le_of_ble_eq_true rfl, Nat.le_of_ble_eq_true rfl⟩ (va_recv hE.1 hI_0 (ci := 4) (q0 := 0) rfl rfl) hI_0 dc_X9_last_6 ?_
  refine lv_aload_n hx hb dc_X9_last_9 rfl (lv_at hl 0 rfl) ?_
  refine va_get (D := G.1) (ci := 5) (v := .ref cs) (C := RX9) (T := TX9) (N := 5) hx hb hts ki_X9 hown hE.1 hP 0 rfl rfl 1 (by decide) (hts _ kw_6_20) (fun _ h9 => h9) rfl dc_X9_last_10 ?_
  refine lv_iload_n hx hb dc_X9_last_13 rfl (lv_at hl 2 rfl) ?_
  refine va_aldq hx hb hE.1 hP 1 3 rfl rfl h2 dc_X9_last_14 ?_
  obtain ⟨b_1, hb_1, hI_1, ho_1⟩ := hIT.2 _ (ky_i6 h2)
  rw [ky_rf hb_1]
  have hX_1 : ky_It G b_1 ((w.2.2.2.2) (a2).toNatClampNeg) s.heap := by obtain ⟨b9, e9, i9, -⟩ := hIT0.2 _ (ky_i6 h2); have z9 : b9 = b_1 := Option.some.inj (e9.symm.trans hb_1); exact z9 ▸ i9
  refine ky_cV1 (As := []) F (hE.at hfr hS) (mt_X8_place l G (b_1) (((w.2.2.2.2) (a2).toNatClampNeg)) ) kv_X9_147 ⟨⟨rfl, rfl⟩, by decide, by decide⟩ rfl hl.1 rfl (Nat.le_of_ble_eq_true rfl) ⟨Nat.le_of_ble_eq_true rfl, Nat.le_of_ble_eq_true rfl⟩ (va_recv hE.1 hI_1 (ci := 4) (q0 := 0) rfl rfl) hI_1 dc_X9_last_15 ?_
  refine W.lcmp hx hb dc_X9_last_18 ?_
  refine lv_if_le (tgt := 26) hx hb dc_X9_last_19 (by decide) (fun c_2 => ?_) (fun c_2 => ?_)
  · have hw := hw.trans (if_pos c_2)
    refine lv_iconst (v := 0) hx hb dc_X9_last_26 (by decide) ?_
    refine lv_iload_n hx hb dc_X9_last_27 rfl (lv_at hl 3 rfl) ?_
    refine lv_icmp_ne (tgt := 40) hx hb dc_X9_last_28 (by decide) (fun c_3 => ?_) (fun c_3 => ?_)
    · have hw := hw.trans (if_neg c_3)
      refine lv_aload_n hx hb dc_X9_last_40 rfl (lv_at hl 0 rfl) ?_
      refine va_get (D := G.1) (ci := 5) (v := .ref cs) (C := RX9) (T := TX9) (N := 5) hx hb hts ki_X9 hown hE.1 hP 0 rfl rfl 1 (by decide) (hts _ kw_6_20) (fun _ h9 => h9) rfl dc_X9_last_41 ?_
      refine lv_iload_n hx hb dc_X9_last_44 rfl (lv_at hl 2 rfl) ?_
      refine va_aldq hx hb hE.1 hP 1 3 rfl rfl h2 dc_X9_last_45 ?_
      obtain ⟨b_4, hb_4, hI_4, ho_4⟩ := hIT.2 _ (ky_i6 h2)
      rw [ky_rf hb_4]
      have hX_4 : ky_It G b_4 ((w.2.2.2.2) (a2).toNatClampNeg) s.heap := by obtain ⟨b9, e9, i9, -⟩ := hIT0.2 _ (ky_i6 h2); have z9 : b9 = b_4 := Option.some.inj (e9.symm.trans hb_4); exact z9 ▸ i9
      have hP9 := hP.sub (ws' := [(mo, .inr (5, [.int (w.1), .ref cs, .int (w.2.1), .int (w.2.2.1), .int (w.2.2.2.1)])), (cs, .inl (G.2.1 3, 6, .inr (.inr (.inr (.inr (f))))))]) [0, 1] rfl
      have hD9 := hD.sub (ws' := [(mo, .inr (5, [.int (w.1), .ref cs, .int (w.2.1), .int (w.2.2.1), .int (w.2.2.2.1)])), (cs, .inl (G.2.1 3, 6, .inr (.inr (.inr (.inr (f))))))]) [0, 1] (by decide) rfl
      refine W.widen (k := 0) (n := 0) (Nat.le_of_ble_eq_true rfl) (Nat.le_of_ble_eq_true rfl) ?_
      exact W.aret (v := .ref b_4) hx hb hr (Or.inl ⟨_, rfl⟩) (Or.inr ⟨_, rfl⟩) (fun t ht hW => ⟨⟨_, b_4, rfl, rfl, by rw [ht]; exact hP9, hD9, by rw [hw, ht]; exact hI_4, ho_4⟩, hS.F ht⟩) hS.2.2 dc_X9_last_46
    · have hw := hw.trans (if_pos c_3)
      refine lv_aload_n hx hb dc_X9_last_31 rfl (lv_at hl 0 rfl) ?_
      refine va_get (D := G.1) (ci := 5) (v := .ref cs) (C := RX9) (T := TX9) (N := 5) hx hb hts ki_X9 hown hE.1 hP 0 rfl rfl 1 (by decide) (hts _ kw_6_20) (fun _ h9 => h9) rfl dc_X9_last_32 ?_
      refine lv_iload_n hx hb dc_X9_last_35 rfl (lv_at hl 1 rfl) ?_
      refine va_aldq hx hb hE.1 hP 1 3 rfl rfl h1 dc_X9_last_36 ?_
      obtain ⟨b_4, hb_4, hI_4, ho_4⟩ := hIT.2 _ (ky_i6 h1)
      rw [ky_rf hb_4]
      have hX_4 : ky_It G b_4 ((w.2.2.2.2) (a1).toNatClampNeg) s.heap := by obtain ⟨b9, e9, i9, -⟩ := hIT0.2 _ (ky_i6 h1); have z9 : b9 = b_4 := Option.some.inj (e9.symm.trans hb_4); exact z9 ▸ i9
      refine lv_goto (tgt := 46) hx hb dc_X9_last_37 (by decide) ?_
      have hP9 := hP.sub (ws' := [(mo, .inr (5, [.int (w.1), .ref cs, .int (w.2.1), .int (w.2.2.1), .int (w.2.2.2.1)])), (cs, .inl (G.2.1 3, 6, .inr (.inr (.inr (.inr (f))))))]) [0, 1] rfl
      have hD9 := hD.sub (ws' := [(mo, .inr (5, [.int (w.1), .ref cs, .int (w.2.1), .int (w.2.2.1), .int (w.2.2.2.1)])), (cs, .inl (G.2.1 3, 6, .inr (.inr (.inr (.inr (f))))))]) [0, 1] (by decide) rfl
      refine W.widen (k := 0) (n := 0) (Nat.le_of_ble_eq_true rfl) (Nat.le_of_ble_eq_true rfl) ?_
      exact W.aret (v := .ref b_4) hx hb hr (Or.inl ⟨_, rfl⟩) (Or.inr ⟨_, rfl⟩) (fun t ht hW => ⟨⟨_, b_4, rfl, rfl, by rw [ht]; exact hP9, hD9, by rw [hw, ht]; exact hI_4, ho_4⟩, hS.F ht⟩) hS.2.2 dc_X9_last_46
  · have hw := hw.trans (if_neg c_2)
    refine lv_iconst (v := 1) hx hb dc_X9_last_22 (by decide) ?_
    refine lv_goto (tgt := 27) hx hb dc_X9_last_23 (by decide) ?_
    refine lv_iload_n hx hb dc_X9_last_27 rfl (lv_at hl 3 rfl) ?_
    refine lv_icmp_ne (tgt := 40) hx hb dc_X9_last_28 (by decide) (fun c_3 => ?_) (fun c_3 => ?_)
    · have hw := hw.trans (if_neg c_3)
      refine lv_aload_n hx hb dc_X9_last_40 rfl (lv_at hl 0 rfl) ?_
      refine va_get (D := G.1) (ci := 5) (v := .ref cs) (C := RX9) (T := TX9) (N := 5) hx hb hts ki_X9 hown hE.1 hP 0 rfl rfl 1 (by decide) (hts _ kw_6_20) (fun _ h9 => h9) rfl dc_X9_last_41 ?_
      refine lv_iload_n hx hb dc_X9_last_44 rfl (lv_at hl 2 rfl) ?_
      refine va_aldq hx hb hE.1 hP 1 3 rfl rfl h2 dc_X9_last_45 ?_
      obtain ⟨b_4, hb_4, hI_4, ho_4⟩ := hIT.2 _ (ky_i6 h2)
      rw [ky_rf hb_4]
      have hX_4 : ky_It G b_4 ((w.2.2.2.2) (a2).toNatClampNeg) s.heap := by obtain ⟨b9, e9, i9, -⟩ := hIT0.2 _ (ky_i6 h2); have z9 : b9 = b_4 := Option.some.inj (e9.symm.trans hb_4); exact z9 ▸ i9
      have hP9 := hP.sub (ws' := [(mo, .inr (5, [.int (w.1), .ref cs, .int (w.2.1), .int (w.2.2.1), .int (w.2.2.2.1)])), (cs, .inl (G.2.1 3, 6, .inr (.inr (.inr (.inr (f))))))]) [0, 1] rfl
      have hD9 := hD.sub (ws' := [(mo, .inr (5, [.int (w.1), .ref cs, .int (w.2.1), .int (w.2.2.1), .int (w.2.2.2.1)])), (cs, .inl (G.2.1 3, 6, .inr (.inr (.inr (.inr (f))))))]) [0, 1] (by decide) rfl
      refine W.widen (k := 0) (n := 0) (Nat.le_of_ble_eq_true rfl) (Nat.le_of_ble_eq_true rfl) ?_
      exact W.aret (v := .ref b_4) hx hb hr (Or.inl ⟨_, rfl⟩) (Or.inr ⟨_, rfl⟩) (fun t ht hW => ⟨⟨_, b_4, rfl, rfl, by rw [ht]; exact hP9, hD9, by rw [hw, ht]; exact hI_4, ho_4⟩, hS.F ht⟩) hS.2.2 dc_X9_last_46
    · have hw := hw.trans (if_pos c_3)
      refine lv_aload_n hx hb dc_X9_last_31 rfl (lv_at hl 0 rfl) ?_
      refine va_get (D := G.1) (ci := 5) (v := .ref cs) (C := RX9) (T := TX9) (N := 5) hx hb hts ki_X9 hown hE.1 hP 0 rfl rfl 1 (by decide) (hts _ kw_6_20) (fun _ h9 => h9) rfl dc_X9_last_32 ?_
      refine lv_iload_n hx hb dc_X9_last_35 rfl (lv_at hl 1 rfl) ?_
      refine va_aldq hx hb hE.1 hP 1 3 rfl rfl h1 dc_X9_last_36 ?_
      obtain ⟨b_4, hb_4, hI_4, ho_4⟩ := hIT.2 _ (ky_i6 h1)
      rw [ky_rf hb_4]
      have hX_4 : ky_It G b_4 ((w.2.2.2.2) (a1).toNatClampNeg) s.heap := by obtain ⟨b9, e9, i9, -⟩ := hIT0.2 _ (ky_i6 h1); have z9 : b9 = b_4 := Option.some.inj (e9.symm.trans hb_4); exact z9 ▸ i9
      refine lv_goto (tgt := 46) hx hb dc_X9_last_37 (by decide) ?_
      have hP9 := hP.sub (ws' := [(mo, .inr (5, [.int (w.1), .ref cs, .int (w.2.1), .int (w.2.2.1), .int (w.2.2.2.1)])), (cs, .inl (G.2.1 3, 6, .inr (.inr (.inr (.inr (f))))))]) [0, 1] rfl
      have hD9 := hD.sub (ws' := [(mo, .inr (5, [.int (w.1), .ref cs, .int (w.2.1), .int (w.2.2.1), .int (w.2.2.2.1)])), (cs, .inl (G.2.1 3, 6, .inr (.inr (.inr (.inr (f))))))]) [0, 1] (by decide) rfl
      refine W.widen (k := 0) (n := 0) (Nat.le_of_ble_eq_true rfl) (Nat.le_of_ble_eq_true rfl) ?_
      exact W.aret (v := .ref b_4) hx hb hr (Or.inl ⟨_, rfl⟩) (Or.inr ⟨_, rfl⟩) (fun t ht hW => ⟨⟨_, b_4, rfl, rfl, by rw [ht]; exact hP9, hD9, by rw [hw, ht]; exact hI_4, ho_4⟩, hS.F ht⟩) hS.2.2 dc_X9_last_46
