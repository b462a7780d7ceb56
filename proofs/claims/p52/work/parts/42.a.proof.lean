set_option linter.constructorNameAsVariable false in
set_option maxHeartbeats 4000000 in
set_option maxRecDepth 100000 in
theorem mt_X1_isNoneBehind (l : Launch) (G : ky_G) (pf : Nat) (tk : Nat) (r : Nat → Nat) (g : Nat → Nat → Int64) (a1 : Int32) (a2 : Int32) (sz : Nat) (h1 : vp_in (a1) 6) (h2 : vp_in (a2) 6) : Met l my_X1_isNoneBehind (.code my_X1_isNoneBehind prog_3_method_9_code 4 (some .boolean) :: ky_B) { frames := 0, cells := 0, slots := 0, locals := 0 } (ky_P G [.ref pf, .int (a1), .int (a2)] (ky_WPf G pf tk r g) sz (fun _ => True)) (ky_Q (S := Nat → Nat → Int64) G (va_A (ky_WPf G pf tk r g) sz) (fun v _ => ky_bool v) (fun u => ky_WPf G pf tk r u) (fun _ _ => True)) (0) (0) (va_A (ky_WPf G pf tk r g) sz) := by
  refine ky_start (by decide) (Nat.le_of_ble_eq_true rfl) (fun p e s m below meth c F hE A hAe hsz hA hfr hP hD hS hX ls hl => ?_)
  obtain ⟨hx, hb, hml, hown, hr, hlocks, hts⟩ := id F
  have hl : lv_has ls 4 [(0, .ref pf), (1, .int (a1)), (2, .int (a2))] := hl
  have hP : va_P G.1 kcl [(pf, .inr (2, [.ref tk])), (tk, .inl (G.2.1 4, 8, .inr (.inr (.inr (.inr (fun j => if j < 8 then some (r j) else none)))))), ((r 0), .inl (G.2.1 2, 6, .inr (.inl (g 0)))), ((r 1), .inl (G.2.1 2, 6, .inr (.inl (g 1)))), ((r 2), .inl (G.2.1 2, 6, .inr (.inl (g 2)))), ((r 3), .inl (G.2.1 2, 6, .inr (.inl (g 3)))), ((r 4), .inl (G.2.1 2, 6, .inr (.inl (g 4)))), ((r 5), .inl (G.2.1 2, 6, .inr (.inl (g 5)))), ((r 6), .inl (G.2.1 2, 6, .inr (.inl (g 6)))), ((r 7), .inl (G.2.1 2, 6, .inr (.inl (g 7))))] s.heap := hP
  have hD : va_D A [(pf, .inr (2, [.ref tk])), (tk, .inl (G.2.1 4, 8, .inr (.inr (.inr (.inr (fun j => if j < 8 then some (r j) else none)))))), ((r 0), .inl (G.2.1 2, 6, .inr (.inl (g 0)))), ((r 1), .inl (G.2.1 2, 6, .inr (.inl (g 1)))), ((r 2), .inl (G.2.1 2, 6, .inr (.inl (g 2)))), ((r 3), .inl (G.2.1 2, 6, .inr (.inl (g 3)))), ((r 4), .inl (G.2.1 2, 6, .inr (.inl (g 4)))), ((r 5), .inl (G.2.1 2, 6, .inr (.inl (g 5)))), ((r 6), .inl (G.2.1 2, 6, .inr (.inl (g 6)))), ((r 7), .inl (G.2.1 2, 6, .inr (.inl (g 7))))] := hD
  refine lv_iconst (v := 0) hx hb dc_X1_isNoneBehind_0 (by decide) ?_
  refine lv_istore_n (lv' := [(3, .int ((0 : Int32))), (0, .ref pf), (1, .int (a1)), (2, .int (a2))]) hx hb dc_X1_isNoneBehind_1 rfl hl (by decide) rfl (fun ls hl => ?_)
  refine lv_iload_n hx hb dc_X1_isNoneBehind_2 rfl (lv_at hl 0 rfl) ?_
  refine lv_bipush (v := 8) hx hb dc_X1_isNoneBehind_3 (by decide) ?_
  refine lv_icmp_ge (tgt := 36) hx hb dc_X1_isNoneBehind_5 (by decide) (fun c_0 => absurd c_0 (by decide)) (fun _ => ?_)
  refine lv_aload_n hx hb dc_X1_isNoneBehind_8 rfl (lv_at hl 1 rfl) ?_
  refine va_get (D := G.1) (ci := 2) (v := .ref tk) (C := RX1) (T := TX1) (N := 1) hx hb hts ki_X1 hown hE.1 hP 0 rfl rfl 0 (by decide) (hts _ kw_1_94) (fun _ h9 => h9) rfl dc_X1_isNoneBehind_9 ?_
  refine lv_iload_n hx hb dc_X1_isNoneBehind_12 rfl (lv_at hl 0 rfl) ?_
  refine ky_aldA hx hb hE.1 hP 1 rfl (vp_in_iff.mpr (by decide)) dc_X1_isNoneBehind_13 ?_
  rw [show va_rf ((fun j => if j < 8 then some (r j) else none) ((0 : Int32)).toNatClampNeg) = .ref (r 0) from rfl]
  refine lv_iload_n hx hb dc_X1_isNoneBehind_14 rfl (lv_at hl 2 rfl) ?_
  refine va_lald hx hb hE.1 hP 2 2 rfl rfl h1 dc_X1_isNoneBehind_15 ?_
  refine lv_aload_n hx hb dc_X1_isNoneBehind_16 rfl (lv_at hl 1 rfl) ?_
  refine va_get (D := G.1) (ci := 2) (v := .ref tk) (C := RX1) (T := TX1) (N := 1) hx hb hts ki_X1 hown hE.1 hP 0 rfl rfl 0 (by decide) (hts _ kw_1_94) (fun _ h9 => h9) rfl dc_X1_isNoneBehind_17 ?_
  refine lv_iload_n hx hb dc_X1_isNoneBehind_20 rfl (lv_at hl 0 rfl) ?_
  refine ky_aldA hx hb hE.1 hP 1 rfl (vp_in_iff.mpr (by decide)) dc_X1_isNoneBehind_21 ?_
  rw [show va_rf ((fun j => if j < 8 then some (r j) else none) ((0 : Int32)).toNatClampNeg) = .ref (r 0) from rfl]
  refine lv_iload_n hx hb dc_X1_isNoneBehind_22 rfl (lv_at hl 3 rfl) ?_
  refine va_lald hx hb hE.1 hP 2 2 rfl rfl h2 dc_X1_isNoneBehind_23 ?_
  refine W.lcmp hx hb dc_X1_isNoneBehind_24 ?_
  refine lv_if_le (tgt := 30) hx hb dc_X1_isNoneBehind_25 (by decide) (fun c_1 => ?_) (fun c_1 => ?_)
  · skip
    refine lv_iinc (v := (1 : Int32)) (lv' := [(3, .int ((1 : Int32))), (0, .ref pf), (1, .int (a1)), (2, .int (a2))]) hx hb dc_X1_isNoneBehind_30 hl (k := 0) rfl (by decide) (by decide) rfl (fun ls hl => ?_)
    refine lv_goto (tgt := 2) hx hb dc_X1_isNoneBehind_33 (by decide) ?_
    refine lv_iload_n hx hb dc_X1_isNoneBehind_2 rfl (lv_at hl 0 rfl) ?_
    refine lv_bipush (v := 8) hx hb dc_X1_isNoneBehind_3 (by decide) ?_
    refine lv_icmp_ge (tgt := 36) hx hb dc_X1_isNoneBehind_5 (by decide) (fun c_2 => absurd c_2 (by decide)) (fun _ => ?_)
    refine lv_aload_n hx hb dc_X1_isNoneBehind_8 rfl (lv_at hl 1 rfl) ?_
    refine va_get (D := G.1) (ci := 2) (v := .ref tk) (C := RX1) (T := TX1) (N := 1) hx hb hts ki_X1 hown hE.1 hP 0 rfl rfl 0 (by decide) (hts _ kw_1_94) (fun _ h9 => h9) rfl dc_X1_isNoneBehind_9 ?_
    refine lv_iload_n hx hb dc_X1_isNoneBehind_12 rfl (lv_at hl 0 rfl) ?_
    refine ky_aldA hx hb hE.1 hP 1 rfl (vp_in_iff.mpr (by decide)) dc_X1_isNoneBehind_13 ?_
    rw [show va_rf ((fun j => if j < 8 then some (r j) else none) ((1 : Int32)).toNatClampNeg) = .ref (r 1) from rfl]
    refine lv_iload_n hx hb dc_X1_isNoneBehind_14 rfl (lv_at hl 2 rfl) ?_
    refine va_lald hx hb hE.1 hP 3 2 rfl rfl h1 dc_X1_isNoneBehind_15 ?_
    refine lv_aload_n hx hb dc_X1_isNoneBehind_16 rfl (lv_at hl 1 rfl) ?_
    refine va_get (D := G.1) (ci := 2) (v := .ref tk) (C := RX1) (T := TX1) (N := 1) hx hb hts ki_X1 hown hE.1 hP 0 rfl rfl 0 (by decide) (hts _ kw_1_94) (fun _ h9 => h9) rfl dc_X1_isNoneBehind_17 ?_
    refine lv_iload_n hx hb dc_X1_isNoneBehind_20 rfl (lv_at hl 0 rfl) ?_
    refine ky_aldA hx hb hE.1 hP 1 rfl (vp_in_iff.mpr (by decide)) dc_X1_isNoneBehind_21 ?_
    rw [show va_rf ((fun j => if j < 8 then some (r j) else none) ((1 : Int32)).toNatClampNeg) = .ref (r 1) from rfl]
    refine lv_iload_n hx hb dc_X1_isNoneBehind_22 rfl (lv_at hl 3 rfl) ?_
    refine va_lald hx hb hE.1 hP 3 2 rfl rfl h2 dc_X1_isNoneBehind_23 ?_
    refine W.lcmp hx hb dc_X1_isNoneBehind_24 ?_
    refine lv_if_le (tgt := 30) hx hb dc_X1_isNoneBehind_25 (by decide) (fun c_3 => ?_) (fun c_3 => ?_)
    · skip
      refine lv_iinc (v := (2 : Int32)) (lv' := [(3, .int ((2 : Int32))), (0, .ref pf), (1, .int (a1)), (2, .int (a2))]) hx hb dc_X1_isNoneBehind_30 hl (k := 0) rfl (by decide) (by decide) rfl (fun ls hl => ?_)
      refine lv_goto (tgt := 2) hx hb dc_X1_isNoneBehind_33 (by decide) ?_
      refine lv_iload_n hx hb dc_X1_isNoneBehind_2 rfl (lv_at hl 0 rfl) ?_
      refine lv_bipush (v := 8) hx hb dc_X1_isNoneBehind_3 (by decide) ?_
      refine lv_icmp_ge (tgt := 36) hx hb dc_X1_isNoneBehind_5 (by decide) (fun c_4 => absurd c_4 (by decide)) (fun _ => ?_)
      refine lv_aload_n hx hb dc_X1_isNoneBehind_8 rfl (lv_at hl 1 rfl) ?_
      refine va_get (D := G.1) (ci := 2) (v := .ref tk) (C := RX1) (T := TX1) (N := 1) hx hb hts ki_X1 hown hE.1 hP 0 rfl rfl 0 (by decide) (hts _ kw_1_94) (fun _ h9 => h9) rfl dc_X1_isNoneBehind_9 ?_
      refine lv_iload_n hx hb dc_X1_isNoneBehind_12 rfl (lv_at hl 0 rfl) ?_
      refine ky_aldA hx hb hE.1 hP 1 rfl (vp_in_iff.mpr (by decide)) dc_X1_isNoneBehind_13 ?_
      rw [show va_rf ((fun j => if j < 8 then some (r j) else none) ((2 : Int32)).toNatClampNeg) = .ref (r 2) from rfl]
      refine lv_iload_n hx hb dc_X1_isNoneBehind_14 rfl (lv_at hl 2 rfl) ?_
      refine va_lald hx hb hE.1 hP 4 2 rfl rfl h1 dc_X1_isNoneBehind_15 ?_
      refine lv_aload_n hx hb dc_X1_isNoneBehind_16 rfl (lv_at hl 1 rfl) ?_
      refine va_get (D := G.1) (ci := 2) (v := .ref tk) (C := RX1) (T := TX1) (N := 1) hx hb hts ki_X1 hown hE.1 hP 0 rfl rfl 0 (by decide) (hts _ kw_1_94) (fun _ h9 => h9) rfl dc_X1_isNoneBehind_17 ?_
      refine lv_iload_n hx hb dc_X1_isNoneBehind_20 rfl (lv_at hl 0 rfl) ?_
      refine ky_aldA hx hb hE.1 hP 1 rfl (vp_in_iff.mpr (by decide)) dc_X1_isNoneBehind_21 ?_
      rw [show va_rf ((fun j => if j < 8 then some (r j) else none) ((2 : Int32)).toNatClampNeg) = .ref (r 2) from rfl]
      refine lv_iload_n hx hb dc_X1_isNoneBehind_22 rfl (lv_at hl 3 rfl) ?_
      refine va_lald hx hb hE.1 hP 4 2 rfl rfl h2 dc_X1_isNoneBehind_23 ?_
      refine W.lcmp hx hb dc_X1_isNoneBehind_24 ?_
      refine lv_if_le (tgt := 30) hx hb dc_X1_isNoneBehind_25 (by decide) (fun c_5 => ?_) (fun c_5 => ?_)
      · skip
        refine lv_iinc (v := (3 : Int32)) (lv' := [(3, .int ((3 : Int32))), (0, .ref pf), (1, .int (a1)), (2, .int (a2))]) hx hb dc_X1_isNoneBehind_30 hl (k := 0) rfl (by decide) (by decide) rfl (fun ls hl => ?_)
        refine lv_goto (tgt := 2) hx hb dc_X1_isNoneBehind_33 (by decide) ?_
        refine lv_iload_n hx hb dc_X1_isNoneBehind_2 rfl (lv_at hl 0 rfl) ?_
        refine lv_bipush (v := 8) hx hb dc_X1_isNoneBehind_3 (by decide) ?_
        refine lv_icmp_ge (tgt := 36) hx hb dc_X1_isNoneBehind_5 (by decide) (fun c_6 => absurd c_6 (by decide)) (fun _ => ?_)
        refine lv_aload_n hx hb dc_X1_isNoneBehind_8 rfl (lv_at hl 1 rfl) ?_
        refine va_get (D := G.1) (ci := 2) (v := .ref tk) (C := RX1) (T := TX1) (N := 1) hx hb hts ki_X1 hown hE.1 hP 0 rfl rfl 0 (by decide) (hts _ kw_1_94) (fun _ h9 => h9) rfl dc_X1_isNoneBehind_9 ?_
        refine lv_iload_n hx hb dc_X1_isNoneBehind_12 rfl (lv_at hl 0 rfl) ?_
        refine ky_aldA hx hb hE.1 hP 1 rfl (vp_in_iff.mpr (by decide)) dc_X1_isNoneBehind_13 ?_
        rw [show va_rf ((fun j => if j < 8 then some (r j) else none) ((3 : Int32)).toNatClampNeg) = .ref (r 3) from rfl]
        refine lv_iload_n hx hb dc_X1_isNoneBehind_14 rfl (lv_at hl 2 rfl) ?_
        refine va_lald hx hb hE.1 hP 5 2 rfl rfl h1 dc_X1_isNoneBehind_15 ?_
        refine lv_aload_n hx hb dc_X1_isNoneBehind_16 rfl (lv_at hl 1 rfl) ?_
        refine va_get (D := G.1) (ci := 2) (v := .ref tk) (C := RX1) (T := TX1) (N := 1) hx hb hts ki_X1 hown hE.1 hP 0 rfl rfl 0 (by decide) (hts _ kw_1_94) (fun _ h9 => h9) rfl dc_X1_isNoneBehind_17 ?_
        refine lv_iload_n hx hb dc_X1_isNoneBehind_20 rfl (lv_at hl 0 rfl) ?_
        refine ky_aldA hx hb hE.1 hP 1 rfl (vp_in_iff.mpr (by decide)) dc_X1_isNoneBehind_21 ?_
        rw [show va_rf ((fun j => if j < 8 then some (r j) else none) ((3 : Int32)).toNatClampNeg) = .ref (r 3) from rfl]
        refine lv_iload_n hx hb dc_X1_isNoneBehind_22 rfl (lv_at hl 3 rfl) ?_
        refine va_lald hx hb hE.1 hP 5 2 rfl rfl h2 dc_X1_isNoneBehind_23 ?_
        refine W.lcmp hx hb dc_X1_isNoneBehind_24 ?_
        refine lv_if_le (tgt := 30) hx hb dc_X1_isNoneBehind_25 (by decide) (fun c_7 => ?_) (fun c_7 => ?_)
        · skip
          refine lv_iinc (v := (4 : Int32)) (lv' := [(3, .int ((4 : Int32))), (0, .ref pf), (1, .int (a1)), (2, .int (a2))]) hx hb dc_X1_isNoneBehind_30 hl (k := 0) rfl (by decide) (by decide) rfl (fun ls hl => ?_)
          refine lv_goto (tgt := 2) hx hb dc_X1_isNoneBehind_33 (by decide) ?_
          refine lv_iload_n hx hb dc_X1_isNoneBehind_2 rfl (lv_at hl 0 rfl) ?_
          refine lv_bipush (v := 8) hx hb dc_X1_isNoneBehind_3 (by decide) ?_
          refine lv_icmp_ge (tgt := 36) hx hb dc_X1_isNoneBehind_5 (by decide) (fun c_8 => absurd c_8 (by decide)) (fun _ => ?_)
          refine lv_aload_n hx hb dc_X1_isNoneBehind_8 rfl (lv_at hl 1 rfl) ?_
          refine va_get (D := G.1) (ci := 2) (v := .ref tk) (C := RX1) (T := TX1) (N := 1) hx hb hts ki_X1 hown hE.1 hP 0 rfl rfl 0 (by decide) (hts _ kw_1_94) (fun _ h9 => h9) rfl dc_X1_isNoneBehind_9 ?_
          refine lv_iload_n hx hb dc_X1_isNoneBehind_12 rfl (lv_at hl 0 rfl) ?_
          refine ky_aldA hx hb hE.1 hP 1 rfl (vp_in_iff.mpr (by decide)) dc_X1_isNoneBehind_13 ?_
          rw [show va_rf ((fun j => if j < 8 then some (r j) else none) ((4 : Int32)).toNatClampNeg) = .ref (r 4) from rfl]
          refine lv_iload_n hx hb dc_X1_isNoneBehind_14 rfl (lv_at hl 2 rfl) ?_
          refine va_lald hx hb hE.1 hP 6 2 rfl rfl h1 dc_X1_isNoneBehind_15 ?_
          refine lv_aload_n hx hb dc_X1_isNoneBehind_16 rfl (lv_at hl 1 rfl) ?_
          refine va_get (D := G.1) (ci := 2) (v := .ref tk) (C := RX1) (T := TX1) (N := 1) hx hb hts ki_X1 hown hE.1 hP 0 rfl rfl 0 (by decide) (hts _ kw_1_94) (fun _ h9 => h9) rfl dc_X1_isNoneBehind_17 ?_
          refine lv_iload_n hx hb dc_X1_isNoneBehind_20 rfl (lv_at hl 0 rfl) ?_
          refine ky_aldA hx hb hE.1 hP 1 rfl (vp_in_iff.mpr (by decide)) dc_X1_isNoneBehind_21 ?_
          rw [show va_rf ((fun j => if j < 8 then some (r j) else none) ((4 : Int32)).toNatClampNeg) = .ref (r 4) from rfl]
          refine lv_iload_n hx hb dc_X1_isNoneBehind_22 rfl (lv_at hl 3 rfl) ?_
          refine va_lald hx hb hE.1 hP 6 2 rfl rfl h2 dc_X1_isNoneBehind_23 ?_
          refine W.lcmp hx hb dc_X1_isNoneBehind_24 ?_
          refine lv_if_le (tgt := 30) hx hb dc_X1_isNoneBehind_25 (by decide) (fun c_9 => ?_) (fun c_9 => ?_)
          · skip
            refine lv_iinc (v := (5 : Int32)) (lv' := [(3, .int ((5 : Int32))), (0, .ref pf), (1, .int (a1)), (2, .int (a2))]) hx hb dc_X1_isNoneBehind_30 hl (k := 0) rfl (by decide) (by decide) rfl (fun ls hl => ?_)
            refine lv_goto (tgt := 2) hx hb dc_X1_isNoneBehind_33 (by decide) ?_
            refine lv_iload_n hx hb dc_X1_isNoneBehind_2 rfl (lv_at hl 0 rfl) ?_
            refine lv_bipush (v := 8) hx hb dc_X1_isNoneBehind_3 (by decide) ?_
            refine lv_icmp_ge (tgt := 36) hx hb dc_X1_isNoneBehind_5 (by decide) (fun c_10 => absurd c_10 (by decide)) (fun _ => ?_)
            refine lv_aload_n hx hb dc_X1_isNoneBehind_8 rfl (lv_at hl 1 rfl) ?_
            refine va_get (D := G.1) (ci := 2) (v := .ref tk) (C := RX1) (T := TX1) (N := 1) hx hb hts ki_X1 hown hE.1 hP 0 rfl rfl 0 (by decide) (hts _ kw_1_94) (fun _ h9 => h9) rfl dc_X1_isNoneBehind_9 ?_
            refine lv_iload_n hx hb dc_X1_isNoneBehind_12 rfl (lv_at hl 0 rfl) ?_
            refine ky_aldA hx hb hE.1 hP 1 rfl (vp_in_iff.mpr (by decide)) dc_X1_isNoneBehind_13 ?_
            rw [show va_rf ((fun j => if j < 8 then some (r j) else none) ((5 : Int32)).toNatClampNeg) = .ref (r 5) from rfl]
            refine lv_iload_n hx hb dc_X1_isNoneBehind_14 rfl (lv_at hl 2 rfl) ?_
            refine va_lald hx hb hE.1 hP 7 2 rfl rfl h1 dc_X1_isNoneBehind_15 ?_
            refine lv_aload_n hx hb dc_X1_isNoneBehind_16 rfl (lv_at hl 1 rfl) ?_
            refine va_get (D := G.1) (ci := 2) (v := .ref tk) (C := RX1) (T := TX1) (N := 1) hx hb hts ki_X1 hown hE.1 hP 0 rfl rfl 0 (by decide) (hts _ kw_1_94) (fun _ h9 => h9) rfl dc_X1_isNoneBehind_17 ?_
            refine lv_iload_n hx hb dc_X1_isNoneBehind_20 rfl (lv_at hl 0 rfl) ?_
            refine ky_aldA hx hb hE.1 hP 1 rfl (vp_in_iff.mpr (by decide)) dc_X1_isNoneBehind_21 ?_
            rw [show va_rf ((fun j => if j < 8 then some (r j) else none) ((5 : Int32)).toNatClampNeg) = .ref (r 5) from rfl]
            refine lv_iload_n hx hb dc_X1_isNoneBehind_22 rfl (lv_at hl 3 rfl) ?_
            refine va_lald hx hb hE.1 hP 7 2 rfl rfl h2 dc_X1_isNoneBehind_23 ?_
            refine W.lcmp hx hb dc_X1_isNoneBehind_24 ?_
            refine lv_if_le (tgt := 30) hx hb dc_X1_isNoneBehind_25 (by decide) (fun c_11 => ?_) (fun c_11 => ?_)
            · skip
              refine lv_iinc (v := (6 : Int32)) (lv' := [(3, .int ((6 : Int32))), (0, .ref pf), (1, .int (a1)), (2, .int (a2))]) hx hb dc_X1_isNoneBehind_30 hl (k := 0) rfl (by decide) (by decide) rfl (fun ls hl => ?_)
              refine lv_goto (tgt := 2) hx hb dc_X1_isNoneBehind_33 (by decide) ?_
              refine lv_iload_n hx hb dc_X1_isNoneBehind_2 rfl (lv_at hl 0 rfl) ?_
              refine lv_bipush (v := 8) hx hb dc_X1_isNoneBehind_3 (by decide) ?_
              refine lv_icmp_ge (tgt := 36) hx hb dc_X1_isNoneBehind_5 (by decide) (fun c_12 => absurd c_12 (by decide)) (fun _ => ?_)
              refine lv_aload_n hx hb dc_X1_isNoneBehind_8 rfl (lv_at hl 1 rfl) ?_
              refine va_get (D := G.1) (ci := 2) (v := .ref tk) (C := RX1) (T := TX1) (N := 1) hx hb hts ki_X1 hown hE.1 hP 0 rfl rfl 0 (by decide) (hts _ kw_1_94) (fun _ h9 => h9) rfl dc_X1_isNoneBehind_9 ?_
              refine lv_iload_n hx hb dc_X1_isNoneBehind_12 rfl (lv_at hl 0 rfl) ?_
              refine ky_aldA hx hb hE.1 hP 1 rfl (vp_in_iff.mpr (by decide)) dc_X1_isNoneBehind_13 ?_
              rw [show va_rf ((fun j => if j < 8 then some (r j) else none) ((6 : Int32)).toNatClampNeg) = .ref (r 6) from rfl]
              refine lv_iload_n hx hb dc_X1_isNoneBehind_14 rfl (lv_at hl 2 rfl) ?_
              refine va_lald hx hb hE.1 hP 8 2 rfl rfl h1 dc_X1_isNoneBehind_15 ?_
              refine lv_aload_n hx hb dc_X1_isNoneBehind_16 rfl (lv_at hl 1 rfl) ?_
              refine va_get (D := G.1) (ci := 2) (v := .ref tk) (C := RX1) (T := TX1) (N := 1) hx hb hts ki_X1 hown hE.1 hP 0 rfl rfl 0 (by decide) (hts _ kw_1_94) (fun _ h9 => h9) rfl dc_X1_isNoneBehind_17 ?_
              refine lv_iload_n hx hb dc_X1_isNoneBehind_20 rfl (lv_at hl 0 rfl) ?_
              refine ky_aldA hx hb hE.1 hP 1 rfl (vp_in_iff.mpr (by decide)) dc_X1_isNoneBehind_21 ?_
              rw [show va_rf ((fun j => if j < 8 then some (r j) else none) ((6 : Int32)).toNatClampNeg) = .ref (r 6) from rfl]
              refine lv_iload_n hx hb dc_X1_isNoneBehind_22 rfl (lv_at hl 3 rfl) ?_
              refine va_lald hx hb hE.1 hP 8 2 rfl rfl h2 dc_X1_isNoneBehind_23 ?_
              refine W.lcmp hx hb dc_X1_isNoneBehind_24 ?_
              refine lv_if_le (tgt := 30) hx hb dc_X1_isNoneBehind_25 (by decide) (fun c_13 => ?_) (fun c_13 => ?_)
              · skip
                refine lv_iinc (v := (7 : Int32)) (lv' := [(3, .int ((7 : Int32))), (0, .ref pf), (1, .int (a1)), (2, .int (a2))]) hx hb dc_X1_isNoneBehind_30 hl (k := 0) rfl (by decide) (by decide) rfl (fun ls hl => ?_)
                refine lv_goto (tgt := 2) hx hb dc_X1_isNoneBehind_33 (by decide) ?_
                refine lv_iload_n hx hb dc_X1_isNoneBehind_2 rfl (lv_at hl 0 rfl) ?_
                refine lv_bipush (v := 8) hx hb dc_X1_isNoneBehind_3 (by decide) ?_
                refine lv_icmp_ge (tgt := 36) hx hb dc_X1_isNoneBehind_5 (by decide) (fun c_14 => absurd c_14 (by decide)) (fun _ => ?_)
                refine lv_aload_n hx hb dc_X1_isNoneBehind_8 rfl (lv_at hl 1 rfl) ?_
                refine va_get (D := G.1) (ci := 2) (v := .ref tk) (C := RX1) (T := TX1) (N := 1) hx hb hts ki_X1 hown hE.1 hP 0 rfl rfl 0 (by decide) (hts _ kw_1_94) (fun _ h9 => h9) rfl dc_X1_isNoneBehind_9 ?_
                refine lv_iload_n hx hb dc_X1_isNoneBehind_12 rfl (lv_at hl 0 rfl) ?_
                refine ky_aldA hx hb hE.1 hP 1 rfl (vp_in_iff.mpr (by decide)) dc_X1_isNoneBehind_13 ?_
                rw [show va_rf ((fun j => if j < 8 then some (r j) else none) ((7 : Int32)).toNatClampNeg) = .ref (r 7) from rfl]
                refine lv_iload_n hx hb dc_X1_isNoneBehind_14 rfl (lv_at hl 2 rfl) ?_
                refine va_lald hx hb hE.1 hP 9 2 rfl rfl h1 dc_X1_isNoneBehind_15 ?_
                refine lv_aload_n hx hb dc_X1_isNoneBehind_16 rfl (lv_at hl 1 rfl) ?_
                refine va_get (D := G.1) (ci := 2) (v := .ref tk) (C := RX1) (T := TX1) (N := 1) hx hb hts ki_X1 hown hE.1 hP 0 rfl rfl 0 (by decide) (hts _ kw_1_94) (fun _ h9 => h9) rfl dc_X1_isNoneBehind_17 ?_
                refine lv_iload_n hx hb dc_X1_isNoneBehind_20 rfl (lv_at hl 0 rfl) ?_
                refine ky_aldA hx hb hE.1 hP 1 rfl (vp_in_iff.mpr (by decide)) dc_X1_isNoneBehind_21 ?_
                rw [show va_rf ((fun j => if j < 8 then some (r j) else none) ((7 : Int32)).toNatClampNeg) = .ref (r 7) from rfl]
                refine lv_iload_n hx hb dc_X1_isNoneBehind_22 rfl (lv_at hl 3 rfl) ?_
                refine va_lald hx hb hE.1 hP 9 2 rfl rfl h2 dc_X1_isNoneBehind_23 ?_
                refine W.lcmp hx hb dc_X1_isNoneBehind_24 ?_
                refine lv_if_le (tgt := 30) hx hb dc_X1_isNoneBehind_25 (by decide) (fun c_15 => ?_) (fun c_15 => ?_)
                · skip
                  refine lv_iinc (v := (8 : Int32)) (lv' := [(3, .int ((8 : Int32))), (0, .ref pf), (1, .int (a1)), (2, .int (a2))]) hx hb dc_X1_isNoneBehind_30 hl (k := 0) rfl (by decide) (by decide) rfl (fun ls hl => ?_)
                  refine lv_goto (tgt := 2) hx hb dc_X1_isNoneBehind_33 (by decide) ?_
                  refine lv_iload_n hx hb dc_X1_isNoneBehind_2 rfl (lv_at hl 0 rfl) ?_
                  refine lv_bipush (v := 8) hx hb dc_X1_isNoneBehind_3 (by decide) ?_
                  refine lv_icmp_ge (tgt := 36) hx hb dc_X1_isNoneBehind_5 (by decide) (fun _ => ?_) (fun c_16 => absurd c_16 (by decide))
                  refine lv_iconst (v := 1) hx hb dc_X1_isNoneBehind_36 (by decide) ?_
                  have hP9 := hP.sub (ws' := [(pf, .inr (2, [.ref tk])), (tk, .inl (G.2.1 4, 8, .inr (.inr (.inr (.inr (fun j => if j < 8 then some (r j) else none)))))), ((r 0), .inl (G.2.1 2, 6, .inr (.inl (g 0)))), ((r 1), .inl (G.2.1 2, 6, .inr (.inl (g 1)))), ((r 2), .inl (G.2.1 2, 6, .inr (.inl (g 2)))), ((r 3), .inl (G.2.1 2, 6, .inr (.inl (g 3)))), ((r 4), .inl (G.2.1 2, 6, .inr (.inl (g 4)))), ((r 5), .inl (G.2.1 2, 6, .inr (.inl (g 5)))), ((r 6), .inl (G.2.1 2, 6, .inr (.inl (g 6)))), ((r 7), .inl (G.2.1 2, 6, .inr (.inl (g 7))))]) [0, 1, 2, 3, 4, 5, 6, 7, 8, 9] rfl
                  have hD9 := hD.sub (ws' := [(pf, .inr (2, [.ref tk])), (tk, .inl (G.2.1 4, 8, .inr (.inr (.inr (.inr (fun j => if j < 8 then some (r j) else none)))))), ((r 0), .inl (G.2.1 2, 6, .inr (.inl (g 0)))), ((r 1), .inl (G.2.1 2, 6, .inr (.inl (g 1)))), ((r 2), .inl (G.2.1 2, 6, .inr (.inl (g 2)))), ((r 3), .inl (G.2.1 2, 6, .inr (.inl (g 3)))), ((r 4), .inl (G.2.1 2, 6, .inr (.inl (g 4)))), ((r 5), .inl (G.2.1 2, 6, .inr (.inl (g 5)))), ((r 6), .inl (G.2.1 2, 6, .inr (.inl (g 6)))), ((r 7), .inl (G.2.1 2, 6, .inr (.inl (g 7))))]) [0, 1, 2, 3, 4, 5, 6, 7, 8, 9] (by decide) rfl
                  refine W.widen (k := 0) (n := 0) (Nat.le_of_ble_eq_true rfl) (Nat.le_of_ble_eq_true rfl) ?_
                  exact W.zret (v := (1 : Int32)) hx hb hr (by decide) (fun t ht hW => ⟨⟨_, g, rfl, ⟨_, rfl, by decide⟩, by rw [ht]; exact hP9, hD9, trivial⟩, hS.F ht⟩) hS.2.2 dc_X1_isNoneBehind_37
                · skip
                  refine lv_iconst (v := 0) hx hb dc_X1_isNoneBehind_28 (by decide) ?_
                  have hP9 := hP.sub (ws' := [(pf, .inr (2, [.ref tk])), (tk, .inl (G.2.1 4, 8, .inr (.inr (.inr (.inr (fun j => if j < 8 then some (r j) else none)))))), ((r 0), .inl (G.2.1 2, 6, .inr (.inl (g 0)))), ((r 1), .inl (G.2.1 2, 6, .inr (.inl (g 1)))), ((r 2), .inl (G.2.1 2, 6, .inr (.inl (g 2)))), ((r 3), .inl (G.2.1 2, 6, .inr (.inl (g 3)))), ((r 4), .inl (G.2.1 2, 6, .inr (.inl (g 4)))), ((r 5), .inl (G.2.1 2, 6, .inr (.inl (g 5)))), ((r 6), .inl (G.2.1 2, 6, .inr (.inl (g 6)))), ((r 7), .inl (G.2.1 2, 6, .inr (.inl (g 7))))]) [0, 1, 2, 3, 4, 5, 6, 7, 8, 9] rfl
                  have hD9 := hD.sub (ws' := [(pf, .inr (2, [.ref tk])), (tk, .inl (G.2.1 4, 8, .inr (.inr (.inr (.inr (fun j => if j < 8 then some (r j) else none)))))), ((r 0), .inl (G.2.1 2, 6, .inr (.inl (g 0)))), ((r 1), .inl (G.2.1 2, 6, .inr (.inl (g 1)))), ((r 2), .inl (G.2.1 2, 6, .inr (.inl (g 2)))), ((r 3), .inl (G.2.1 2, 6, .inr (.inl (g 3)))), ((r 4), .inl (G.2.1 2, 6, .inr (.inl (g 4)))), ((r 5), .inl (G.2.1 2, 6, .inr (.inl (g 5)))), ((r 6), .inl (G.2.1 2, 6, .inr (.inl (g 6)))), ((r 7), .inl (G.2.1 2, 6, .inr (.inl (g 7))))]) [0, 1, 2, 3, 4, 5, 6, 7, 8, 9] (by decide) rfl
                  refine W.widen (k := 0) (n := 0) (Nat.le_of_ble_eq_true rfl) (Nat.le_of_ble_eq_true rfl) ?_
                  exact W.zret (v := (0 : Int32)) hx hb hr (by decide) (fun t ht hW => ⟨⟨_, g, rfl, ⟨_, rfl, by decide⟩, by rw [ht]; exact hP9, hD9, trivial⟩, hS.F ht⟩) hS.2.2 dc_X1_isNoneBehind_29
              · skip
                refine lv_iconst (v := 0) hx hb dc_X1_isNoneBehind_28 (by decide) ?_
                have hP9 := hP.sub (ws' := [(pf, .inr (2, [.ref tk])), (tk, .inl (G.2.1 4, 8, .inr (.inr (.inr (.inr (fun j => if j < 8 then some (r j) else none)))))), ((r 0), .inl (G.2.1 2, 6, .inr (.inl (g 0)))), ((r 1), .inl (G.2.1 2, 6, .inr (.inl (g 1)))), ((r 2), .inl (G.2.1 2, 6, .inr (.inl (g 2)))), ((r 3), .inl (G.2.1 2, 6, .inr (.inl (g 3)))), ((r 4), .inl (G.2.1 2, 6, .inr (.inl (g 4)))), ((r 5), .inl (G.2.1 2, 6, .inr (.inl (g 5)))), ((r 6), .inl (G.2.1 2, 6, .inr (.inl (g 6)))), ((r 7), .inl (G.2.1 2, 6, .inr (.inl (g 7))))]) [0, 1, 2, 3, 4, 5, 6, 7, 8, 9] rfl
                have hD9 := hD.sub (ws' := [(pf, .inr (2, [.ref tk])), (tk, .inl (G.2.1 4, 8, .inr (.inr (.inr (.inr (fun j => if j < 8 then some (r j) else none)))))), ((r 0), .inl (G.2.1 2, 6, .inr (.inl (g 0)))), ((r 1), .inl (G.2.1 2, 6, .inr (.inl (g 1)))), ((r 2), .inl (G.2.1 2, 6, .inr (.inl (g 2)))), ((r 3), .inl (G.2.1 2, 6, .inr (.inl (g 3)))), ((r 4), .inl (G.2.1 2, 6, .inr (.inl (g 4)))), ((r 5), .inl (G.2.1 2, 6, .inr (.inl (g 5)))), ((r 6), .inl (G.2.1 2, 6, .inr (.inl (g 6)))), ((r 7), .inl (G.2.1 2, 6, .inr (.inl (g 7))))]) [0, 1, 2, 3, 4, 5, 6, 7, 8, 9] (by decide) rfl
                refine W.widen (k := 0) (n := 0) (Nat.le_of_ble_eq_true rfl) (Nat.le_of_ble_eq_true rfl) ?_
                exact W.zret (v := (0 : Int32)) hx hb hr (by decide) (fun t ht hW => ⟨⟨_, g, rfl, ⟨_, rfl, by decide⟩, by rw [ht]; exact hP9, hD9, trivial⟩, hS.F ht⟩) hS.2.2 dc_X1_isNoneBehind_29
            · skip
              refine lv_iconst (v := 0) hx hb dc_X1_isNoneBehind_28 (by decide) ?_
              have hP9 := hP.sub (ws' := [(pf, .inr (2, [.ref tk])), (tk, .inl (G.2.1 4, 8, .inr (.inr (.inr (.inr (fun j => if j < 8 then some (r j) else none)))))), ((r 0), .inl (G.2.1 2, 6, .inr (.inl (g 0)))), ((r 1), .inl (G.2.1 2, 6, .inr (.inl (g 1)))), ((r 2), .inl (G.2.1 2, 6, .inr (.inl (g 2)))), ((r 3), .inl (G.2.1 2, 6, .inr (.inl (g 3)))), ((r 4), .inl (G.2.1 2, 6, .inr (.inl (g 4)))), ((r 5), .inl (G.2.1 2, 6, .inr (.inl (g 5)))), ((r 6), .inl (G.2.1 2, 6, .inr (.inl (g 6)))), ((r 7), .inl (G.2.1 2, 6, .inr (.inl (g 7))))]) [0, 1, 2, 3, 4, 5, 6, 7, 8, 9] rfl
              have hD9 := hD.sub (ws' := [(pf, .inr (2, [.ref tk])), (tk, .inl (G.2.1 4, 8, .inr (.inr (.inr (.inr (fun j => if j < 8 then some (r j) else none)))))), ((r 0), .inl (G.2.1 2, 6, .inr (.inl (g 0)))), ((r 1), .inl (G.2.1 2, 6, .inr (.inl (g 1)))), ((r 2), .inl (G.2.1 2, 6, .inr (.inl (g 2)))), ((r 3), .inl (G.2.1 2, 6, .inr (.inl (g 3)))), ((r 4), .inl (G.2.1 2, 6, .inr (.inl (g 4)))), ((r 5), .inl (G.2.1 2, 6, .inr (.inl (g 5)))), ((r 6), .inl (G.2.1 2, 6, .inr (.inl (g 6)))), ((r 7), .inl (G.2.1 2, 6, .inr (.inl (g 7))))]) [0, 1, 2, 3, 4, 5, 6, 7, 8, 9] (by decide) rfl
              refine W.widen (k := 0) (n := 0) (Nat.le_of_ble_eq_true rfl) (Nat.le_of_ble_eq_true rfl) ?_
              exact W.zret (v := (0 : Int32)) hx hb hr (by decide) (fun t ht hW => ⟨⟨_, g, rfl, ⟨_, rfl, by decide⟩, by rw [ht]; exact hP9, hD9, trivial⟩, hS.F ht⟩) hS.2.2 dc_X1_isNoneBehind_29
          · skip
            refine lv_iconst (v := 0) hx hb dc_X1_isNoneBehind_28 (by decide) ?_
            have hP9 := hP.sub (ws' := [(pf, .inr (2, [.ref tk])), (tk, .inl (G.2.1 4, 8, .inr (.inr (.inr (.inr (fun j => if j < 8 then some (r j) else none)))))), ((r 0), .inl (G.2.1 2, 6, .inr (.inl (g 0)))), ((r 1), .inl (G.2.1 2, 6, .inr (.inl (g 1)))), ((r 2), .inl (G.2.1 2, 6, .inr (.inl (g 2)))), ((r 3), .inl (G.2.1 2, 6, .inr (.inl (g 3)))), ((r 4), .inl (G.2.1 2, 6, .inr (.inl (g 4)))), ((r 5), .inl (G.2.1 2, 6, .inr (.inl (g 5)))), ((r 6), .inl (G.2.1 2, 6, .inr (.inl (g 6)))), ((r 7), .inl (G.2.1 2, 6, .inr (.inl (g 7))))]) [0, 1, 2, 3, 4, 5, 6, 7, 8, 9] rfl
            have hD9 := hD.sub (ws' := [(pf, .inr (2, [.ref tk])), (tk, .inl (G.2.1 4, 8, .inr (.inr (.inr (.inr (fun j => if j < 8 then some (r j) else none)))))), ((r 0), .inl (G.2.1 2, 6, .inr (.inl (g 0)))), ((r 1), .inl (G.2.1 2, 6, .inr (.inl (g 1)))), ((r 2), .inl (G.2.1 2, 6, .inr (.inl (g 2)))), ((r 3), .inl (G.2.1 2, 6, .inr (.inl (g 3)))), ((r 4), .inl (G.2.1 2, 6, .inr (.inl (g 4)))), ((r 5), .inl (G.2.1 2, 6, .inr (.inl (g 5)))), ((r 6), .inl (G.2.1 2, 6, .inr (.inl (g 6)))), ((r 7), .inl (G.2.1 2, 6, .inr (.inl (g 7))))]) [0, 1, 2, 3, 4, 5, 6, 7, 8, 9] (by decide) rfl
            refine W.widen (k := 0) (n := 0) (Nat.le_of_ble_eq_true rfl) (Nat.le_of_ble_eq_true rfl) ?_
            exact W.zret (v := (0 : Int32)) hx hb hr (by decide) (fun t ht hW => ⟨⟨_, g, rfl, ⟨_, rfl, by decide⟩, by rw [ht]; exact hP9, hD9, trivial⟩, hS.F ht⟩) hS.2.2 dc_X1_isNoneBehind_29
        · skip
          refine lv_iconst (v := 0) hx hb dc_X1_isNoneBehind_28 (by decide) ?_
          have hP9 := hP.sub (ws' := [(pf, .inr (2, [.ref tk])), (tk, .inl (G.2.1 4, 8, .inr (.inr (.inr (.inr (fun j => if j < 8 then some (r j) else none)))))), ((r 0), .inl (G.2.1 2, 6, .inr (.inl (g 0)))), ((r 1), .inl (G.2.1 2, 6, .inr (.inl (g 1)))), ((r 2), .inl (G.2.1 2, 6, .inr (.inl (g 2)))), ((r 3), .inl (G.2.1 2, 6, .inr (.inl (g 3)))), ((r 4), .inl (G.2.1 2, 6, .inr (.inl (g 4)))), ((r 5), .inl (G.2.1 2, 6, .inr (.inl (g 5)))), ((r 6), .inl (G.2.1 2, 6, .inr (.inl (g 6)))), ((r 7), .inl (G.2.1 2, 6, .inr (.inl (g 7))))]) [0, 1, 2, 3, 4, 5, 6, 7, 8, 9] rfl
          have hD9 := hD.sub (ws' := [(pf, .inr (2, [.ref tk])), (tk, .inl (G.2.1 4, 8, .inr (.inr (.inr (.inr (fun j => if j < 8 then some (r j) else none)))))), ((r 0), .inl (G.2.1 2, 6, .inr (.inl (g 0)))), ((r 1), .inl (G.2.1 2, 6, .inr (.inl (g 1)))), ((r 2), .inl (G.2.1 2, 6, .inr (.inl (g 2)))), ((r 3), .inl (G.2.1 2, 6, .inr (.inl (g 3)))), ((r 4), .inl (G.2.1 2, 6, .inr (.inl (g 4)))), ((r 5), .inl (G.2.1 2, 6, .inr (.inl (g 5)))), ((r 6), .inl (G.2.1 2, 6, .inr (.inl (g 6)))), ((r 7), .inl (G.2.1 2, 6, .inr (.inl (g 7))))]) [0, 1, 2, 3, 4, 5, 6, 7, 8, 9] (by decide) rfl
          refine W.widen (k := 0) (n := 0) (Nat.le_of_ble_eq_true rfl) (Nat.le_of_ble_eq_true rfl) ?_
          exact W.zret (v := (0 : Int32)) hx hb hr (by decide) (fun t ht hW => ⟨⟨_, g, rfl, ⟨_, rfl, by decide⟩, by rw [ht]; exact hP9, hD9, trivial⟩, hS.F ht⟩) hS.2.2 dc_X1_isNoneBehind_29
      · skip
        refine lv_iconst (v := 0) hx hb dc_X1_isNoneBehind_28 (by decide) ?_
        have hP9 := hP.sub (ws' := [(pf, .inr (2, [.ref tk])), (tk, .inl (G.2.1 4, 8, .inr (.inr (.inr (.inr (fun j => if j < 8 then some (r j) else none)))))), ((r 0), .inl (G.2.1 2, 6, .inr (.inl (g 0)))), ((r 1), .inl (G.2.1 2, 6, .inr (.inl (g 1)))), ((r 2), .inl (G.2.1 2, 6, .inr (.inl (g 2)))), ((r 3), .inl (G.2.1 2, 6, .inr (.inl (g 3)))), ((r 4), .inl (G.2.1 2, 6, .inr (.inl (g 4)))), ((r 5), .inl (G.2.1 2, 6, .inr (.inl (g 5)))), ((r 6), .inl (G.2.1 2, 6, .inr (.inl (g 6)))), ((r 7), .inl (G.2.1 2, 6, .inr (.inl (g 7))))]) [0, 1, 2, 3, 4, 5, 6, 7, 8, 9] rfl
        have hD9 := hD.sub (ws' := [(pf, .inr (2, [.ref tk])), (tk, .inl (G.2.1 4, 8, .inr (.inr (.inr (.inr (fun j => if j < 8 then some (r j) else none)))))), ((r 0), .inl (G.2.1 2, 6, .inr (.inl (g 0)))), ((r 1), .inl (G.2.1 2, 6, .inr (.inl (g 1)))), ((r 2), .inl (G.2.1 2, 6, .inr (.inl (g 2)))), ((r 3), .inl (G.2.1 2, 6, .inr (.inl (g 3)))), ((r 4), .inl (G.2.1 2, 6, .inr (.inl (g 4)))), ((r 5), .inl (G.2.1 2, 6, .inr (.inl (g 5)))), ((r 6), .inl (G.2.1 2, 6, .inr (.inl (g 6)))), ((r 7), .inl (G.2.1 2, 6, .inr (.inl (g 7))))]) [0, 1, 2, 3, 4, 5, 6, 7, 8, 9] (by decide) rfl
        refine W.widen (k := 0) (n := 0) (Nat.le_of_ble_eq_true rfl) (Nat.le_of_ble_eq_true rfl) ?_
        exact W.zret (v := (0 : Int32)) hx hb hr (by decide) (fun t ht hW => ⟨⟨_, g, rfl, ⟨_, rfl, by decide⟩, by rw [ht]; exact hP9, hD9, trivial⟩, hS.F ht⟩) hS.2.2 dc_X1_isNoneBehind_29
    · skip
      refine lv_iconst (v := 0) hx hb dc_X1_isNoneBehind_28 (by decide) ?_
      have hP9 := hP.sub (ws' := [(pf, .inr (2, [.ref tk])), (tk, .inl (G.2.1 4, 8, .inr (.inr (.inr (.inr (fun j => if j < 8 then some (r j) else none)))))), ((r 0), .inl (G.2.1 2, 6, .inr (.inl (g 0)))), ((r 1), .inl (G.2.1 2, 6, .inr (.inl (g 1)))), ((r 2), .inl (G.2.1 2, 6, .inr (.inl (g 2)))), ((r 3), .inl (G.2.1 2, 6, .inr (.inl (g 3)))), ((r 4), .inl (G.2.1 2, 6, .inr (.inl (g 4)))), ((r 5), .inl (G.2.1 2, 6, .inr (.inl (g 5)))), ((r 6), .inl (G.2.1 2, 6, .inr (.inl (g 6)))), ((r 7), .inl (G.2.1 2, 6, .inr (.inl (g 7))))]) [0, 1, 2, 3, 4, 5, 6, 7, 8, 9] rfl
      have hD9 := hD.sub (ws' := [(pf, .inr (2, [.ref tk])), (tk, .inl (G.2.1 4, 8, .inr (.inr (.inr (.inr (fun j => if j < 8 then some (r j) else none)))))), ((r 0), .inl (G.2.1 2, 6, .inr (.inl (g 0)))), ((r 1), .inl (G.2.1 2, 6, .inr (.inl (g 1)))), ((r 2), .inl (G.2.1 2, 6, .inr (.inl (g 2)))), ((r 3), .inl (G.2.1 2, 6, .inr (.inl (g 3)))), ((r 4), .inl (G.2.1 2, 6, .inr (.inl (g 4)))), ((r 5), .inl (G.2.1 2, 6, .inr (.inl (g 5)))), ((r 6), .inl (G.2.1 2, 6, .inr (.inl (g 6)))), ((r 7), .inl (G.2.1 2, 6, .inr (.inl (g 7))))]) [0, 1, 2, 3, 4, 5, 6, 7, 8, 9] (by decide) rfl
      refine W.widen (k := 0) (n := 0) (Nat.le_of_ble_eq_true rfl) (Nat.le_of_ble_eq_true rfl) ?_
      exact W.zret (v := (0 : Int32)) hx hb hr (by decide) (fun t ht hW => ⟨⟨_, g, rfl, ⟨_, rfl, by decide⟩, by rw [ht]; exact hP9, hD9, trivial⟩, hS.F ht⟩) hS.2.2 dc_X1_isNoneBehind_29
  · skip
    refine lv_iconst (v := 0) hx hb dc_X1_isNoneBehind_28 (by decide) ?_
    have hP9 := hP.sub (ws' := [(pf, .inr (2, [.ref tk])), (tk, .inl (G.2.1 4, 8, .inr (.inr (.inr (.inr (fun j => if j < 8 then some (r j) else none)))))), ((r 0), .inl (G.2.1 2, 6, .inr (.inl (g 0)))), ((r 1), .inl (G.2.1 2, 6, .inr (.inl (g 1)))), ((r 2), .inl (G.2.1 2, 6, .inr (.inl (g 2)))), ((r 3), .inl (G.2.1 2, 6, .inr (.inl (g 3)))), ((r 4), .inl (G.2.1 2, 6, .inr (.inl (g 4)))), ((r 5), .inl (G.2.1 2, 6, .inr (.inl (g 5)))), ((r 6), .inl (G.2.1 2, 6, .inr (.inl (g 6)))), ((r 7), .inl (G.2.1 2, 6, .inr (.inl (g 7))))]) [0, 1, 2, 3, 4, 5, 6, 7, 8, 9] rfl
    have hD9 := hD.sub (ws' := [(pf, .inr (2, [.ref tk])), (tk, .inl (G.2.1 4, 8, .inr (.inr (.inr (.inr (fun j => if j < 8 then some (r j) else none)))))), ((r 0), .inl (G.2.1 2, 6, .inr (.inl (g 0)))), ((r 1), .inl (G.2.1 2, 6, .inr (.inl (g 1)))), ((r 2), .inl (G.2.1 2, 6, .inr (.inl (g 2)))), ((r 3), .inl (G.2.1 2, 6, .inr (.inl (g 3)))), ((r 4), .inl (G.2.1 2, 6, .inr (.inl (g 4)))), ((r 5), .inl (G.2.1 2, 6, .inr (.inl (g 5)))), ((r 6), .inl (G.2.1 2, 6, .inr (.inl (g 6)))), ((r 7), .inl (G.2.1 2, 6, .inr (.inl (g 7))))]) [0, 1, 2, 3, 4, 5, 6, 7, 8, 9] (by decide) rfl
    refine W.widen (k := 0) (n := 0) (Nat.le_of_ble_eq_true rfl) (Nat.le_of_ble_eq_true rfl) ?_
    exact W.zret (v := (0 : Int32)) hx hb hr (by decide) (fun t ht hW => ⟨⟨_, g, rfl, ⟨_, rfl, by decide⟩, by rw [ht]; exact hP9, hD9, trivial⟩, hS.F ht⟩) hS.2.2 dc_X1_isNoneBehind_29
set_option linter.constructorNameAsVariable false in
set_option maxHeartbeats 4000000 in
set_option maxRecDepth 100000 in
theorem mt_X1_fillColumn (l : Launch) (G : ky_G) (pf : Nat) (tk : Nat) (r : Nat → Nat) (g : Nat → Nat → Int64) (a1 : Int32) (a2 : Int64) (sz : Nat) (h1 : vp_in (a1) 6) : Met l my_X1_fillColumn (.code my_X1_fillColumn prog_3_method_7_code 4 none :: ky_B) { frames := 4, cells := 0, slots := 0, locals := 99 } (ky_P G [.ref pf, .int (a1), .long (a2)] (ky_WPf G pf tk r g) sz (fun _ => True)) (ky_Q (S := Nat → Nat → Int64) G (va_A (ky_WPf G pf tk r g) sz) (fun v _ => v = none) (fun u => ky_WPf G pf tk r u) (fun _ _ => True)) (0) (0) (va_A (ky_WPf G pf tk r g) sz) := by
  refine ky_start (by decide) (Nat.le_of_ble_eq_true rfl) (fun p e s m below meth c F hE A hAe hsz hA hfr hP hD hS hX ls hl => ?_)
  obtain ⟨hx, hb, hml, hown, hr, hlocks, hts⟩ := id F
  have hl : lv_has ls 4 [(0, .ref pf), (1, .int (a1)), (2, .long (a2))] := hl
  have hP : va_P G.1 kcl [(pf, .inr (2, [.ref tk])), (tk, .inl (G.2.1 4, 8, .inr (.inr (.inr (.inr (fun j => if j < 8 then some (r j) else none)))))), ((r 0), .inl (G.2.1 2, 6, .inr (.inl (g 0)))), ((r 1), .inl (G.2.1 2, 6, .inr (.inl (g 1)))), ((r 2), .inl (G.2.1 2, 6, .inr (.inl (g 2)))), ((r 3), .inl (G.2.1 2, 6, .inr (.inl (g 3)))), ((r 4), .inl (G.2.1 2, 6, .inr (.inl (g 4)))), ((r 5), .inl (G.2.1 2, 6, .inr (.inl (g 5)))), ((r 6), .inl (G.2.1 2, 6, .inr (.inl (g 6)))), ((r 7), .inl (G.2.1 2, 6, .inr (.inl (g 7))))] s.heap := hP
  have hD : va_D A [(pf, .inr (2, [.ref tk])), (tk, .inl (G.2.1 4, 8, .inr (.inr (.inr (.inr (fun j => if j < 8 then some (r j) else none)))))), ((r 0), .inl (G.2.1 2, 6, .inr (.inl (g 0)))), ((r 1), .inl (G.2.1 2, 6, .inr (.inl (g 1)))), ((r 2), .inl (G.2.1 2, 6, .inr (.inl (g 2)))), ((r 3), .inl (G.2.1 2, 6, .inr (.inl (g 3)))), ((r 4), .inl (G.2.1 2, 6, .inr (.inl (g 4)))), ((r 5), .inl (G.2.1 2, 6, .inr (.inl (g 5)))), ((r 6), .inl (G.2.1 2, 6, .inr (.inl (g 6)))), ((r 7), .inl (G.2.1 2, 6, .inr (.inl (g 7))))] := hD
  refine lv_aload_n hx hb dc_X1_fillColumn_0 rfl (lv_at hl 0 rfl) ?_
  refine va_get (D := G.1) (ci := 2) (v := .ref tk) (C := RX1) (T := TX1) (N := 1) hx hb hts ki_X1 hown hE.1 hP 0 rfl rfl 0 (by decide) (hts _ kw_1_94) (fun _ h9 => h9) rfl dc_X1_fillColumn_1 ?_
  refine lv_iconst (v := 0) hx hb dc_X1_fillColumn_4 (by decide) ?_
  refine ky_aldA hx hb hE.1 hP 1 rfl (vp_in_iff.mpr (by decide)) dc_X1_fillColumn_5 ?_
  rw [show va_rf ((fun j => if j < 8 then some (r j) else none) ((0 : Int32)).toNatClampNeg) = .ref (r 0) from rfl]
  refine lv_iload_n hx hb dc_X1_fillColumn_6 rfl (lv_at hl 1 rfl) ?_
  refine lv_lload_n hx hb dc_X1_fillColumn_7 rfl (lv_at hl 2 rfl) ?_
  refine ky_cS0 (As := [.long (a2)]) F (mt_X4_floorFrom l (a2)) ks_X1_37 ⟨⟨rfl, rfl⟩, by decide, by decide⟩ rfl hl.1 rfl (Nat.le_of_ble_eq_true rfl) ⟨Nat.le_of_ble_eq_true rfl, Nat.le_of_ble_eq_true rfl⟩ dc_X1_fillColumn_8 ?_
  refine ky_cS0 (As := [.long (fn_X4_floorFrom (a2))]) F (mt_X0_rungIn l (fn_X4_floorFrom (a2))) ks_X1_51 ⟨⟨rfl, rfl⟩, by decide, by decide⟩ rfl hl.1 rfl (Nat.le_of_ble_eq_true rfl) ⟨Nat.le_of_ble_eq_true rfl, Nat.le_of_ble_eq_true rfl⟩ dc_X1_fillColumn_11 ?_
  refine va_last hx hb hE.1 hP hD hS 2 2 rfl rfl h1 dc_X1_fillColumn_14 (fun H locs hP hD hS => ?_)
  have hP : va_P G.1 kcl [(pf, .inr (2, [.ref tk])), (tk, .inl (G.2.1 4, 8, .inr (.inr (.inr (.inr (fun j => if j < 8 then some (r j) else none)))))), ((r 0), .inl (G.2.1 2, 6, .inr (.inl (vp_updL (g 0) (a1).toNatClampNeg (fn_X0_rungIn (fn_X4_floorFrom (a2))))))), ((r 1), .inl (G.2.1 2, 6, .inr (.inl (g 1)))), ((r 2), .inl (G.2.1 2, 6, .inr (.inl (g 2)))), ((r 3), .inl (G.2.1 2, 6, .inr (.inl (g 3)))), ((r 4), .inl (G.2.1 2, 6, .inr (.inl (g 4)))), ((r 5), .inl (G.2.1 2, 6, .inr (.inl (g 5)))), ((r 6), .inl (G.2.1 2, 6, .inr (.inl (g 6)))), ((r 7), .inl (G.2.1 2, 6, .inr (.inl (g 7))))] H := hP
  have hD : va_D A [(pf, .inr (2, [.ref tk])), (tk, .inl (G.2.1 4, 8, .inr (.inr (.inr (.inr (fun j => if j < 8 then some (r j) else none)))))), ((r 0), .inl (G.2.1 2, 6, .inr (.inl (vp_updL (g 0) (a1).toNatClampNeg (fn_X0_rungIn (fn_X4_floorFrom (a2))))))), ((r 1), .inl (G.2.1 2, 6, .inr (.inl (g 1)))), ((r 2), .inl (G.2.1 2, 6, .inr (.inl (g 2)))), ((r 3), .inl (G.2.1 2, 6, .inr (.inl (g 3)))), ((r 4), .inl (G.2.1 2, 6, .inr (.inl (g 4)))), ((r 5), .inl (G.2.1 2, 6, .inr (.inl (g 5)))), ((r 6), .inl (G.2.1 2, 6, .inr (.inl (g 6)))), ((r 7), .inl (G.2.1 2, 6, .inr (.inl (g 7))))] := hD
  refine lv_aload_n hx hb dc_X1_fillColumn_15 rfl (lv_at hl 0 rfl) ?_
  refine va_get (D := G.1) (ci := 2) (v := .ref tk) (C := RX1) (T := TX1) (N := 1) hx hb hts ki_X1 hown hE.1 hP 0 rfl rfl 0 (by decide) (hts _ kw_1_94) (fun _ h9 => h9) rfl dc_X1_fillColumn_16 ?_
  refine lv_iconst (v := 1) hx hb dc_X1_fillColumn_19 (by decide) ?_
  refine ky_aldA hx hb hE.1 hP 1 rfl (vp_in_iff.mpr (by decide)) dc_X1_fillColumn_20 ?_
  rw [show va_rf ((fun j => if j < 8 then some (r j) else none) ((1 : Int32)).toNatClampNeg) = .ref (r 1) from rfl]
  refine lv_iload_n hx hb dc_X1_fillColumn_21 rfl (lv_at hl 1 rfl) ?_
  refine lv_lload_n hx hb dc_X1_fillColumn_22 rfl (lv_at hl 2 rfl) ?_
  refine ky_cS0 (As := [.long (a2)]) F (mt_X4_ceilFrom l (a2)) ks_X1_43 ⟨⟨rfl, rfl⟩, by decide, by decide⟩ rfl hl.1 rfl (Nat.le_of_ble_eq_true rfl) ⟨Nat.le_of_ble_eq_true rfl, Nat.le_of_ble_eq_true rfl⟩ dc_X1_fillColumn_23 ?_
  refine ky_cS0 (As := [.long (fn_X4_ceilFrom (a2))]) F (mt_X0_rungIn l (fn_X4_ceilFrom (a2))) ks_X1_51 ⟨⟨rfl, rfl⟩, by decide, by decide⟩ rfl hl.1 rfl (Nat.le_of_ble_eq_true rfl) ⟨Nat.le_of_ble_eq_true rfl, Nat.le_of_ble_eq_true rfl⟩ dc_X1_fillColumn_26 ?_
  refine va_last hx hb hE.1 hP hD hS 3 2 rfl rfl h1 dc_X1_fillColumn_29 (fun H locs hP hD hS => ?_)
  have hP : va_P G.1 kcl [(pf, .inr (2, [.ref tk])), (tk, .inl (G.2.1 4, 8, .inr (.inr (.inr (.inr (fun j => if j < 8 then some (r j) else none)))))), ((r 0), .inl (G.2.1 2, 6, .inr (.inl (vp_updL (g 0) (a1).toNatClampNeg (fn_X0_rungIn (fn_X4_floorFrom (a2))))))), ((r 1), .inl (G.2.1 2, 6, .inr (.inl (vp_updL (g 1) (a1).toNatClampNeg (fn_X0_rungIn (fn_X4_ceilFrom (a2))))))), ((r 2), .inl (G.2.1 2, 6, .inr (.inl (g 2)))), ((r 3), .inl (G.2.1 2, 6, .inr (.inl (g 3)))), ((r 4), .inl (G.2.1 2, 6, .inr (.inl (g 4)))), ((r 5), .inl (G.2.1 2, 6, .inr (.inl (g 5)))), ((r 6), .inl (G.2.1 2, 6, .inr (.inl (g 6)))), ((r 7), .inl (G.2.1 2, 6, .inr (.inl (g 7))))] H := hP
  have hD : va_D A [(pf, .inr (2, [.ref tk])), (tk, .inl (G.2.1 4, 8, .inr (.inr (.inr (.inr (fun j => if j < 8 then some (r j) else none)))))), ((r 0), .inl (G.2.1 2, 6, .inr (.inl (vp_updL (g 0) (a1).toNatClampNeg (fn_X0_rungIn (fn_X4_floorFrom (a2))))))), ((r 1), .inl (G.2.1 2, 6, .inr (.inl (vp_updL (g 1) (a1).toNatClampNeg (fn_X0_rungIn (fn_X4_ceilFrom (a2))))))), ((r 2), .inl (G.2.1 2, 6, .inr (.inl (g 2)))), ((r 3), .inl (G.2.1 2, 6, .inr (.inl (g 3)))), ((r 4), .inl (G.2.1 2, 6, .inr (.inl (g 4)))), ((r 5), .inl (G.2.1 2, 6, .inr (.inl (g 5)))), ((r 6), .inl (G.2.1 2, 6, .inr (.inl (g 6)))), ((r 7), .inl (G.2.1 2, 6, .inr (.inl (g 7))))] := hD
  refine lv_aload_n hx hb dc_X1_fillColumn_30 rfl (lv_at hl 0 rfl) ?_
  refine va_get (D := G.1) (ci := 2) (v := .ref tk) (C := RX1) (T := TX1) (N := 1) hx hb hts ki_X1 hown hE.1 hP 0 rfl rfl 0 (by decide) (hts _ kw_1_94) (fun _ h9 => h9) rfl dc_X1_fillColumn_31 ?_
  refine lv_iconst (v := 2) hx hb dc_X1_fillColumn_34 (by decide) ?_
  refine ky_aldA hx hb hE.1 hP 1 rfl (vp_in_iff.mpr (by decide)) dc_X1_fillColumn_35 ?_
  rw [show va_rf ((fun j => if j < 8 then some (r j) else none) ((2 : Int32)).toNatClampNeg) = .ref (r 2) from rfl]
  refine lv_iload_n hx hb dc_X1_fillColumn_36 rfl (lv_at hl 1 rfl) ?_
  refine lv_lload_n hx hb dc_X1_fillColumn_37 rfl (lv_at hl 2 rfl) ?_
  refine ky_cS0 (As := [.long (a2)]) F (mt_X4_rintFrom l (a2)) ks_X1_54 ⟨⟨rfl, rfl⟩, by decide, by decide⟩ rfl hl.1 rfl (Nat.le_of_ble_eq_true rfl) ⟨Nat.le_of_ble_eq_true rfl, Nat.le_of_ble_eq_true rfl⟩ dc_X1_fillColumn_38 ?_
  refine ky_cS0 (As := [.long (fn_X4_rintFrom (a2))]) F (mt_X0_rungIn l (fn_X4_rintFrom (a2))) ks_X1_51 ⟨⟨rfl, rfl⟩, by decide, by decide⟩ rfl hl.1 rfl (Nat.le_of_ble_eq_true rfl) ⟨Nat.le_of_ble_eq_true rfl, Nat.le_of_ble_eq_true rfl⟩ dc_X1_fillColumn_41 ?_
  refine va_last hx hb hE.1 hP hD hS 4 2 rfl rfl h1 dc_X1_fillColumn_44 (fun H locs hP hD hS => ?_)
  have hP : va_P G.1 kcl [(pf, .inr (2, [.ref tk])), (tk, .inl (G.2.1 4, 8, .inr (.inr (.inr (.inr (fun j => if j < 8 then some (r j) else none)))))), ((r 0), .inl (G.2.1 2, 6, .inr (.inl (vp_updL (g 0) (a1).toNatClampNeg (fn_X0_rungIn (fn_X4_floorFrom (a2))))))), ((r 1), .inl (G.2.1 2, 6, .inr (.inl (vp_updL (g 1) (a1).toNatClampNeg (fn_X0_rungIn (fn_X4_ceilFrom (a2))))))), ((r 2), .inl (G.2.1 2, 6, .inr (.inl (vp_updL (g 2) (a1).toNatClampNeg (fn_X0_rungIn (fn_X4_rintFrom (a2))))))), ((r 3), .inl (G.2.1 2, 6, .inr (.inl (g 3)))), ((r 4), .inl (G.2.1 2, 6, .inr (.inl (g 4)))), ((r 5), .inl (G.2.1 2, 6, .inr (.inl (g 5)))), ((r 6), .inl (G.2.1 2, 6, .inr (.inl (g 6)))), ((r 7), .inl (G.2.1 2, 6, .inr (.inl (g 7))))] H := hP
  have hD : va_D A [(pf, .inr (2, [.ref tk])), (tk, .inl (G.2.1 4, 8, .inr (.inr (.inr (.inr (fun j => if j < 8 then some (r j) else none)))))), ((r 0), .inl (G.2.1 2, 6, .inr (.inl (vp_updL (g 0) (a1).toNatClampNeg (fn_X0_rungIn (fn_X4_floorFrom (a2))))))), ((r 1), .inl (G.2.1 2, 6, .inr (.inl (vp_updL (g 1) (a1).toNatClampNeg (fn_X0_rungIn (fn_X4_ceilFrom (a2))))))), ((r 2), .inl (G.2.1 2, 6, .inr (.inl (vp_updL (g 2) (a1).toNatClampNeg (fn_X0_rungIn (fn_X4_rintFrom (a2))))))), ((r 3), .inl (G.2.1 2, 6, .inr (.inl (g 3)))), ((r 4), .inl (G.2.1 2, 6, .inr (.inl (g 4)))), ((r 5), .inl (G.2.1 2, 6, .inr (.inl (g 5)))), ((r 6), .inl (G.2.1 2, 6, .inr (.inl (g 6)))), ((r 7), .inl (G.2.1 2, 6, .inr (.inl (g 7))))] := hD
  refine lv_aload_n hx hb dc_X1_fillColumn_45 rfl (lv_at hl 0 rfl) ?_
  refine va_get (D := G.1) (ci := 2) (v := .ref tk) (C := RX1) (T := TX1) (N := 1) hx hb hts ki_X1 hown hE.1 hP 0 rfl rfl 0 (by decide) (hts _ kw_1_94) (fun _ h9 => h9) rfl dc_X1_fillColumn_46 ?_
  refine lv_iconst (v := 3) hx hb dc_X1_fillColumn_49 (by decide) ?_
  refine ky_aldA hx hb hE.1 hP 1 rfl (vp_in_iff.mpr (by decide)) dc_X1_fillColumn_50 ?_
  rw [show va_rf ((fun j => if j < 8 then some (r j) else none) ((3 : Int32)).toNatClampNeg) = .ref (r 3) from rfl]
  refine lv_iload_n hx hb dc_X1_fillColumn_51 rfl (lv_at hl 1 rfl) ?_
  refine lv_lload_n hx hb dc_X1_fillColumn_52 rfl (lv_at hl 2 rfl) ?_
  refine ky_cS0 (As := [.long (a2)]) F (mt_X4_upFrom l (a2)) ks_X1_67 ⟨⟨rfl, rfl⟩, by decide, by decide⟩ rfl hl.1 rfl (Nat.le_of_ble_eq_true rfl) ⟨Nat.le_of_ble_eq_true rfl, Nat.le_of_ble_eq_true rfl⟩ dc_X1_fillColumn_53 ?_
  refine ky_cS0 (As := [.long (fn_X4_upFrom (a2))]) F (mt_X0_rungIn l (fn_X4_upFrom (a2))) ks_X1_51 ⟨⟨rfl, rfl⟩, by decide, by decide⟩ rfl hl.1 rfl (Nat.le_of_ble_eq_true rfl) ⟨Nat.le_of_ble_eq_true rfl, Nat.le_of_ble_eq_true rfl⟩ dc_X1_fillColumn_56 ?_
  refine va_last hx hb hE.1 hP hD hS 5 2 rfl rfl h1 dc_X1_fillColumn_59 (fun H locs hP hD hS => ?_)
  have hP : va_P G.1 kcl [(pf, .inr (2, [.ref tk])), (tk, .inl (G.2.1 4, 8, .inr (.inr (.inr (.inr (fun j => if j < 8 then some (r j) else none)))))), ((r 0), .inl (G.2.1 2, 6, .inr (.inl (vp_updL (g 0) (a1).toNatClampNeg (fn_X0_rungIn (fn_X4_floorFrom (a2))))))), ((r 1), .inl (G.2.1 2, 6, .inr (.inl (vp_updL (g 1) (a1).toNatClampNeg (fn_X0_rungIn (fn_X4_ceilFrom (a2))))))), ((r 2), .inl (G.2.1 2, 6, .inr (.inl (vp_updL (g 2) (a1).toNatClampNeg (fn_X0_rungIn (fn_X4_rintFrom (a2))))))), ((r 3), .inl (G.2.1 2, 6, .inr (.inl (vp_updL (g 3) (a1).toNatClampNeg (fn_X0_rungIn (fn_X4_upFrom (a2))))))), ((r 4), .inl (G.2.1 2, 6, .inr (.inl (g 4)))), ((r 5), .inl (G.2.1 2, 6, .inr (.inl (g 5)))), ((r 6), .inl (G.2.1 2, 6, .inr (.inl (g 6)))), ((r 7), .inl (G.2.1 2, 6, .inr (.inl (g 7))))] H := hP
  have hD : va_D A [(pf, .inr (2, [.ref tk])), (tk, .inl (G.2.1 4, 8, .inr (.inr (.inr (.inr (fun j => if j < 8 then some (r j) else none)))))), ((r 0), .inl (G.2.1 2, 6, .inr (.inl (vp_updL (g 0) (a1).toNatClampNeg (fn_X0_rungIn (fn_X4_floorFrom (a2))))))), ((r 1), .inl (G.2.1 2, 6, .inr (.inl (vp_updL (g 1) (a1).toNatClampNeg (fn_X0_rungIn (fn_X4_ceilFrom (a2))))))), ((r 2), .inl (G.2.1 2, 6, .inr (.inl (vp_updL (g 2) (a1).toNatClampNeg (fn_X0_rungIn (fn_X4_rintFrom (a2))))))), ((r 3), .inl (G.2.1 2, 6, .inr (.inl (vp_updL (g 3) (a1).toNatClampNeg (fn_X0_rungIn (fn_X4_upFrom (a2))))))), ((r 4), .inl (G.2.1 2, 6, .inr (.inl (g 4)))), ((r 5), .inl (G.2.1 2, 6, .inr (.inl (g 5)))), ((r 6), .inl (G.2.1 2, 6, .inr (.inl (g 6)))), ((r 7), .inl (G.2.1 2, 6, .inr (.inl (g 7))))] := hD
  refine lv_aload_n hx hb dc_X1_fillColumn_60 rfl (lv_at hl 0 rfl) ?_
  refine va_get (D := G.1) (ci := 2) (v := .ref tk) (C := RX1) (T := TX1) (N := 1) hx hb hts ki_X1 hown hE.1 hP 0 rfl rfl 0 (by decide) (hts _ kw_1_94) (fun _ h9 => h9) rfl dc_X1_fillColumn_61 ?_
  refine lv_iconst (v := 4) hx hb dc_X1_fillColumn_64 (by decide) ?_
  refine ky_aldA hx hb hE.1 hP 1 rfl (vp_in_iff.mpr (by decide)) dc_X1_fillColumn_65 ?_
  rw [show va_rf ((fun j => if j < 8 then some (r j) else none) ((4 : Int32)).toNatClampNeg) = .ref (r 4) from rfl]
  refine lv_iload_n hx hb dc_X1_fillColumn_66 rfl (lv_at hl 1 rfl) ?_
  refine lv_lload_n hx hb dc_X1_fillColumn_67 rfl (lv_at hl 2 rfl) ?_
  refine ky_cS0 (As := [.long (a2)]) F (mt_X4_downFrom l (a2)) ks_X1_70 ⟨⟨rfl, rfl⟩, by decide, by decide⟩ rfl hl.1 rfl (Nat.le_of_ble_eq_true rfl) ⟨Nat.le_of_ble_eq_true rfl, Nat.le_of_ble_eq_true rfl⟩ dc_X1_fillColumn_68 ?_
  refine ky_cS0 (As := [.long (fn_X4_downFrom (a2))]) F (mt_X0_rungIn l (fn_X4_downFrom (a2))) ks_X1_51 ⟨⟨rfl, rfl⟩, by decide, by decide⟩ rfl hl.1 rfl (Nat.le_of_ble_eq_true rfl) ⟨Nat.le_of_ble_eq_true rfl, Nat.le_of_ble_eq_true rfl⟩ dc_X1_fillColumn_71 ?_
  refine va_last hx hb hE.1 hP hD hS 6 2 rfl rfl h1 dc_X1_fillColumn_74 (fun H locs hP hD hS => ?_)
  have hP : va_P G.1 kcl [(pf, .inr (2, [.ref tk])), (tk, .inl (G.2.1 4, 8, .inr (.inr (.inr (.inr (fun j => if j < 8 then some (r j) else none)))))), ((r 0), .inl (G.2.1 2, 6, .inr (.inl (vp_updL (g 0) (a1).toNatClampNeg (fn_X0_rungIn (fn_X4_floorFrom (a2))))))), ((r 1), .inl (G.2.1 2, 6, .inr (.inl (vp_updL (g 1) (a1).toNatClampNeg (fn_X0_rungIn (fn_X4_ceilFrom (a2))))))), ((r 2), .inl (G.2.1 2, 6, .inr (.inl (vp_updL (g 2) (a1).toNatClampNeg (fn_X0_rungIn (fn_X4_rintFrom (a2))))))), ((r 3), .inl (G.2.1 2, 6, .inr (.inl (vp_updL (g 3) (a1).toNatClampNeg (fn_X0_rungIn (fn_X4_upFrom (a2))))))), ((r 4), .inl (G.2.1 2, 6, .inr (.inl (vp_updL (g 4) (a1).toNatClampNeg (fn_X0_rungIn (fn_X4_downFrom (a2))))))), ((r 5), .inl (G.2.1 2, 6, .inr (.inl (g 5)))), ((r 6), .inl (G.2.1 2, 6, .inr (.inl (g 6)))), ((r 7), .inl (G.2.1 2, 6, .inr (.inl (g 7))))] H := hP
  have hD : va_D A [(pf, .inr (2, [.ref tk])), (tk, .inl (G.2.1 4, 8, .inr (.inr (.inr (.inr (fun j => if j < 8 then some (r j) else none)))))), ((r 0), .inl (G.2.1 2, 6, .inr (.inl (vp_updL (g 0) (a1).toNatClampNeg (fn_X0_rungIn (fn_X4_floorFrom (a2))))))), ((r 1), .inl (G.2.1 2, 6, .inr (.inl (vp_updL (g 1) (a1).toNatClampNeg (fn_X0_rungIn (fn_X4_ceilFrom (a2))))))), ((r 2), .inl (G.2.1 2, 6, .inr (.inl (vp_updL (g 2) (a1).toNatClampNeg (fn_X0_rungIn (fn_X4_rintFrom (a2))))))), ((r 3), .inl (G.2.1 2, 6, .inr (.inl (vp_updL (g 3) (a1).toNatClampNeg (fn_X0_rungIn (fn_X4_upFrom (a2))))))), ((r 4), .inl (G.2.1 2, 6, .inr (.inl (vp_updL (g 4) (a1).toNatClampNeg (fn_X0_rungIn (fn_X4_downFrom (a2))))))), ((r 5), .inl (G.2.1 2, 6, .inr (.inl (g 5)))), ((r 6), .inl (G.2.1 2, 6, .inr (.inl (g 6)))), ((r 7), .inl (G.2.1 2, 6, .inr (.inl (g 7))))] := hD
  refine lv_aload_n hx hb dc_X1_fillColumn_75 rfl (lv_at hl 0 rfl) ?_
  refine va_get (D := G.1) (ci := 2) (v := .ref tk) (C := RX1) (T := TX1) (N := 1) hx hb hts ki_X1 hown hE.1 hP 0 rfl rfl 0 (by decide) (hts _ kw_1_94) (fun _ h9 => h9) rfl dc_X1_fillColumn_76 ?_
  refine lv_iconst (v := 5) hx hb dc_X1_fillColumn_79 (by decide) ?_
  refine ky_aldA hx hb hE.1 hP 1 rfl (vp_in_iff.mpr (by decide)) dc_X1_fillColumn_80 ?_
  rw [show va_rf ((fun j => if j < 8 then some (r j) else none) ((5 : Int32)).toNatClampNeg) = .ref (r 5) from rfl]
  refine lv_iload_n hx hb dc_X1_fillColumn_81 rfl (lv_at hl 1 rfl) ?_
  refine lv_lload_n hx hb dc_X1_fillColumn_82 rfl (lv_at hl 2 rfl) ?_
  refine ky_cS0 (As := [.long (a2)]) F (mt_X4_signFrom l (a2)) ks_X1_92 ⟨⟨rfl, rfl⟩, by decide, by decide⟩ rfl hl.1 rfl (Nat.le_of_ble_eq_true rfl) ⟨Nat.le_of_ble_eq_true rfl, Nat.le_of_ble_eq_true rfl⟩ dc_X1_fillColumn_83 ?_
  refine ky_cS0 (As := [.long (fn_X4_signFrom (a2))]) F (mt_X0_rungIn l (fn_X4_signFrom (a2))) ks_X1_51 ⟨⟨rfl, rfl⟩, by decide, by decide⟩ rfl hl.1 rfl (Nat.le_of_ble_eq_true rfl) ⟨Nat.le_of_ble_eq_true rfl, Nat.le_of_ble_eq_true rfl⟩ dc_X1_fillColumn_86 ?_
  refine va_last hx hb hE.1 hP hD hS 7 2 rfl rfl h1 dc_X1_fillColumn_89 (fun H locs hP hD hS => ?_)
  have hP : va_P G.1 kcl [(pf, .inr (2, [.ref tk])), (tk, .inl (G.2.1 4, 8, .inr (.inr (.inr (.inr (fun j => if j < 8 then some (r j) else none)))))), ((r 0), .inl (G.2.1 2, 6, .inr (.inl (vp_updL (g 0) (a1).toNatClampNeg (fn_X0_rungIn (fn_X4_floorFrom (a2))))))), ((r 1), .inl (G.2.1 2, 6, .inr (.inl (vp_updL (g 1) (a1).toNatClampNeg (fn_X0_rungIn (fn_X4_ceilFrom (a2))))))), ((r 2), .inl (G.2.1 2, 6, .inr (.inl (vp_updL (g 2) (a1).toNatClampNeg (fn_X0_rungIn (fn_X4_rintFrom (a2))))))), ((r 3), .inl (G.2.1 2, 6, .inr (.inl (vp_updL (g 3) (a1).toNatClampNeg (fn_X0_rungIn (fn_X4_upFrom (a2))))))), ((r 4), .inl (G.2.1 2, 6, .inr (.inl (vp_updL (g 4) (a1).toNatClampNeg (fn_X0_rungIn (fn_X4_downFrom (a2))))))), ((r 5), .inl (G.2.1 2, 6, .inr (.inl (vp_updL (g 5) (a1).toNatClampNeg (fn_X0_rungIn (fn_X4_signFrom (a2))))))), ((r 6), .inl (G.2.1 2, 6, .inr (.inl (g 6)))), ((r 7), .inl (G.2.1 2, 6, .inr (.inl (g 7))))] H := hP
  have hD : va_D A [(pf, .inr (2, [.ref tk])), (tk, .inl (G.2.1 4, 8, .inr (.inr (.inr (.inr (fun j => if j < 8 then some (r j) else none)))))), ((r 0), .inl (G.2.1 2, 6, .inr (.inl (vp_updL (g 0) (a1).toNatClampNeg (fn_X0_rungIn (fn_X4_floorFrom (a2))))))), ((r 1), .inl (G.2.1 2, 6, .inr (.inl (vp_updL (g 1) (a1).toNatClampNeg (fn_X0_rungIn (fn_X4_ceilFrom (a2))))))), ((r 2), .inl (G.2.1 2, 6, .inr (.inl (vp_updL (g 2) (a1).toNatClampNeg (fn_X0_rungIn (fn_X4_rintFrom (a2))))))), ((r 3), .inl (G.2.1 2, 6, .inr (.inl (vp_updL (g 3) (a1).toNatClampNeg (fn_X0_rungIn (fn_X4_upFrom (a2))))))), ((r 4), .inl (G.2.1 2, 6, .inr (.inl (vp_updL (g 4) (a1).toNatClampNeg (fn_X0_rungIn (fn_X4_downFrom (a2))))))), ((r 5), .inl (G.2.1 2, 6, .inr (.inl (vp_updL (g 5) (a1).toNatClampNeg (fn_X0_rungIn (fn_X4_signFrom (a2))))))), ((r 6), .inl (G.2.1 2, 6, .inr (.inl (g 6)))), ((r 7), .inl (G.2.1 2, 6, .inr (.inl (g 7))))] := hD
  refine lv_aload_n hx hb dc_X1_fillColumn_90 rfl (lv_at hl 0 rfl) ?_
  refine va_get (D := G.1) (ci := 2) (v := .ref tk) (C := RX1) (T := TX1) (N := 1) hx hb hts ki_X1 hown hE.1 hP 0 rfl rfl 0 (by decide) (hts _ kw_1_94) (fun _ h9 => h9) rfl dc_X1_fillColumn_91 ?_
  refine lv_bipush (v := 6) hx hb dc_X1_fillColumn_94 (by decide) ?_
  refine ky_aldA hx hb hE.1 hP 1 rfl (vp_in_iff.mpr (by decide)) dc_X1_fillColumn_96 ?_
  rw [show va_rf ((fun j => if j < 8 then some (r j) else none) ((6 : Int32)).toNatClampNeg) = .ref (r 6) from rfl]
  refine lv_iload_n hx hb dc_X1_fillColumn_97 rfl (lv_at hl 1 rfl) ?_
  refine lv_lload_n hx hb dc_X1_fillColumn_98 rfl (lv_at hl 2 rfl) ?_
  refine lv_iconst (v := 5) hx hb dc_X1_fillColumn_99 (by decide) ?_
  refine ky_cS0 (As := [.long (a2), .int ((5 : Int32))]) F (mt_X2_timesPower l (a2) ((5 : Int32))) ks_X1_95 ⟨⟨rfl, rfl⟩, by decide, by decide⟩ rfl hl.1 rfl (Nat.le_of_ble_eq_true rfl) ⟨Nat.le_of_ble_eq_true rfl, Nat.le_of_ble_eq_true rfl⟩ dc_X1_fillColumn_100 ?_
  refine ky_cS0 (As := [.long (fn_X2_timesPower (a2) ((5 : Int32)))]) F (mt_X0_rungIn l (fn_X2_timesPower (a2) ((5 : Int32)))) ks_X1_51 ⟨⟨rfl, rfl⟩, by decide, by decide⟩ rfl hl.1 rfl (Nat.le_of_ble_eq_true rfl) ⟨Nat.le_of_ble_eq_true rfl, Nat.le_of_ble_eq_true rfl⟩ dc_X1_fillColumn_103 ?_
  refine va_last hx hb hE.1 hP hD hS 8 2 rfl rfl h1 dc_X1_fillColumn_106 (fun H locs hP hD hS => ?_)
  have hP : va_P G.1 kcl [(pf, .inr (2, [.ref tk])), (tk, .inl (G.2.1 4, 8, .inr (.inr (.inr (.inr (fun j => if j < 8 then some (r j) else none)))))), ((r 0), .inl (G.2.1 2, 6, .inr (.inl (vp_updL (g 0) (a1).toNatClampNeg (fn_X0_rungIn (fn_X4_floorFrom (a2))))))), ((r 1), .inl (G.2.1 2, 6, .inr (.inl (vp_updL (g 1) (a1).toNatClampNeg (fn_X0_rungIn (fn_X4_ceilFrom (a2))))))), ((r 2), .inl (G.2.1 2, 6, .inr (.inl (vp_updL (g 2) (a1).toNatClampNeg (fn_X0_rungIn (fn_X4_rintFrom (a2))))))), ((r 3), .inl (G.2.1 2, 6, .inr (.inl (vp_updL (g 3) (a1).toNatClampNeg (fn_X0_rungIn (fn_X4_upFrom (a2))))))), ((r 4), .inl (G.2.1 2, 6, .inr (.inl (vp_updL (g 4) (a1).toNatClampNeg (fn_X0_rungIn (fn_X4_downFrom (a2))))))), ((r 5), .inl (G.2.1 2, 6, .inr (.inl (vp_updL (g 5) (a1).toNatClampNeg (fn_X0_rungIn (fn_X4_signFrom (a2))))))), ((r 6), .inl (G.2.1 2, 6, .inr (.inl (vp_updL (g 6) (a1).toNatClampNeg (fn_X0_rungIn (fn_X2_timesPower (a2) ((5 : Int32)))))))), ((r 7), .inl (G.2.1 2, 6, .inr (.inl (g 7))))] H := hP
  have hD : va_D A [(pf, .inr (2, [.ref tk])), (tk, .inl (G.2.1 4, 8, .inr (.inr (.inr (.inr (fun j => if j < 8 then some (r j) else none)))))), ((r 0), .inl (G.2.1 2, 6, .inr (.inl (vp_updL (g 0) (a1).toNatClampNeg (fn_X0_rungIn (fn_X4_floorFrom (a2))))))), ((r 1), .inl (G.2.1 2, 6, .inr (.inl (vp_updL (g 1) (a1).toNatClampNeg (fn_X0_rungIn (fn_X4_ceilFrom (a2))))))), ((r 2), .inl (G.2.1 2, 6, .inr (.inl (vp_updL (g 2) (a1).toNatClampNeg (fn_X0_rungIn (fn_X4_rintFrom (a2))))))), ((r 3), .inl (G.2.1 2, 6, .inr (.inl (vp_updL (g 3) (a1).toNatClampNeg (fn_X0_rungIn (fn_X4_upFrom (a2))))))), ((r 4), .inl (G.2.1 2, 6, .inr (.inl (vp_updL (g 4) (a1).toNatClampNeg (fn_X0_rungIn (fn_X4_downFrom (a2))))))), ((r 5), .inl (G.2.1 2, 6, .inr (.inl (vp_updL (g 5) (a1).toNatClampNeg (fn_X0_rungIn (fn_X4_signFrom (a2))))))), ((r 6), .inl (G.2.1 2, 6, .inr (.inl (vp_updL (g 6) (a1).toNatClampNeg (fn_X0_rungIn (fn_X2_timesPower (a2) ((5 : Int32)))))))), ((r 7), .inl (G.2.1 2, 6, .inr (.inl (g 7))))] := hD
  refine lv_aload_n hx hb dc_X1_fillColumn_107 rfl (lv_at hl 0 rfl) ?_
  refine va_get (D := G.1) (ci := 2) (v := .ref tk) (C := RX1) (T := TX1) (N := 1) hx hb hts ki_X1 hown hE.1 hP 0 rfl rfl 0 (by decide) (hts _ kw_1_94) (fun _ h9 => h9) rfl dc_X1_fillColumn_108 ?_
  refine lv_bipush (v := 7) hx hb dc_X1_fillColumn_111 (by decide) ?_
  refine ky_aldA hx hb hE.1 hP 1 rfl (vp_in_iff.mpr (by decide)) dc_X1_fillColumn_113 ?_
  rw [show va_rf ((fun j => if j < 8 then some (r j) else none) ((7 : Int32)).toNatClampNeg) = .ref (r 7) from rfl]
  refine lv_iload_n hx hb dc_X1_fillColumn_114 rfl (lv_at hl 1 rfl) ?_
  refine lv_lload_n hx hb dc_X1_fillColumn_115 rfl (lv_at hl 2 rfl) ?_
  refine ky_cS0 (As := [.long (a2)]) F (mt_X5_roundFrom l (a2)) ks_X1_101 ⟨⟨rfl, rfl⟩, by decide, by decide⟩ rfl hl.1 rfl (Nat.le_of_ble_eq_true rfl) ⟨Nat.le_of_ble_eq_true rfl, Nat.le_of_ble_eq_true rfl⟩ dc_X1_fillColumn_116 ?_
  refine va_last hx hb hE.1 hP hD hS 9 2 rfl rfl h1 dc_X1_fillColumn_119 (fun H locs hP hD hS => ?_)
  have hP : va_P G.1 kcl [(pf, .inr (2, [.ref tk])), (tk, .inl (G.2.1 4, 8, .inr (.inr (.inr (.inr (fun j => if j < 8 then some (r j) else none)))))), ((r 0), .inl (G.2.1 2, 6, .inr (.inl (vp_updL (g 0) (a1).toNatClampNeg (fn_X0_rungIn (fn_X4_floorFrom (a2))))))), ((r 1), .inl (G.2.1 2, 6, .inr (.inl (vp_updL (g 1) (a1).toNatClampNeg (fn_X0_rungIn (fn_X4_ceilFrom (a2))))))), ((r 2), .inl (G.2.1 2, 6, .inr (.inl (vp_updL (g 2) (a1).toNatClampNeg (fn_X0_rungIn (fn_X4_rintFrom (a2))))))), ((r 3), .inl (G.2.1 2, 6, .inr (.inl (vp_updL (g 3) (a1).toNatClampNeg (fn_X0_rungIn (fn_X4_upFrom (a2))))))), ((r 4), .inl (G.2.1 2, 6, .inr (.inl (vp_updL (g 4) (a1).toNatClampNeg (fn_X0_rungIn (fn_X4_downFrom (a2))))))), ((r 5), .inl (G.2.1 2, 6, .inr (.inl (vp_updL (g 5) (a1).toNatClampNeg (fn_X0_rungIn (fn_X4_signFrom (a2))))))), ((r 6), .inl (G.2.1 2, 6, .inr (.inl (vp_updL (g 6) (a1).toNatClampNeg (fn_X0_rungIn (fn_X2_timesPower (a2) ((5 : Int32)))))))), ((r 7), .inl (G.2.1 2, 6, .inr (.inl (vp_updL (g 7) (a1).toNatClampNeg (fn_X5_roundFrom (a2))))))] H := hP
  have hD : va_D A [(pf, .inr (2, [.ref tk])), (tk, .inl (G.2.1 4, 8, .inr (.inr (.inr (.inr (fun j => if j < 8 then some (r j) else none)))))), ((r 0), .inl (G.2.1 2, 6, .inr (.inl (vp_updL (g 0) (a1).toNatClampNeg (fn_X0_rungIn (fn_X4_floorFrom (a2))))))), ((r 1), .inl (G.2.1 2, 6, .inr (.inl (vp_updL (g 1) (a1).toNatClampNeg (fn_X0_rungIn (fn_X4_ceilFrom (a2))))))), ((r 2), .inl (G.2.1 2, 6, .inr (.inl (vp_updL (g 2) (a1).toNatClampNeg (fn_X0_rungIn (fn_X4_rintFrom (a2))))))), ((r 3), .inl (G.2.1 2, 6, .inr (.inl (vp_updL (g 3) (a1).toNatClampNeg (fn_X0_rungIn (fn_X4_upFrom (a2))))))), ((r 4), .inl (G.2.1 2, 6, .inr (.inl (vp_updL (g 4) (a1).toNatClampNeg (fn_X0_rungIn (fn_X4_downFrom (a2))))))), ((r 5), .inl (G.2.1 2, 6, .inr (.inl (vp_updL (g 5) (a1).toNatClampNeg (fn_X0_rungIn (fn_X4_signFrom (a2))))))), ((r 6), .inl (G.2.1 2, 6, .inr (.inl (vp_updL (g 6) (a1).toNatClampNeg (fn_X0_rungIn (fn_X2_timesPower (a2) ((5 : Int32)))))))), ((r 7), .inl (G.2.1 2, 6, .inr (.inl (vp_updL (g 7) (a1).toNatClampNeg (fn_X5_roundFrom (a2))))))] := hD
  have hP9 := hP.sub (ws' := [(pf, .inr (2, [.ref tk])), (tk, .inl (G.2.1 4, 8, .inr (.inr (.inr (.inr (fun j => if j < 8 then some (r j) else none)))))), ((r 0), .inl (G.2.1 2, 6, .inr (.inl (vp_updL (g 0) (a1).toNatClampNeg (fn_X0_rungIn (fn_X4_floorFrom (a2))))))), ((r 1), .inl (G.2.1 2, 6, .inr (.inl (vp_updL (g 1) (a1).toNatClampNeg (fn_X0_rungIn (fn_X4_ceilFrom (a2))))))), ((r 2), .inl (G.2.1 2, 6, .inr (.inl (vp_updL (g 2) (a1).toNatClampNeg (fn_X0_rungIn (fn_X4_rintFrom (a2))))))), ((r 3), .inl (G.2.1 2, 6, .inr (.inl (vp_updL (g 3) (a1).toNatClampNeg (fn_X0_rungIn (fn_X4_upFrom (a2))))))), ((r 4), .inl (G.2.1 2, 6, .inr (.inl (vp_updL (g 4) (a1).toNatClampNeg (fn_X0_rungIn (fn_X4_downFrom (a2))))))), ((r 5), .inl (G.2.1 2, 6, .inr (.inl (vp_updL (g 5) (a1).toNatClampNeg (fn_X0_rungIn (fn_X4_signFrom (a2))))))), ((r 6), .inl (G.2.1 2, 6, .inr (.inl (vp_updL (g 6) (a1).toNatClampNeg (fn_X0_rungIn (fn_X2_timesPower (a2) ((5 : Int32)))))))), ((r 7), .inl (G.2.1 2, 6, .inr (.inl (vp_updL (g 7) (a1).toNatClampNeg (fn_X5_roundFrom (a2))))))]) [0, 1, 2, 3, 4, 5, 6, 7, 8, 9] rfl
  have hD9 := hD.sub (ws' := [(pf, .inr (2, [.ref tk])), (tk, .inl (G.2.1 4, 8, .inr (.inr (.inr (.inr (fun j => if j < 8 then some (r j) else none)))))), ((r 0), .inl (G.2.1 2, 6, .inr (.inl (vp_updL (g 0) (a1).toNatClampNeg (fn_X0_rungIn (fn_X4_floorFrom (a2))))))), ((r 1), .inl (G.2.1 2, 6, .inr (.inl (vp_updL (g 1) (a1).toNatClampNeg (fn_X0_rungIn (fn_X4_ceilFrom (a2))))))), ((r 2), .inl (G.2.1 2, 6, .inr (.inl (vp_updL (g 2) (a1).toNatClampNeg (fn_X0_rungIn (fn_X4_rintFrom (a2))))))), ((r 3), .inl (G.2.1 2, 6, .inr (.inl (vp_updL (g 3) (a1).toNatClampNeg (fn_X0_rungIn (fn_X4_upFrom (a2))))))), ((r 4), .inl (G.2.1 2, 6, .inr (.inl (vp_updL (g 4) (a1).toNatClampNeg (fn_X0_rungIn (fn_X4_downFrom (a2))))))), ((r 5), .inl (G.2.1 2, 6, .inr (.inl (vp_updL (g 5) (a1).toNatClampNeg (fn_X0_rungIn (fn_X4_signFrom (a2))))))), ((r 6), .inl (G.2.1 2, 6, .inr (.inl (vp_updL (g 6) (a1).toNatClampNeg (fn_X0_rungIn (fn_X2_timesPower (a2) ((5 : Int32)))))))), ((r 7), .inl (G.2.1 2, 6, .inr (.inl (vp_updL (g 7) (a1).toNatClampNeg (fn_X5_roundFrom (a2))))))]) [0, 1, 2, 3, 4, 5, 6, 7, 8, 9] (by decide) rfl
  refine W.widen (k := 0) (n := 0) (Nat.le_of_ble_eq_true rfl) (Nat.le_of_ble_eq_true rfl) ?_
  exact W.vret hx hb hr (fun t ht hW => ⟨⟨_, (fun j => ([vp_updL (g 0) (a1).toNatClampNeg (fn_X0_rungIn (fn_X4_floorFrom (a2))), vp_updL (g 1) (a1).toNatClampNeg (fn_X0_rungIn (fn_X4_ceilFrom (a2))), vp_updL (g 2) (a1).toNatClampNeg (fn_X0_rungIn (fn_X4_rintFrom (a2))), vp_updL (g 3) (a1).toNatClampNeg (fn_X0_rungIn (fn_X4_upFrom (a2))), vp_updL (g 4) (a1).toNatClampNeg (fn_X0_rungIn (fn_X4_downFrom (a2))), vp_updL (g 5) (a1).toNatClampNeg (fn_X0_rungIn (fn_X4_signFrom (a2))), vp_updL (g 6) (a1).toNatClampNeg (fn_X0_rungIn (fn_X2_timesPower (a2) ((5 : Int32)))), vp_updL (g 7) (a1).toNatClampNeg (fn_X5_roundFrom (a2))] : List (Nat → Int64)).getD j (fun _ => 0)), rfl, rfl, by rw [ht]; exact hP9, hD9, trivial⟩, hS.F ht⟩) hS.2.2 dc_X1_fillColumn_120
set_option linter.constructorNameAsVariable false in
set_option maxHeartbeats 4000000 in
set_option maxRecDepth 100000 in
theorem mt_X1_holdsForTwo (l : Launch) (G : ky_G) (pf : Nat) (tk : Nat) (r : Nat → Nat) (g : Nat → Nat → Int64) (a1 : Int32) (a2 : Int64) (a3 : Int32) (a4 : Int64) (sz : Nat) (h1 : vp_in (a1) 6) (h2 : vp_in (a3) 6) : Met l my_X1_holdsForTwo (.code my_X1_holdsForTwo prog_3_method_8_code 12 (some .boolean) :: ky_B) { frames := 3, cells := 0, slots := 0, locals := 65 } (ky_P G [.ref pf, .int (a1), .long (a2), .int (a3), .long (a4)] (ky_WPf G pf tk r g) sz (fun _ => True)) (ky_Q (S := Nat → Nat → Int64) G (va_A (ky_WPf G pf tk r g) sz) (fun v _ => ky_bool v) (fun u => ky_WPf G pf tk r u) (fun _ _ => True)) (0) (0) (va_A (ky_WPf G pf tk r g) sz) := by
  refine ky_start (by decide) (Nat.le_of_ble_eq_true rfl) (fun p e s m below meth c F hE A hAe hsz hA hfr hP hD hS hX ls hl => ?_)
  obtain ⟨hx, hb, hml, hown, hr, hlocks, hts⟩ := id F
  have hl : lv_has ls 12 [(0, .ref pf), (1, .int (a1)), (2, .long (a2)), (4, .int (a3)), (5, .long (a4))] := hl
  have hP : va_P G.1 kcl [(pf, .inr (2, [.ref tk])), (tk, .inl (G.2.1 4, 8, .inr (.inr (.inr (.inr (fun j => if j < 8 then some (r j) else none)))))), ((r 0), .inl (G.2.1 2, 6, .inr (.inl (g 0)))), ((r 1), .inl (G.2.1 2, 6, .inr (.inl (g 1)))), ((r 2), .inl (G.2.1 2, 6, .inr (.inl (g 2)))), ((r 3), .inl (G.2.1 2, 6, .inr (.inl (g 3)))), ((r 4), .inl (G.2.1 2, 6, .inr (.inl (g 4)))), ((r 5), .inl (G.2.1 2, 6, .inr (.inl (g 5)))), ((r 6), .inl (G.2.1 2, 6, .inr (.inl (g 6)))), ((r 7), .inl (G.2.1 2, 6, .inr (.inl (g 7))))] s.heap := hP
  have hD : va_D A [(pf, .inr (2, [.ref tk])), (tk, .inl (G.2.1 4, 8, .inr (.inr (.inr (.inr (fun j => if j < 8 then some (r j) else none)))))), ((r 0), .inl (G.2.1 2, 6, .inr (.inl (g 0)))), ((r 1), .inl (G.2.1 2, 6, .inr (.inl (g 1)))), ((r 2), .inl (G.2.1 2, 6, .inr (.inl (g 2)))), ((r 3), .inl (G.2.1 2, 6, .inr (.inl (g 3)))), ((r 4), .inl (G.2.1 2, 6, .inr (.inl (g 4)))), ((r 5), .inl (G.2.1 2, 6, .inr (.inl (g 5)))), ((r 6), .inl (G.2.1 2, 6, .inr (.inl (g 6)))), ((r 7), .inl (G.2.1 2, 6, .inr (.inl (g 7))))] := hD
  refine lv_lload_n hx hb dc_X1_holdsForTwo_0 rfl (lv_at hl 2 rfl) ?_
  refine lv_lload hx hb dc_X1_holdsForTwo_1 (lv_at hl 4 rfl) ?_
  refine ky_cS0 (As := [.long (a2), .long (a4)]) F (mt_X0_lastOf l (a2) (a4)) ks_X1_106 ⟨⟨rfl, rfl⟩, by decide, by decide⟩ rfl hl.1 rfl (Nat.le_of_ble_eq_true rfl) ⟨Nat.le_of_ble_eq_true rfl, Nat.le_of_ble_eq_true rfl⟩ dc_X1_holdsForTwo_3 ?_
  refine lv_lstore (lv' := [(7, .long (fn_X0_lastOf (a2) (a4))), (0, .ref pf), (1, .int (a1)), (2, .long (a2)), (4, .int (a3)), (5, .long (a4))]) hx hb dc_X1_holdsForTwo_6 hl (by decide) rfl (fun ls hl => ?_)
  refine lv_lload_n hx hb dc_X1_holdsForTwo_8 rfl (lv_at hl 3 rfl) ?_
  refine lv_lload hx hb dc_X1_holdsForTwo_9 (lv_at hl 5 rfl) ?_
  refine ky_cS0 (As := [.long (a2), .long (a4)]) F (mt_X0_firstOf l (a2) (a4)) ks_X1_109 ⟨⟨rfl, rfl⟩, by decide, by decide⟩ rfl hl.1 rfl (Nat.le_of_ble_eq_true rfl) ⟨Nat.le_of_ble_eq_true rfl, Nat.le_of_ble_eq_true rfl⟩ dc_X1_holdsForTwo_11 ?_
  refine lv_lstore (lv' := [(9, .long (fn_X0_firstOf (a2) (a4))), (7, .long (fn_X0_lastOf (a2) (a4))), (0, .ref pf), (1, .int (a1)), (2, .long (a2)), (4, .int (a3)), (5, .long (a4))]) hx hb dc_X1_holdsForTwo_14 hl (by decide) rfl (fun ls hl => ?_)
  refine lv_lload hx hb dc_X1_holdsForTwo_16 (lv_at hl 1 rfl) ?_
  refine lv_lload_n hx hb dc_X1_holdsForTwo_18 rfl (lv_at hl 4 rfl) ?_
  refine W.lcmp hx hb dc_X1_holdsForTwo_19 ?_
  refine lv_if_ne (tgt := 31) hx hb dc_X1_holdsForTwo_20 (by decide) (fun c_0 => ?_) (fun c_0 => ?_)
  · skip
    refine lv_lload hx hb dc_X1_holdsForTwo_31 (lv_at hl 1 rfl) ?_
    refine lv_lload hx hb dc_X1_holdsForTwo_33 (lv_at hl 6 rfl) ?_
    refine W.lcmp hx hb dc_X1_holdsForTwo_35 ?_
    refine lv_if_ne (tgt := 50) hx hb dc_X1_holdsForTwo_36 (by decide) (fun c_1 => ?_) (fun c_1 => ?_)
    · skip
      refine lv_iconst (v := 0) hx hb dc_X1_holdsForTwo_50 (by decide) ?_
      refine lv_istore (lv' := [(11, .int ((0 : Int32))), (9, .long (fn_X0_firstOf (a2) (a4))), (7, .long (fn_X0_lastOf (a2) (a4))), (0, .ref pf), (1, .int (a1)), (2, .long (a2)), (4, .int (a3)), (5, .long (a4))]) hx hb dc_X1_holdsForTwo_51 hl (by decide) rfl (fun ls hl => ?_)
      refine lv_iload hx hb dc_X1_holdsForTwo_53 (lv_at hl 0 rfl) ?_
      refine lv_if_eq (tgt := 85) hx hb dc_X1_holdsForTwo_55 (by decide) (fun _ => ?_) (fun c_2 => absurd c_2 (by decide))
      refine lv_iconst (v := 0) hx hb dc_X1_holdsForTwo_85 (by decide) ?_
      have hP9 := hP.sub (ws' := [(pf, .inr (2, [.ref tk])), (tk, .inl (G.2.1 4, 8, .inr (.inr (.inr (.inr (fun j => if j < 8 then some (r j) else none)))))), ((r 0), .inl (G.2.1 2, 6, .inr (.inl (g 0)))), ((r 1), .inl (G.2.1 2, 6, .inr (.inl (g 1)))), ((r 2), .inl (G.2.1 2, 6, .inr (.inl (g 2)))), ((r 3), .inl (G.2.1 2, 6, .inr (.inl (g 3)))), ((r 4), .inl (G.2.1 2, 6, .inr (.inl (g 4)))), ((r 5), .inl (G.2.1 2, 6, .inr (.inl (g 5)))), ((r 6), .inl (G.2.1 2, 6, .inr (.inl (g 6)))), ((r 7), .inl (G.2.1 2, 6, .inr (.inl (g 7))))]) [0, 1, 2, 3, 4, 5, 6, 7, 8, 9] rfl
      have hD9 := hD.sub (ws' := [(pf, .inr (2, [.ref tk])), (tk, .inl (G.2.1 4, 8, .inr (.inr (.inr (.inr (fun j => if j < 8 then some (r j) else none)))))), ((r 0), .inl (G.2.1 2, 6, .inr (.inl (g 0)))), ((r 1), .inl (G.2.1 2, 6, .inr (.inl (g 1)))), ((r 2), .inl (G.2.1 2, 6, .inr (.inl (g 2)))), ((r 3), .inl (G.2.1 2, 6, .inr (.inl (g 3)))), ((r 4), .inl (G.2.1 2, 6, .inr (.inl (g 4)))), ((r 5), .inl (G.2.1 2, 6, .inr (.inl (g 5)))), ((r 6), .inl (G.2.1 2, 6, .inr (.inl (g 6)))), ((r 7), .inl (G.2.1 2, 6, .inr (.inl (g 7))))]) [0, 1, 2, 3, 4, 5, 6, 7, 8, 9] (by decide) rfl
      refine W.widen (k := 0) (n := 0) (Nat.le_of_ble_eq_true rfl) (Nat.le_of_ble_eq_true rfl) ?_
      exact W.zret (v := (0 : Int32)) hx hb hr (by decide) (fun t ht hW => ⟨⟨_, g, rfl, ⟨_, rfl, by decide⟩, by rw [ht]; exact hP9, hD9, trivial⟩, hS.F ht⟩) hS.2.2 dc_X1_holdsForTwo_86
    · skip
      refine lv_lload hx hb dc_X1_holdsForTwo_39 (lv_at hl 0 rfl) ?_
      refine lv_lload_n hx hb dc_X1_holdsForTwo_41 rfl (lv_at hl 4 rfl) ?_
      refine W.lcmp hx hb dc_X1_holdsForTwo_42 ?_
      refine lv_if_ne (tgt := 50) hx hb dc_X1_holdsForTwo_43 (by decide) (fun c_2 => ?_) (fun c_2 => ?_)
      · skip
        refine lv_iconst (v := 0) hx hb dc_X1_holdsForTwo_50 (by decide) ?_
        refine lv_istore (lv' := [(11, .int ((0 : Int32))), (9, .long (fn_X0_firstOf (a2) (a4))), (7, .long (fn_X0_lastOf (a2) (a4))), (0, .ref pf), (1, .int (a1)), (2, .long (a2)), (4, .int (a3)), (5, .long (a4))]) hx hb dc_X1_holdsForTwo_51 hl (by decide) rfl (fun ls hl => ?_)
        refine lv_iload hx hb dc_X1_holdsForTwo_53 (lv_at hl 0 rfl) ?_
        refine lv_if_eq (tgt := 85) hx hb dc_X1_holdsForTwo_55 (by decide) (fun _ => ?_) (fun c_3 => absurd c_3 (by decide))
        refine lv_iconst (v := 0) hx hb dc_X1_holdsForTwo_85 (by decide) ?_
        have hP9 := hP.sub (ws' := [(pf, .inr (2, [.ref tk])), (tk, .inl (G.2.1 4, 8, .inr (.inr (.inr (.inr (fun j => if j < 8 then some (r j) else none)))))), ((r 0), .inl (G.2.1 2, 6, .inr (.inl (g 0)))), ((r 1), .inl (G.2.1 2, 6, .inr (.inl (g 1)))), ((r 2), .inl (G.2.1 2, 6, .inr (.inl (g 2)))), ((r 3), .inl (G.2.1 2, 6, .inr (.inl (g 3)))), ((r 4), .inl (G.2.1 2, 6, .inr (.inl (g 4)))), ((r 5), .inl (G.2.1 2, 6, .inr (.inl (g 5)))), ((r 6), .inl (G.2.1 2, 6, .inr (.inl (g 6)))), ((r 7), .inl (G.2.1 2, 6, .inr (.inl (g 7))))]) [0, 1, 2, 3, 4, 5, 6, 7, 8, 9] rfl
        have hD9 := hD.sub (ws' := [(pf, .inr (2, [.ref tk])), (tk, .inl (G.2.1 4, 8, .inr (.inr (.inr (.inr (fun j => if j < 8 then some (r j) else none)))))), ((r 0), .inl (G.2.1 2, 6, .inr (.inl (g 0)))), ((r 1), .inl (G.2.1 2, 6, .inr (.inl (g 1)))), ((r 2), .inl (G.2.1 2, 6, .inr (.inl (g 2)))), ((r 3), .inl (G.2.1 2, 6, .inr (.inl (g 3)))), ((r 4), .inl (G.2.1 2, 6, .inr (.inl (g 4)))), ((r 5), .inl (G.2.1 2, 6, .inr (.inl (g 5)))), ((r 6), .inl (G.2.1 2, 6, .inr (.inl (g 6)))), ((r 7), .inl (G.2.1 2, 6, .inr (.inl (g 7))))]) [0, 1, 2, 3, 4, 5, 6, 7, 8, 9] (by decide) rfl
        refine W.widen (k := 0) (n := 0) (Nat.le_of_ble_eq_true rfl) (Nat.le_of_ble_eq_true rfl) ?_
        exact W.zret (v := (0 : Int32)) hx hb hr (by decide) (fun t ht hW => ⟨⟨_, g, rfl, ⟨_, rfl, by decide⟩, by rw [ht]; exact hP9, hD9, trivial⟩, hS.F ht⟩) hS.2.2 dc_X1_holdsForTwo_86
      · skip
        refine lv_iconst (v := 1) hx hb dc_X1_holdsForTwo_46 (by decide) ?_
        refine lv_goto (tgt := 51) hx hb dc_X1_holdsForTwo_47 (by decide) ?_
        refine lv_istore (lv' := [(11, .int ((1 : Int32))), (9, .long (fn_X0_firstOf (a2) (a4))), (7, .long (fn_X0_lastOf (a2) (a4))), (0, .ref pf), (1, .int (a1)), (2, .long (a2)), (4, .int (a3)), (5, .long (a4))]) hx hb dc_X1_holdsForTwo_51 hl (by decide) rfl (fun ls hl => ?_)
        refine lv_iload hx hb dc_X1_holdsForTwo_53 (lv_at hl 0 rfl) ?_
        refine lv_if_eq (tgt := 85) hx hb dc_X1_holdsForTwo_55 (by decide) (fun c_3 => absurd c_3 (by decide)) (fun _ => ?_)
        refine lv_lload_n hx hb dc_X1_holdsForTwo_58 rfl (lv_at hl 5 rfl) ?_
        refine ky_cS0 (As := [.long (a2)]) F (mt_X0_rankIn l (a2)) ks_X1_112 ⟨⟨rfl, rfl⟩, by decide, by decide⟩ rfl hl.1 rfl (Nat.le_of_ble_eq_true rfl) ⟨Nat.le_of_ble_eq_true rfl, Nat.le_of_ble_eq_true rfl⟩ dc_X1_holdsForTwo_59 ?_
        refine lv_lload hx hb dc_X1_holdsForTwo_62 (lv_at hl 7 rfl) ?_
        refine ky_cS0 (As := [.long (a4)]) F (mt_X0_rankIn l (a4)) ks_X1_112 ⟨⟨rfl, rfl⟩, by decide, by decide⟩ rfl hl.1 rfl (Nat.le_of_ble_eq_true rfl) ⟨Nat.le_of_ble_eq_true rfl, Nat.le_of_ble_eq_true rfl⟩ dc_X1_holdsForTwo_64 ?_
        refine W.lcmp hx hb dc_X1_holdsForTwo_67 ?_
        refine lv_if_gt (tgt := 81) hx hb dc_X1_holdsForTwo_68 (by decide) (fun c_4 => ?_) (fun c_4 => ?_)
        · skip
          refine lv_iconst (v := 1) hx hb dc_X1_holdsForTwo_81 (by decide) ?_
          refine lv_goto (tgt := 86) hx hb dc_X1_holdsForTwo_82 (by decide) ?_
          have hP9 := hP.sub (ws' := [(pf, .inr (2, [.ref tk])), (tk, .inl (G.2.1 4, 8, .inr (.inr (.inr (.inr (fun j => if j < 8 then some (r j) else none)))))), ((r 0), .inl (G.2.1 2, 6, .inr (.inl (g 0)))), ((r 1), .inl (G.2.1 2, 6, .inr (.inl (g 1)))), ((r 2), .inl (G.2.1 2, 6, .inr (.inl (g 2)))), ((r 3), .inl (G.2.1 2, 6, .inr (.inl (g 3)))), ((r 4), .inl (G.2.1 2, 6, .inr (.inl (g 4)))), ((r 5), .inl (G.2.1 2, 6, .inr (.inl (g 5)))), ((r 6), .inl (G.2.1 2, 6, .inr (.inl (g 6)))), ((r 7), .inl (G.2.1 2, 6, .inr (.inl (g 7))))]) [0, 1, 2, 3, 4, 5, 6, 7, 8, 9] rfl
          have hD9 := hD.sub (ws' := [(pf, .inr (2, [.ref tk])), (tk, .inl (G.2.1 4, 8, .inr (.inr (.inr (.inr (fun j => if j < 8 then some (r j) else none)))))), ((r 0), .inl (G.2.1 2, 6, .inr (.inl (g 0)))), ((r 1), .inl (G.2.1 2, 6, .inr (.inl (g 1)))), ((r 2), .inl (G.2.1 2, 6, .inr (.inl (g 2)))), ((r 3), .inl (G.2.1 2, 6, .inr (.inl (g 3)))), ((r 4), .inl (G.2.1 2, 6, .inr (.inl (g 4)))), ((r 5), .inl (G.2.1 2, 6, .inr (.inl (g 5)))), ((r 6), .inl (G.2.1 2, 6, .inr (.inl (g 6)))), ((r 7), .inl (G.2.1 2, 6, .inr (.inl (g 7))))]) [0, 1, 2, 3, 4, 5, 6, 7, 8, 9] (by decide) rfl
          refine W.widen (k := 0) (n := 0) (Nat.le_of_ble_eq_true rfl) (Nat.le_of_ble_eq_true rfl) ?_
          exact W.zret (v := (1 : Int32)) hx hb hr (by decide) (fun t ht hW => ⟨⟨_, g, rfl, ⟨_, rfl, by decide⟩, by rw [ht]; exact hP9, hD9, trivial⟩, hS.F ht⟩) hS.2.2 dc_X1_holdsForTwo_86
        · skip
          refine lv_aload_n hx hb dc_X1_holdsForTwo_71 rfl (lv_at hl 3 rfl) ?_
          refine lv_iload_n hx hb dc_X1_holdsForTwo_72 rfl (lv_at hl 4 rfl) ?_
          refine lv_iload hx hb dc_X1_holdsForTwo_73 (lv_at hl 6 rfl) ?_
          refine ky_cVh (As := [.int (a1), .int (a3)]) (wr := []) F (hE.at hfr hS) hfr (mt_X1_isNoneBehind l G pf tk r g a1 a3 s.heap.size h1 h2) kv_X1_115 ⟨⟨rfl, rfl⟩, Nat.le_of_ble_eq_true rfl, Nat.le_of_ble_eq_true rfl⟩ rfl hl.1 rfl (Nat.le_of_ble_eq_true rfl) ⟨Nat.le_of_ble_eq_true rfl, Nat.le_of_ble_eq_true rfl⟩ (va_recv hE.1 hP (ci := 2) (q0 := 0) rfl rfl) trivial hP hD hS hA [0, 1, 2, 3, 4, 5, 6, 7, 8, 9] [] rfl rfl (by decide) (by decide) (by decide) dc_X1_holdsForTwo_75 ?_
          rintro v9 g_5 H locs ⟨z_5, rfl, hz_5⟩ hP hD hS - hz hk9
          have hP : va_P G.1 kcl [(pf, .inr (2, [.ref tk])), (tk, .inl (G.2.1 4, 8, .inr (.inr (.inr (.inr (fun j => if j < 8 then some (r j) else none)))))), ((r 0), .inl (G.2.1 2, 6, .inr (.inl (g_5 0)))), ((r 1), .inl (G.2.1 2, 6, .inr (.inl (g_5 1)))), ((r 2), .inl (G.2.1 2, 6, .inr (.inl (g_5 2)))), ((r 3), .inl (G.2.1 2, 6, .inr (.inl (g_5 3)))), ((r 4), .inl (G.2.1 2, 6, .inr (.inl (g_5 4)))), ((r 5), .inl (G.2.1 2, 6, .inr (.inl (g_5 5)))), ((r 6), .inl (G.2.1 2, 6, .inr (.inl (g_5 6)))), ((r 7), .inl (G.2.1 2, 6, .inr (.inl (g_5 7))))] H := hP
          have hD : va_D A [(pf, .inr (2, [.ref tk])), (tk, .inl (G.2.1 4, 8, .inr (.inr (.inr (.inr (fun j => if j < 8 then some (r j) else none)))))), ((r 0), .inl (G.2.1 2, 6, .inr (.inl (g_5 0)))), ((r 1), .inl (G.2.1 2, 6, .inr (.inl (g_5 1)))), ((r 2), .inl (G.2.1 2, 6, .inr (.inl (g_5 2)))), ((r 3), .inl (G.2.1 2, 6, .inr (.inl (g_5 3)))), ((r 4), .inl (G.2.1 2, 6, .inr (.inl (g_5 4)))), ((r 5), .inl (G.2.1 2, 6, .inr (.inl (g_5 5)))), ((r 6), .inl (G.2.1 2, 6, .inr (.inl (g_5 6)))), ((r 7), .inl (G.2.1 2, 6, .inr (.inl (g_5 7))))] := hD
          refine W.widen (k := 0) (n := 0) (by first | exact Nat.le_refl _ | omega) (by first | exact Nat.le_refl _ | omega) ?_
          refine lv_if_eq (tgt := 85) hx hb dc_X1_holdsForTwo_78 (by decide) (fun c_6 => ?_) (fun c_6 => ?_)
          · skip
            refine lv_iconst (v := 0) hx hb dc_X1_holdsForTwo_85 (by decide) ?_
            have hP9 := hP.sub (ws' := [(pf, .inr (2, [.ref tk])), (tk, .inl (G.2.1 4, 8, .inr (.inr (.inr (.inr (fun j => if j < 8 then some (r j) else none)))))), ((r 0), .inl (G.2.1 2, 6, .inr (.inl (g_5 0)))), ((r 1), .inl (G.2.1 2, 6, .inr (.inl (g_5 1)))), ((r 2), .inl (G.2.1 2, 6, .inr (.inl (g_5 2)))), ((r 3), .inl (G.2.1 2, 6, .inr (.inl (g_5 3)))), ((r 4), .inl (G.2.1 2, 6, .inr (.inl (g_5 4)))), ((r 5), .inl (G.2.1 2, 6, .inr (.inl (g_5 5)))), ((r 6), .inl (G.2.1 2, 6, .inr (.inl (g_5 6)))), ((r 7), .inl (G.2.1 2, 6, .inr (.inl (g_5 7))))]) [0, 1, 2, 3, 4, 5, 6, 7, 8, 9] rfl
            have hD9 := hD.sub (ws' := [(pf, .inr (2, [.ref tk])), (tk, .inl (G.2.1 4, 8, .inr (.inr (.inr (.inr (fun j => if j < 8 then some (r j) else none)))))), ((r 0), .inl (G.2.1 2, 6, .inr (.inl (g_5 0)))), ((r 1), .inl (G.2.1 2, 6, .inr (.inl (g_5 1)))), ((r 2), .inl (G.2.1 2, 6, .inr (.inl (g_5 2)))), ((r 3), .inl (G.2.1 2, 6, .inr (.inl (g_5 3)))), ((r 4), .inl (G.2.1 2, 6, .inr (.inl (g_5 4)))), ((r 5), .inl (G.2.1 2, 6, .inr (.inl (g_5 5)))), ((r 6), .inl (G.2.1 2, 6, .inr (.inl (g_5 6)))), ((r 7), .inl (G.2.1 2, 6, .inr (.inl (g_5 7))))]) [0, 1, 2, 3, 4, 5, 6, 7, 8, 9] (by decide) rfl
            refine W.widen (k := 0) (n := 0) (Nat.le_of_ble_eq_true rfl) (Nat.le_of_ble_eq_true rfl) ?_
            exact W.zret (v := (0 : Int32)) hx hb hr (by decide) (fun t ht hW => ⟨⟨_, g_5, rfl, ⟨_, rfl, by decide⟩, by rw [ht]; exact hP9, hD9, trivial⟩, hS.F ht⟩) hS.2.2 dc_X1_holdsForTwo_86
          · skip
            refine lv_iconst (v := 1) hx hb dc_X1_holdsForTwo_81 (by decide) ?_
            refine lv_goto (tgt := 86) hx hb dc_X1_holdsForTwo_82 (by decide) ?_
            have hP9 := hP.sub (ws' := [(pf, .inr (2, [.ref tk])), (tk, .inl (G.2.1 4, 8, .inr (.inr (.inr (.inr (fun j => if j < 8 then some (r j) else none)))))), ((r 0), .inl (G.2.1 2, 6, .inr (.inl (g_5 0)))), ((r 1), .inl (G.2.1 2, 6, .inr (.inl (g_5 1)))), ((r 2), .inl (G.2.1 2, 6, .inr (.inl (g_5 2)))), ((r 3), .inl (G.2.1 2, 6, .inr (.inl (g_5 3)))), ((r 4), .inl (G.2.1 2, 6, .inr (.inl (g_5 4)))), ((r 5), .inl (G.2.1 2, 6, .inr (.inl (g_5 5)))), ((r 6), .inl (G.2.1 2, 6, .inr (.inl (g_5 6)))), ((r 7), .inl (G.2.1 2, 6, .inr (.inl (g_5 7))))]) [0, 1, 2, 3, 4, 5, 6, 7, 8, 9] rfl
            have hD9 := hD.sub (ws' := [(pf, .inr (2, [.ref tk])), (tk, .inl (G.2.1 4, 8, .inr (.inr (.inr (.inr (fun j => if j < 8 then some (r j) else none)))))), ((r 0), .inl (G.2.1 2, 6, .inr (.inl (g_5 0)))), ((r 1), .inl (G.2.1 2, 6, .inr (.inl (g_5 1)))), ((r 2), .inl (G.2.1 2, 6, .inr (.inl (g_5 2)))), ((r 3), .inl (G.2.1 2, 6, .inr (.inl (g_5 3)))), ((r 4), .inl (G.2.1 2, 6, .inr (.inl (g_5 4)))), ((r 5), .inl (G.2.1 2, 6, .inr (.inl (g_5 5)))), ((r 6), .inl (G.2.1 2, 6, .inr (.inl (g_5 6)))), ((r 7), .inl (G.2.1 2, 6, .inr (.inl (g_5 7))))]) [0, 1, 2, 3, 4, 5, 6, 7, 8, 9] (by decide) rfl
            refine W.widen (k := 0) (n := 0) (Nat.le_of_ble_eq_true rfl) (Nat.le_of_ble_eq_true rfl) ?_
            exact W.zret (v := (1 : Int32)) hx hb hr (by decide) (fun t ht hW => ⟨⟨_, g_5, rfl, ⟨_, rfl, by decide⟩, by rw [ht]; exact hP9, hD9, trivial⟩, hS.F ht⟩) hS.2.2 dc_X1_holdsForTwo_86
  · skip
    refine lv_lload hx hb dc_X1_holdsForTwo_23 (lv_at hl 0 rfl) ?_
    refine lv_lload hx hb dc_X1_holdsForTwo_25 (lv_at hl 6 rfl) ?_
    refine W.lcmp hx hb dc_X1_holdsForTwo_27 ?_
    refine lv_if_eq (tgt := 46) hx hb dc_X1_holdsForTwo_28 (by decide) (fun c_1 => ?_) (fun c_1 => ?_)
    · skip
      refine lv_iconst (v := 1) hx hb dc_X1_holdsForTwo_46 (by decide) ?_
      refine lv_goto (tgt := 51) hx hb dc_X1_holdsForTwo_47 (by decide) ?_
      refine lv_istore (lv' := [(11, .int ((1 : Int32))), (9, .long (fn_X0_firstOf (a2) (a4))), (7, .long (fn_X0_lastOf (a2) (a4))), (0, .ref pf), (1, .int (a1)), (2, .long (a2)), (4, .int (a3)), (5, .long (a4))]) hx hb dc_X1_holdsForTwo_51 hl (by decide) rfl (fun ls hl => ?_)
      refine lv_iload hx hb dc_X1_holdsForTwo_53 (lv_at hl 0 rfl) ?_
      refine lv_if_eq (tgt := 85) hx hb dc_X1_holdsForTwo_55 (by decide) (fun c_2 => absurd c_2 (by decide)) (fun _ => ?_)
      refine lv_lload_n hx hb dc_X1_holdsForTwo_58 rfl (lv_at hl 5 rfl) ?_
      refine ky_cS0 (As := [.long (a2)]) F (mt_X0_rankIn l (a2)) ks_X1_112 ⟨⟨rfl, rfl⟩, by decide, by decide⟩ rfl hl.1 rfl (Nat.le_of_ble_eq_true rfl) ⟨Nat.le_of_ble_eq_true rfl, Nat.le_of_ble_eq_true rfl⟩ dc_X1_holdsForTwo_59 ?_
      refine lv_lload hx hb dc_X1_holdsForTwo_62 (lv_at hl 7 rfl) ?_
      refine ky_cS0 (As := [.long (a4)]) F (mt_X0_rankIn l (a4)) ks_X1_112 ⟨⟨rfl, rfl⟩, by decide, by decide⟩ rfl hl.1 rfl (Nat.le_of_ble_eq_true rfl) ⟨Nat.le_of_ble_eq_true rfl, Nat.le_of_ble_eq_true rfl⟩ dc_X1_holdsForTwo_64 ?_
      refine W.lcmp hx hb dc_X1_holdsForTwo_67 ?_
      refine lv_if_gt (tgt := 81) hx hb dc_X1_holdsForTwo_68 (by decide) (fun c_3 => ?_) (fun c_3 => ?_)
      · skip
        refine lv_iconst (v := 1) hx hb dc_X1_holdsForTwo_81 (by decide) ?_
        refine lv_goto (tgt := 86) hx hb dc_X1_holdsForTwo_82 (by decide) ?_
        have hP9 := hP.sub (ws' := [(pf, .inr (2, [.ref tk])), (tk, .inl (G.2.1 4, 8, .inr (.inr (.inr (.inr (fun j => if j < 8 then some (r j) else none)))))), ((r 0), .inl (G.2.1 2, 6, .inr (.inl (g 0)))), ((r 1), .inl (G.2.1 2, 6, .inr (.inl (g 1)))), ((r 2), .inl (G.2.1 2, 6, .inr (.inl (g 2)))), ((r 3), .inl (G.2.1 2, 6, .inr (.inl (g 3)))), ((r 4), .inl (G.2.1 2, 6, .inr (.inl (g 4)))), ((r 5), .inl (G.2.1 2, 6, .inr (.inl (g 5)))), ((r 6), .inl (G.2.1 2, 6, .inr (.inl (g 6)))), ((r 7), .inl (G.2.1 2, 6, .inr (.inl (g 7))))]) [0, 1, 2, 3, 4, 5, 6, 7, 8, 9] rfl
        have hD9 := hD.sub (ws' := [(pf, .inr (2, [.ref tk])), (tk, .inl (G.2.1 4, 8, .inr (.inr (.inr (.inr (fun j => if j < 8 then some (r j) else none)))))), ((r 0), .inl (G.2.1 2, 6, .inr (.inl (g 0)))), ((r 1), .inl (G.2.1 2, 6, .inr (.inl (g 1)))), ((r 2), .inl (G.2.1 2, 6, .inr (.inl (g 2)))), ((r 3), .inl (G.2.1 2, 6, .inr (.inl (g 3)))), ((r 4), .inl (G.2.1 2, 6, .inr (.inl (g 4)))), ((r 5), .inl (G.2.1 2, 6, .inr (.inl (g 5)))), ((r 6), .inl (G.2.1 2, 6, .inr (.inl (g 6)))), ((r 7), .inl (G.2.1 2, 6, .inr (.inl (g 7))))]) [0, 1, 2, 3, 4, 5, 6, 7, 8, 9] (by decide) rfl
        refine W.widen (k := 0) (n := 0) (Nat.le_of_ble_eq_true rfl) (Nat.le_of_ble_eq_true rfl) ?_
        exact W.zret (v := (1 : Int32)) hx hb hr (by decide) (fun t ht hW => ⟨⟨_, g, rfl, ⟨_, rfl, by decide⟩, by rw [ht]; exact hP9, hD9, trivial⟩, hS.F ht⟩) hS.2.2 dc_X1_holdsForTwo_86
      · skip
        refine lv_aload_n hx hb dc_X1_holdsForTwo_71 rfl (lv_at hl 3 rfl) ?_
        refine lv_iload_n hx hb dc_X1_holdsForTwo_72 rfl (lv_at hl 4 rfl) ?_
        refine lv_iload hx hb dc_X1_holdsForTwo_73 (lv_at hl 6 rfl) ?_
        refine ky_cVh (As := [.int (a1), .int (a3)]) (wr := []) F (hE.at hfr hS) hfr (mt_X1_isNoneBehind l G pf tk r g a1 a3 s.heap.size h1 h2) kv_X1_115 ⟨⟨rfl, rfl⟩, Nat.le_of_ble_eq_true rfl, Nat.le_of_ble_eq_true rfl⟩ rfl hl.1 rfl (Nat.le_of_ble_eq_true rfl) ⟨Nat.le_of_ble_eq_true rfl, Nat.le_of_ble_eq_true rfl⟩ (va_recv hE.1 hP (ci := 2) (q0 := 0) rfl rfl) trivial hP hD hS hA [0, 1, 2, 3, 4, 5, 6, 7, 8, 9] [] rfl rfl (by decide) (by decide) (by decide) dc_X1_holdsForTwo_75 ?_
        rintro v9 g_4 H locs ⟨z_4, rfl, hz_4⟩ hP hD hS - hz hk9
        have hP : va_P G.1 kcl [(pf, .inr (2, [.ref tk])), (tk, .inl (G.2.1 4, 8, .inr (.inr (.inr (.inr (fun j => if j < 8 then some (r j) else none)))))), ((r 0), .inl (G.2.1 2, 6, .inr (.inl (g_4 0)))), ((r 1), .inl (G.2.1 2, 6, .inr (.inl (g_4 1)))), ((r 2), .inl (G.2.1 2, 6, .inr (.inl (g_4 2)))), ((r 3), .inl (G.2.1 2, 6, .inr (.inl (g_4 3)))), ((r 4), .inl (G.2.1 2, 6, .inr (.inl (g_4 4)))), ((r 5), .inl (G.2.1 2, 6, .inr (.inl (g_4 5)))), ((r 6), .inl (G.2.1 2, 6, .inr (.inl (g_4 6)))), ((r 7), .inl (G.2.1 2, 6, .inr (.inl (g_4 7))))] H := hP
        have hD : va_D A [(pf, .inr (2, [.ref tk])), (tk, .inl (G.2.1 4, 8, .inr (.inr (.inr (.inr (fun j => if j < 8 then some (r j) else none)))))), ((r 0), .inl (G.2.1 2, 6, .inr (.inl (g_4 0)))), ((r 1), .inl (G.2.1 2, 6, .inr (.inl (g_4 1)))), ((r 2), .inl (G.2.1 2, 6, .inr (.inl (g_4 2)))), ((r 3), .inl (G.2.1 2, 6, .inr (.inl (g_4 3)))), ((r 4), .inl (G.2.1 2, 6, .inr (.inl (g_4 4)))), ((r 5), .inl (G.2.1 2, 6, .inr (.inl (g_4 5)))), ((r 6), .inl (G.2.1 2, 6, .inr (.inl (g_4 6)))), ((r 7), .inl (G.2.1 2, 6, .inr (.inl (g_4 7))))] := hD
        refine W.widen (k := 0) (n := 0) (by first | exact Nat.le_refl _ | omega) (by first | exact Nat.le_refl _ | omega) ?_
        refine lv_if_eq (tgt := 85) hx hb dc_X1_holdsForTwo_78 (by decide) (fun c_5 => ?_) (fun c_5 => ?_)
        · skip
          refine lv_iconst (v := 0) hx hb dc_X1_holdsForTwo_85 (by decide) ?_
          have hP9 := hP.sub (ws' := [(pf, .inr (2, [.ref tk])), (tk, .inl (G.2.1 4, 8, .inr (.inr (.inr (.inr (fun j => if j < 8 then some (r j) else none)))))), ((r 0), .inl (G.2.1 2, 6, .inr (.inl (g_4 0)))), ((r 1), .inl (G.2.1 2, 6, .inr (.inl (g_4 1)))), ((r 2), .inl (G.2.1 2, 6, .inr (.inl (g_4 2)))), ((r 3), .inl (G.2.1 2, 6, .inr (.inl (g_4 3)))), ((r 4), .inl (G.2.1 2, 6, .inr (.inl (g_4 4)))), ((r 5), .inl (G.2.1 2, 6, .inr (.inl (g_4 5)))), ((r 6), .inl (G.2.1 2, 6, .inr (.inl (g_4 6)))), ((r 7), .inl (G.2.1 2, 6, .inr (.inl (g_4 7))))]) [0, 1, 2, 3, 4, 5, 6, 7, 8, 9] rfl
          have hD9 := hD.sub (ws' := [(pf, .inr (2, [.ref tk])), (tk, .inl (G.2.1 4, 8, .inr (.inr (.inr (.inr (fun j => if j < 8 then some (r j) else none)))))), ((r 0), .inl (G.2.1 2, 6, .inr (.inl (g_4 0)))), ((r 1), .inl (G.2.1 2, 6, .inr (.inl (g_4 1)))), ((r 2), .inl (G.2.1 2, 6, .inr (.inl (g_4 2)))), ((r 3), .inl (G.2.1 2, 6, .inr (.inl (g_4 3)))), ((r 4), .inl (G.2.1 2, 6, .inr (.inl (g_4 4)))), ((r 5), .inl (G.2.1 2, 6, .inr (.inl (g_4 5)))), ((r 6), .inl (G.2.1 2, 6, .inr (.inl (g_4 6)))), ((r 7), .inl (G.2.1 2, 6, .inr (.inl (g_4 7))))]) [0, 1, 2, 3, 4, 5, 6, 7, 8, 9] (by decide) rfl
          refine W.widen (k := 0) (n := 0) (Nat.le_of_ble_eq_true rfl) (Nat.le_of_ble_eq_true rfl) ?_
          exact W.zret (v := (0 : Int32)) hx hb hr (by decide) (fun t ht hW => ⟨⟨_, g_4, rfl, ⟨_, rfl, by decide⟩, by rw [ht]; exact hP9, hD9, trivial⟩, hS.F ht⟩) hS.2.2 dc_X1_holdsForTwo_86
        · skip
          refine lv_iconst (v := 1) hx hb dc_X1_holdsForTwo_81 (by decide) ?_
          refine lv_goto (tgt := 86) hx hb dc_X1_holdsForTwo_82 (by decide) ?_
          have hP9 := hP.sub (ws' := [(pf, .inr (2, [.ref tk])), (tk, .inl (G.2.1 4, 8, .inr (.inr (.inr (.inr (fun j => if j < 8 then some (r j) else none)))))), ((r 0), .inl (G.2.1 2, 6, .inr (.inl (g_4 0)))), ((r 1), .inl (G.2.1 2, 6, .inr (.inl (g_4 1)))), ((r 2), .inl (G.2.1 2, 6, .inr (.inl (g_4 2)))), ((r 3), .inl (G.2.1 2, 6, .inr (.inl (g_4 3)))), ((r 4), .inl (G.2.1 2, 6, .inr (.inl (g_4 4)))), ((r 5), .inl (G.2.1 2, 6, .inr (.inl (g_4 5)))), ((r 6), .inl (G.2.1 2, 6, .inr (.inl (g_4 6)))), ((r 7), .inl (G.2.1 2, 6, .inr (.inl (g_4 7))))]) [0, 1, 2, 3, 4, 5, 6, 7, 8, 9] rfl
          have hD9 := hD.sub (ws' := [(pf, .inr (2, [.ref tk])), (tk, .inl (G.2.1 4, 8, .inr (.inr (.inr (.inr (fun j => if j < 8 then some (r j) else none)))))), ((r 0), .inl (G.2.1 2, 6, .inr (.inl (g_4 0)))), ((r 1), .inl (G.2.1 2, 6, .inr (.inl (g_4 1)))), ((r 2), .inl (G.2.1 2, 6, .inr (.inl (g_4 2)))), ((r 3), .inl (G.2.1 2, 6, .inr (.inl (g_4 3)))), ((r 4), .inl (G.2.1 2, 6, .inr (.inl (g_4 4)))), ((r 5), .inl (G.2.1 2, 6, .inr (.inl (g_4 5)))), ((r 6), .inl (G.2.1 2, 6, .inr (.inl (g_4 6)))), ((r 7), .inl (G.2.1 2, 6, .inr (.inl (g_4 7))))]) [0, 1, 2, 3, 4, 5, 6, 7, 8, 9] (by decide) rfl
          refine W.widen (k := 0) (n := 0) (Nat.le_of_ble_eq_true rfl) (Nat.le_of_ble_eq_true rfl) ?_
          exact W.zret (v := (1 : Int32)) hx hb hr (by decide) (fun t ht hW => ⟨⟨_, g_4, rfl, ⟨_, rfl, by decide⟩, by rw [ht]; exact hP9, hD9, trivial⟩, hS.F ht⟩) hS.2.2 dc_X1_holdsForTwo_86
    · skip
      refine lv_lload hx hb dc_X1_holdsForTwo_31 (lv_at hl 1 rfl) ?_
      refine lv_lload hx hb dc_X1_holdsForTwo_33 (lv_at hl 6 rfl) ?_
      refine W.lcmp hx hb dc_X1_holdsForTwo_35 ?_
      refine lv_if_ne (tgt := 50) hx hb dc_X1_holdsForTwo_36 (by decide) (fun c_2 => ?_) (fun c_2 => ?_)
      · skip
        refine lv_iconst (v := 0) hx hb dc_X1_holdsForTwo_50 (by decide) ?_
        refine lv_istore (lv' := [(11, .int ((0 : Int32))), (9, .long (fn_X0_firstOf (a2) (a4))), (7, .long (fn_X0_lastOf (a2) (a4))), (0, .ref pf), (1, .int (a1)), (2, .long (a2)), (4, .int (a3)), (5, .long (a4))]) hx hb dc_X1_holdsForTwo_51 hl (by decide) rfl (fun ls hl => ?_)
        refine lv_iload hx hb dc_X1_holdsForTwo_53 (lv_at hl 0 rfl) ?_
        refine lv_if_eq (tgt := 85) hx hb dc_X1_holdsForTwo_55 (by decide) (fun _ => ?_) (fun c_3 => absurd c_3 (by decide))
        refine lv_iconst (v := 0) hx hb dc_X1_holdsForTwo_85 (by decide) ?_
        have hP9 := hP.sub (ws' := [(pf, .inr (2, [.ref tk])), (tk, .inl (G.2.1 4, 8, .inr (.inr (.inr (.inr (fun j => if j < 8 then some (r j) else none)))))), ((r 0), .inl (G.2.1 2, 6, .inr (.inl (g 0)))), ((r 1), .inl (G.2.1 2, 6, .inr (.inl (g 1)))), ((r 2), .inl (G.2.1 2, 6, .inr (.inl (g 2)))), ((r 3), .inl (G.2.1 2, 6, .inr (.inl (g 3)))), ((r 4), .inl (G.2.1 2, 6, .inr (.inl (g 4)))), ((r 5), .inl (G.2.1 2, 6, .inr (.inl (g 5)))), ((r 6), .inl (G.2.1 2, 6, .inr (.inl (g 6)))), ((r 7), .inl (G.2.1 2, 6, .inr (.inl (g 7))))]) [0, 1, 2, 3, 4, 5, 6, 7, 8, 9] rfl
        have hD9 := hD.sub (ws' := [(pf, .inr (2, [.ref tk])), (tk, .inl (G.2.1 4, 8, .inr (.inr (.inr (.inr (fun j => if j < 8 then some (r j) else none)))))), ((r 0), .inl (G.2.1 2, 6, .inr (.inl (g 0)))), ((r 1), .inl (G.2.1 2, 6, .inr (.inl (g 1)))), ((r 2), .inl (G.2.1 2, 6, .inr (.inl (g 2)))), ((r 3), .inl (G.2.1 2, 6, .inr (.inl (g 3)))), ((r 4), .inl (G.2.1 2, 6, .inr (.inl (g 4)))), ((r 5), .inl (G.2.1 2, 6, .inr (.inl (g 5)))), ((r 6), .inl (G.2.1 2, 6, .inr (.inl (g 6)))), ((r 7), .inl (G.2.1 2, 6, .inr (.inl (g 7))))]) [0, 1, 2, 3, 4, 5, 6, 7, 8, 9] (by decide) rfl
        refine W.widen (k := 0) (n := 0) (Nat.le_of_ble_eq_true rfl) (Nat.le_of_ble_eq_true rfl) ?_
        exact W.zret (v := (0 : Int32)) hx hb hr (by decide) (fun t ht hW => ⟨⟨_, g, rfl, ⟨_, rfl, by decide⟩, by rw [ht]; exact hP9, hD9, trivial⟩, hS.F ht⟩) hS.2.2 dc_X1_holdsForTwo_86
      · skip
        refine lv_lload hx hb dc_X1_holdsForTwo_39 (lv_at hl 0 rfl) ?_
        refine lv_lload_n hx hb dc_X1_holdsForTwo_41 rfl (lv_at hl 4 rfl) ?_
        refine W.lcmp hx hb dc_X1_holdsForTwo_42 ?_
        refine lv_if_ne (tgt := 50) hx hb dc_X1_holdsForTwo_43 (by decide) (fun c_3 => ?_) (fun c_3 => ?_)
        · skip
          refine lv_iconst (v := 0) hx hb dc_X1_holdsForTwo_50 (by decide) ?_
          refine lv_istore (lv' := [(11, .int ((0 : Int32))), (9, .long (fn_X0_firstOf (a2) (a4))), (7, .long (fn_X0_lastOf (a2) (a4))), (0, .ref pf), (1, .int (a1)), (2, .long (a2)), (4, .int (a3)), (5, .long (a4))]) hx hb dc_X1_holdsForTwo_51 hl (by decide) rfl (fun ls hl => ?_)
          refine lv_iload hx hb dc_X1_holdsForTwo_53 (lv_at hl 0 rfl) ?_
          refine lv_if_eq (tgt := 85) hx hb dc_X1_holdsForTwo_55 (by decide) (fun _ => ?_) (fun c_4 => absurd c_4 (by decide))
          refine lv_iconst (v := 0) hx hb dc_X1_holdsForTwo_85 (by decide) ?_
          have hP9 := hP.sub (ws' := [(pf, .inr (2, [.ref tk])), (tk, .inl (G.2.1 4, 8, .inr (.inr (.inr (.inr (fun j => if j < 8 then some (r j) else none)))))), ((r 0), .inl (G.2.1 2, 6, .inr (.inl (g 0)))), ((r 1), .inl (G.2.1 2, 6, .inr (.inl (g 1)))), ((r 2), .inl (G.2.1 2, 6, .inr (.inl (g 2)))), ((r 3), .inl (G.2.1 2, 6, .inr (.inl (g 3)))), ((r 4), .inl (G.2.1 2, 6, .inr (.inl (g 4)))), ((r 5), .inl (G.2.1 2, 6, .inr (.inl (g 5)))), ((r 6), .inl (G.2.1 2, 6, .inr (.inl (g 6)))), ((r 7), .inl (G.2.1 2, 6, .inr (.inl (g 7))))]) [0, 1, 2, 3, 4, 5, 6, 7, 8, 9] rfl
          have hD9 := hD.sub (ws' := [(pf, .inr (2, [.ref tk])), (tk, .inl (G.2.1 4, 8, .inr (.inr (.inr (.inr (fun j => if j < 8 then some (r j) else none)))))), ((r 0), .inl (G.2.1 2, 6, .inr (.inl (g 0)))), ((r 1), .inl (G.2.1 2, 6, .inr (.inl (g 1)))), ((r 2), .inl (G.2.1 2, 6, .inr (.inl (g 2)))), ((r 3), .inl (G.2.1 2, 6, .inr (.inl (g 3)))), ((r 4), .inl (G.2.1 2, 6, .inr (.inl (g 4)))), ((r 5), .inl (G.2.1 2, 6, .inr (.inl (g 5)))), ((r 6), .inl (G.2.1 2, 6, .inr (.inl (g 6)))), ((r 7), .inl (G.2.1 2, 6, .inr (.inl (g 7))))]) [0, 1, 2, 3, 4, 5, 6, 7, 8, 9] (by decide) rfl
          refine W.widen (k := 0) (n := 0) (Nat.le_of_ble_eq_true rfl) (Nat.le_of_ble_eq_true rfl) ?_
          exact W.zret (v := (0 : Int32)) hx hb hr (by decide) (fun t ht hW => ⟨⟨_, g, rfl, ⟨_, rfl, by decide⟩, by rw [ht]; exact hP9, hD9, trivial⟩, hS.F ht⟩) hS.2.2 dc_X1_holdsForTwo_86
        · skip
          refine lv_iconst (v := 1) hx hb dc_X1_holdsForTwo_46 (by decide) ?_
          refine lv_goto (tgt := 51) hx hb dc_X1_holdsForTwo_47 (by decide) ?_
          refine lv_istore (lv' := [(11, .int ((1 : Int32))), (9, .long (fn_X0_firstOf (a2) (a4))), (7, .long (fn_X0_lastOf (a2) (a4))), (0, .ref pf), (1, .int (a1)), (2, .long (a2)), (4, .int (a3)), (5, .long (a4))]) hx hb dc_X1_holdsForTwo_51 hl (by decide) rfl (fun ls hl => ?_)
          refine lv_iload hx hb dc_X1_holdsForTwo_53 (lv_at hl 0 rfl) ?_
          refine lv_if_eq (tgt := 85) hx hb dc_X1_holdsForTwo_55 (by decide) (fun c_4 => absurd c_4 (by decide)) (fun _ => ?_)
          refine lv_lload_n hx hb dc_X1_holdsForTwo_58 rfl (lv_at hl 5 rfl) ?_
          refine ky_cS0 (As := [.long (a2)]) F (mt_X0_rankIn l (a2)) ks_X1_112 ⟨⟨rfl, rfl⟩, by decide, by decide⟩ rfl hl.1 rfl (Nat.le_of_ble_eq_true rfl) ⟨Nat.le_of_ble_eq_true rfl, Nat.le_of_ble_eq_true rfl⟩ dc_X1_holdsForTwo_59 ?_
          refine lv_lload hx hb dc_X1_holdsForTwo_62 (lv_at hl 7 rfl) ?_
          refine ky_cS0 (As := [.long (a4)]) F (mt_X0_rankIn l (a4)) ks_X1_112 ⟨⟨rfl, rfl⟩, by decide, by decide⟩ rfl hl.1 rfl (Nat.le_of_ble_eq_true rfl) ⟨Nat.le_of_ble_eq_true rfl, Nat.le_of_ble_eq_true rfl⟩ dc_X1_holdsForTwo_64 ?_
          refine W.lcmp hx hb dc_X1_holdsForTwo_67 ?_
          refine lv_if_gt (tgt := 81) hx hb dc_X1_holdsForTwo_68 (by decide) (fun c_5 => ?_) (fun c_5 => ?_)
          · skip
            refine lv_iconst (v := 1) hx hb dc_X1_holdsForTwo_81 (by decide) ?_
            refine lv_goto (tgt := 86) hx hb dc_X1_holdsForTwo_82 (by decide) ?_
            have hP9 := hP.sub (ws' := [(pf, .inr (2, [.ref tk])), (tk, .inl (G.2.1 4, 8, .inr (.inr (.inr (.inr (fun j => if j < 8 then some (r j) else none)))))), ((r 0), .inl (G.2.1 2, 6, .inr (.inl (g 0)))), ((r 1), .inl (G.2.1 2, 6, .inr (.inl (g 1)))), ((r 2), .inl (G.2.1 2, 6, .inr (.inl (g 2)))), ((r 3), .inl (G.2.1 2, 6, .inr (.inl (g 3)))), ((r 4), .inl (G.2.1 2, 6, .inr (.inl (g 4)))), ((r 5), .inl (G.2.1 2, 6, .inr (.inl (g 5)))), ((r 6), .inl (G.2.1 2, 6, .inr (.inl (g 6)))), ((r 7), .inl (G.2.1 2, 6, .inr (.inl (g 7))))]) [0, 1, 2, 3, 4, 5, 6, 7, 8, 9] rfl
            have hD9 := hD.sub (ws' := [(pf, .inr (2, [.ref tk])), (tk, .inl (G.2.1 4, 8, .inr (.inr (.inr (.inr (fun j => if j < 8 then some (r j) else none)))))), ((r 0), .inl (G.2.1 2, 6, .inr (.inl (g 0)))), ((r 1), .inl (G.2.1 2, 6, .inr (.inl (g 1)))), ((r 2), .inl (G.2.1 2, 6, .inr (.inl (g 2)))), ((r 3), .inl (G.2.1 2, 6, .inr (.inl (g 3)))), ((r 4), .inl (G.2.1 2, 6, .inr (.inl (g 4)))), ((r 5), .inl (G.2.1 2, 6, .inr (.inl (g 5)))), ((r 6), .inl (G.2.1 2, 6, .inr (.inl (g 6)))), ((r 7), .inl (G.2.1 2, 6, .inr (.inl (g 7))))]) [0, 1, 2, 3, 4, 5, 6, 7, 8, 9] (by decide) rfl
            refine W.widen (k := 0) (n := 0) (Nat.le_of_ble_eq_true rfl) (Nat.le_of_ble_eq_true rfl) ?_
            exact W.zret (v := (1 : Int32)) hx hb hr (by decide) (fun t ht hW => ⟨⟨_, g, rfl, ⟨_, rfl, by decide⟩, by rw [ht]; exact hP9, hD9, trivial⟩, hS.F ht⟩) hS.2.2 dc_X1_holdsForTwo_86
          · skip
            refine lv_aload_n hx hb dc_X1_holdsForTwo_71 rfl (lv_at hl 3 rfl) ?_
            refine lv_iload_n hx hb dc_X1_holdsForTwo_72 rfl (lv_at hl 4 rfl) ?_
            refine lv_iload hx hb dc_X1_holdsForTwo_73 (lv_at hl 6 rfl) ?_
            refine ky_cVh (As := [.int (a1), .int (a3)]) (wr := []) F (hE.at hfr hS) hfr (mt_X1_isNoneBehind l G pf tk r g a1 a3 s.heap.size h1 h2) kv_X1_115 ⟨⟨rfl, rfl⟩, Nat.le_of_ble_eq_true rfl, Nat.le_of_ble_eq_true rfl⟩ rfl hl.1 rfl (Nat.le_of_ble_eq_true rfl) ⟨Nat.le_of_ble_eq_true rfl, Nat.le_of_ble_eq_true rfl⟩ (va_recv hE.1 hP (ci := 2) (q0 := 0) rfl rfl) trivial hP hD hS hA [0, 1, 2, 3, 4, 5, 6, 7, 8, 9] [] rfl rfl (by decide) (by decide) (by decide) dc_X1_holdsForTwo_75 ?_
            rintro v9 g_6 H locs ⟨z_6, rfl, hz_6⟩ hP hD hS - hz hk9
            have hP : va_P G.1 kcl [(pf, .inr (2, [.ref tk])), (tk, .inl (G.2.1 4, 8, .inr (.inr (.inr (.inr (fun j => if j < 8 then some (r j) else none)))))), ((r 0), .inl (G.2.1 2, 6, .inr (.inl (g_6 0)))), ((r 1), .inl (G.2.1 2, 6, .inr (.inl (g_6 1)))), ((r 2), .inl (G.2.1 2, 6, .inr (.inl (g_6 2)))), ((r 3), .inl (G.2.1 2, 6, .inr (.inl (g_6 3)))), ((r 4), .inl (G.2.1 2, 6, .inr (.inl (g_6 4)))), ((r 5), .inl (G.2.1 2, 6, .inr (.inl (g_6 5)))), ((r 6), .inl (G.2.1 2, 6, .inr (.inl (g_6 6)))), ((r 7), .inl (G.2.1 2, 6, .inr (.inl (g_6 7))))] H := hP
            have hD : va_D A [(pf, .inr (2, [.ref tk])), (tk, .inl (G.2.1 4, 8, .inr (.inr (.inr (.inr (fun j => if j < 8 then some (r j) else none)))))), ((r 0), .inl (G.2.1 2, 6, .inr (.inl (g_6 0)))), ((r 1), .inl (G.2.1 2, 6, .inr (.inl (g_6 1)))), ((r 2), .inl (G.2.1 2, 6, .inr (.inl (g_6 2)))), ((r 3), .inl (G.2.1 2, 6, .inr (.inl (g_6 3)))), ((r 4), .inl (G.2.1 2, 6, .inr (.inl (g_6 4)))), ((r 5), .inl (G.2.1 2, 6, .inr (.inl (g_6 5)))), ((r 6), .inl (G.2.1 2, 6, .inr (.inl (g_6 6)))), ((r 7), .inl (G.2.1 2, 6, .inr (.inl (g_6 7))))] := hD
            refine W.widen (k := 0) (n := 0) (by first | exact Nat.le_refl _ | omega) (by first | exact Nat.le_refl _ | omega) ?_
            refine lv_if_eq (tgt := 85) hx hb dc_X1_holdsForTwo_78 (by decide) (fun c_7 => ?_) (fun c_7 => ?_)
            · skip
              refine lv_iconst (v := 0) hx hb dc_X1_holdsForTwo_85 (by decide) ?_
              have hP9 := hP.sub (ws' := [(pf, .inr (2, [.ref tk])), (tk, .inl (G.2.1 4, 8, .inr (.inr (.inr (.inr (fun j => if j < 8 then some (r j) else none)))))), ((r 0), .inl (G.2.1 2, 6, .inr (.inl (g_6 0)))), ((r 1), .inl (G.2.1 2, 6, .inr (.inl (g_6 1)))), ((r 2), .inl (G.2.1 2, 6, .inr (.inl (g_6 2)))), ((r 3), .inl (G.2.1 2, 6, .inr (.inl (g_6 3)))), ((r 4), .inl (G.2.1 2, 6, .inr (.inl (g_6 4)))), ((r 5), .inl (G.2.1 2, 6, .inr (.inl (g_6 5)))), ((r 6), .inl (G.2.1 2, 6, .inr (.inl (g_6 6)))), ((r 7), .inl (G.2.1 2, 6, .inr (.inl (g_6 7))))]) [0, 1, 2, 3, 4, 5, 6, 7, 8, 9] rfl
              have hD9 := hD.sub (ws' := [(pf, .inr (2, [.ref tk])), (tk, .inl (G.2.1 4, 8, .inr (.inr (.inr (.inr (fun j => if j < 8 then some (r j) else none)))))), ((r 0), .inl (G.2.1 2, 6, .inr (.inl (g_6 0)))), ((r 1), .inl (G.2.1 2, 6, .inr (.inl (g_6 1)))), ((r 2), .inl (G.2.1 2, 6, .inr (.inl (g_6 2)))), ((r 3), .inl (G.2.1 2, 6, .inr (.inl (g_6 3)))), ((r 4), .inl (G.2.1 2, 6, .inr (.inl (g_6 4)))), ((r 5), .inl (G.2.1 2, 6, .inr (.inl (g_6 5)))), ((r 6), .inl (G.2.1 2, 6, .inr (.inl (g_6 6)))), ((r 7), .inl (G.2.1 2, 6, .inr (.inl (g_6 7))))]) [0, 1, 2, 3, 4, 5, 6, 7, 8, 9] (by decide) rfl
              refine W.widen (k := 0) (n := 0) (Nat.le_of_ble_eq_true rfl) (Nat.le_of_ble_eq_true rfl) ?_
              exact W.zret (v := (0 : Int32)) hx hb hr (by decide) (fun t ht hW => ⟨⟨_, g_6, rfl, ⟨_, rfl, by decide⟩, by rw [ht]; exact hP9, hD9, trivial⟩, hS.F ht⟩) hS.2.2 dc_X1_holdsForTwo_86
            · skip
              refine lv_iconst (v := 1) hx hb dc_X1_holdsForTwo_81 (by decide) ?_
              refine lv_goto (tgt := 86) hx hb dc_X1_holdsForTwo_82 (by decide) ?_
              have hP9 := hP.sub (ws' := [(pf, .inr (2, [.ref tk])), (tk, .inl (G.2.1 4, 8, .inr (.inr (.inr (.inr (fun j => if j < 8 then some (r j) else none)))))), ((r 0), .inl (G.2.1 2, 6, .inr (.inl (g_6 0)))), ((r 1), .inl (G.2.1 2, 6, .inr (.inl (g_6 1)))), ((r 2), .inl (G.2.1 2, 6, .inr (.inl (g_6 2)))), ((r 3), .inl (G.2.1 2, 6, .inr (.inl (g_6 3)))), ((r 4), .inl (G.2.1 2, 6, .inr (.inl (g_6 4)))), ((r 5), .inl (G.2.1 2, 6, .inr (.inl (g_6 5)))), ((r 6), .inl (G.2.1 2, 6, .inr (.inl (g_6 6)))), ((r 7), .inl (G.2.1 2, 6, .inr (.inl (g_6 7))))]) [0, 1, 2, 3, 4, 5, 6, 7, 8, 9] rfl
              have hD9 := hD.sub (ws' := [(pf, .inr (2, [.ref tk])), (tk, .inl (G.2.1 4, 8, .inr (.inr (.inr (.inr (fun j => if j < 8 then some (r j) else none)))))), ((r 0), .inl (G.2.1 2, 6, .inr (.inl (g_6 0)))), ((r 1), .inl (G.2.1 2, 6, .inr (.inl (g_6 1)))), ((r 2), .inl (G.2.1 2, 6, .inr (.inl (g_6 2)))), ((r 3), .inl (G.2.1 2, 6, .inr (.inl (g_6 3)))), ((r 4), .inl (G.2.1 2, 6, .inr (.inl (g_6 4)))), ((r 5), .inl (G.2.1 2, 6, .inr (.inl (g_6 5)))), ((r 6), .inl (G.2.1 2, 6, .inr (.inl (g_6 6)))), ((r 7), .inl (G.2.1 2, 6, .inr (.inl (g_6 7))))]) [0, 1, 2, 3, 4, 5, 6, 7, 8, 9] (by decide) rfl
              refine W.widen (k := 0) (n := 0) (Nat.le_of_ble_eq_true rfl) (Nat.le_of_ble_eq_true rfl) ?_
              exact W.zret (v := (1 : Int32)) hx hb hr (by decide) (fun t ht hW => ⟨⟨_, g_6, rfl, ⟨_, rfl, by decide⟩, by rw [ht]; exact hP9, hD9, trivial⟩, hS.F ht⟩) hS.2.2 dc_X1_holdsForTwo_86
set_option linter.constructorNameAsVariable false in
set_option maxHeartbeats 4000000 in
set_option maxRecDepth 100000 in
theorem ml_X1_holdsFor_L65 {p : Program} {l : Launch} {e : Env} {s : State} {m : MethodId} {args : Array Value} {below : List Frame} {meth : Method} {c : Code} {G : ky_G} {A : Nat → Prop} {pf : Nat} {tk : Nat} {r : Nat → Nat} {g : Nat → Nat → Int64} {cs : Nat} {f : Nat → Int64} (F : ky_F p s m meth c my_X1_holdsFor.cls prog_3_method_2_code 5 (some .boolean) args) (hE : ky_E G s) (hA : ∀ q, s.heap.size ≤ q → A q) (hfr : ∀ q, A q → ky_fr G q)   : ∀ (n9 : Nat) (i9 : Nat) (gx : Nat → Nat → Int64) (h9 : i9 ≤ 6) (hn9 : 6 - i9 < n9) (H : Heap) (locs : List Loc), va_P G.1 kcl [(pf, .inr (2, [.ref tk])), (tk, .inl (G.2.1 4, 8, .inr (.inr (.inr (.inr (fun j => if j < 8 then some (r j) else none)))))), ((r 0), .inl (G.2.1 2, 6, .inr (.inl (gx 0)))), ((r 1), .inl (G.2.1 2, 6, .inr (.inl (gx 1)))), ((r 2), .inl (G.2.1 2, 6, .inr (.inl (gx 2)))), ((r 3), .inl (G.2.1 2, 6, .inr (.inl (gx 3)))), ((r 4), .inl (G.2.1 2, 6, .inr (.inl (gx 4)))), ((r 5), .inl (G.2.1 2, 6, .inr (.inl (gx 5)))), ((r 6), .inl (G.2.1 2, 6, .inr (.inl (gx 6)))), ((r 7), .inl (G.2.1 2, 6, .inr (.inl (gx 7)))), (cs, .inl (G.2.1 2, 6, .inr (.inl (f))))] H → va_D A [(pf, .inr (2, [.ref tk])), (tk, .inl (G.2.1 4, 8, .inr (.inr (.inr (.inr (fun j => if j < 8 then some (r j) else none)))))), ((r 0), .inl (G.2.1 2, 6, .inr (.inl (gx 0)))), ((r 1), .inl (G.2.1 2, 6, .inr (.inl (gx 1)))), ((r 2), .inl (G.2.1 2, 6, .inr (.inl (gx 2)))), ((r 3), .inl (G.2.1 2, 6, .inr (.inl (gx 3)))), ((r 4), .inl (G.2.1 2, 6, .inr (.inl (gx 4)))), ((r 5), .inl (G.2.1 2, 6, .inr (.inl (gx 5)))), ((r 6), .inl (G.2.1 2, 6, .inr (.inl (gx 6)))), ((r 7), .inl (G.2.1 2, 6, .inr (.inl (gx 7)))), (cs, .inl (G.2.1 2, 6, .inr (.inl (f))))] → va_S A s.heap H locs →  ∀ ls : Array Slot, lv_has ls 5 [(0, .ref pf), (1, .ref cs), (2, .int (nI (i9)))] → W p l e { frames := 5, cells := 0, slots := 0, locals := 132 } s m args below meth c H locs (0) (0) (MQ below (ky_Q (S := Nat → Nat → Int64) G A (fun v _ => ky_bool v) (fun u => ky_WPf G pf tk r u ++ [(cs, .inl (G.2.1 2, 6, .inr (.inl f)))]) (fun _ _ => True)) args s (0) (0) A) (F0 m 65 ls []) := by
  obtain ⟨hx, hb, hml, hown, hr, hlocks, hts⟩ := id F
  intro n9
  induction n9 with
  | zero => intro i9 gx h9 hn9; exact False.elim (by omega)
  | succ n9 ih =>
      intro i9 gx h9 hn9 H locs hP hD hS  ls hl
      refine lv_iload_n hx hb dc_X1_holdsFor_65 rfl (lv_at hl 2 rfl) ?_
      refine lv_bipush (v := 6) hx hb dc_X1_holdsFor_66 (by decide) ?_
      refine lv_icmp_ge (tgt := 108) hx hb dc_X1_holdsFor_68 (by decide) (fun c_0 => ?_) (fun c_0 => ?_)
      · skip
        refine lv_iconst (v := 1) hx hb dc_X1_holdsFor_108 (by decide) ?_
        have hP9 := hP.sub (ws' := [(pf, .inr (2, [.ref tk])), (tk, .inl (G.2.1 4, 8, .inr (.inr (.inr (.inr (fun j => if j < 8 then some (r j) else none)))))), ((r 0), .inl (G.2.1 2, 6, .inr (.inl (gx 0)))), ((r 1), .inl (G.2.1 2, 6, .inr (.inl (gx 1)))), ((r 2), .inl (G.2.1 2, 6, .inr (.inl (gx 2)))), ((r 3), .inl (G.2.1 2, 6, .inr (.inl (gx 3)))), ((r 4), .inl (G.2.1 2, 6, .inr (.inl (gx 4)))), ((r 5), .inl (G.2.1 2, 6, .inr (.inl (gx 5)))), ((r 6), .inl (G.2.1 2, 6, .inr (.inl (gx 6)))), ((r 7), .inl (G.2.1 2, 6, .inr (.inl (gx 7)))), (cs, .inl (G.2.1 2, 6, .inr (.inl (f))))]) [0, 1, 2, 3, 4, 5, 6, 7, 8, 9, 10] rfl
        have hD9 := hD.sub (ws' := [(pf, .inr (2, [.ref tk])), (tk, .inl (G.2.1 4, 8, .inr (.inr (.inr (.inr (fun j => if j < 8 then some (r j) else none)))))), ((r 0), .inl (G.2.1 2, 6, .inr (.inl (gx 0)))), ((r 1), .inl (G.2.1 2, 6, .inr (.inl (gx 1)))), ((r 2), .inl (G.2.1 2, 6, .inr (.inl (gx 2)))), ((r 3), .inl (G.2.1 2, 6, .inr (.inl (gx 3)))), ((r 4), .inl (G.2.1 2, 6, .inr (.inl (gx 4)))), ((r 5), .inl (G.2.1 2, 6, .inr (.inl (gx 5)))), ((r 6), .inl (G.2.1 2, 6, .inr (.inl (gx 6)))), ((r 7), .inl (G.2.1 2, 6, .inr (.inl (gx 7)))), (cs, .inl (G.2.1 2, 6, .inr (.inl (f))))]) [0, 1, 2, 3, 4, 5, 6, 7, 8, 9, 10] (by decide) rfl
        refine W.widen (k := 0) (n := 0) (Nat.le_of_ble_eq_true rfl) (Nat.le_of_ble_eq_true rfl) ?_
        exact W.zret (v := (1 : Int32)) hx hb hr (by decide) (fun t ht hW => ⟨⟨_, gx, rfl, ⟨_, rfl, by decide⟩, by rw [ht]; exact hP9, hD9, trivial⟩, hS.F ht⟩) hS.2.2 dc_X1_holdsFor_109
      · skip
        have h9i9 : ¬ 6 ≤ i9 := fun z => c_0 ((nI_leI (a := 6) (b := i9) (by omega) (by omega)).mpr z)
        refine lv_iconst (v := 0) hx hb dc_X1_holdsFor_71 (by decide) ?_
        refine lv_istore_n (lv' := [(3, .int ((0 : Int32))), (0, .ref pf), (1, .ref cs), (2, .int (nI (i9)))]) hx hb dc_X1_holdsFor_72 rfl hl (by decide) rfl (fun ls hl => ?_)
        refine lv_iload_n hx hb dc_X1_holdsFor_73 rfl (lv_at hl 0 rfl) ?_
        refine lv_bipush (v := 6) hx hb dc_X1_holdsFor_74 (by decide) ?_
        refine lv_icmp_ge (tgt := 102) hx hb dc_X1_holdsFor_76 (by decide) (fun c_1 => absurd c_1 (by decide)) (fun _ => ?_)
        refine lv_aload_n hx hb dc_X1_holdsFor_79 rfl (lv_at hl 1 rfl) ?_
        refine lv_iload_n hx hb dc_X1_holdsFor_80 rfl (lv_at hl 3 rfl) ?_
        refine lv_aload_n hx hb dc_X1_holdsFor_81 rfl (lv_at hl 2 rfl) ?_
        refine lv_iload_n hx hb dc_X1_holdsFor_82 rfl (lv_at hl 3 rfl) ?_
        refine va_lald hx hb hE.1 hP 10 2 rfl rfl (vp_in_nI (by omega) (by omega)) dc_X1_holdsFor_83 ?_
        refine lv_iload_n hx hb dc_X1_holdsFor_84 rfl (lv_at hl 0 rfl) ?_
        refine lv_aload_n hx hb dc_X1_holdsFor_85 rfl (lv_at hl 2 rfl) ?_
        refine lv_iload_n hx hb dc_X1_holdsFor_86 rfl (lv_at hl 0 rfl) ?_
        refine va_lald hx hb hE.1 hP 10 2 rfl rfl (vp_in_iff.mpr (by decide)) dc_X1_holdsFor_87 ?_
        refine ky_cVh (As := [.int (nI (i9)), .long ((f) (nI (i9)).toNatClampNeg), .int ((0 : Int32)), .long ((f) ((0 : Int32)).toNatClampNeg)]) (wr := [(cs, .inl (G.2.1 2, 6, .inr (.inl (f))))]) F (hE.at hfr hS) hfr (mt_X1_holdsForTwo l G pf tk r gx (nI (i9)) ((f) (nI (i9)).toNatClampNeg) (0 : Int32) ((f) ((0 : Int32)).toNatClampNeg) H.size (vp_in_nI (by omega) (by omega)) (vp_in_iff.mpr (by decide))) kv_X1_33 ⟨⟨rfl, rfl⟩, Nat.le_of_ble_eq_true rfl, Nat.le_of_ble_eq_true rfl⟩ rfl hl.1 rfl (Nat.le_of_ble_eq_true rfl) ⟨Nat.le_of_ble_eq_true rfl, Nat.le_of_ble_eq_true rfl⟩ (va_recv hE.1 hP (ci := 2) (q0 := 0) rfl rfl) trivial hP hD hS hA [0, 1, 2, 3, 4, 5, 6, 7, 8, 9] [10] rfl rfl (by decide) (by decide) (by decide) dc_X1_holdsFor_88 ?_
        rintro v9 g_2 H locs ⟨z_2, rfl, hz_2⟩ hP hD hS - hz hk9
        have hP : va_P G.1 kcl [(cs, .inl (G.2.1 2, 6, .inr (.inl (f)))), (pf, .inr (2, [.ref tk])), (tk, .inl (G.2.1 4, 8, .inr (.inr (.inr (.inr (fun j => if j < 8 then some (r j) else none)))))), ((r 0), .inl (G.2.1 2, 6, .inr (.inl (g_2 0)))), ((r 1), .inl (G.2.1 2, 6, .inr (.inl (g_2 1)))), ((r 2), .inl (G.2.1 2, 6, .inr (.inl (g_2 2)))), ((r 3), .inl (G.2.1 2, 6, .inr (.inl (g_2 3)))), ((r 4), .inl (G.2.1 2, 6, .inr (.inl (g_2 4)))), ((r 5), .inl (G.2.1 2, 6, .inr (.inl (g_2 5)))), ((r 6), .inl (G.2.1 2, 6, .inr (.inl (g_2 6)))), ((r 7), .inl (G.2.1 2, 6, .inr (.inl (g_2 7))))] H := hP
        have hD : va_D A [(cs, .inl (G.2.1 2, 6, .inr (.inl (f)))), (pf, .inr (2, [.ref tk])), (tk, .inl (G.2.1 4, 8, .inr (.inr (.inr (.inr (fun j => if j < 8 then some (r j) else none)))))), ((r 0), .inl (G.2.1 2, 6, .inr (.inl (g_2 0)))), ((r 1), .inl (G.2.1 2, 6, .inr (.inl (g_2 1)))), ((r 2), .inl (G.2.1 2, 6, .inr (.inl (g_2 2)))), ((r 3), .inl (G.2.1 2, 6, .inr (.inl (g_2 3)))), ((r 4), .inl (G.2.1 2, 6, .inr (.inl (g_2 4)))), ((r 5), .inl (G.2.1 2, 6, .inr (.inl (g_2 5)))), ((r 6), .inl (G.2.1 2, 6, .inr (.inl (g_2 6)))), ((r 7), .inl (G.2.1 2, 6, .inr (.inl (g_2 7))))] := hD
        refine W.widen (k := 0) (n := 0) (by first | exact Nat.le_refl _ | omega) (by first | exact Nat.le_refl _ | omega) ?_
        refine lv_if_ne (tgt := 96) hx hb dc_X1_holdsFor_91 (by decide) (fun c_3 => ?_) (fun c_3 => ?_)
        · skip
          refine lv_iinc (v := (1 : Int32)) (lv' := [(3, .int ((1 : Int32))), (0, .ref pf), (1, .ref cs), (2, .int (nI (i9)))]) hx hb dc_X1_holdsFor_96 hl (k := 0) rfl (by decide) (by decide) rfl (fun ls hl => ?_)
          refine lv_goto (tgt := 73) hx hb dc_X1_holdsFor_99 (by decide) ?_
          refine lv_iload_n hx hb dc_X1_holdsFor_73 rfl (lv_at hl 0 rfl) ?_
          refine lv_bipush (v := 6) hx hb dc_X1_holdsFor_74 (by decide) ?_
          refine lv_icmp_ge (tgt := 102) hx hb dc_X1_holdsFor_76 (by decide) (fun c_4 => absurd c_4 (by decide)) (fun _ => ?_)
          refine lv_aload_n hx hb dc_X1_holdsFor_79 rfl (lv_at hl 1 rfl) ?_
          refine lv_iload_n hx hb dc_X1_holdsFor_80 rfl (lv_at hl 3 rfl) ?_
          refine lv_aload_n hx hb dc_X1_holdsFor_81 rfl (lv_at hl 2 rfl) ?_
          refine lv_iload_n hx hb dc_X1_holdsFor_82 rfl (lv_at hl 3 rfl) ?_
          refine va_lald hx hb hE.1 hP 0 2 rfl rfl (vp_in_nI (by omega) (by omega)) dc_X1_holdsFor_83 ?_
          refine lv_iload_n hx hb dc_X1_holdsFor_84 rfl (lv_at hl 0 rfl) ?_
          refine lv_aload_n hx hb dc_X1_holdsFor_85 rfl (lv_at hl 2 rfl) ?_
          refine lv_iload_n hx hb dc_X1_holdsFor_86 rfl (lv_at hl 0 rfl) ?_
          refine va_lald hx hb hE.1 hP 0 2 rfl rfl (vp_in_iff.mpr (by decide)) dc_X1_holdsFor_87 ?_
          refine ky_cVh (As := [.int (nI (i9)), .long ((f) (nI (i9)).toNatClampNeg), .int ((1 : Int32)), .long ((f) ((1 : Int32)).toNatClampNeg)]) (wr := [(cs, .inl (G.2.1 2, 6, .inr (.inl (f))))]) F (hE.at hfr hS) hfr (mt_X1_holdsForTwo l G pf tk r g_2 (nI (i9)) ((f) (nI (i9)).toNatClampNeg) (1 : Int32) ((f) ((1 : Int32)).toNatClampNeg) H.size (vp_in_nI (by omega) (by omega)) (vp_in_iff.mpr (by decide))) kv_X1_33 ⟨⟨rfl, rfl⟩, Nat.le_of_ble_eq_true rfl, Nat.le_of_ble_eq_true rfl⟩ rfl hl.1 rfl (Nat.le_of_ble_eq_true rfl) ⟨Nat.le_of_ble_eq_true rfl, Nat.le_of_ble_eq_true rfl⟩ (va_recv hE.1 hP (ci := 2) (q0 := 1) rfl rfl) trivial hP hD hS hA [1, 2, 3, 4, 5, 6, 7, 8, 9, 10] [0] rfl rfl (by decide) (by decide) (by decide) dc_X1_holdsFor_88 ?_
          rintro v9 g_5 H locs ⟨z_5, rfl, hz_5⟩ hP hD hS - hz hk9
          have hP : va_P G.1 kcl [(cs, .inl (G.2.1 2, 6, .inr (.inl (f)))), (pf, .inr (2, [.ref tk])), (tk, .inl (G.2.1 4, 8, .inr (.inr (.inr (.inr (fun j => if j < 8 then some (r j) else none)))))), ((r 0), .inl (G.2.1 2, 6, .inr (.inl (g_5 0)))), ((r 1), .inl (G.2.1 2, 6, .inr (.inl (g_5 1)))), ((r 2), .inl (G.2.1 2, 6, .inr (.inl (g_5 2)))), ((r 3), .inl (G.2.1 2, 6, .inr (.inl (g_5 3)))), ((r 4), .inl (G.2.1 2, 6, .inr (.inl (g_5 4)))), ((r 5), .inl (G.2.1 2, 6, .inr (.inl (g_5 5)))), ((r 6), .inl (G.2.1 2, 6, .inr (.inl (g_5 6)))), ((r 7), .inl (G.2.1 2, 6, .inr (.inl (g_5 7))))] H := hP
          have hD : va_D A [(cs, .inl (G.2.1 2, 6, .inr (.inl (f)))), (pf, .inr (2, [.ref tk])), (tk, .inl (G.2.1 4, 8, .inr (.inr (.inr (.inr (fun j => if j < 8 then some (r j) else none)))))), ((r 0), .inl (G.2.1 2, 6, .inr (.inl (g_5 0)))), ((r 1), .inl (G.2.1 2, 6, .inr (.inl (g_5 1)))), ((r 2), .inl (G.2.1 2, 6, .inr (.inl (g_5 2)))), ((r 3), .inl (G.2.1 2, 6, .inr (.inl (g_5 3)))), ((r 4), .inl (G.2.1 2, 6, .inr (.inl (g_5 4)))), ((r 5), .inl (G.2.1 2, 6, .inr (.inl (g_5 5)))), ((r 6), .inl (G.2.1 2, 6, .inr (.inl (g_5 6)))), ((r 7), .inl (G.2.1 2, 6, .inr (.inl (g_5 7))))] := hD
          refine W.widen (k := 0) (n := 0) (by first | exact Nat.le_refl _ | omega) (by first | exact Nat.le_refl _ | omega) ?_
          refine lv_if_ne (tgt := 96) hx hb dc_X1_holdsFor_91 (by decide) (fun c_6 => ?_) (fun c_6 => ?_)
          · skip
            refine lv_iinc (v := (2 : Int32)) (lv' := [(3, .int ((2 : Int32))), (0, .ref pf), (1, .ref cs), (2, .int (nI (i9)))]) hx hb dc_X1_holdsFor_96 hl (k := 0) rfl (by decide) (by decide) rfl (fun ls hl => ?_)
            refine lv_goto (tgt := 73) hx hb dc_X1_holdsFor_99 (by decide) ?_
            refine lv_iload_n hx hb dc_X1_holdsFor_73 rfl (lv_at hl 0 rfl) ?_
            refine lv_bipush (v := 6) hx hb dc_X1_holdsFor_74 (by decide) ?_
            refine lv_icmp_ge (tgt := 102) hx hb dc_X1_holdsFor_76 (by decide) (fun c_7 => absurd c_7 (by decide)) (fun _ => ?_)
            refine lv_aload_n hx hb dc_X1_holdsFor_79 rfl (lv_at hl 1 rfl) ?_
            refine lv_iload_n hx hb dc_X1_holdsFor_80 rfl (lv_at hl 3 rfl) ?_
            refine lv_aload_n hx hb dc_X1_holdsFor_81 rfl (lv_at hl 2 rfl) ?_
            refine lv_iload_n hx hb dc_X1_holdsFor_82 rfl (lv_at hl 3 rfl) ?_
            refine va_lald hx hb hE.1 hP 0 2 rfl rfl (vp_in_nI (by omega) (by omega)) dc_X1_holdsFor_83 ?_
            refine lv_iload_n hx hb dc_X1_holdsFor_84 rfl (lv_at hl 0 rfl) ?_
            refine lv_aload_n hx hb dc_X1_holdsFor_85 rfl (lv_at hl 2 rfl) ?_
            refine lv_iload_n hx hb dc_X1_holdsFor_86 rfl (lv_at hl 0 rfl) ?_
            refine va_lald hx hb hE.1 hP 0 2 rfl rfl (vp_in_iff.mpr (by decide)) dc_X1_holdsFor_87 ?_
            refine ky_cVh (As := [.int (nI (i9)), .long ((f) (nI (i9)).toNatClampNeg), .int ((2 : Int32)), .long ((f) ((2 : Int32)).toNatClampNeg)]) (wr := [(cs, .inl (G.2.1 2, 6, .inr (.inl (f))))]) F (hE.at hfr hS) hfr (mt_X1_holdsForTwo l G pf tk r g_5 (nI (i9)) ((f) (nI (i9)).toNatClampNeg) (2 : Int32) ((f) ((2 : Int32)).toNatClampNeg) H.size (vp_in_nI (by omega) (by omega)) (vp_in_iff.mpr (by decide))) kv_X1_33 ⟨⟨rfl, rfl⟩, Nat.le_of_ble_eq_true rfl, Nat.le_of_ble_eq_true rfl⟩ rfl hl.1 rfl (Nat.le_of_ble_eq_true rfl) ⟨Nat.le_of_ble_eq_true rfl, Nat.le_of_ble_eq_true rfl⟩ (va_recv hE.1 hP (ci := 2) (q0 := 1) rfl rfl) trivial hP hD hS hA [1, 2, 3, 4, 5, 6, 7, 8, 9, 10] [0] rfl rfl (by decide) (by decide) (by decide) dc_X1_holdsFor_88 ?_
            rintro v9 g_8 H locs ⟨z_8, rfl, hz_8⟩ hP hD hS - hz hk9
            have hP : va_P G.1 kcl [(cs, .inl (G.2.1 2, 6, .inr (.inl (f)))), (pf, .inr (2, [.ref tk])), (tk, .inl (G.2.1 4, 8, .inr (.inr (.inr (.inr (fun j => if j < 8 then some (r j) else none)))))), ((r 0), .inl (G.2.1 2, 6, .inr (.inl (g_8 0)))), ((r 1), .inl (G.2.1 2, 6, .inr (.inl (g_8 1)))), ((r 2), .inl (G.2.1 2, 6, .inr (.inl (g_8 2)))), ((r 3), .inl (G.2.1 2, 6, .inr (.inl (g_8 3)))), ((r 4), .inl (G.2.1 2, 6, .inr (.inl (g_8 4)))), ((r 5), .inl (G.2.1 2, 6, .inr (.inl (g_8 5)))), ((r 6), .inl (G.2.1 2, 6, .inr (.inl (g_8 6)))), ((r 7), .inl (G.2.1 2, 6, .inr (.inl (g_8 7))))] H := hP
            have hD : va_D A [(cs, .inl (G.2.1 2, 6, .inr (.inl (f)))), (pf, .inr (2, [.ref tk])), (tk, .inl (G.2.1 4, 8, .inr (.inr (.inr (.inr (fun j => if j < 8 then some (r j) else none)))))), ((r 0), .inl (G.2.1 2, 6, .inr (.inl (g_8 0)))), ((r 1), .inl (G.2.1 2, 6, .inr (.inl (g_8 1)))), ((r 2), .inl (G.2.1 2, 6, .inr (.inl (g_8 2)))), ((r 3), .inl (G.2.1 2, 6, .inr (.inl (g_8 3)))), ((r 4), .inl (G.2.1 2, 6, .inr (.inl (g_8 4)))), ((r 5), .inl (G.2.1 2, 6, .inr (.inl (g_8 5)))), ((r 6), .inl (G.2.1 2, 6, .inr (.inl (g_8 6)))), ((r 7), .inl (G.2.1 2, 6, .inr (.inl (g_8 7))))] := hD
            refine W.widen (k := 0) (n := 0) (by first | exact Nat.le_refl _ | omega) (by first | exact Nat.le_refl _ | omega) ?_
            refine lv_if_ne (tgt := 96) hx hb dc_X1_holdsFor_91 (by decide) (fun c_9 => ?_) (fun c_9 => ?_)
            · skip
              refine lv_iinc (v := (3 : Int32)) (lv' := [(3, .int ((3 : Int32))), (0, .ref pf), (1, .ref cs), (2, .int (nI (i9)))]) hx hb dc_X1_holdsFor_96 hl (k := 0) rfl (by decide) (by decide) rfl (fun ls hl => ?_)
              refine lv_goto (tgt := 73) hx hb dc_X1_holdsFor_99 (by decide) ?_
              refine lv_iload_n hx hb dc_X1_holdsFor_73 rfl (lv_at hl 0 rfl) ?_
              refine lv_bipush (v := 6) hx hb dc_X1_holdsFor_74 (by decide) ?_
              refine lv_icmp_ge (tgt := 102) hx hb dc_X1_holdsFor_76 (by decide) (fun c_10 => absurd c_10 (by decide)) (fun _ => ?_)
              refine lv_aload_n hx hb dc_X1_holdsFor_79 rfl (lv_at hl 1 rfl) ?_
              refine lv_iload_n hx hb dc_X1_holdsFor_80 rfl (lv_at hl 3 rfl) ?_
              refine lv_aload_n hx hb dc_X1_holdsFor_81 rfl (lv_at hl 2 rfl) ?_
              refine lv_iload_n hx hb dc_X1_holdsFor_82 rfl (lv_at hl 3 rfl) ?_
              refine va_lald hx hb hE.1 hP 0 2 rfl rfl (vp_in_nI (by omega) (by omega)) dc_X1_holdsFor_83 ?_
              refine lv_iload_n hx hb dc_X1_holdsFor_84 rfl (lv_at hl 0 rfl) ?_
              refine lv_aload_n hx hb dc_X1_holdsFor_85 rfl (lv_at hl 2 rfl) ?_
              refine lv_iload_n hx hb dc_X1_holdsFor_86 rfl (lv_at hl 0 rfl) ?_
              refine va_lald hx hb hE.1 hP 0 2 rfl rfl (vp_in_iff.mpr (by decide)) dc_X1_holdsFor_87 ?_
              refine ky_cVh (As := [.int (nI (i9)), .long ((f) (nI (i9)).toNatClampNeg), .int ((3 : Int32)), .long ((f) ((3 : Int32)).toNatClampNeg)]) (wr := [(cs, .inl (G.2.1 2, 6, .inr (.inl (f))))]) F (hE.at hfr hS) hfr (mt_X1_holdsForTwo l G pf tk r g_8 (nI (i9)) ((f) (nI (i9)).toNatClampNeg) (3 : Int32) ((f) ((3 : Int32)).toNatClampNeg) H.size (vp_in_nI (by omega) (by omega)) (vp_in_iff.mpr (by decide))) kv_X1_33 ⟨⟨rfl, rfl⟩, Nat.le_of_ble_eq_true rfl, Nat.le_of_ble_eq_true rfl⟩ rfl hl.1 rfl (Nat.le_of_ble_eq_true rfl) ⟨Nat.le_of_ble_eq_true rfl, Nat.le_of_ble_eq_true rfl⟩ (va_recv hE.1 hP (ci := 2) (q0 := 1) rfl rfl) trivial hP hD hS hA [1, 2, 3, 4, 5, 6, 7, 8, 9, 10] [0] rfl rfl (by decide) (by decide) (by decide) dc_X1_holdsFor_88 ?_
              rintro v9 g_11 H locs ⟨z_11, rfl, hz_11⟩ hP hD hS - hz hk9
              have hP : va_P G.1 kcl [(cs, .inl (G.2.1 2, 6, .inr (.inl (f)))), (pf, .inr (2, [.ref tk])), (tk, .inl (G.2.1 4, 8, .inr (.inr (.inr (.inr (fun j => if j < 8 then some (r j) else none)))))), ((r 0), .inl (G.2.1 2, 6, .inr (.inl (g_11 0)))), ((r 1), .inl (G.2.1 2, 6, .inr (.inl (g_11 1)))), ((r 2), .inl (G.2.1 2, 6, .inr (.inl (g_11 2)))), ((r 3), .inl (G.2.1 2, 6, .inr (.inl (g_11 3)))), ((r 4), .inl (G.2.1 2, 6, .inr (.inl (g_11 4)))), ((r 5), .inl (G.2.1 2, 6, .inr (.inl (g_11 5)))), ((r 6), .inl (G.2.1 2, 6, .inr (.inl (g_11 6)))), ((r 7), .inl (G.2.1 2, 6, .inr (.inl (g_11 7))))] H := hP
              have hD : va_D A [(cs, .inl (G.2.1 2, 6, .inr (.inl (f)))), (pf, .inr (2, [.ref tk])), (tk, .inl (G.2.1 4, 8, .inr (.inr (.inr (.inr (fun j => if j < 8 then some (r j) else none)))))), ((r 0), .inl (G.2.1 2, 6, .inr (.inl (g_11 0)))), ((r 1), .inl (G.2.1 2, 6, .inr (.inl (g_11 1)))), ((r 2), .inl (G.2.1 2, 6, .inr (.inl (g_11 2)))), ((r 3), .inl (G.2.1 2, 6, .inr (.inl (g_11 3)))), ((r 4), .inl (G.2.1 2, 6, .inr (.inl (g_11 4)))), ((r 5), .inl (G.2.1 2, 6, .inr (.inl (g_11 5)))), ((r 6), .inl (G.2.1 2, 6, .inr (.inl (g_11 6)))), ((r 7), .inl (G.2.1 2, 6, .inr (.inl (g_11 7))))] := hD
              refine W.widen (k := 0) (n := 0) (by first | exact Nat.le_refl _ | omega) (by first | exact Nat.le_refl _ | omega) ?_
              refine lv_if_ne (tgt := 96) hx hb dc_X1_holdsFor_91 (by decide) (fun c_12 => ?_) (fun c_12 => ?_)
              · skip
                refine lv_iinc (v := (4 : Int32)) (lv' := [(3, .int ((4 : Int32))), (0, .ref pf), (1, .ref cs), (2, .int (nI (i9)))]) hx hb dc_X1_holdsFor_96 hl (k := 0) rfl (by decide) (by decide) rfl (fun ls hl => ?_)
                refine lv_goto (tgt := 73) hx hb dc_X1_holdsFor_99 (by decide) ?_
                refine lv_iload_n hx hb dc_X1_holdsFor_73 rfl (lv_at hl 0 rfl) ?_
                refine lv_bipush (v := 6) hx hb dc_X1_holdsFor_74 (by decide) ?_
                refine lv_icmp_ge (tgt := 102) hx hb dc_X1_holdsFor_76 (by decide) (fun c_13 => absurd c_13 (by decide)) (fun _ => ?_)
                refine lv_aload_n hx hb dc_X1_holdsFor_79 rfl (lv_at hl 1 rfl) ?_
                refine lv_iload_n hx hb dc_X1_holdsFor_80 rfl (lv_at hl 3 rfl) ?_
                refine lv_aload_n hx hb dc_X1_holdsFor_81 rfl (lv_at hl 2 rfl) ?_
                refine lv_iload_n hx hb dc_X1_holdsFor_82 rfl (lv_at hl 3 rfl) ?_
                refine va_lald hx hb hE.1 hP 0 2 rfl rfl (vp_in_nI (by omega) (by omega)) dc_X1_holdsFor_83 ?_
                refine lv_iload_n hx hb dc_X1_holdsFor_84 rfl (lv_at hl 0 rfl) ?_
                refine lv_aload_n hx hb dc_X1_holdsFor_85 rfl (lv_at hl 2 rfl) ?_
                refine lv_iload_n hx hb dc_X1_holdsFor_86 rfl (lv_at hl 0 rfl) ?_
                refine va_lald hx hb hE.1 hP 0 2 rfl rfl (vp_in_iff.mpr (by decide)) dc_X1_holdsFor_87 ?_
                refine ky_cVh (As := [.int (nI (i9)), .long ((f) (nI (i9)).toNatClampNeg), .int ((4 : Int32)), .long ((f) ((4 : Int32)).toNatClampNeg)]) (wr := [(cs, .inl (G.2.1 2, 6, .inr (.inl (f))))]) F (hE.at hfr hS) hfr (mt_X1_holdsForTwo l G pf tk r g_11 (nI (i9)) ((f) (nI (i9)).toNatClampNeg) (4 : Int32) ((f) ((4 : Int32)).toNatClampNeg) H.size (vp_in_nI (by omega) (by omega)) (vp_in_iff.mpr (by decide))) kv_X1_33 ⟨⟨rfl, rfl⟩, Nat.le_of_ble_eq_true rfl, Nat.le_of_ble_eq_true rfl⟩ rfl hl.1 rfl (Nat.le_of_ble_eq_true rfl) ⟨Nat.le_of_ble_eq_true rfl, Nat.le_of_ble_eq_true rfl⟩ (va_recv hE.1 hP (ci := 2) (q0 := 1) rfl rfl) trivial hP hD hS hA [1, 2, 3, 4, 5, 6, 7, 8, 9, 10] [0] rfl rfl (by decide) (by decide) (by decide) dc_X1_holdsFor_88 ?_
                rintro v9 g_14 H locs ⟨z_14, rfl, hz_14⟩ hP hD hS - hz hk9
                have hP : va_P G.1 kcl [(cs, .inl (G.2.1 2, 6, .inr (.inl (f)))), (pf, .inr (2, [.ref tk])), (tk, .inl (G.2.1 4, 8, .inr (.inr (.inr (.inr (fun j => if j < 8 then some (r j) else none)))))), ((r 0), .inl (G.2.1 2, 6, .inr (.inl (g_14 0)))), ((r 1), .inl (G.2.1 2, 6, .inr (.inl (g_14 1)))), ((r 2), .inl (G.2.1 2, 6, .inr (.inl (g_14 2)))), ((r 3), .inl (G.2.1 2, 6, .inr (.inl (g_14 3)))), ((r 4), .inl (G.2.1 2, 6, .inr (.inl (g_14 4)))), ((r 5), .inl (G.2.1 2, 6, .inr (.inl (g_14 5)))), ((r 6), .inl (G.2.1 2, 6, .inr (.inl (g_14 6)))), ((r 7), .inl (G.2.1 2, 6, .inr (.inl (g_14 7))))] H := hP
                have hD : va_D A [(cs, .inl (G.2.1 2, 6, .inr (.inl (f)))), (pf, .inr (2, [.ref tk])), (tk, .inl (G.2.1 4, 8, .inr (.inr (.inr (.inr (fun j => if j < 8 then some (r j) else none)))))), ((r 0), .inl (G.2.1 2, 6, .inr (.inl (g_14 0)))), ((r 1), .inl (G.2.1 2, 6, .inr (.inl (g_14 1)))), ((r 2), .inl (G.2.1 2, 6, .inr (.inl (g_14 2)))), ((r 3), .inl (G.2.1 2, 6, .inr (.inl (g_14 3)))), ((r 4), .inl (G.2.1 2, 6, .inr (.inl (g_14 4)))), ((r 5), .inl (G.2.1 2, 6, .inr (.inl (g_14 5)))), ((r 6), .inl (G.2.1 2, 6, .inr (.inl (g_14 6)))), ((r 7), .inl (G.2.1 2, 6, .inr (.inl (g_14 7))))] := hD
                refine W.widen (k := 0) (n := 0) (by first | exact Nat.le_refl _ | omega) (by first | exact Nat.le_refl _ | omega) ?_
                refine lv_if_ne (tgt := 96) hx hb dc_X1_holdsFor_91 (by decide) (fun c_15 => ?_) (fun c_15 => ?_)
                · skip
                  refine lv_iinc (v := (5 : Int32)) (lv' := [(3, .int ((5 : Int32))), (0, .ref pf), (1, .ref cs), (2, .int (nI (i9)))]) hx hb dc_X1_holdsFor_96 hl (k := 0) rfl (by decide) (by decide) rfl (fun ls hl => ?_)
                  refine lv_goto (tgt := 73) hx hb dc_X1_holdsFor_99 (by decide) ?_
                  refine lv_iload_n hx hb dc_X1_holdsFor_73 rfl (lv_at hl 0 rfl) ?_
                  refine lv_bipush (v := 6) hx hb dc_X1_holdsFor_74 (by decide) ?_
                  refine lv_icmp_ge (tgt := 102) hx hb dc_X1_holdsFor_76 (by decide) (fun c_16 => absurd c_16 (by decide)) (fun _ => ?_)
                  refine lv_aload_n hx hb dc_X1_holdsFor_79 rfl (lv_at hl 1 rfl) ?_
                  refine lv_iload_n hx hb dc_X1_holdsFor_80 rfl (lv_at hl 3 rfl) ?_
                  refine lv_aload_n hx hb dc_X1_holdsFor_81 rfl (lv_at hl 2 rfl) ?_
                  refine lv_iload_n hx hb dc_X1_holdsFor_82 rfl (lv_at hl 3 rfl) ?_
                  refine va_lald hx hb hE.1 hP 0 2 rfl rfl (vp_in_nI (by omega) (by omega)) dc_X1_holdsFor_83 ?_
                  refine lv_iload_n hx hb dc_X1_holdsFor_84 rfl (lv_at hl 0 rfl) ?_
                  refine lv_aload_n hx hb dc_X1_holdsFor_85 rfl (lv_at hl 2 rfl) ?_
                  refine lv_iload_n hx hb dc_X1_holdsFor_86 rfl (lv_at hl 0 rfl) ?_
                  refine va_lald hx hb hE.1 hP 0 2 rfl rfl (vp_in_iff.mpr (by decide)) dc_X1_holdsFor_87 ?_
                  refine ky_cVh (As := [.int (nI (i9)), .long ((f) (nI (i9)).toNatClampNeg), .int ((5 : Int32)), .long ((f) ((5 : Int32)).toNatClampNeg)]) (wr := [(cs, .inl (G.2.1 2, 6, .inr (.inl (f))))]) F (hE.at hfr hS) hfr (mt_X1_holdsForTwo l G pf tk r g_14 (nI (i9)) ((f) (nI (i9)).toNatClampNeg) (5 : Int32) ((f) ((5 : Int32)).toNatClampNeg) H.size (vp_in_nI (by omega) (by omega)) (vp_in_iff.mpr (by decide))) kv_X1_33 ⟨⟨rfl, rfl⟩, Nat.le_of_ble_eq_true rfl, Nat.le_of_ble_eq_true rfl⟩ rfl hl.1 rfl (Nat.le_of_ble_eq_true rfl) ⟨Nat.le_of_ble_eq_true rfl, Nat.le_of_ble_eq_true rfl⟩ (va_recv hE.1 hP (ci := 2) (q0 := 1) rfl rfl) trivial hP hD hS hA [1, 2, 3, 4, 5, 6, 7, 8, 9, 10] [0] rfl rfl (by decide) (by decide) (by decide) dc_X1_holdsFor_88 ?_
                  rintro v9 g_17 H locs ⟨z_17, rfl, hz_17⟩ hP hD hS - hz hk9
                  have hP : va_P G.1 kcl [(cs, .inl (G.2.1 2, 6, .inr (.inl (f)))), (pf, .inr (2, [.ref tk])), (tk, .inl (G.2.1 4, 8, .inr (.inr (.inr (.inr (fun j => if j < 8 then some (r j) else none)))))), ((r 0), .inl (G.2.1 2, 6, .inr (.inl (g_17 0)))), ((r 1), .inl (G.2.1 2, 6, .inr (.inl (g_17 1)))), ((r 2), .inl (G.2.1 2, 6, .inr (.inl (g_17 2)))), ((r 3), .inl (G.2.1 2, 6, .inr (.inl (g_17 3)))), ((r 4), .inl (G.2.1 2, 6, .inr (.inl (g_17 4)))), ((r 5), .inl (G.2.1 2, 6, .inr (.inl (g_17 5)))), ((r 6), .inl (G.2.1 2, 6, .inr (.inl (g_17 6)))), ((r 7), .inl (G.2.1 2, 6, .inr (.inl (g_17 7))))] H := hP
                  have hD : va_D A [(cs, .inl (G.2.1 2, 6, .inr (.inl (f)))), (pf, .inr (2, [.ref tk])), (tk, .inl (G.2.1 4, 8, .inr (.inr (.inr (.inr (fun j => if j < 8 then some (r j) else none)))))), ((r 0), .inl (G.2.1 2, 6, .inr (.inl (g_17 0)))), ((r 1), .inl (G.2.1 2, 6, .inr (.inl (g_17 1)))), ((r 2), .inl (G.2.1 2, 6, .inr (.inl (g_17 2)))), ((r 3), .inl (G.2.1 2, 6, .inr (.inl (g_17 3)))), ((r 4), .inl (G.2.1 2, 6, .inr (.inl (g_17 4)))), ((r 5), .inl (G.2.1 2, 6, .inr (.inl (g_17 5)))), ((r 6), .inl (G.2.1 2, 6, .inr (.inl (g_17 6)))), ((r 7), .inl (G.2.1 2, 6, .inr (.inl (g_17 7))))] := hD
                  refine W.widen (k := 0) (n := 0) (by first | exact Nat.le_refl _ | omega) (by first | exact Nat.le_refl _ | omega) ?_
                  refine lv_if_ne (tgt := 96) hx hb dc_X1_holdsFor_91 (by decide) (fun c_18 => ?_) (fun c_18 => ?_)
                  · skip
                    refine lv_iinc (v := (6 : Int32)) (lv' := [(3, .int ((6 : Int32))), (0, .ref pf), (1, .ref cs), (2, .int (nI (i9)))]) hx hb dc_X1_holdsFor_96 hl (k := 0) rfl (by decide) (by decide) rfl (fun ls hl => ?_)
                    refine lv_goto (tgt := 73) hx hb dc_X1_holdsFor_99 (by decide) ?_
                    refine lv_iload_n hx hb dc_X1_holdsFor_73 rfl (lv_at hl 0 rfl) ?_
                    refine lv_bipush (v := 6) hx hb dc_X1_holdsFor_74 (by decide) ?_
                    refine lv_icmp_ge (tgt := 102) hx hb dc_X1_holdsFor_76 (by decide) (fun _ => ?_) (fun c_19 => absurd c_19 (by decide))
                    refine lv_iinc (v := nI (i9 + 1)) (lv' := [(2, .int (nI (i9 + 1))), (3, .int ((6 : Int32))), (0, .ref pf), (1, .ref cs)]) hx hb dc_X1_holdsFor_102 hl (k := 3) rfl (nI_1 _) (by decide) rfl (fun ls hl => ?_)
                    refine lv_goto (tgt := 65) hx hb dc_X1_holdsFor_105 (by decide) ?_
                    refine W.widen (k := 0) (n := 0) (by first | exact Nat.le_refl _ | omega | exact Nat.zero_le _) (by first | exact Nat.le_refl _ | omega | exact Nat.zero_le _) ?_
                    exact ih (i9 + 1) g_17 (by omega) (by omega) _ _ (hP.sub (ws' := [(pf, .inr (2, [.ref tk])), (tk, .inl (G.2.1 4, 8, .inr (.inr (.inr (.inr (fun j => if j < 8 then some (r j) else none)))))), ((r 0), .inl (G.2.1 2, 6, .inr (.inl (g_17 0)))), ((r 1), .inl (G.2.1 2, 6, .inr (.inl (g_17 1)))), ((r 2), .inl (G.2.1 2, 6, .inr (.inl (g_17 2)))), ((r 3), .inl (G.2.1 2, 6, .inr (.inl (g_17 3)))), ((r 4), .inl (G.2.1 2, 6, .inr (.inl (g_17 4)))), ((r 5), .inl (G.2.1 2, 6, .inr (.inl (g_17 5)))), ((r 6), .inl (G.2.1 2, 6, .inr (.inl (g_17 6)))), ((r 7), .inl (G.2.1 2, 6, .inr (.inl (g_17 7)))), (cs, .inl (G.2.1 2, 6, .inr (.inl (f))))]) [1, 2, 3, 4, 5, 6, 7, 8, 9, 10, 0] rfl) (hD.sub (ws' := [(pf, .inr (2, [.ref tk])), (tk, .inl (G.2.1 4, 8, .inr (.inr (.inr (.inr (fun j => if j < 8 then some (r j) else none)))))), ((r 0), .inl (G.2.1 2, 6, .inr (.inl (g_17 0)))), ((r 1), .inl (G.2.1 2, 6, .inr (.inl (g_17 1)))), ((r 2), .inl (G.2.1 2, 6, .inr (.inl (g_17 2)))), ((r 3), .inl (G.2.1 2, 6, .inr (.inl (g_17 3)))), ((r 4), .inl (G.2.1 2, 6, .inr (.inl (g_17 4)))), ((r 5), .inl (G.2.1 2, 6, .inr (.inl (g_17 5)))), ((r 6), .inl (G.2.1 2, 6, .inr (.inl (g_17 6)))), ((r 7), .inl (G.2.1 2, 6, .inr (.inl (g_17 7)))), (cs, .inl (G.2.1 2, 6, .inr (.inl (f))))]) [1, 2, 3, 4, 5, 6, 7, 8, 9, 10, 0] (by decide) rfl) hS  _ (lv_sub hl [2, 3, 0] rfl)
                  · skip
                    refine lv_iconst (v := 0) hx hb dc_X1_holdsFor_94 (by decide) ?_
                    have hP9 := hP.sub (ws' := [(pf, .inr (2, [.ref tk])), (tk, .inl (G.2.1 4, 8, .inr (.inr (.inr (.inr (fun j => if j < 8 then some (r j) else none)))))), ((r 0), .inl (G.2.1 2, 6, .inr (.inl (g_17 0)))), ((r 1), .inl (G.2.1 2, 6, .inr (.inl (g_17 1)))), ((r 2), .inl (G.2.1 2, 6, .inr (.inl (g_17 2)))), ((r 3), .inl (G.2.1 2, 6, .inr (.inl (g_17 3)))), ((r 4), .inl (G.2.1 2, 6, .inr (.inl (g_17 4)))), ((r 5), .inl (G.2.1 2, 6, .inr (.inl (g_17 5)))), ((r 6), .inl (G.2.1 2, 6, .inr (.inl (g_17 6)))), ((r 7), .inl (G.2.1 2, 6, .inr (.inl (g_17 7)))), (cs, .inl (G.2.1 2, 6, .inr (.inl (f))))]) [1, 2, 3, 4, 5, 6, 7, 8, 9, 10, 0] rfl
                    have hD9 := hD.sub (ws' := [(pf, .inr (2, [.ref tk])), (tk, .inl (G.2.1 4, 8, .inr (.inr (.inr (.inr (fun j => if j < 8 then some (r j) else none)))))), ((r 0), .inl (G.2.1 2, 6, .inr (.inl (g_17 0)))), ((r 1), .inl (G.2.1 2, 6, .inr (.inl (g_17 1)))), ((r 2), .inl (G.2.1 2, 6, .inr (.inl (g_17 2)))), ((r 3), .inl (G.2.1 2, 6, .inr (.inl (g_17 3)))), ((r 4), .inl (G.2.1 2, 6, .inr (.inl (g_17 4)))), ((r 5), .inl (G.2.1 2, 6, .inr (.inl (g_17 5)))), ((r 6), .inl (G.2.1 2, 6, .inr (.inl (g_17 6)))), ((r 7), .inl (G.2.1 2, 6, .inr (.inl (g_17 7)))), (cs, .inl (G.2.1 2, 6, .inr (.inl (f))))]) [1, 2, 3, 4, 5, 6, 7, 8, 9, 10, 0] (by decide) rfl
                    refine W.widen (k := 0) (n := 0) (Nat.le_of_ble_eq_true rfl) (Nat.le_of_ble_eq_true rfl) ?_
                    exact W.zret (v := (0 : Int32)) hx hb hr (by decide) (fun t ht hW => ⟨⟨_, g_17, rfl, ⟨_, rfl, by decide⟩, by rw [ht]; exact hP9, hD9, trivial⟩, hS.F ht⟩) hS.2.2 dc_X1_holdsFor_95
                · skip
                  refine lv_iconst (v := 0) hx hb dc_X1_holdsFor_94 (by decide) ?_
                  have hP9 := hP.sub (ws' := [(pf, .inr (2, [.ref tk])), (tk, .inl (G.2.1 4, 8, .inr (.inr (.inr (.inr (fun j => if j < 8 then some (r j) else none)))))), ((r 0), .inl (G.2.1 2, 6, .inr (.inl (g_14 0)))), ((r 1), .inl (G.2.1 2, 6, .inr (.inl (g_14 1)))), ((r 2), .inl (G.2.1 2, 6, .inr (.inl (g_14 2)))), ((r 3), .inl (G.2.1 2, 6, .inr (.inl (g_14 3)))), ((r 4), .inl (G.2.1 2, 6, .inr (.inl (g_14 4)))), ((r 5), .inl (G.2.1 2, 6, .inr (.inl (g_14 5)))), ((r 6), .inl (G.2.1 2, 6, .inr (.inl (g_14 6)))), ((r 7), .inl (G.2.1 2, 6, .inr (.inl (g_14 7)))), (cs, .inl (G.2.1 2, 6, .inr (.inl (f))))]) [1, 2, 3, 4, 5, 6, 7, 8, 9, 10, 0] rfl
                  have hD9 := hD.sub (ws' := [(pf, .inr (2, [.ref tk])), (tk, .inl (G.2.1 4, 8, .inr (.inr (.inr (.inr (fun j => if j < 8 then some (r j) else none)))))), ((r 0), .inl (G.2.1 2, 6, .inr (.inl (g_14 0)))), ((r 1), .inl (G.2.1 2, 6, .inr (.inl (g_14 1)))), ((r 2), .inl (G.2.1 2, 6, .inr (.inl (g_14 2)))), ((r 3), .inl (G.2.1 2, 6, .inr (.inl (g_14 3)))), ((r 4), .inl (G.2.1 2, 6, .inr (.inl (g_14 4)))), ((r 5), .inl (G.2.1 2, 6, .inr (.inl (g_14 5)))), ((r 6), .inl (G.2.1 2, 6, .inr (.inl (g_14 6)))), ((r 7), .inl (G.2.1 2, 6, .inr (.inl (g_14 7)))), (cs, .inl (G.2.1 2, 6, .inr (.inl (f))))]) [1, 2, 3, 4, 5, 6, 7, 8, 9, 10, 0] (by decide) rfl
                  refine W.widen (k := 0) (n := 0) (Nat.le_of_ble_eq_true rfl) (Nat.le_of_ble_eq_true rfl) ?_
                  exact W.zret (v := (0 : Int32)) hx hb hr (by decide) (fun t ht hW => ⟨⟨_, g_14, rfl, ⟨_, rfl, by decide⟩, by rw [ht]; exact hP9, hD9, trivial⟩, hS.F ht⟩) hS.2.2 dc_X1_holdsFor_95
              · skip
                refine lv_iconst (v := 0) hx hb dc_X1_holdsFor_94 (by decide) ?_
                have hP9 := hP.sub (ws' := [(pf, .inr (2, [.ref tk])), (tk, .inl (G.2.1 4, 8, .inr (.inr (.inr (.inr (fun j => if j < 8 then some (r j) else none)))))), ((r 0), .inl (G.2.1 2, 6, .inr (.inl (g_11 0)))), ((r 1), .inl (G.2.1 2, 6, .inr (.inl (g_11 1)))), ((r 2), .inl (G.2.1 2, 6, .inr (.inl (g_11 2)))), ((r 3), .inl (G.2.1 2, 6, .inr (.inl (g_11 3)))), ((r 4), .inl (G.2.1 2, 6, .inr (.inl (g_11 4)))), ((r 5), .inl (G.2.1 2, 6, .inr (.inl (g_11 5)))), ((r 6), .inl (G.2.1 2, 6, .inr (.inl (g_11 6)))), ((r 7), .inl (G.2.1 2, 6, .inr (.inl (g_11 7)))), (cs, .inl (G.2.1 2, 6, .inr (.inl (f))))]) [1, 2, 3, 4, 5, 6, 7, 8, 9, 10, 0] rfl
                have hD9 := hD.sub (ws' := [(pf, .inr (2, [.ref tk])), (tk, .inl (G.2.1 4, 8, .inr (.inr (.inr (.inr (fun j => if j < 8 then some (r j) else none)))))), ((r 0), .inl (G.2.1 2, 6, .inr (.inl (g_11 0)))), ((r 1), .inl (G.2.1 2, 6, .inr (.inl (g_11 1)))), ((r 2), .inl (G.2.1 2, 6, .inr (.inl (g_11 2)))), ((r 3), .inl (G.2.1 2, 6, .inr (.inl (g_11 3)))), ((r 4), .inl (G.2.1 2, 6, .inr (.inl (g_11 4)))), ((r 5), .inl (G.2.1 2, 6, .inr (.inl (g_11 5)))), ((r 6), .inl (G.2.1 2, 6, .inr (.inl (g_11 6)))), ((r 7), .inl (G.2.1 2, 6, .inr (.inl (g_11 7)))), (cs, .inl (G.2.1 2, 6, .inr (.inl (f))))]) [1, 2, 3, 4, 5, 6, 7, 8, 9, 10, 0] (by decide) rfl
                refine W.widen (k := 0) (n := 0) (Nat.le_of_ble_eq_true rfl) (Nat.le_of_ble_eq_true rfl) ?_
                exact W.zret (v := (0 : Int32)) hx hb hr (by decide) (fun t ht hW => ⟨⟨_, g_11, rfl, ⟨_, rfl, by decide⟩, by rw [ht]; exact hP9, hD9, trivial⟩, hS.F ht⟩) hS.2.2 dc_X1_holdsFor_95
            · skip
              refine lv_iconst (v := 0) hx hb dc_X1_holdsFor_94 (by decide) ?_
              have hP9 := hP.sub (ws' := [(pf, .inr (2, [.ref tk])), (tk, .inl (G.2.1 4, 8, .inr (.inr (.inr (.inr (fun j => if j < 8 then some (r j) else none)))))), ((r 0), .inl (G.2.1 2, 6, .inr (.inl (g_8 0)))), ((r 1), .inl (G.2.1 2, 6, .inr (.inl (g_8 1)))), ((r 2), .inl (G.2.1 2, 6, .inr (.inl (g_8 2)))), ((r 3), .inl (G.2.1 2, 6, .inr (.inl (g_8 3)))), ((r 4), .inl (G.2.1 2, 6, .inr (.inl (g_8 4)))), ((r 5), .inl (G.2.1 2, 6, .inr (.inl (g_8 5)))), ((r 6), .inl (G.2.1 2, 6, .inr (.inl (g_8 6)))), ((r 7), .inl (G.2.1 2, 6, .inr (.inl (g_8 7)))), (cs, .inl (G.2.1 2, 6, .inr (.inl (f))))]) [1, 2, 3, 4, 5, 6, 7, 8, 9, 10, 0] rfl
              have hD9 := hD.sub (ws' := [(pf, .inr (2, [.ref tk])), (tk, .inl (G.2.1 4, 8, .inr (.inr (.inr (.inr (fun j => if j < 8 then some (r j) else none)))))), ((r 0), .inl (G.2.1 2, 6, .inr (.inl (g_8 0)))), ((r 1), .inl (G.2.1 2, 6, .inr (.inl (g_8 1)))), ((r 2), .inl (G.2.1 2, 6, .inr (.inl (g_8 2)))), ((r 3), .inl (G.2.1 2, 6, .inr (.inl (g_8 3)))), ((r 4), .inl (G.2.1 2, 6, .inr (.inl (g_8 4)))), ((r 5), .inl (G.2.1 2, 6, .inr (.inl (g_8 5)))), ((r 6), .inl (G.2.1 2, 6, .inr (.inl (g_8 6)))), ((r 7), .inl (G.2.1 2, 6, .inr (.inl (g_8 7)))), (cs, .inl (G.2.1 2, 6, .inr (.inl (f))))]) [1, 2, 3, 4, 5, 6, 7, 8, 9, 10, 0] (by decide) rfl
              refine W.widen (k := 0) (n := 0) (Nat.le_of_ble_eq_true rfl) (Nat.le_of_ble_eq_true rfl) ?_
              exact W.zret (v := (0 : Int32)) hx hb hr (by decide) (fun t ht hW => ⟨⟨_, g_8, rfl, ⟨_, rfl, by decide⟩, by rw [ht]; exact hP9, hD9, trivial⟩, hS.F ht⟩) hS.2.2 dc_X1_holdsFor_95
          · skip
            refine lv_iconst (v := 0) hx hb dc_X1_holdsFor_94 (by decide) ?_
            have hP9 := hP.sub (ws' := [(pf, .inr (2, [.ref tk])), (tk, .inl (G.2.1 4, 8, .inr (.inr (.inr (.inr (fun j => if j < 8 then some (r j) else none)))))), ((r 0), .inl (G.2.1 2, 6, .inr (.inl (g_5 0)))), ((r 1), .inl (G.2.1 2, 6, .inr (.inl (g_5 1)))), ((r 2), .inl (G.2.1 2, 6, .inr (.inl (g_5 2)))), ((r 3), .inl (G.2.1 2, 6, .inr (.inl (g_5 3)))), ((r 4), .inl (G.2.1 2, 6, .inr (.inl (g_5 4)))), ((r 5), .inl (G.2.1 2, 6, .inr (.inl (g_5 5)))), ((r 6), .inl (G.2.1 2, 6, .inr (.inl (g_5 6)))), ((r 7), .inl (G.2.1 2, 6, .inr (.inl (g_5 7)))), (cs, .inl (G.2.1 2, 6, .inr (.inl (f))))]) [1, 2, 3, 4, 5, 6, 7, 8, 9, 10, 0] rfl
            have hD9 := hD.sub (ws' := [(pf, .inr (2, [.ref tk])), (tk, .inl (G.2.1 4, 8, .inr (.inr (.inr (.inr (fun j => if j < 8 then some (r j) else none)))))), ((r 0), .inl (G.2.1 2, 6, .inr (.inl (g_5 0)))), ((r 1), .inl (G.2.1 2, 6, .inr (.inl (g_5 1)))), ((r 2), .inl (G.2.1 2, 6, .inr (.inl (g_5 2)))), ((r 3), .inl (G.2.1 2, 6, .inr (.inl (g_5 3)))), ((r 4), .inl (G.2.1 2, 6, .inr (.inl (g_5 4)))), ((r 5), .inl (G.2.1 2, 6, .inr (.inl (g_5 5)))), ((r 6), .inl (G.2.1 2, 6, .inr (.inl (g_5 6)))), ((r 7), .inl (G.2.1 2, 6, .inr (.inl (g_5 7)))), (cs, .inl (G.2.1 2, 6, .inr (.inl (f))))]) [1, 2, 3, 4, 5, 6, 7, 8, 9, 10, 0] (by decide) rfl
            refine W.widen (k := 0) (n := 0) (Nat.le_of_ble_eq_true rfl) (Nat.le_of_ble_eq_true rfl) ?_
            exact W.zret (v := (0 : Int32)) hx hb hr (by decide) (fun t ht hW => ⟨⟨_, g_5, rfl, ⟨_, rfl, by decide⟩, by rw [ht]; exact hP9, hD9, trivial⟩, hS.F ht⟩) hS.2.2 dc_X1_holdsFor_95
        · skip
          refine lv_iconst (v := 0) hx hb dc_X1_holdsFor_94 (by decide) ?_
          have hP9 := hP.sub (ws' := [(pf, .inr (2, [.ref tk])), (tk, .inl (G.2.1 4, 8, .inr (.inr (.inr (.inr (fun j => if j < 8 then some (r j) else none)))))), ((r 0), .inl (G.2.1 2, 6, .inr (.inl (g_2 0)))), ((r 1), .inl (G.2.1 2, 6, .inr (.inl (g_2 1)))), ((r 2), .inl (G.2.1 2, 6, .inr (.inl (g_2 2)))), ((r 3), .inl (G.2.1 2, 6, .inr (.inl (g_2 3)))), ((r 4), .inl (G.2.1 2, 6, .inr (.inl (g_2 4)))), ((r 5), .inl (G.2.1 2, 6, .inr (.inl (g_2 5)))), ((r 6), .inl (G.2.1 2, 6, .inr (.inl (g_2 6)))), ((r 7), .inl (G.2.1 2, 6, .inr (.inl (g_2 7)))), (cs, .inl (G.2.1 2, 6, .inr (.inl (f))))]) [1, 2, 3, 4, 5, 6, 7, 8, 9, 10, 0] rfl
          have hD9 := hD.sub (ws' := [(pf, .inr (2, [.ref tk])), (tk, .inl (G.2.1 4, 8, .inr (.inr (.inr (.inr (fun j => if j < 8 then some (r j) else none)))))), ((r 0), .inl (G.2.1 2, 6, .inr (.inl (g_2 0)))), ((r 1), .inl (G.2.1 2, 6, .inr (.inl (g_2 1)))), ((r 2), .inl (G.2.1 2, 6, .inr (.inl (g_2 2)))), ((r 3), .inl (G.2.1 2, 6, .inr (.inl (g_2 3)))), ((r 4), .inl (G.2.1 2, 6, .inr (.inl (g_2 4)))), ((r 5), .inl (G.2.1 2, 6, .inr (.inl (g_2 5)))), ((r 6), .inl (G.2.1 2, 6, .inr (.inl (g_2 6)))), ((r 7), .inl (G.2.1 2, 6, .inr (.inl (g_2 7)))), (cs, .inl (G.2.1 2, 6, .inr (.inl (f))))]) [1, 2, 3, 4, 5, 6, 7, 8, 9, 10, 0] (by decide) rfl
          refine W.widen (k := 0) (n := 0) (Nat.le_of_ble_eq_true rfl) (Nat.le_of_ble_eq_true rfl) ?_
          exact W.zret (v := (0 : Int32)) hx hb hr (by decide) (fun t ht hW => ⟨⟨_, g_2, rfl, ⟨_, rfl, by decide⟩, by rw [ht]; exact hP9, hD9, trivial⟩, hS.F ht⟩) hS.2.2 dc_X1_holdsFor_95
set_option linter.constructorNameAsVariable false in
set_option maxHeartbeats 4000000 in
set_option maxRecDepth 100000 in
theorem ml_X1_holdsFor_L11 {p : Program} {l : Launch} {e : Env} {s : State} {m : MethodId} {args : Array Value} {below : List Frame} {meth : Method} {c : Code} {G : ky_G} {A : Nat → Prop} {pf : Nat} {tk : Nat} {r : Nat → Nat} {g : Nat → Nat → Int64} {cs : Nat} {f : Nat → Int64} (F : ky_F p s m meth c my_X1_holdsFor.cls prog_3_method_2_code 5 (some .boolean) args) (hE : ky_E G s) (hA : ∀ q, s.heap.size ≤ q → A q) (hfr : ∀ q, A q → ky_fr G q)   : ∀ (n9 : Nat) (k9 : Nat) (gx : Nat → Nat → Int64) (h9 : k9 ≤ 6) (hn9 : 6 - k9 < n9) (H : Heap) (locs : List Loc), va_P G.1 kcl [(pf, .inr (2, [.ref tk])), (tk, .inl (G.2.1 4, 8, .inr (.inr (.inr (.inr (fun j => if j < 8 then some (r j) else none)))))), ((r 0), .inl (G.2.1 2, 6, .inr (.inl (gx 0)))), ((r 1), .inl (G.2.1 2, 6, .inr (.inl (gx 1)))), ((r 2), .inl (G.2.1 2, 6, .inr (.inl (gx 2)))), ((r 3), .inl (G.2.1 2, 6, .inr (.inl (gx 3)))), ((r 4), .inl (G.2.1 2, 6, .inr (.inl (gx 4)))), ((r 5), .inl (G.2.1 2, 6, .inr (.inl (gx 5)))), ((r 6), .inl (G.2.1 2, 6, .inr (.inl (gx 6)))), ((r 7), .inl (G.2.1 2, 6, .inr (.inl (gx 7)))), (cs, .inl (G.2.1 2, 6, .inr (.inl (f))))] H → va_D A [(pf, .inr (2, [.ref tk])), (tk, .inl (G.2.1 4, 8, .inr (.inr (.inr (.inr (fun j => if j < 8 then some (r j) else none)))))), ((r 0), .inl (G.2.1 2, 6, .inr (.inl (gx 0)))), ((r 1), .inl (G.2.1 2, 6, .inr (.inl (gx 1)))), ((r 2), .inl (G.2.1 2, 6, .inr (.inl (gx 2)))), ((r 3), .inl (G.2.1 2, 6, .inr (.inl (gx 3)))), ((r 4), .inl (G.2.1 2, 6, .inr (.inl (gx 4)))), ((r 5), .inl (G.2.1 2, 6, .inr (.inl (gx 5)))), ((r 6), .inl (G.2.1 2, 6, .inr (.inl (gx 6)))), ((r 7), .inl (G.2.1 2, 6, .inr (.inl (gx 7)))), (cs, .inl (G.2.1 2, 6, .inr (.inl (f))))] → va_S A s.heap H locs →  ∀ ls : Array Slot, lv_has ls 5 [(0, .ref pf), (1, .ref cs), (2, .int (nI (k9)))] → W p l e { frames := 5, cells := 0, slots := 0, locals := 132 } s m args below meth c H locs (0) (0) (MQ below (ky_Q (S := Nat → Nat → Int64) G A (fun v _ => ky_bool v) (fun u => ky_WPf G pf tk r u ++ [(cs, .inl (G.2.1 2, 6, .inr (.inl f)))]) (fun _ _ => True)) args s (0) (0) A) (F0 m 11 ls []) := by
  obtain ⟨hx, hb, hml, hown, hr, hlocks, hts⟩ := id F
  intro n9
  induction n9 with
  | zero => intro k9 gx h9 hn9; exact False.elim (by omega)
  | succ n9 ih =>
      intro k9 gx h9 hn9 H locs hP hD hS  ls hl
      refine lv_iload_n hx hb dc_X1_holdsFor_11 rfl (lv_at hl 2 rfl) ?_
      refine lv_bipush (v := 6) hx hb dc_X1_holdsFor_12 (by decide) ?_
      refine lv_icmp_ge (tgt := 63) hx hb dc_X1_holdsFor_14 (by decide) (fun c_0 => ?_) (fun c_0 => ?_)
      · skip
        refine lv_iconst (v := 0) hx hb dc_X1_holdsFor_63 (by decide) ?_
        refine lv_istore_n (lv' := [(2, .int ((0 : Int32))), (0, .ref pf), (1, .ref cs)]) hx hb dc_X1_holdsFor_64 rfl hl (by decide) rfl (fun ls hl => ?_)
        refine W.widen (k := 0) (n := 0) (by first | exact Nat.le_refl _ | omega | exact Nat.zero_le _) (by first | exact Nat.le_refl _ | omega | exact Nat.zero_le _) ?_
        exact ml_X1_holdsFor_L65 (pf := pf) (tk := tk) (r := r) (g := g) (cs := cs) (f := f) F hE hA hfr   (7) 0 gx (by omega) (by omega) _ _ (hP.sub (ws' := [(pf, .inr (2, [.ref tk])), (tk, .inl (G.2.1 4, 8, .inr (.inr (.inr (.inr (fun j => if j < 8 then some (r j) else none)))))), ((r 0), .inl (G.2.1 2, 6, .inr (.inl (gx 0)))), ((r 1), .inl (G.2.1 2, 6, .inr (.inl (gx 1)))), ((r 2), .inl (G.2.1 2, 6, .inr (.inl (gx 2)))), ((r 3), .inl (G.2.1 2, 6, .inr (.inl (gx 3)))), ((r 4), .inl (G.2.1 2, 6, .inr (.inl (gx 4)))), ((r 5), .inl (G.2.1 2, 6, .inr (.inl (gx 5)))), ((r 6), .inl (G.2.1 2, 6, .inr (.inl (gx 6)))), ((r 7), .inl (G.2.1 2, 6, .inr (.inl (gx 7)))), (cs, .inl (G.2.1 2, 6, .inr (.inl (f))))]) [0, 1, 2, 3, 4, 5, 6, 7, 8, 9, 10] rfl) (hD.sub (ws' := [(pf, .inr (2, [.ref tk])), (tk, .inl (G.2.1 4, 8, .inr (.inr (.inr (.inr (fun j => if j < 8 then some (r j) else none)))))), ((r 0), .inl (G.2.1 2, 6, .inr (.inl (gx 0)))), ((r 1), .inl (G.2.1 2, 6, .inr (.inl (gx 1)))), ((r 2), .inl (G.2.1 2, 6, .inr (.inl (gx 2)))), ((r 3), .inl (G.2.1 2, 6, .inr (.inl (gx 3)))), ((r 4), .inl (G.2.1 2, 6, .inr (.inl (gx 4)))), ((r 5), .inl (G.2.1 2, 6, .inr (.inl (gx 5)))), ((r 6), .inl (G.2.1 2, 6, .inr (.inl (gx 6)))), ((r 7), .inl (G.2.1 2, 6, .inr (.inl (gx 7)))), (cs, .inl (G.2.1 2, 6, .inr (.inl (f))))]) [0, 1, 2, 3, 4, 5, 6, 7, 8, 9, 10] (by decide) rfl) hS  _ (lv_sub hl [1, 2, 0] rfl)
      · skip
        have h9k9 : ¬ 6 ≤ k9 := fun z => c_0 ((nI_leI (a := 6) (b := k9) (by omega) (by omega)).mpr z)
        refine lv_aload_n hx hb dc_X1_holdsFor_17 rfl (lv_at hl 1 rfl) ?_
        refine lv_iload_n hx hb dc_X1_holdsFor_18 rfl (lv_at hl 2 rfl) ?_
        refine va_lald hx hb hE.1 hP 10 2 rfl rfl (vp_in_nI (by omega) (by omega)) dc_X1_holdsFor_19 ?_
        refine lv_lstore_n (lv' := [(3, .long ((f) (nI (k9)).toNatClampNeg)), (0, .ref pf), (1, .ref cs), (2, .int (nI (k9)))]) hx hb dc_X1_holdsFor_20 rfl hl (by decide) rfl (fun ls hl => ?_)
        refine lv_lload_n hx hb dc_X1_holdsFor_21 rfl (lv_at hl 0 rfl) ?_
        refine ky_cS0 (As := [.long ((f) (nI (k9)).toNatClampNeg)]) F (mt_X1_areWholesRight l ((f) (nI (k9)).toNatClampNeg)) ks_X1_16 ⟨⟨rfl, rfl⟩, by decide, by decide⟩ rfl hl.1 rfl (Nat.le_of_ble_eq_true rfl) ⟨Nat.le_of_ble_eq_true rfl, Nat.le_of_ble_eq_true rfl⟩ dc_X1_holdsFor_22 ?_
        refine lv_if_eq (tgt := 49) hx hb dc_X1_holdsFor_25 (by decide) (fun c_1 => ?_) (fun c_1 => ?_)
        · skip
          refine lv_iconst (v := 0) hx hb dc_X1_holdsFor_49 (by decide) ?_
          have hP9 := hP.sub (ws' := [(pf, .inr (2, [.ref tk])), (tk, .inl (G.2.1 4, 8, .inr (.inr (.inr (.inr (fun j => if j < 8 then some (r j) else none)))))), ((r 0), .inl (G.2.1 2, 6, .inr (.inl (gx 0)))), ((r 1), .inl (G.2.1 2, 6, .inr (.inl (gx 1)))), ((r 2), .inl (G.2.1 2, 6, .inr (.inl (gx 2)))), ((r 3), .inl (G.2.1 2, 6, .inr (.inl (gx 3)))), ((r 4), .inl (G.2.1 2, 6, .inr (.inl (gx 4)))), ((r 5), .inl (G.2.1 2, 6, .inr (.inl (gx 5)))), ((r 6), .inl (G.2.1 2, 6, .inr (.inl (gx 6)))), ((r 7), .inl (G.2.1 2, 6, .inr (.inl (gx 7)))), (cs, .inl (G.2.1 2, 6, .inr (.inl (f))))]) [0, 1, 2, 3, 4, 5, 6, 7, 8, 9, 10] rfl
          have hD9 := hD.sub (ws' := [(pf, .inr (2, [.ref tk])), (tk, .inl (G.2.1 4, 8, .inr (.inr (.inr (.inr (fun j => if j < 8 then some (r j) else none)))))), ((r 0), .inl (G.2.1 2, 6, .inr (.inl (gx 0)))), ((r 1), .inl (G.2.1 2, 6, .inr (.inl (gx 1)))), ((r 2), .inl (G.2.1 2, 6, .inr (.inl (gx 2)))), ((r 3), .inl (G.2.1 2, 6, .inr (.inl (gx 3)))), ((r 4), .inl (G.2.1 2, 6, .inr (.inl (gx 4)))), ((r 5), .inl (G.2.1 2, 6, .inr (.inl (gx 5)))), ((r 6), .inl (G.2.1 2, 6, .inr (.inl (gx 6)))), ((r 7), .inl (G.2.1 2, 6, .inr (.inl (gx 7)))), (cs, .inl (G.2.1 2, 6, .inr (.inl (f))))]) [0, 1, 2, 3, 4, 5, 6, 7, 8, 9, 10] (by decide) rfl
          refine W.widen (k := 0) (n := 0) (Nat.le_of_ble_eq_true rfl) (Nat.le_of_ble_eq_true rfl) ?_
          exact W.zret (v := (0 : Int32)) hx hb hr (by decide) (fun t ht hW => ⟨⟨_, gx, rfl, ⟨_, rfl, by decide⟩, by rw [ht]; exact hP9, hD9, trivial⟩, hS.F ht⟩) hS.2.2 dc_X1_holdsFor_50
        · skip
          refine lv_lload_n hx hb dc_X1_holdsFor_28 rfl (lv_at hl 0 rfl) ?_
          refine ky_cS0 (As := [.long ((f) (nI (k9)).toNatClampNeg)]) F (mt_X1_isRintRight l ((f) (nI (k9)).toNatClampNeg)) ks_X1_20 ⟨⟨rfl, rfl⟩, by decide, by decide⟩ rfl hl.1 rfl (Nat.le_of_ble_eq_true rfl) ⟨Nat.le_of_ble_eq_true rfl, Nat.le_of_ble_eq_true rfl⟩ dc_X1_holdsFor_29 ?_
          refine lv_if_eq (tgt := 49) hx hb dc_X1_holdsFor_32 (by decide) (fun c_2 => ?_) (fun c_2 => ?_)
          · skip
            refine lv_iconst (v := 0) hx hb dc_X1_holdsFor_49 (by decide) ?_
            have hP9 := hP.sub (ws' := [(pf, .inr (2, [.ref tk])), (tk, .inl (G.2.1 4, 8, .inr (.inr (.inr (.inr (fun j => if j < 8 then some (r j) else none)))))), ((r 0), .inl (G.2.1 2, 6, .inr (.inl (gx 0)))), ((r 1), .inl (G.2.1 2, 6, .inr (.inl (gx 1)))), ((r 2), .inl (G.2.1 2, 6, .inr (.inl (gx 2)))), ((r 3), .inl (G.2.1 2, 6, .inr (.inl (gx 3)))), ((r 4), .inl (G.2.1 2, 6, .inr (.inl (gx 4)))), ((r 5), .inl (G.2.1 2, 6, .inr (.inl (gx 5)))), ((r 6), .inl (G.2.1 2, 6, .inr (.inl (gx 6)))), ((r 7), .inl (G.2.1 2, 6, .inr (.inl (gx 7)))), (cs, .inl (G.2.1 2, 6, .inr (.inl (f))))]) [0, 1, 2, 3, 4, 5, 6, 7, 8, 9, 10] rfl
            have hD9 := hD.sub (ws' := [(pf, .inr (2, [.ref tk])), (tk, .inl (G.2.1 4, 8, .inr (.inr (.inr (.inr (fun j => if j < 8 then some (r j) else none)))))), ((r 0), .inl (G.2.1 2, 6, .inr (.inl (gx 0)))), ((r 1), .inl (G.2.1 2, 6, .inr (.inl (gx 1)))), ((r 2), .inl (G.2.1 2, 6, .inr (.inl (gx 2)))), ((r 3), .inl (G.2.1 2, 6, .inr (.inl (gx 3)))), ((r 4), .inl (G.2.1 2, 6, .inr (.inl (gx 4)))), ((r 5), .inl (G.2.1 2, 6, .inr (.inl (gx 5)))), ((r 6), .inl (G.2.1 2, 6, .inr (.inl (gx 6)))), ((r 7), .inl (G.2.1 2, 6, .inr (.inl (gx 7)))), (cs, .inl (G.2.1 2, 6, .inr (.inl (f))))]) [0, 1, 2, 3, 4, 5, 6, 7, 8, 9, 10] (by decide) rfl
            refine W.widen (k := 0) (n := 0) (Nat.le_of_ble_eq_true rfl) (Nat.le_of_ble_eq_true rfl) ?_
            exact W.zret (v := (0 : Int32)) hx hb hr (by decide) (fun t ht hW => ⟨⟨_, gx, rfl, ⟨_, rfl, by decide⟩, by rw [ht]; exact hP9, hD9, trivial⟩, hS.F ht⟩) hS.2.2 dc_X1_holdsFor_50
          · skip
            refine lv_lload_n hx hb dc_X1_holdsFor_35 rfl (lv_at hl 0 rfl) ?_
            refine ky_cS0 (As := [.long ((f) (nI (k9)).toNatClampNeg)]) F (mt_X1_areNextRight l ((f) (nI (k9)).toNatClampNeg)) ks_X1_23 ⟨⟨rfl, rfl⟩, by decide, by decide⟩ rfl hl.1 rfl (Nat.le_of_ble_eq_true rfl) ⟨Nat.le_of_ble_eq_true rfl, Nat.le_of_ble_eq_true rfl⟩ dc_X1_holdsFor_36 ?_
            refine lv_if_eq (tgt := 49) hx hb dc_X1_holdsFor_39 (by decide) (fun c_3 => ?_) (fun c_3 => ?_)
            · skip
              refine lv_iconst (v := 0) hx hb dc_X1_holdsFor_49 (by decide) ?_
              have hP9 := hP.sub (ws' := [(pf, .inr (2, [.ref tk])), (tk, .inl (G.2.1 4, 8, .inr (.inr (.inr (.inr (fun j => if j < 8 then some (r j) else none)))))), ((r 0), .inl (G.2.1 2, 6, .inr (.inl (gx 0)))), ((r 1), .inl (G.2.1 2, 6, .inr (.inl (gx 1)))), ((r 2), .inl (G.2.1 2, 6, .inr (.inl (gx 2)))), ((r 3), .inl (G.2.1 2, 6, .inr (.inl (gx 3)))), ((r 4), .inl (G.2.1 2, 6, .inr (.inl (gx 4)))), ((r 5), .inl (G.2.1 2, 6, .inr (.inl (gx 5)))), ((r 6), .inl (G.2.1 2, 6, .inr (.inl (gx 6)))), ((r 7), .inl (G.2.1 2, 6, .inr (.inl (gx 7)))), (cs, .inl (G.2.1 2, 6, .inr (.inl (f))))]) [0, 1, 2, 3, 4, 5, 6, 7, 8, 9, 10] rfl
              have hD9 := hD.sub (ws' := [(pf, .inr (2, [.ref tk])), (tk, .inl (G.2.1 4, 8, .inr (.inr (.inr (.inr (fun j => if j < 8 then some (r j) else none)))))), ((r 0), .inl (G.2.1 2, 6, .inr (.inl (gx 0)))), ((r 1), .inl (G.2.1 2, 6, .inr (.inl (gx 1)))), ((r 2), .inl (G.2.1 2, 6, .inr (.inl (gx 2)))), ((r 3), .inl (G.2.1 2, 6, .inr (.inl (gx 3)))), ((r 4), .inl (G.2.1 2, 6, .inr (.inl (gx 4)))), ((r 5), .inl (G.2.1 2, 6, .inr (.inl (gx 5)))), ((r 6), .inl (G.2.1 2, 6, .inr (.inl (gx 6)))), ((r 7), .inl (G.2.1 2, 6, .inr (.inl (gx 7)))), (cs, .inl (G.2.1 2, 6, .inr (.inl (f))))]) [0, 1, 2, 3, 4, 5, 6, 7, 8, 9, 10] (by decide) rfl
              refine W.widen (k := 0) (n := 0) (Nat.le_of_ble_eq_true rfl) (Nat.le_of_ble_eq_true rfl) ?_
              exact W.zret (v := (0 : Int32)) hx hb hr (by decide) (fun t ht hW => ⟨⟨_, gx, rfl, ⟨_, rfl, by decide⟩, by rw [ht]; exact hP9, hD9, trivial⟩, hS.F ht⟩) hS.2.2 dc_X1_holdsFor_50
            · skip
              refine lv_lload_n hx hb dc_X1_holdsFor_42 rfl (lv_at hl 0 rfl) ?_
              refine ky_cS0 (As := [.long ((f) (nI (k9)).toNatClampNeg)]) F (mt_X1_arePartsRight l ((f) (nI (k9)).toNatClampNeg)) ks_X1_26 ⟨⟨rfl, rfl⟩, by decide, by decide⟩ rfl hl.1 rfl (Nat.le_of_ble_eq_true rfl) ⟨Nat.le_of_ble_eq_true rfl, Nat.le_of_ble_eq_true rfl⟩ dc_X1_holdsFor_43 ?_
              refine lv_if_ne (tgt := 51) hx hb dc_X1_holdsFor_46 (by decide) (fun c_4 => ?_) (fun c_4 => ?_)
              · skip
                refine lv_aload_n hx hb dc_X1_holdsFor_51 rfl (lv_at hl 1 rfl) ?_
                refine lv_iload_n hx hb dc_X1_holdsFor_52 rfl (lv_at hl 3 rfl) ?_
                refine lv_lload_n hx hb dc_X1_holdsFor_53 rfl (lv_at hl 0 rfl) ?_
                refine ky_cVh (As := [.int (nI (k9)), .long ((f) (nI (k9)).toNatClampNeg)]) (wr := [(cs, .inl (G.2.1 2, 6, .inr (.inl (f))))]) F (hE.at hfr hS) hfr (mt_X1_fillColumn l G pf tk r gx (nI (k9)) ((f) (nI (k9)).toNatClampNeg) H.size (vp_in_nI (by omega) (by omega))) kv_X1_29 ⟨⟨rfl, rfl⟩, Nat.le_of_ble_eq_true rfl, Nat.le_of_ble_eq_true rfl⟩ rfl hl.1 rfl (Nat.le_of_ble_eq_true rfl) ⟨Nat.le_of_ble_eq_true rfl, Nat.le_of_ble_eq_true rfl⟩ (va_recv hE.1 hP (ci := 2) (q0 := 0) rfl rfl) trivial hP hD hS hA [0, 1, 2, 3, 4, 5, 6, 7, 8, 9] [10] rfl rfl (by decide) (by decide) (by decide) dc_X1_holdsFor_54 ?_
                rintro v9 g_5 H locs rfl hP hD hS - hz hk9
                have hP : va_P G.1 kcl [(cs, .inl (G.2.1 2, 6, .inr (.inl (f)))), (pf, .inr (2, [.ref tk])), (tk, .inl (G.2.1 4, 8, .inr (.inr (.inr (.inr (fun j => if j < 8 then some (r j) else none)))))), ((r 0), .inl (G.2.1 2, 6, .inr (.inl (g_5 0)))), ((r 1), .inl (G.2.1 2, 6, .inr (.inl (g_5 1)))), ((r 2), .inl (G.2.1 2, 6, .inr (.inl (g_5 2)))), ((r 3), .inl (G.2.1 2, 6, .inr (.inl (g_5 3)))), ((r 4), .inl (G.2.1 2, 6, .inr (.inl (g_5 4)))), ((r 5), .inl (G.2.1 2, 6, .inr (.inl (g_5 5)))), ((r 6), .inl (G.2.1 2, 6, .inr (.inl (g_5 6)))), ((r 7), .inl (G.2.1 2, 6, .inr (.inl (g_5 7))))] H := hP
                have hD : va_D A [(cs, .inl (G.2.1 2, 6, .inr (.inl (f)))), (pf, .inr (2, [.ref tk])), (tk, .inl (G.2.1 4, 8, .inr (.inr (.inr (.inr (fun j => if j < 8 then some (r j) else none)))))), ((r 0), .inl (G.2.1 2, 6, .inr (.inl (g_5 0)))), ((r 1), .inl (G.2.1 2, 6, .inr (.inl (g_5 1)))), ((r 2), .inl (G.2.1 2, 6, .inr (.inl (g_5 2)))), ((r 3), .inl (G.2.1 2, 6, .inr (.inl (g_5 3)))), ((r 4), .inl (G.2.1 2, 6, .inr (.inl (g_5 4)))), ((r 5), .inl (G.2.1 2, 6, .inr (.inl (g_5 5)))), ((r 6), .inl (G.2.1 2, 6, .inr (.inl (g_5 6)))), ((r 7), .inl (G.2.1 2, 6, .inr (.inl (g_5 7))))] := hD
                refine W.widen (k := 0) (n := 0) (by first | exact Nat.le_refl _ | omega) (by first | exact Nat.le_refl _ | omega) ?_
                refine lv_iinc (v := nI (k9 + 1)) (lv' := [(2, .int (nI (k9 + 1))), (3, .long ((f) (nI (k9)).toNatClampNeg)), (0, .ref pf), (1, .ref cs)]) hx hb dc_X1_holdsFor_57 hl (k := 3) rfl (nI_1 _) (by decide) rfl (fun ls hl => ?_)
                refine lv_goto (tgt := 11) hx hb dc_X1_holdsFor_60 (by decide) ?_
                refine W.widen (k := 0) (n := 0) (by first | exact Nat.le_refl _ | omega | exact Nat.zero_le _) (by first | exact Nat.le_refl _ | omega | exact Nat.zero_le _) ?_
                exact ih (k9 + 1) g_5 (by omega) (by omega) _ _ (hP.sub (ws' := [(pf, .inr (2, [.ref tk])), (tk, .inl (G.2.1 4, 8, .inr (.inr (.inr (.inr (fun j => if j < 8 then some (r j) else none)))))), ((r 0), .inl (G.2.1 2, 6, .inr (.inl (g_5 0)))), ((r 1), .inl (G.2.1 2, 6, .inr (.inl (g_5 1)))), ((r 2), .inl (G.2.1 2, 6, .inr (.inl (g_5 2)))), ((r 3), .inl (G.2.1 2, 6, .inr (.inl (g_5 3)))), ((r 4), .inl (G.2.1 2, 6, .inr (.inl (g_5 4)))), ((r 5), .inl (G.2.1 2, 6, .inr (.inl (g_5 5)))), ((r 6), .inl (G.2.1 2, 6, .inr (.inl (g_5 6)))), ((r 7), .inl (G.2.1 2, 6, .inr (.inl (g_5 7)))), (cs, .inl (G.2.1 2, 6, .inr (.inl (f))))]) [1, 2, 3, 4, 5, 6, 7, 8, 9, 10, 0] rfl) (hD.sub (ws' := [(pf, .inr (2, [.ref tk])), (tk, .inl (G.2.1 4, 8, .inr (.inr (.inr (.inr (fun j => if j < 8 then some (r j) else none)))))), ((r 0), .inl (G.2.1 2, 6, .inr (.inl (g_5 0)))), ((r 1), .inl (G.2.1 2, 6, .inr (.inl (g_5 1)))), ((r 2), .inl (G.2.1 2, 6, .inr (.inl (g_5 2)))), ((r 3), .inl (G.2.1 2, 6, .inr (.inl (g_5 3)))), ((r 4), .inl (G.2.1 2, 6, .inr (.inl (g_5 4)))), ((r 5), .inl (G.2.1 2, 6, .inr (.inl (g_5 5)))), ((r 6), .inl (G.2.1 2, 6, .inr (.inl (g_5 6)))), ((r 7), .inl (G.2.1 2, 6, .inr (.inl (g_5 7)))), (cs, .inl (G.2.1 2, 6, .inr (.inl (f))))]) [1, 2, 3, 4, 5, 6, 7, 8, 9, 10, 0] (by decide) rfl) hS  _ (lv_sub hl [2, 3, 0] rfl)
              · skip
                refine lv_iconst (v := 0) hx hb dc_X1_holdsFor_49 (by decide) ?_
                have hP9 := hP.sub (ws' := [(pf, .inr (2, [.ref tk])), (tk, .inl (G.2.1 4, 8, .inr (.inr (.inr (.inr (fun j => if j < 8 then some (r j) else none)))))), ((r 0), .inl (G.2.1 2, 6, .inr (.inl (gx 0)))), ((r 1), .inl (G.2.1 2, 6, .inr (.inl (gx 1)))), ((r 2), .inl (G.2.1 2, 6, .inr (.inl (gx 2)))), ((r 3), .inl (G.2.1 2, 6, .inr (.inl (gx 3)))), ((r 4), .inl (G.2.1 2, 6, .inr (.inl (gx 4)))), ((r 5), .inl (G.2.1 2, 6, .inr (.inl (gx 5)))), ((r 6), .inl (G.2.1 2, 6, .inr (.inl (gx 6)))), ((r 7), .inl (G.2.1 2, 6, .inr (.inl (gx 7)))), (cs, .inl (G.2.1 2, 6, .inr (.inl (f))))]) [0, 1, 2, 3, 4, 5, 6, 7, 8, 9, 10] rfl
                have hD9 := hD.sub (ws' := [(pf, .inr (2, [.ref tk])), (tk, .inl (G.2.1 4, 8, .inr (.inr (.inr (.inr (fun j => if j < 8 then some (r j) else none)))))), ((r 0), .inl (G.2.1 2, 6, .inr (.inl (gx 0)))), ((r 1), .inl (G.2.1 2, 6, .inr (.inl (gx 1)))), ((r 2), .inl (G.2.1 2, 6, .inr (.inl (gx 2)))), ((r 3), .inl (G.2.1 2, 6, .inr (.inl (gx 3)))), ((r 4), .inl (G.2.1 2, 6, .inr (.inl (gx 4)))), ((r 5), .inl (G.2.1 2, 6, .inr (.inl (gx 5)))), ((r 6), .inl (G.2.1 2, 6, .inr (.inl (gx 6)))), ((r 7), .inl (G.2.1 2, 6, .inr (.inl (gx 7)))), (cs, .inl (G.2.1 2, 6, .inr (.inl (f))))]) [0, 1, 2, 3, 4, 5, 6, 7, 8, 9, 10] (by decide) rfl
                refine W.widen (k := 0) (n := 0) (Nat.le_of_ble_eq_true rfl) (Nat.le_of_ble_eq_true rfl) ?_
                exact W.zret (v := (0 : Int32)) hx hb hr (by decide) (fun t ht hW => ⟨⟨_, gx, rfl, ⟨_, rfl, by decide⟩, by rw [ht]; exact hP9, hD9, trivial⟩, hS.F ht⟩) hS.2.2 dc_X1_holdsFor_50
set_option linter.constructorNameAsVariable false in
set_option maxHeartbeats 4000000 in
set_option maxRecDepth 100000 in
theorem mt_X1_holdsFor (l : Launch) (G : ky_G) (pf : Nat) (tk : Nat) (r : Nat → Nat) (g : Nat → Nat → Int64) (cs : Nat) (f : Nat → Int64) (sz : Nat)  : Met l my_X1_holdsFor (.code my_X1_holdsFor prog_3_method_2_code 5 (some .boolean) :: ky_B) { frames := 5, cells := 0, slots := 0, locals := 132 } (ky_P G [.ref pf, .ref cs] (ky_WPf G pf tk r g ++ [(cs, .inl (G.2.1 2, 6, .inr (.inl f)))]) sz (fun _ => True)) (ky_Q (S := Nat → Nat → Int64) G (va_A (ky_WPf G pf tk r g ++ [(cs, .inl (G.2.1 2, 6, .inr (.inl f)))]) sz) (fun v _ => ky_bool v) (fun u => ky_WPf G pf tk r u ++ [(cs, .inl (G.2.1 2, 6, .inr (.inl f)))]) (fun _ _ => True)) (0) (0) (va_A (ky_WPf G pf tk r g ++ [(cs, .inl (G.2.1 2, 6, .inr (.inl f)))]) sz) := by
  refine ky_start (by decide) (Nat.le_of_ble_eq_true rfl) (fun p e s m below meth c F hE A hAe hsz hA hfr hP hD hS hX ls hl => ?_)
  obtain ⟨hx, hb, hml, hown, hr, hlocks, hts⟩ := id F
  have hl : lv_has ls 5 [(0, .ref pf), (1, .ref cs)] := hl
  have hP : va_P G.1 kcl [(pf, .inr (2, [.ref tk])), (tk, .inl (G.2.1 4, 8, .inr (.inr (.inr (.inr (fun j => if j < 8 then some (r j) else none)))))), ((r 0), .inl (G.2.1 2, 6, .inr (.inl (g 0)))), ((r 1), .inl (G.2.1 2, 6, .inr (.inl (g 1)))), ((r 2), .inl (G.2.1 2, 6, .inr (.inl (g 2)))), ((r 3), .inl (G.2.1 2, 6, .inr (.inl (g 3)))), ((r 4), .inl (G.2.1 2, 6, .inr (.inl (g 4)))), ((r 5), .inl (G.2.1 2, 6, .inr (.inl (g 5)))), ((r 6), .inl (G.2.1 2, 6, .inr (.inl (g 6)))), ((r 7), .inl (G.2.1 2, 6, .inr (.inl (g 7)))), (cs, .inl (G.2.1 2, 6, .inr (.inl (f))))] s.heap := hP
  have hD : va_D A [(pf, .inr (2, [.ref tk])), (tk, .inl (G.2.1 4, 8, .inr (.inr (.inr (.inr (fun j => if j < 8 then some (r j) else none)))))), ((r 0), .inl (G.2.1 2, 6, .inr (.inl (g 0)))), ((r 1), .inl (G.2.1 2, 6, .inr (.inl (g 1)))), ((r 2), .inl (G.2.1 2, 6, .inr (.inl (g 2)))), ((r 3), .inl (G.2.1 2, 6, .inr (.inl (g 3)))), ((r 4), .inl (G.2.1 2, 6, .inr (.inl (g 4)))), ((r 5), .inl (G.2.1 2, 6, .inr (.inl (g 5)))), ((r 6), .inl (G.2.1 2, 6, .inr (.inl (g 6)))), ((r 7), .inl (G.2.1 2, 6, .inr (.inl (g 7)))), (cs, .inl (G.2.1 2, 6, .inr (.inl (f))))] := hD
  refine lv_aload_n hx hb dc_X1_holdsFor_0 rfl (lv_at hl 1 rfl) ?_
  refine va_alen hx hb hE.1 hP 10 2 rfl rfl (v := (6 : Int32)) rfl dc_X1_holdsFor_1 ?_
  refine lv_bipush (v := 6) hx hb dc_X1_holdsFor_2 (by decide) ?_
  refine lv_icmp_eq (tgt := 9) hx hb dc_X1_holdsFor_4 (by decide) (fun _ => ?_) (fun c_0 => absurd c_0 (by decide))
  refine lv_iconst (v := 0) hx hb dc_X1_holdsFor_9 (by decide) ?_
  refine lv_istore_n (lv' := [(2, .int ((0 : Int32))), (0, .ref pf), (1, .ref cs)]) hx hb dc_X1_holdsFor_10 rfl hl (by decide) rfl (fun ls hl => ?_)
  refine W.widen (k := 0) (n := 0) (by first | exact Nat.le_refl _ | omega | exact Nat.zero_le _) (by first | exact Nat.le_refl _ | omega | exact Nat.zero_le _) ?_
  exact ml_X1_holdsFor_L11 (pf := pf) (tk := tk) (r := r) (g := g) (cs := cs) (f := f) F hE hA hfr   (7) 0 g (by omega) (by omega) _ _ (hP.sub (ws' := [(pf, .inr (2, [.ref tk])), (tk, .inl (G.2.1 4, 8, .inr (.inr (.inr (.inr (fun j => if j < 8 then some (r j) else none)))))), ((r 0), .inl (G.2.1 2, 6, .inr (.inl (g 0)))), ((r 1), .inl (G.2.1 2, 6, .inr (.inl (g 1)))), ((r 2), .inl (G.2.1 2, 6, .inr (.inl (g 2)))), ((r 3), .inl (G.2.1 2, 6, .inr (.inl (g 3)))), ((r 4), .inl (G.2.1 2, 6, .inr (.inl (g 4)))), ((r 5), .inl (G.2.1 2, 6, .inr (.inl (g 5)))), ((r 6), .inl (G.2.1 2, 6, .inr (.inl (g 6)))), ((r 7), .inl (G.2.1 2, 6, .inr (.inl (g 7)))), (cs, .inl (G.2.1 2, 6, .inr (.inl (f))))]) [0, 1, 2, 3, 4, 5, 6, 7, 8, 9, 10] rfl) (hD.sub (ws' := [(pf, .inr (2, [.ref tk])), (tk, .inl (G.2.1 4, 8, .inr (.inr (.inr (.inr (fun j => if j < 8 then some (r j) else none)))))), ((r 0), .inl (G.2.1 2, 6, .inr (.inl (g 0)))), ((r 1), .inl (G.2.1 2, 6, .inr (.inl (g 1)))), ((r 2), .inl (G.2.1 2, 6, .inr (.inl (g 2)))), ((r 3), .inl (G.2.1 2, 6, .inr (.inl (g 3)))), ((r 4), .inl (G.2.1 2, 6, .inr (.inl (g 4)))), ((r 5), .inl (G.2.1 2, 6, .inr (.inl (g 5)))), ((r 6), .inl (G.2.1 2, 6, .inr (.inl (g 6)))), ((r 7), .inl (G.2.1 2, 6, .inr (.inl (g 7)))), (cs, .inl (G.2.1 2, 6, .inr (.inl (f))))]) [0, 1, 2, 3, 4, 5, 6, 7, 8, 9, 10] (by decide) rfl) hS  _ (lv_sub hl [1, 2, 0] rfl)
