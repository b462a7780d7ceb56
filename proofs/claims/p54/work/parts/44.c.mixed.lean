set_option linter.constructorNameAsVariable false in
set_option maxHeartbeats 4000000 in
set_option maxRecDepth 100000 in
theorem mt_X6_mixedAnswers (l : Launch) (G : ky_G) (x : Nat) (cs : Nat) (sc : Nat) (pf : Nat) (u : ky_BS) (fg : Nat) (b : Nat) (t9 : ky_SV) (a1 : Int64) (a2 : Int64) (sz : Nat) (ht : ky_sok t9) : Met l my_X6_mixedAnswers (.code my_X6_mixedAnswers prog_1_method_56_code 9 (some .long) :: ky_B) { frames := 10, cells := 3, slots := 102, locals := 223 } (ky_P G [.ref x, .long (a1), .long (a2)] (ky_WB G x cs sc pf u ++ ky_WS G sc fg b t9) sz (fun _ => True)) (ky_Q (S := ky_SV) G (va_A (ky_WB G x cs sc pf u ++ ky_WS G sc fg b t9) sz) (fun v w => (∃ z : Int64, v = some (.long z)) ∧ ky_sok w) (fun w => ky_WB G x cs sc pf u ++ ky_WS G sc fg b w) (fun _ _ => True)) (3) (102) (va_A (ky_WB G x cs sc pf u ++ ky_WS G sc fg b t9) sz) := by
  refine ky_start (by decide) (Nat.le_of_ble_eq_true rfl) (fun p e s m below meth c F hE A hAe hsz hA hfr hP hD hS hX ls hl => ?_)
  obtain ⟨hx, hb, hml, hown, hr, hlocks, hts⟩ := id F
  have hl : lv_has ls 9 [(0, .ref x), (1, .long (a1)), (3, .long (a2))] := hl
  have hP : va_P G.1 kcl [(x, .inr (0, [.ref cs, .ref sc, .ref pf, .int (u.2.1), .int (u.2.2.1), .int (u.2.2.2)])), (cs, .inl (G.2.1 2, 6, .inr (.inl (u.1)))), (sc, .inr (1, [.ref b, .ref fg])), (fg, .inl (G.2.1 1, 19, .inl (t9.2.2.2.2.2))), (b, .inr (6, [.ref t9.1, .int (0), .int (t9.2.2.2.2.1), .int (nI (t9.2.2.1))])), (t9.1, .inl (G.2.1 0, t9.2.1, .inl (t9.2.2.2.1)))] s.heap := hP
  have hD : va_D A [(x, .inr (0, [.ref cs, .ref sc, .ref pf, .int (u.2.1), .int (u.2.2.1), .int (u.2.2.2)])), (cs, .inl (G.2.1 2, 6, .inr (.inl (u.1)))), (sc, .inr (1, [.ref b, .ref fg])), (fg, .inl (G.2.1 1, 19, .inl (t9.2.2.2.2.2))), (b, .inr (6, [.ref t9.1, .int (0), .int (t9.2.2.2.2.1), .int (nI (t9.2.2.1))])), (t9.1, .inl (G.2.1 0, t9.2.1, .inl (t9.2.2.2.1)))] := hD
  refine lv_lload_n hx hb dc_X6_mixedAnswers_0 rfl (lv_at hl 1 rfl) ?_
  refine lv_lstore (lv' := [(5, .long (a1)), (0, .ref x), (1, .long (a1)), (3, .long (a2))]) hx hb dc_X6_mixedAnswers_1 hl (by decide) rfl (fun ls hl => ?_)
  refine lv_iconst (v := 0) hx hb dc_X6_mixedAnswers_3 (by decide) ?_
  refine lv_istore (lv' := [(7, .int ((0 : Int32))), (5, .long (a1)), (0, .ref x), (1, .long (a1)), (3, .long (a2))]) hx hb dc_X6_mixedAnswers_4 hl (by decide) rfl (fun ls hl => ?_)
  refine lv_iload hx hb dc_X6_mixedAnswers_6 (lv_at hl 0 rfl) ?_
  refine lv_iconst (v := 3) hx hb dc_X6_mixedAnswers_8 (by decide) ?_
  refine lv_icmp_gt (tgt := 32) hx hb dc_X6_mixedAnswers_9 (by decide) (fun c_0 => absurd c_0 (by decide)) (fun _ => ?_)
  refine lv_lload hx hb dc_X6_mixedAnswers_12 (lv_at hl 1 rfl) ?_
  refine lv_lload_n hx hb dc_X6_mixedAnswers_14 rfl (lv_at hl 4 rfl) ?_
  refine lv_iload hx hb dc_X6_mixedAnswers_15 (lv_at hl 0 rfl) ?_
  refine ky_cS0 (As := [.long (a2), .int ((0 : Int32))]) F (mt_X0_digitsIn l (a2) ((0 : Int32))) ks_X6_134 ⟨⟨rfl, rfl⟩, by decide, by decide⟩ rfl hl.1 rfl (Nat.le_of_ble_eq_true rfl) ⟨Nat.le_of_ble_eq_true rfl, Nat.le_of_ble_eq_true rfl⟩ dc_X6_mixedAnswers_17 ?_
  refine lv_i2l (v := (fn_X0_digitsIn (a2) ((0 : Int32))).toInt64) hx hb dc_X6_mixedAnswers_20 rfl ?_
  refine ky_cS0 (As := [.long (a1), .long ((fn_X0_digitsIn (a2) ((0 : Int32))).toInt64)]) F (mt_X6_mixed l (a1) ((fn_X0_digitsIn (a2) ((0 : Int32))).toInt64)) ks_X6_199 ⟨⟨rfl, rfl⟩, by decide, by decide⟩ rfl hl.1 rfl (Nat.le_of_ble_eq_true rfl) ⟨Nat.le_of_ble_eq_true rfl, Nat.le_of_ble_eq_true rfl⟩ dc_X6_mixedAnswers_21 ?_
  generalize ((fn_X6_mixed (a1) ((fn_X0_digitsIn (a2) ((0 : Int32))).toInt64)) : Int64) = j_1
  refine lv_lstore (lv' := [(5, .long (j_1)), (7, .int ((0 : Int32))), (0, .ref x), (1, .long (a1)), (3, .long (a2))]) hx hb dc_X6_mixedAnswers_24 hl (by decide) rfl (fun ls hl => ?_)
  refine lv_iinc (v := (1 : Int32)) (lv' := [(7, .int ((1 : Int32))), (5, .long (j_1)), (0, .ref x), (1, .long (a1)), (3, .long (a2))]) hx hb dc_X6_mixedAnswers_26 hl (k := 1) rfl (by decide) (by decide) rfl (fun ls hl => ?_)
  refine lv_goto (tgt := 6) hx hb dc_X6_mixedAnswers_29 (by decide) ?_
  refine lv_iload hx hb dc_X6_mixedAnswers_6 (lv_at hl 0 rfl) ?_
  refine lv_iconst (v := 3) hx hb dc_X6_mixedAnswers_8 (by decide) ?_
  refine lv_icmp_gt (tgt := 32) hx hb dc_X6_mixedAnswers_9 (by decide) (fun c_2 => absurd c_2 (by decide)) (fun _ => ?_)
  refine lv_lload hx hb dc_X6_mixedAnswers_12 (lv_at hl 1 rfl) ?_
  refine lv_lload_n hx hb dc_X6_mixedAnswers_14 rfl (lv_at hl 4 rfl) ?_
  refine lv_iload hx hb dc_X6_mixedAnswers_15 (lv_at hl 0 rfl) ?_
  refine ky_cS0 (As := [.long (a2), .int ((1 : Int32))]) F (mt_X0_digitsIn l (a2) ((1 : Int32))) ks_X6_134 ⟨⟨rfl, rfl⟩, by decide, by decide⟩ rfl hl.1 rfl (Nat.le_of_ble_eq_true rfl) ⟨Nat.le_of_ble_eq_true rfl, Nat.le_of_ble_eq_true rfl⟩ dc_X6_mixedAnswers_17 ?_
  refine lv_i2l (v := (fn_X0_digitsIn (a2) ((1 : Int32))).toInt64) hx hb dc_X6_mixedAnswers_20 rfl ?_
  refine ky_cS0 (As := [.long (j_1), .long ((fn_X0_digitsIn (a2) ((1 : Int32))).toInt64)]) F (mt_X6_mixed l (j_1) ((fn_X0_digitsIn (a2) ((1 : Int32))).toInt64)) ks_X6_199 ⟨⟨rfl, rfl⟩, by decide, by decide⟩ rfl hl.1 rfl (Nat.le_of_ble_eq_true rfl) ⟨Nat.le_of_ble_eq_true rfl, Nat.le_of_ble_eq_true rfl⟩ dc_X6_mixedAnswers_21 ?_
  generalize ((fn_X6_mixed (j_1) ((fn_X0_digitsIn (a2) ((1 : Int32))).toInt64)) : Int64) = j_3
  refine lv_lstore (lv' := [(5, .long (j_3)), (7, .int ((1 : Int32))), (0, .ref x), (1, .long (a1)), (3, .long (a2))]) hx hb dc_X6_mixedAnswers_24 hl (by decide) rfl (fun ls hl => ?_)
  refine lv_iinc (v := (2 : Int32)) (lv' := [(7, .int ((2 : Int32))), (5, .long (j_3)), (0, .ref x), (1, .long (a1)), (3, .long (a2))]) hx hb dc_X6_mixedAnswers_26 hl (k := 1) rfl (by decide) (by decide) rfl (fun ls hl => ?_)
  refine lv_goto (tgt := 6) hx hb dc_X6_mixedAnswers_29 (by decide) ?_
  refine lv_iload hx hb dc_X6_mixedAnswers_6 (lv_at hl 0 rfl) ?_
  refine lv_iconst (v := 3) hx hb dc_X6_mixedAnswers_8 (by decide) ?_
  refine lv_icmp_gt (tgt := 32) hx hb dc_X6_mixedAnswers_9 (by decide) (fun c_4 => absurd c_4 (by decide)) (fun _ => ?_)
  refine lv_lload hx hb dc_X6_mixedAnswers_12 (lv_at hl 1 rfl) ?_
  refine lv_lload_n hx hb dc_X6_mixedAnswers_14 rfl (lv_at hl 4 rfl) ?_
  refine lv_iload hx hb dc_X6_mixedAnswers_15 (lv_at hl 0 rfl) ?_
  refine ky_cS0 (As := [.long (a2), .int ((2 : Int32))]) F (mt_X0_digitsIn l (a2) ((2 : Int32))) ks_X6_134 ⟨⟨rfl, rfl⟩, by decide, by decide⟩ rfl hl.1 rfl (Nat.le_of_ble_eq_true rfl) ⟨Nat.le_of_ble_eq_true rfl, Nat.le_of_ble_eq_true rfl⟩ dc_X6_mixedAnswers_17 ?_
  refine lv_i2l (v := (fn_X0_digitsIn (a2) ((2 : Int32))).toInt64) hx hb dc_X6_mixedAnswers_20 rfl ?_
  refine ky_cS0 (As := [.long (j_3), .long ((fn_X0_digitsIn (a2) ((2 : Int32))).toInt64)]) F (mt_X6_mixed l (j_3) ((fn_X0_digitsIn (a2) ((2 : Int32))).toInt64)) ks_X6_199 ⟨⟨rfl, rfl⟩, by decide, by decide⟩ rfl hl.1 rfl (Nat.le_of_ble_eq_true rfl) ⟨Nat.le_of_ble_eq_true rfl, Nat.le_of_ble_eq_true rfl⟩ dc_X6_mixedAnswers_21 ?_
  generalize ((fn_X6_mixed (j_3) ((fn_X0_digitsIn (a2) ((2 : Int32))).toInt64)) : Int64) = j_5
  refine lv_lstore (lv' := [(5, .long (j_5)), (7, .int ((2 : Int32))), (0, .ref x), (1, .long (a1)), (3, .long (a2))]) hx hb dc_X6_mixedAnswers_24 hl (by decide) rfl (fun ls hl => ?_)
  refine lv_iinc (v := (3 : Int32)) (lv' := [(7, .int ((3 : Int32))), (5, .long (j_5)), (0, .ref x), (1, .long (a1)), (3, .long (a2))]) hx hb dc_X6_mixedAnswers_26 hl (k := 1) rfl (by decide) (by decide) rfl (fun ls hl => ?_)
  refine lv_goto (tgt := 6) hx hb dc_X6_mixedAnswers_29 (by decide) ?_
  refine lv_iload hx hb dc_X6_mixedAnswers_6 (lv_at hl 0 rfl) ?_
  refine lv_iconst (v := 3) hx hb dc_X6_mixedAnswers_8 (by decide) ?_
  refine lv_icmp_gt (tgt := 32) hx hb dc_X6_mixedAnswers_9 (by decide) (fun c_6 => absurd c_6 (by decide)) (fun _ => ?_)
  refine lv_lload hx hb dc_X6_mixedAnswers_12 (lv_at hl 1 rfl) ?_
  refine lv_lload_n hx hb dc_X6_mixedAnswers_14 rfl (lv_at hl 4 rfl) ?_
  refine lv_iload hx hb dc_X6_mixedAnswers_15 (lv_at hl 0 rfl) ?_
  refine ky_cS0 (As := [.long (a2), .int ((3 : Int32))]) F (mt_X0_digitsIn l (a2) ((3 : Int32))) ks_X6_134 ⟨⟨rfl, rfl⟩, by decide, by decide⟩ rfl hl.1 rfl (Nat.le_of_ble_eq_true rfl) ⟨Nat.le_of_ble_eq_true rfl, Nat.le_of_ble_eq_true rfl⟩ dc_X6_mixedAnswers_17 ?_
  refine lv_i2l (v := (fn_X0_digitsIn (a2) ((3 : Int32))).toInt64) hx hb dc_X6_mixedAnswers_20 rfl ?_
  refine ky_cS0 (As := [.long (j_5), .long ((fn_X0_digitsIn (a2) ((3 : Int32))).toInt64)]) F (mt_X6_mixed l (j_5) ((fn_X0_digitsIn (a2) ((3 : Int32))).toInt64)) ks_X6_199 ⟨⟨rfl, rfl⟩, by decide, by decide⟩ rfl hl.1 rfl (Nat.le_of_ble_eq_true rfl) ⟨Nat.le_of_ble_eq_true rfl, Nat.le_of_ble_eq_true rfl⟩ dc_X6_mixedAnswers_21 ?_
  generalize ((fn_X6_mixed (j_5) ((fn_X0_digitsIn (a2) ((3 : Int32))).toInt64)) : Int64) = j_7
  refine lv_lstore (lv' := [(5, .long (j_7)), (7, .int ((3 : Int32))), (0, .ref x), (1, .long (a1)), (3, .long (a2))]) hx hb dc_X6_mixedAnswers_24 hl (by decide) rfl (fun ls hl => ?_)
  refine lv_iinc (v := (4 : Int32)) (lv' := [(7, .int ((4 : Int32))), (5, .long (j_7)), (0, .ref x), (1, .long (a1)), (3, .long (a2))]) hx hb dc_X6_mixedAnswers_26 hl (k := 1) rfl (by decide) (by decide) rfl (fun ls hl => ?_)
  refine lv_goto (tgt := 6) hx hb dc_X6_mixedAnswers_29 (by decide) ?_
  refine lv_iload hx hb dc_X6_mixedAnswers_6 (lv_at hl 0 rfl) ?_
  refine lv_iconst (v := 3) hx hb dc_X6_mixedAnswers_8 (by decide) ?_
  refine lv_icmp_gt (tgt := 32) hx hb dc_X6_mixedAnswers_9 (by decide) (fun _ => ?_) (fun c_8 => absurd c_8 (by decide))
  refine lv_lload hx hb dc_X6_mixedAnswers_32 (lv_at hl 1 rfl) ?_
  refine lv_lload_n hx hb dc_X6_mixedAnswers_34 rfl (lv_at hl 4 rfl) ?_
  refine ky_cS0 (As := [.long (a2)]) F (mt_X0_kindIn l (a2)) ks_X6_131 ⟨⟨rfl, rfl⟩, by decide, by decide⟩ rfl hl.1 rfl (Nat.le_of_ble_eq_true rfl) ⟨Nat.le_of_ble_eq_true rfl, Nat.le_of_ble_eq_true rfl⟩ dc_X6_mixedAnswers_35 ?_
  refine lv_i2l (v := (fn_X0_kindIn (a2)).toInt64) hx hb dc_X6_mixedAnswers_38 rfl ?_
  refine ky_cS0 (As := [.long (j_7), .long ((fn_X0_kindIn (a2)).toInt64)]) F (mt_X6_mixed l (j_7) ((fn_X0_kindIn (a2)).toInt64)) ks_X6_199 ⟨⟨rfl, rfl⟩, by decide, by decide⟩ rfl hl.1 rfl (Nat.le_of_ble_eq_true rfl) ⟨Nat.le_of_ble_eq_true rfl, Nat.le_of_ble_eq_true rfl⟩ dc_X6_mixedAnswers_39 ?_
  generalize ((fn_X6_mixed (j_7) ((fn_X0_kindIn (a2)).toInt64)) : Int64) = j_9
  refine lv_lstore (lv' := [(5, .long (j_9)), (7, .int ((4 : Int32))), (0, .ref x), (1, .long (a1)), (3, .long (a2))]) hx hb dc_X6_mixedAnswers_42 hl (by decide) rfl (fun ls hl => ?_)
  refine lv_lload hx hb dc_X6_mixedAnswers_44 (lv_at hl 0 rfl) ?_
  refine lv_aload_n hx hb dc_X6_mixedAnswers_46 rfl (lv_at hl 2 rfl) ?_
  refine va_get (D := G.1) (ci := 0) (v := .ref sc) (C := RX6) (T := TX6) (N := 6) hx hb hts ki_X6 hown hE.1 hP 0 rfl rfl 1 (by decide) (hts _ kw_1_99) (fun _ h9 => h9) rfl dc_X6_mixedAnswers_47 ?_
  refine lv_lload_n hx hb dc_X6_mixedAnswers_50 rfl (lv_at hl 4 rfl) ?_
  refine ky_cVh (As := [.long (a2)]) (wr := [(x, .inr (0, [.ref cs, .ref sc, .ref pf, .int (u.2.1), .int (u.2.2.1), .int (u.2.2.2)])), (cs, .inl (G.2.1 2, 6, .inr (.inl (u.1))))]) F (hE.at hfr hS) hfr (mt_X3_countNumber l G sc fg t9.2.2.2.2.2 b t9.1 t9.2.1 t9.2.2.1 t9.2.2.2.1 t9.2.2.2.2.1 a2 s.heap.size ht.1 ht.2.2.1 ht.2.2.2 ht.2.1) kv_X6_208 ⟨⟨rfl, rfl⟩, Nat.le_of_ble_eq_true rfl, Nat.le_of_ble_eq_true rfl⟩ rfl hl.1 rfl (Nat.le_of_ble_eq_true rfl) ⟨Nat.le_of_ble_eq_true rfl, Nat.le_of_ble_eq_true rfl⟩ (va_recv hE.1 hP (ci := 1) (q0 := 2) rfl rfl) trivial hP hD hS hA [2, 3, 4, 5] [0, 1] rfl rfl (by decide) (by decide) (by decide) dc_X6_mixedAnswers_51 ?_
  rintro v9 ⟨va_10, m_10, f_10, ml_10, fc_10⟩ H locs ⟨rfl, hm_10, hn_10, hf_10, hc_10⟩ hP hD hS - hz hk9
  have hP : va_P G.1 kcl [(x, .inr (0, [.ref cs, .ref sc, .ref pf, .int (u.2.1), .int (u.2.2.1), .int (u.2.2.2)])), (cs, .inl (G.2.1 2, 6, .inr (.inl (u.1)))), (sc, .inr (1, [.ref b, .ref fg])), (fg, .inl (G.2.1 1, 19, .inl (fc_10))), (b, .inr (6, [.ref va_10, .int (0), .int (ml_10), .int (nI (ky_tl a2))])), (va_10, .inl (G.2.1 0, m_10, .inl (f_10)))] H := hP
  have hD : va_D A [(x, .inr (0, [.ref cs, .ref sc, .ref pf, .int (u.2.1), .int (u.2.2.1), .int (u.2.2.2)])), (cs, .inl (G.2.1 2, 6, .inr (.inl (u.1)))), (sc, .inr (1, [.ref b, .ref fg])), (fg, .inl (G.2.1 1, 19, .inl (fc_10))), (b, .inr (6, [.ref va_10, .int (0), .int (ml_10), .int (nI (ky_tl a2))])), (va_10, .inl (G.2.1 0, m_10, .inl (f_10)))] := hD
  refine W.widen (k := 1) (n := 34) (by first | exact Nat.le_refl _ | omega) (by first | exact Nat.le_refl _ | omega) ?_
  refine lv_i2l (v := (nI (ky_tl a2)).toInt64) hx hb dc_X6_mixedAnswers_54 rfl ?_
  refine ky_cS0 (As := [.long (j_9), .long ((nI (ky_tl a2)).toInt64)]) F (mt_X6_mixed l (j_9) ((nI (ky_tl a2)).toInt64)) ks_X6_199 ⟨⟨rfl, rfl⟩, by decide, by decide⟩ rfl hl.1 rfl (Nat.le_of_ble_eq_true rfl) ⟨Nat.le_of_ble_eq_true rfl, Nat.le_of_ble_eq_true rfl⟩ dc_X6_mixedAnswers_55 ?_
  generalize ((fn_X6_mixed (j_9) ((nI (ky_tl a2)).toInt64)) : Int64) = j_11
  refine lv_lstore (lv' := [(5, .long (j_11)), (7, .int ((4 : Int32))), (0, .ref x), (1, .long (a1)), (3, .long (a2))]) hx hb dc_X6_mixedAnswers_58 hl (by decide) rfl (fun ls hl => ?_)
  refine lv_lload hx hb dc_X6_mixedAnswers_60 (lv_at hl 0 rfl) ?_
  refine lv_lload_n hx hb dc_X6_mixedAnswers_62 rfl (lv_at hl 4 rfl) ?_
  refine ky_cS0 (As := [.long (a2)]) F (mt_X0_exponentIn l (a2)) ks_X6_114 ⟨⟨rfl, rfl⟩, by decide, by decide⟩ rfl hl.1 rfl (Nat.le_of_ble_eq_true rfl) ⟨Nat.le_of_ble_eq_true rfl, Nat.le_of_ble_eq_true rfl⟩ dc_X6_mixedAnswers_63 ?_
  refine lv_i2l (v := (fn_X0_exponentIn (a2)).toInt64) hx hb dc_X6_mixedAnswers_66 rfl ?_
  refine ky_cS0 (As := [.long (j_11), .long ((fn_X0_exponentIn (a2)).toInt64)]) F (mt_X6_mixed l (j_11) ((fn_X0_exponentIn (a2)).toInt64)) ks_X6_199 ⟨⟨rfl, rfl⟩, by decide, by decide⟩ rfl hl.1 rfl (Nat.le_of_ble_eq_true rfl) ⟨Nat.le_of_ble_eq_true rfl, Nat.le_of_ble_eq_true rfl⟩ dc_X6_mixedAnswers_67 ?_
  generalize ((fn_X6_mixed (j_11) ((fn_X0_exponentIn (a2)).toInt64)) : Int64) = j_12
  refine lv_lstore (lv' := [(5, .long (j_12)), (7, .int ((4 : Int32))), (0, .ref x), (1, .long (a1)), (3, .long (a2))]) hx hb dc_X6_mixedAnswers_70 hl (by decide) rfl (fun ls hl => ?_)
  refine lv_lload_n hx hb dc_X6_mixedAnswers_72 rfl (lv_at hl 4 rfl) ?_
  refine ky_cS0 (As := [.long (a2)]) F (mt_X5_roundFrom l (a2)) ks_X6_142 ⟨⟨rfl, rfl⟩, by decide, by decide⟩ rfl hl.1 rfl (Nat.le_of_ble_eq_true rfl) ⟨Nat.le_of_ble_eq_true rfl, Nat.le_of_ble_eq_true rfl⟩ dc_X6_mixedAnswers_73 ?_
  generalize ((fn_X5_roundFrom (a2)) : Int64) = j_13
  refine lv_lstore (lv' := [(7, .long (j_13)), (5, .long (j_12)), (0, .ref x), (1, .long (a1)), (3, .long (a2))]) hx hb dc_X6_mixedAnswers_76 hl (by decide) rfl (fun ls hl => ?_)
  refine lv_lload hx hb dc_X6_mixedAnswers_78 (lv_at hl 1 rfl) ?_
  refine lv_lload hx hb dc_X6_mixedAnswers_80 (lv_at hl 0 rfl) ?_
  refine lv_iconst (v := 1) hx hb dc_X6_mixedAnswers_82 (by decide) ?_
  refine ky_cS0 (As := [.long (j_13), .int ((1 : Int32))]) F (mt_X6_halfOf l (j_13) ((1 : Int32))) ks_X6_147 ⟨⟨rfl, rfl⟩, by decide, by decide⟩ rfl hl.1 rfl (Nat.le_of_ble_eq_true rfl) ⟨Nat.le_of_ble_eq_true rfl, Nat.le_of_ble_eq_true rfl⟩ dc_X6_mixedAnswers_83 ?_
  refine lv_i2l (v := (fn_X6_halfOf (j_13) ((1 : Int32))).toInt64) hx hb dc_X6_mixedAnswers_86 rfl ?_
  refine ky_cS0 (As := [.long (j_12), .long ((fn_X6_halfOf (j_13) ((1 : Int32))).toInt64)]) F (mt_X6_mixed l (j_12) ((fn_X6_halfOf (j_13) ((1 : Int32))).toInt64)) ks_X6_199 ⟨⟨rfl, rfl⟩, by decide, by decide⟩ rfl hl.1 rfl (Nat.le_of_ble_eq_true rfl) ⟨Nat.le_of_ble_eq_true rfl, Nat.le_of_ble_eq_true rfl⟩ dc_X6_mixedAnswers_87 ?_
  generalize ((fn_X6_mixed (j_12) ((fn_X6_halfOf (j_13) ((1 : Int32))).toInt64)) : Int64) = j_14
  refine lv_lstore (lv' := [(5, .long (j_14)), (7, .long (j_13)), (0, .ref x), (1, .long (a1)), (3, .long (a2))]) hx hb dc_X6_mixedAnswers_90 hl (by decide) rfl (fun ls hl => ?_)
  refine lv_lload hx hb dc_X6_mixedAnswers_92 (lv_at hl 0 rfl) ?_
  refine lv_lload hx hb dc_X6_mixedAnswers_94 (lv_at hl 1 rfl) ?_
  refine lv_iconst (v := 0) hx hb dc_X6_mixedAnswers_96 (by decide) ?_
  refine ky_cS0 (As := [.long (j_13), .int ((0 : Int32))]) F (mt_X6_halfOf l (j_13) ((0 : Int32))) ks_X6_147 ⟨⟨rfl, rfl⟩, by decide, by decide⟩ rfl hl.1 rfl (Nat.le_of_ble_eq_true rfl) ⟨Nat.le_of_ble_eq_true rfl, Nat.le_of_ble_eq_true rfl⟩ dc_X6_mixedAnswers_97 ?_
  refine lv_i2l (v := (fn_X6_halfOf (j_13) ((0 : Int32))).toInt64) hx hb dc_X6_mixedAnswers_100 rfl ?_
  refine ky_cS0 (As := [.long (j_14), .long ((fn_X6_halfOf (j_13) ((0 : Int32))).toInt64)]) F (mt_X6_mixed l (j_14) ((fn_X6_halfOf (j_13) ((0 : Int32))).toInt64)) ks_X6_199 ⟨⟨rfl, rfl⟩, by decide, by decide⟩ rfl hl.1 rfl (Nat.le_of_ble_eq_true rfl) ⟨Nat.le_of_ble_eq_true rfl, Nat.le_of_ble_eq_true rfl⟩ dc_X6_mixedAnswers_101 ?_
  generalize ((fn_X6_mixed (j_14) ((fn_X6_halfOf (j_13) ((0 : Int32))).toInt64)) : Int64) = j_15
  refine lv_lstore (lv' := [(5, .long (j_15)), (7, .long (j_13)), (0, .ref x), (1, .long (a1)), (3, .long (a2))]) hx hb dc_X6_mixedAnswers_104 hl (by decide) rfl (fun ls hl => ?_)
  refine lv_lload hx hb dc_X6_mixedAnswers_106 (lv_at hl 0 rfl) ?_
  refine lv_aload_n hx hb dc_X6_mixedAnswers_108 rfl (lv_at hl 2 rfl) ?_
  refine va_get (D := G.1) (ci := 0) (v := .ref sc) (C := RX6) (T := TX6) (N := 6) hx hb hts ki_X6 hown hE.1 hP 0 rfl rfl 1 (by decide) (hts _ kw_1_99) (fun _ h9 => h9) rfl dc_X6_mixedAnswers_109 ?_
  refine lv_lload hx hb dc_X6_mixedAnswers_112 (lv_at hl 1 rfl) ?_
  refine ky_cVh (As := [.long (j_13)]) (wr := [(x, .inr (0, [.ref cs, .ref sc, .ref pf, .int (u.2.1), .int (u.2.2.1), .int (u.2.2.2)])), (cs, .inl (G.2.1 2, 6, .inr (.inl (u.1))))]) F (hE.at hfr hS) hfr (mt_X3_countWhole l G sc fg fc_10 b va_10 m_10 (ky_tl a2) f_10 ml_10 j_13 H.size hm_10 hf_10 hc_10 hn_10) kv_X6_213 ⟨⟨rfl, rfl⟩, Nat.le_of_ble_eq_true rfl, Nat.le_of_ble_eq_true rfl⟩ rfl hl.1 rfl (Nat.le_of_ble_eq_true rfl) ⟨Nat.le_of_ble_eq_true rfl, Nat.le_of_ble_eq_true rfl⟩ (va_recv hE.1 hP (ci := 1) (q0 := 2) rfl rfl) trivial hP hD hS hA [2, 3, 4, 5] [0, 1] rfl rfl (by decide) (by decide) (by decide) dc_X6_mixedAnswers_114 ?_
  rintro v9 ⟨va_16, m_16, f_16, ml_16, fc_16⟩ H locs ⟨rfl, hm_16, hn_16, hf_16, hc_16⟩ hP hD hS - hz hk9
  have hP : va_P G.1 kcl [(x, .inr (0, [.ref cs, .ref sc, .ref pf, .int (u.2.1), .int (u.2.2.1), .int (u.2.2.2)])), (cs, .inl (G.2.1 2, 6, .inr (.inl (u.1)))), (sc, .inr (1, [.ref b, .ref fg])), (fg, .inl (G.2.1 1, 19, .inl (fc_16))), (b, .inr (6, [.ref va_16, .int (0), .int (ml_16), .int (nI (0 + ky_szJ j_13))])), (va_16, .inl (G.2.1 0, m_16, .inl (f_16)))] H := hP
  have hD : va_D A [(x, .inr (0, [.ref cs, .ref sc, .ref pf, .int (u.2.1), .int (u.2.2.1), .int (u.2.2.2)])), (cs, .inl (G.2.1 2, 6, .inr (.inl (u.1)))), (sc, .inr (1, [.ref b, .ref fg])), (fg, .inl (G.2.1 1, 19, .inl (fc_16))), (b, .inr (6, [.ref va_16, .int (0), .int (ml_16), .int (nI (0 + ky_szJ j_13))])), (va_16, .inl (G.2.1 0, m_16, .inl (f_16)))] := hD
  refine W.widen (k := 2) (n := 68) (by first | exact Nat.le_refl _ | omega) (by first | exact Nat.le_refl _ | omega) ?_
  refine lv_i2l (v := (nI (0 + ky_szJ j_13)).toInt64) hx hb dc_X6_mixedAnswers_117 rfl ?_
  refine ky_cS0 (As := [.long (j_15), .long ((nI (0 + ky_szJ j_13)).toInt64)]) F (mt_X6_mixed l (j_15) ((nI (0 + ky_szJ j_13)).toInt64)) ks_X6_199 ⟨⟨rfl, rfl⟩, by decide, by decide⟩ rfl hl.1 rfl (Nat.le_of_ble_eq_true rfl) ⟨Nat.le_of_ble_eq_true rfl, Nat.le_of_ble_eq_true rfl⟩ dc_X6_mixedAnswers_118 ?_
  generalize ((fn_X6_mixed (j_15) ((nI (0 + ky_szJ j_13)).toInt64)) : Int64) = j_17
  refine lv_lstore (lv' := [(5, .long (j_17)), (7, .long (j_13)), (0, .ref x), (1, .long (a1)), (3, .long (a2))]) hx hb dc_X6_mixedAnswers_121 hl (by decide) rfl (fun ls hl => ?_)
  refine lv_lload hx hb dc_X6_mixedAnswers_123 (lv_at hl 0 rfl) ?_
  refine lv_aload_n hx hb dc_X6_mixedAnswers_125 rfl (lv_at hl 2 rfl) ?_
  refine va_get (D := G.1) (ci := 0) (v := .ref sc) (C := RX6) (T := TX6) (N := 6) hx hb hts ki_X6 hown hE.1 hP 0 rfl rfl 1 (by decide) (hts _ kw_1_99) (fun _ h9 => h9) rfl dc_X6_mixedAnswers_126 ?_
  refine lv_lload_n hx hb dc_X6_mixedAnswers_129 rfl (lv_at hl 4 rfl) ?_
  refine ky_cS0 (As := [.long (a2)]) F (mt_X5_cutFrom l (a2)) ks_X6_154 ⟨⟨rfl, rfl⟩, by decide, by decide⟩ rfl hl.1 rfl (Nat.le_of_ble_eq_true rfl) ⟨Nat.le_of_ble_eq_true rfl, Nat.le_of_ble_eq_true rfl⟩ dc_X6_mixedAnswers_130 ?_
  generalize ((fn_X5_cutFrom (a2)) : Int64) = j_18
  refine ky_cVh (As := [.long (j_18)]) (wr := [(x, .inr (0, [.ref cs, .ref sc, .ref pf, .int (u.2.1), .int (u.2.2.1), .int (u.2.2.2)])), (cs, .inl (G.2.1 2, 6, .inr (.inl (u.1))))]) F (hE.at hfr hS) hfr (mt_X3_countWhole l G sc fg fc_16 b va_16 m_16 (0 + ky_szJ j_13) f_16 ml_16 j_18 H.size hm_16 hf_16 hc_16 hn_16) kv_X6_213 ⟨⟨rfl, rfl⟩, Nat.le_of_ble_eq_true rfl, Nat.le_of_ble_eq_true rfl⟩ rfl hl.1 rfl (Nat.le_of_ble_eq_true rfl) ⟨Nat.le_of_ble_eq_true rfl, Nat.le_of_ble_eq_true rfl⟩ (va_recv hE.1 hP (ci := 1) (q0 := 2) rfl rfl) trivial hP hD hS hA [2, 3, 4, 5] [0, 1] rfl rfl (by decide) (by decide) (by decide) dc_X6_mixedAnswers_133 ?_
  rintro v9 ⟨va_19, m_19, f_19, ml_19, fc_19⟩ H locs ⟨rfl, hm_19, hn_19, hf_19, hc_19⟩ hP hD hS - hz hk9
  have hP : va_P G.1 kcl [(x, .inr (0, [.ref cs, .ref sc, .ref pf, .int (u.2.1), .int (u.2.2.1), .int (u.2.2.2)])), (cs, .inl (G.2.1 2, 6, .inr (.inl (u.1)))), (sc, .inr (1, [.ref b, .ref fg])), (fg, .inl (G.2.1 1, 19, .inl (fc_19))), (b, .inr (6, [.ref va_19, .int (0), .int (ml_19), .int (nI (0 + ky_szJ j_18))])), (va_19, .inl (G.2.1 0, m_19, .inl (f_19)))] H := hP
  have hD : va_D A [(x, .inr (0, [.ref cs, .ref sc, .ref pf, .int (u.2.1), .int (u.2.2.1), .int (u.2.2.2)])), (cs, .inl (G.2.1 2, 6, .inr (.inl (u.1)))), (sc, .inr (1, [.ref b, .ref fg])), (fg, .inl (G.2.1 1, 19, .inl (fc_19))), (b, .inr (6, [.ref va_19, .int (0), .int (ml_19), .int (nI (0 + ky_szJ j_18))])), (va_19, .inl (G.2.1 0, m_19, .inl (f_19)))] := hD
  refine W.widen (k := 3) (n := 102) (by first | exact Nat.le_refl _ | omega) (by first | exact Nat.le_refl _ | omega) ?_
  refine lv_i2l (v := (nI (0 + ky_szJ j_18)).toInt64) hx hb dc_X6_mixedAnswers_136 rfl ?_
  refine ky_cS0 (As := [.long (j_17), .long ((nI (0 + ky_szJ j_18)).toInt64)]) F (mt_X6_mixed l (j_17) ((nI (0 + ky_szJ j_18)).toInt64)) ks_X6_199 ⟨⟨rfl, rfl⟩, by decide, by decide⟩ rfl hl.1 rfl (Nat.le_of_ble_eq_true rfl) ⟨Nat.le_of_ble_eq_true rfl, Nat.le_of_ble_eq_true rfl⟩ dc_X6_mixedAnswers_137 ?_
  generalize ((fn_X6_mixed (j_17) ((nI (0 + ky_szJ j_18)).toInt64)) : Int64) = j_20
  refine lv_lstore (lv' := [(5, .long (j_20)), (7, .long (j_13)), (0, .ref x), (1, .long (a1)), (3, .long (a2))]) hx hb dc_X6_mixedAnswers_140 hl (by decide) rfl (fun ls hl => ?_)
  refine lv_lload hx hb dc_X6_mixedAnswers_142 (lv_at hl 0 rfl) ?_
  refine lv_lload_n hx hb dc_X6_mixedAnswers_144 rfl (lv_at hl 4 rfl) ?_
  refine ky_cS0 (As := [.long (a2)]) F (mt_X5_shortFrom l (a2)) ks_X6_157 ⟨⟨rfl, rfl⟩, by decide, by decide⟩ rfl hl.1 rfl (Nat.le_of_ble_eq_true rfl) ⟨Nat.le_of_ble_eq_true rfl, Nat.le_of_ble_eq_true rfl⟩ dc_X6_mixedAnswers_145 ?_
  refine lv_i2l (v := (fn_X5_shortFrom (a2)).toInt64) hx hb dc_X6_mixedAnswers_148 rfl ?_
  refine ky_cS0 (As := [.long (j_20), .long ((fn_X5_shortFrom (a2)).toInt64)]) F (mt_X6_mixed l (j_20) ((fn_X5_shortFrom (a2)).toInt64)) ks_X6_199 ⟨⟨rfl, rfl⟩, by decide, by decide⟩ rfl hl.1 rfl (Nat.le_of_ble_eq_true rfl) ⟨Nat.le_of_ble_eq_true rfl, Nat.le_of_ble_eq_true rfl⟩ dc_X6_mixedAnswers_149 ?_
  generalize ((fn_X6_mixed (j_20) ((fn_X5_shortFrom (a2)).toInt64)) : Int64) = j_21
  refine lv_lstore (lv' := [(5, .long (j_21)), (7, .long (j_13)), (0, .ref x), (1, .long (a1)), (3, .long (a2))]) hx hb dc_X6_mixedAnswers_152 hl (by decide) rfl (fun ls hl => ?_)
  refine lv_lload hx hb dc_X6_mixedAnswers_154 (lv_at hl 0 rfl) ?_
  refine lv_lload_n hx hb dc_X6_mixedAnswers_156 rfl (lv_at hl 4 rfl) ?_
  refine ky_cS0 (As := [.long (a2)]) F (mt_X6_signOf l (a2)) ks_X6_160 ⟨⟨rfl, rfl⟩, by decide, by decide⟩ rfl hl.1 rfl (Nat.le_of_ble_eq_true rfl) ⟨Nat.le_of_ble_eq_true rfl, Nat.le_of_ble_eq_true rfl⟩ dc_X6_mixedAnswers_157 ?_
  refine lv_i2l (v := (fn_X6_signOf (a2)).toInt64) hx hb dc_X6_mixedAnswers_160 rfl ?_
  refine ky_cS0 (As := [.long (j_21), .long ((fn_X6_signOf (a2)).toInt64)]) F (mt_X6_mixed l (j_21) ((fn_X6_signOf (a2)).toInt64)) ks_X6_199 ⟨⟨rfl, rfl⟩, by decide, by decide⟩ rfl hl.1 rfl (Nat.le_of_ble_eq_true rfl) ⟨Nat.le_of_ble_eq_true rfl, Nat.le_of_ble_eq_true rfl⟩ dc_X6_mixedAnswers_161 ?_
  generalize ((fn_X6_mixed (j_21) ((fn_X6_signOf (a2)).toInt64)) : Int64) = j_22
  refine lv_lstore (lv' := [(5, .long (j_22)), (7, .long (j_13)), (0, .ref x), (1, .long (a1)), (3, .long (a2))]) hx hb dc_X6_mixedAnswers_164 hl (by decide) rfl (fun ls hl => ?_)
  refine lv_lload hx hb dc_X6_mixedAnswers_166 (lv_at hl 0 rfl) ?_
  refine lv_aload_n hx hb dc_X6_mixedAnswers_168 rfl (lv_at hl 2 rfl) ?_
  refine lv_lload_n hx hb dc_X6_mixedAnswers_169 rfl (lv_at hl 4 rfl) ?_
  refine ky_cVh (As := [.long (a2)]) (wr := [(sc, .inr (1, [.ref b, .ref fg])), (fg, .inl (G.2.1 1, 19, .inl (fc_19))), (b, .inr (6, [.ref va_19, .int (0), .int (ml_19), .int (nI (0 + ky_szJ j_18))])), (va_19, .inl (G.2.1 0, m_19, .inl (f_19)))]) F (hE.at hfr hS) hfr (mt_X6_placeOfJ l G (x) (cs) (sc) (pf) (u) (a2) H.size ) kv_X6_176 ⟨⟨rfl, rfl⟩, by decide, by decide⟩ rfl hl.1 rfl (Nat.le_of_ble_eq_true rfl) ⟨Nat.le_of_ble_eq_true rfl, Nat.le_of_ble_eq_true rfl⟩ (va_recv hE.1 hP (ci := 0) (q0 := 0) rfl rfl) trivial hP hD hS hA [0, 1] [2, 3, 4, 5] rfl rfl (by decide) (by decide) (by decide) dc_X6_mixedAnswers_170 ?_
  rintro v9 u9 H locs ⟨rfl, hu9⟩ hP hD hS - hz hk9
  have hu9 := hu9.symm
  subst hu9
  have hP : va_P G.1 kcl [(sc, .inr (1, [.ref b, .ref fg])), (fg, .inl (G.2.1 1, 19, .inl (fc_19))), (b, .inr (6, [.ref va_19, .int (0), .int (ml_19), .int (nI (0 + ky_szJ j_18))])), (va_19, .inl (G.2.1 0, m_19, .inl (f_19))), (x, .inr (0, [.ref cs, .ref sc, .ref pf, .int (u.2.1), .int (u.2.2.1), .int (u.2.2.2)])), (cs, .inl (G.2.1 2, 6, .inr (.inl (u.1))))] H := hP
  have hD : va_D A [(sc, .inr (1, [.ref b, .ref fg])), (fg, .inl (G.2.1 1, 19, .inl (fc_19))), (b, .inr (6, [.ref va_19, .int (0), .int (ml_19), .int (nI (0 + ky_szJ j_18))])), (va_19, .inl (G.2.1 0, m_19, .inl (f_19))), (x, .inr (0, [.ref cs, .ref sc, .ref pf, .int (u.2.1), .int (u.2.2.1), .int (u.2.2.2)])), (cs, .inl (G.2.1 2, 6, .inr (.inl (u.1))))] := hD
  refine W.widen (k := 3) (n := 102) (Nat.le_refl _) (Nat.le_refl _) ?_
  refine lv_i2l (v := ((fn_X6_placeOf (a2) u).1).toInt64) hx hb dc_X6_mixedAnswers_173 rfl ?_
  refine ky_cS0 (As := [.long (j_22), .long (((fn_X6_placeOf (a2) u).1).toInt64)]) F (mt_X6_mixed l (j_22) (((fn_X6_placeOf (a2) u).1).toInt64)) ks_X6_199 ⟨⟨rfl, rfl⟩, by decide, by decide⟩ rfl hl.1 rfl (Nat.le_of_ble_eq_true rfl) ⟨Nat.le_of_ble_eq_true rfl, Nat.le_of_ble_eq_true rfl⟩ dc_X6_mixedAnswers_174 ?_
  generalize ((fn_X6_mixed (j_22) (((fn_X6_placeOf (a2) u).1).toInt64)) : Int64) = j_24
  have hP9 := hP.sub (ws' := [(x, .inr (0, [.ref cs, .ref sc, .ref pf, .int (u.2.1), .int (u.2.2.1), .int (u.2.2.2)])), (cs, .inl (G.2.1 2, 6, .inr (.inl (u.1)))), (sc, .inr (1, [.ref b, .ref fg])), (fg, .inl (G.2.1 1, 19, .inl (fc_19))), (b, .inr (6, [.ref va_19, .int (0), .int (ml_19), .int (nI (0 + ky_szJ j_18))])), (va_19, .inl (G.2.1 0, m_19, .inl (f_19)))]) [4, 5, 0, 1, 2, 3] rfl
  have hD9 := hD.sub (ws' := [(x, .inr (0, [.ref cs, .ref sc, .ref pf, .int (u.2.1), .int (u.2.2.1), .int (u.2.2.2)])), (cs, .inl (G.2.1 2, 6, .inr (.inl (u.1)))), (sc, .inr (1, [.ref b, .ref fg])), (fg, .inl (G.2.1 1, 19, .inl (fc_19))), (b, .inr (6, [.ref va_19, .int (0), .int (ml_19), .int (nI (0 + ky_szJ j_18))])), (va_19, .inl (G.2.1 0, m_19, .inl (f_19)))]) [4, 5, 0, 1, 2, 3] (by decide) rfl
  refine W.widen (k := 3) (n := 102) (Nat.le_of_ble_eq_true rfl) (Nat.le_of_ble_eq_true rfl) ?_
  exact W.lret (v := j_24) hx hb hr (fun t ht hW => ⟨⟨_, (va_19, m_19, 0 + ky_szJ j_18, f_19, ml_19, fc_19), rfl, ⟨⟨_, rfl⟩, ⟨hm_19, hn_19, hf_19, hc_19⟩⟩, by rw [ht]; exact hP9, hD9, trivial⟩, hS.F ht⟩) hS.2.2 dc_X6_mixedAnswers_177
set_option linter.constructorNameAsVariable false in
set_option maxHeartbeats 4000000 in
set_option maxRecDepth 100000 in
theorem mt_X6_mixedTexts (l : Launch) (G : ky_G) (x : Nat) (cs : Nat) (sc : Nat) (pf : Nat) (u : ky_BS) (fg : Nat) (b : Nat) (t9 : ky_SV) (a1 : Int64) (a2 : Int64) (sz : Nat) (ht : ky_sok t9) : Met l my_X6_mixedTexts (.code my_X6_mixedTexts prog_1_method_57_code 7 (some .long) :: ky_B) { frames := 10, cells := 6, slots := 204, locals := 223 } (ky_P G [.ref x, .long (a1), .long (a2)] (ky_WB G x cs sc pf u ++ ky_WS G sc fg b t9) sz (fun _ => True)) (ky_Q (S := ky_SV) G (va_A (ky_WB G x cs sc pf u ++ ky_WS G sc fg b t9) sz) (fun v w => (∃ z : Int64, v = some (.long z)) ∧ ky_sok w) (fun w => ky_WB G x cs sc pf u ++ ky_WS G sc fg b w) (fun _ _ => True)) (6) (204) (va_A (ky_WB G x cs sc pf u ++ ky_WS G sc fg b t9) sz) := by
  refine ky_start (by decide) (Nat.le_of_ble_eq_true rfl) (fun p e s m below meth c F hE A hAe hsz hA hfr hP hD hS hX ls hl => ?_)
  obtain ⟨hx, hb, hml, hown, hr, hlocks, hts⟩ := id F
  have hl : lv_has ls 7 [(0, .ref x), (1, .long (a1)), (3, .long (a2))] := hl
  have hP : va_P G.1 kcl [(x, .inr (0, [.ref cs, .ref sc, .ref pf, .int (u.2.1), .int (u.2.2.1), .int (u.2.2.2)])), (cs, .inl (G.2.1 2, 6, .inr (.inl (u.1)))), (sc, .inr (1, [.ref b, .ref fg])), (fg, .inl (G.2.1 1, 19, .inl (t9.2.2.2.2.2))), (b, .inr (6, [.ref t9.1, .int (0), .int (t9.2.2.2.2.1), .int (nI (t9.2.2.1))])), (t9.1, .inl (G.2.1 0, t9.2.1, .inl (t9.2.2.2.1)))] s.heap := hP
  have hD : va_D A [(x, .inr (0, [.ref cs, .ref sc, .ref pf, .int (u.2.1), .int (u.2.2.1), .int (u.2.2.2)])), (cs, .inl (G.2.1 2, 6, .inr (.inl (u.1)))), (sc, .inr (1, [.ref b, .ref fg])), (fg, .inl (G.2.1 1, 19, .inl (t9.2.2.2.2.2))), (b, .inr (6, [.ref t9.1, .int (0), .int (t9.2.2.2.2.1), .int (nI (t9.2.2.1))])), (t9.1, .inl (G.2.1 0, t9.2.1, .inl (t9.2.2.2.1)))] := hD
  refine lv_lload_n hx hb dc_X6_mixedTexts_0 rfl (lv_at hl 1 rfl) ?_
  refine lv_aload_n hx hb dc_X6_mixedTexts_1 rfl (lv_at hl 0 rfl) ?_
  refine va_get (D := G.1) (ci := 0) (v := .ref sc) (C := RX6) (T := TX6) (N := 6) hx hb hts ki_X6 hown hE.1 hP 0 rfl rfl 1 (by decide) (hts _ kw_1_99) (fun _ h9 => h9) rfl dc_X6_mixedTexts_2 ?_
  refine lv_lload_n hx hb dc_X6_mixedTexts_5 rfl (lv_at hl 2 rfl) ?_
  refine ky_cS0 (As := [.long (a2)]) F (mt_X4_floorFrom l (a2)) ks_X6_85 ⟨⟨rfl, rfl⟩, by decide, by decide⟩ rfl hl.1 rfl (Nat.le_of_ble_eq_true rfl) ⟨Nat.le_of_ble_eq_true rfl, Nat.le_of_ble_eq_true rfl⟩ dc_X6_mixedTexts_6 ?_
  generalize ((fn_X4_floorFrom (a2)) : Int64) = j_0
  refine ky_cVh (As := [.long (j_0)]) (wr := [(x, .inr (0, [.ref cs, .ref sc, .ref pf, .int (u.2.1), .int (u.2.2.1), .int (u.2.2.2)])), (cs, .inl (G.2.1 2, 6, .inr (.inl (u.1))))]) F (hE.at hfr hS) hfr (mt_X3_countNumber l G sc fg t9.2.2.2.2.2 b t9.1 t9.2.1 t9.2.2.1 t9.2.2.2.1 t9.2.2.2.2.1 j_0 s.heap.size ht.1 ht.2.2.1 ht.2.2.2 ht.2.1) kv_X6_208 ⟨⟨rfl, rfl⟩, Nat.le_of_ble_eq_true rfl, Nat.le_of_ble_eq_true rfl⟩ rfl hl.1 rfl (Nat.le_of_ble_eq_true rfl) ⟨Nat.le_of_ble_eq_true rfl, Nat.le_of_ble_eq_true rfl⟩ (va_recv hE.1 hP (ci := 1) (q0 := 2) rfl rfl) trivial hP hD hS hA [2, 3, 4, 5] [0, 1] rfl rfl (by decide) (by decide) (by decide) dc_X6_mixedTexts_9 ?_
  rintro v9 ⟨va_1, m_1, f_1, ml_1, fc_1⟩ H locs ⟨rfl, hm_1, hn_1, hf_1, hc_1⟩ hP hD hS - hz hk9
  have hP : va_P G.1 kcl [(x, .inr (0, [.ref cs, .ref sc, .ref pf, .int (u.2.1), .int (u.2.2.1), .int (u.2.2.2)])), (cs, .inl (G.2.1 2, 6, .inr (.inl (u.1)))), (sc, .inr (1, [.ref b, .ref fg])), (fg, .inl (G.2.1 1, 19, .inl (fc_1))), (b, .inr (6, [.ref va_1, .int (0), .int (ml_1), .int (nI (ky_tl j_0))])), (va_1, .inl (G.2.1 0, m_1, .inl (f_1)))] H := hP
  have hD : va_D A [(x, .inr (0, [.ref cs, .ref sc, .ref pf, .int (u.2.1), .int (u.2.2.1), .int (u.2.2.2)])), (cs, .inl (G.2.1 2, 6, .inr (.inl (u.1)))), (sc, .inr (1, [.ref b, .ref fg])), (fg, .inl (G.2.1 1, 19, .inl (fc_1))), (b, .inr (6, [.ref va_1, .int (0), .int (ml_1), .int (nI (ky_tl j_0))])), (va_1, .inl (G.2.1 0, m_1, .inl (f_1)))] := hD
  refine W.widen (k := 1) (n := 34) (by first | exact Nat.le_refl _ | omega) (by first | exact Nat.le_refl _ | omega) ?_
  refine lv_i2l (v := (nI (ky_tl j_0)).toInt64) hx hb dc_X6_mixedTexts_12 rfl ?_
  refine ky_cS0 (As := [.long (a1), .long ((nI (ky_tl j_0)).toInt64)]) F (mt_X6_mixed l (a1) ((nI (ky_tl j_0)).toInt64)) ks_X6_199 ⟨⟨rfl, rfl⟩, by decide, by decide⟩ rfl hl.1 rfl (Nat.le_of_ble_eq_true rfl) ⟨Nat.le_of_ble_eq_true rfl, Nat.le_of_ble_eq_true rfl⟩ dc_X6_mixedTexts_13 ?_
  generalize ((fn_X6_mixed (a1) ((nI (ky_tl j_0)).toInt64)) : Int64) = j_2
  refine lv_lstore (lv' := [(5, .long (j_2)), (0, .ref x), (1, .long (a1)), (3, .long (a2))]) hx hb dc_X6_mixedTexts_16 hl (by decide) rfl (fun ls hl => ?_)
  refine lv_lload hx hb dc_X6_mixedTexts_18 (lv_at hl 0 rfl) ?_
  refine lv_aload_n hx hb dc_X6_mixedTexts_20 rfl (lv_at hl 1 rfl) ?_
  refine va_get (D := G.1) (ci := 0) (v := .ref sc) (C := RX6) (T := TX6) (N := 6) hx hb hts ki_X6 hown hE.1 hP 0 rfl rfl 1 (by decide) (hts _ kw_1_99) (fun _ h9 => h9) rfl dc_X6_mixedTexts_21 ?_
  refine lv_lload_n hx hb dc_X6_mixedTexts_24 rfl (lv_at hl 3 rfl) ?_
  refine ky_cS0 (As := [.long (a2)]) F (mt_X4_ceilFrom l (a2)) ks_X6_90 ⟨⟨rfl, rfl⟩, by decide, by decide⟩ rfl hl.1 rfl (Nat.le_of_ble_eq_true rfl) ⟨Nat.le_of_ble_eq_true rfl, Nat.le_of_ble_eq_true rfl⟩ dc_X6_mixedTexts_25 ?_
  generalize ((fn_X4_ceilFrom (a2)) : Int64) = j_3
  refine ky_cVh (As := [.long (j_3)]) (wr := [(x, .inr (0, [.ref cs, .ref sc, .ref pf, .int (u.2.1), .int (u.2.2.1), .int (u.2.2.2)])), (cs, .inl (G.2.1 2, 6, .inr (.inl (u.1))))]) F (hE.at hfr hS) hfr (mt_X3_countNumber l G sc fg fc_1 b va_1 m_1 (ky_tl j_0) f_1 ml_1 j_3 H.size hm_1 hf_1 hc_1 hn_1) kv_X6_208 ⟨⟨rfl, rfl⟩, Nat.le_of_ble_eq_true rfl, Nat.le_of_ble_eq_true rfl⟩ rfl hl.1 rfl (Nat.le_of_ble_eq_true rfl) ⟨Nat.le_of_ble_eq_true rfl, Nat.le_of_ble_eq_true rfl⟩ (va_recv hE.1 hP (ci := 1) (q0 := 2) rfl rfl) trivial hP hD hS hA [2, 3, 4, 5] [0, 1] rfl rfl (by decide) (by decide) (by decide) dc_X6_mixedTexts_28 ?_
  rintro v9 ⟨va_4, m_4, f_4, ml_4, fc_4⟩ H locs ⟨rfl, hm_4, hn_4, hf_4, hc_4⟩ hP hD hS - hz hk9
  have hP : va_P G.1 kcl [(x, .inr (0, [.ref cs, .ref sc, .ref pf, .int (u.2.1), .int (u.2.2.1), .int (u.2.2.2)])), (cs, .inl (G.2.1 2, 6, .inr (.inl (u.1)))), (sc, .inr (1, [.ref b, .ref fg])), (fg, .inl (G.2.1 1, 19, .inl (fc_4))), (b, .inr (6, [.ref va_4, .int (0), .int (ml_4), .int (nI (ky_tl j_3))])), (va_4, .inl (G.2.1 0, m_4, .inl (f_4)))] H := hP
  have hD : va_D A [(x, .inr (0, [.ref cs, .ref sc, .ref pf, .int (u.2.1), .int (u.2.2.1), .int (u.2.2.2)])), (cs, .inl (G.2.1 2, 6, .inr (.inl (u.1)))), (sc, .inr (1, [.ref b, .ref fg])), (fg, .inl (G.2.1 1, 19, .inl (fc_4))), (b, .inr (6, [.ref va_4, .int (0), .int (ml_4), .int (nI (ky_tl j_3))])), (va_4, .inl (G.2.1 0, m_4, .inl (f_4)))] := hD
  refine W.widen (k := 2) (n := 68) (by first | exact Nat.le_refl _ | omega) (by first | exact Nat.le_refl _ | omega) ?_
  refine lv_i2l (v := (nI (ky_tl j_3)).toInt64) hx hb dc_X6_mixedTexts_31 rfl ?_
  refine ky_cS0 (As := [.long (j_2), .long ((nI (ky_tl j_3)).toInt64)]) F (mt_X6_mixed l (j_2) ((nI (ky_tl j_3)).toInt64)) ks_X6_199 ⟨⟨rfl, rfl⟩, by decide, by decide⟩ rfl hl.1 rfl (Nat.le_of_ble_eq_true rfl) ⟨Nat.le_of_ble_eq_true rfl, Nat.le_of_ble_eq_true rfl⟩ dc_X6_mixedTexts_32 ?_
  generalize ((fn_X6_mixed (j_2) ((nI (ky_tl j_3)).toInt64)) : Int64) = j_5
  refine lv_lstore (lv' := [(5, .long (j_5)), (0, .ref x), (1, .long (a1)), (3, .long (a2))]) hx hb dc_X6_mixedTexts_35 hl (by decide) rfl (fun ls hl => ?_)
  refine lv_lload hx hb dc_X6_mixedTexts_37 (lv_at hl 0 rfl) ?_
  refine lv_aload_n hx hb dc_X6_mixedTexts_39 rfl (lv_at hl 1 rfl) ?_
  refine va_get (D := G.1) (ci := 0) (v := .ref sc) (C := RX6) (T := TX6) (N := 6) hx hb hts ki_X6 hown hE.1 hP 0 rfl rfl 1 (by decide) (hts _ kw_1_99) (fun _ h9 => h9) rfl dc_X6_mixedTexts_40 ?_
  refine lv_lload_n hx hb dc_X6_mixedTexts_43 rfl (lv_at hl 3 rfl) ?_
  refine ky_cS0 (As := [.long (a2)]) F (mt_X4_rintFrom l (a2)) ks_X6_93 ⟨⟨rfl, rfl⟩, by decide, by decide⟩ rfl hl.1 rfl (Nat.le_of_ble_eq_true rfl) ⟨Nat.le_of_ble_eq_true rfl, Nat.le_of_ble_eq_true rfl⟩ dc_X6_mixedTexts_44 ?_
  generalize ((fn_X4_rintFrom (a2)) : Int64) = j_6
  refine ky_cVh (As := [.long (j_6)]) (wr := [(x, .inr (0, [.ref cs, .ref sc, .ref pf, .int (u.2.1), .int (u.2.2.1), .int (u.2.2.2)])), (cs, .inl (G.2.1 2, 6, .inr (.inl (u.1))))]) F (hE.at hfr hS) hfr (mt_X3_countNumber l G sc fg fc_4 b va_4 m_4 (ky_tl j_3) f_4 ml_4 j_6 H.size hm_4 hf_4 hc_4 hn_4) kv_X6_208 ⟨⟨rfl, rfl⟩, Nat.le_of_ble_eq_true rfl, Nat.le_of_ble_eq_true rfl⟩ rfl hl.1 rfl (Nat.le_of_ble_eq_true rfl) ⟨Nat.le_of_ble_eq_true rfl, Nat.le_of_ble_eq_true rfl⟩ (va_recv hE.1 hP (ci := 1) (q0 := 2) rfl rfl) trivial hP hD hS hA [2, 3, 4, 5] [0, 1] rfl rfl (by decide) (by decide) (by decide) dc_X6_mixedTexts_47 ?_
  rintro v9 ⟨va_7, m_7, f_7, ml_7, fc_7⟩ H locs ⟨rfl, hm_7, hn_7, hf_7, hc_7⟩ hP hD hS - hz hk9
  have hP : va_P G.1 kcl [(x, .inr (0, [.ref cs, .ref sc, .ref pf, .int (u.2.1), .int (u.2.2.1), .int (u.2.2.2)])), (cs, .inl (G.2.1 2, 6, .inr (.inl (u.1)))), (sc, .inr (1, [.ref b, .ref fg])), (fg, .inl (G.2.1 1, 19, .inl (fc_7))), (b, .inr (6, [.ref va_7, .int (0), .int (ml_7), .int (nI (ky_tl j_6))])), (va_7, .inl (G.2.1 0, m_7, .inl (f_7)))] H := hP
  have hD : va_D A [(x, .inr (0, [.ref cs, .ref sc, .ref pf, .int (u.2.1), .int (u.2.2.1), .int (u.2.2.2)])), (cs, .inl (G.2.1 2, 6, .inr (.inl (u.1)))), (sc, .inr (1, [.ref b, .ref fg])), (fg, .inl (G.2.1 1, 19, .inl (fc_7))), (b, .inr (6, [.ref va_7, .int (0), .int (ml_7), .int (nI (ky_tl j_6))])), (va_7, .inl (G.2.1 0, m_7, .inl (f_7)))] := hD
  refine W.widen (k := 3) (n := 102) (by first | exact Nat.le_refl _ | omega) (by first | exact Nat.le_refl _ | omega) ?_
  refine lv_i2l (v := (nI (ky_tl j_6)).toInt64) hx hb dc_X6_mixedTexts_50 rfl ?_
  refine ky_cS0 (As := [.long (j_5), .long ((nI (ky_tl j_6)).toInt64)]) F (mt_X6_mixed l (j_5) ((nI (ky_tl j_6)).toInt64)) ks_X6_199 ⟨⟨rfl, rfl⟩, by decide, by decide⟩ rfl hl.1 rfl (Nat.le_of_ble_eq_true rfl) ⟨Nat.le_of_ble_eq_true rfl, Nat.le_of_ble_eq_true rfl⟩ dc_X6_mixedTexts_51 ?_
  generalize ((fn_X6_mixed (j_5) ((nI (ky_tl j_6)).toInt64)) : Int64) = j_8
  refine lv_lstore (lv' := [(5, .long (j_8)), (0, .ref x), (1, .long (a1)), (3, .long (a2))]) hx hb dc_X6_mixedTexts_54 hl (by decide) rfl (fun ls hl => ?_)
  refine lv_lload hx hb dc_X6_mixedTexts_56 (lv_at hl 0 rfl) ?_
  refine lv_aload_n hx hb dc_X6_mixedTexts_58 rfl (lv_at hl 1 rfl) ?_
  refine va_get (D := G.1) (ci := 0) (v := .ref sc) (C := RX6) (T := TX6) (N := 6) hx hb hts ki_X6 hown hE.1 hP 0 rfl rfl 1 (by decide) (hts _ kw_1_99) (fun _ h9 => h9) rfl dc_X6_mixedTexts_59 ?_
  refine lv_lload_n hx hb dc_X6_mixedTexts_62 rfl (lv_at hl 3 rfl) ?_
  refine ky_cS0 (As := [.long (a2)]) F (mt_X4_stepFrom l (a2)) ks_X6_111 ⟨⟨rfl, rfl⟩, by decide, by decide⟩ rfl hl.1 rfl (Nat.le_of_ble_eq_true rfl) ⟨Nat.le_of_ble_eq_true rfl, Nat.le_of_ble_eq_true rfl⟩ dc_X6_mixedTexts_63 ?_
  generalize ((fn_X4_stepFrom (a2)) : Int64) = j_9
  refine ky_cVh (As := [.long (j_9)]) (wr := [(x, .inr (0, [.ref cs, .ref sc, .ref pf, .int (u.2.1), .int (u.2.2.1), .int (u.2.2.2)])), (cs, .inl (G.2.1 2, 6, .inr (.inl (u.1))))]) F (hE.at hfr hS) hfr (mt_X3_countNumber l G sc fg fc_7 b va_7 m_7 (ky_tl j_6) f_7 ml_7 j_9 H.size hm_7 hf_7 hc_7 hn_7) kv_X6_208 ⟨⟨rfl, rfl⟩, Nat.le_of_ble_eq_true rfl, Nat.le_of_ble_eq_true rfl⟩ rfl hl.1 rfl (Nat.le_of_ble_eq_true rfl) ⟨Nat.le_of_ble_eq_true rfl, Nat.le_of_ble_eq_true rfl⟩ (va_recv hE.1 hP (ci := 1) (q0 := 2) rfl rfl) trivial hP hD hS hA [2, 3, 4, 5] [0, 1] rfl rfl (by decide) (by decide) (by decide) dc_X6_mixedTexts_66 ?_
  rintro v9 ⟨va_10, m_10, f_10, ml_10, fc_10⟩ H locs ⟨rfl, hm_10, hn_10, hf_10, hc_10⟩ hP hD hS - hz hk9
  have hP : va_P G.1 kcl [(x, .inr (0, [.ref cs, .ref sc, .ref pf, .int (u.2.1), .int (u.2.2.1), .int (u.2.2.2)])), (cs, .inl (G.2.1 2, 6, .inr (.inl (u.1)))), (sc, .inr (1, [.ref b, .ref fg])), (fg, .inl (G.2.1 1, 19, .inl (fc_10))), (b, .inr (6, [.ref va_10, .int (0), .int (ml_10), .int (nI (ky_tl j_9))])), (va_10, .inl (G.2.1 0, m_10, .inl (f_10)))] H := hP
  have hD : va_D A [(x, .inr (0, [.ref cs, .ref sc, .ref pf, .int (u.2.1), .int (u.2.2.1), .int (u.2.2.2)])), (cs, .inl (G.2.1 2, 6, .inr (.inl (u.1)))), (sc, .inr (1, [.ref b, .ref fg])), (fg, .inl (G.2.1 1, 19, .inl (fc_10))), (b, .inr (6, [.ref va_10, .int (0), .int (ml_10), .int (nI (ky_tl j_9))])), (va_10, .inl (G.2.1 0, m_10, .inl (f_10)))] := hD
  refine W.widen (k := 4) (n := 136) (by first | exact Nat.le_refl _ | omega) (by first | exact Nat.le_refl _ | omega) ?_
  refine lv_i2l (v := (nI (ky_tl j_9)).toInt64) hx hb dc_X6_mixedTexts_69 rfl ?_
  refine ky_cS0 (As := [.long (j_8), .long ((nI (ky_tl j_9)).toInt64)]) F (mt_X6_mixed l (j_8) ((nI (ky_tl j_9)).toInt64)) ks_X6_199 ⟨⟨rfl, rfl⟩, by decide, by decide⟩ rfl hl.1 rfl (Nat.le_of_ble_eq_true rfl) ⟨Nat.le_of_ble_eq_true rfl, Nat.le_of_ble_eq_true rfl⟩ dc_X6_mixedTexts_70 ?_
  generalize ((fn_X6_mixed (j_8) ((nI (ky_tl j_9)).toInt64)) : Int64) = j_11
  refine lv_lstore (lv' := [(5, .long (j_11)), (0, .ref x), (1, .long (a1)), (3, .long (a2))]) hx hb dc_X6_mixedTexts_73 hl (by decide) rfl (fun ls hl => ?_)
  refine lv_lload hx hb dc_X6_mixedTexts_75 (lv_at hl 0 rfl) ?_
  refine lv_aload_n hx hb dc_X6_mixedTexts_77 rfl (lv_at hl 1 rfl) ?_
  refine va_get (D := G.1) (ci := 0) (v := .ref sc) (C := RX6) (T := TX6) (N := 6) hx hb hts ki_X6 hown hE.1 hP 0 rfl rfl 1 (by decide) (hts _ kw_1_99) (fun _ h9 => h9) rfl dc_X6_mixedTexts_78 ?_
  refine lv_lload_n hx hb dc_X6_mixedTexts_81 rfl (lv_at hl 3 rfl) ?_
  refine ky_cS0 (As := [.long (a2)]) F (mt_X4_upFrom l (a2)) ks_X6_105 ⟨⟨rfl, rfl⟩, by decide, by decide⟩ rfl hl.1 rfl (Nat.le_of_ble_eq_true rfl) ⟨Nat.le_of_ble_eq_true rfl, Nat.le_of_ble_eq_true rfl⟩ dc_X6_mixedTexts_82 ?_
  generalize ((fn_X4_upFrom (a2)) : Int64) = j_12
  refine ky_cVh (As := [.long (j_12)]) (wr := [(x, .inr (0, [.ref cs, .ref sc, .ref pf, .int (u.2.1), .int (u.2.2.1), .int (u.2.2.2)])), (cs, .inl (G.2.1 2, 6, .inr (.inl (u.1))))]) F (hE.at hfr hS) hfr (mt_X3_countNumber l G sc fg fc_10 b va_10 m_10 (ky_tl j_9) f_10 ml_10 j_12 H.size hm_10 hf_10 hc_10 hn_10) kv_X6_208 ⟨⟨rfl, rfl⟩, Nat.le_of_ble_eq_true rfl, Nat.le_of_ble_eq_true rfl⟩ rfl hl.1 rfl (Nat.le_of_ble_eq_true rfl) ⟨Nat.le_of_ble_eq_true rfl, Nat.le_of_ble_eq_true rfl⟩ (va_recv hE.1 hP (ci := 1) (q0 := 2) rfl rfl) trivial hP hD hS hA [2, 3, 4, 5] [0, 1] rfl rfl (by decide) (by decide) (by decide) dc_X6_mixedTexts_85 ?_
  rintro v9 ⟨va_13, m_13, f_13, ml_13, fc_13⟩ H locs ⟨rfl, hm_13, hn_13, hf_13, hc_13⟩ hP hD hS - hz hk9
  have hP : va_P G.1 kcl [(x, .inr (0, [.ref cs, .ref sc, .ref pf, .int (u.2.1), .int (u.2.2.1), .int (u.2.2.2)])), (cs, .inl (G.2.1 2, 6, .inr (.inl (u.1)))), (sc, .inr (1, [.ref b, .ref fg])), (fg, .inl (G.2.1 1, 19, .inl (fc_13))), (b, .inr (6, [.ref va_13, .int (0), .int (ml_13), .int (nI (ky_tl j_12))])), (va_13, .inl (G.2.1 0, m_13, .inl (f_13)))] H := hP
  have hD : va_D A [(x, .inr (0, [.ref cs, .ref sc, .ref pf, .int (u.2.1), .int (u.2.2.1), .int (u.2.2.2)])), (cs, .inl (G.2.1 2, 6, .inr (.inl (u.1)))), (sc, .inr (1, [.ref b, .ref fg])), (fg, .inl (G.2.1 1, 19, .inl (fc_13))), (b, .inr (6, [.ref va_13, .int (0), .int (ml_13), .int (nI (ky_tl j_12))])), (va_13, .inl (G.2.1 0, m_13, .inl (f_13)))] := hD
  refine W.widen (k := 5) (n := 170) (by first | exact Nat.le_refl _ | omega) (by first | exact Nat.le_refl _ | omega) ?_
  refine lv_i2l (v := (nI (ky_tl j_12)).toInt64) hx hb dc_X6_mixedTexts_88 rfl ?_
  refine ky_cS0 (As := [.long (j_11), .long ((nI (ky_tl j_12)).toInt64)]) F (mt_X6_mixed l (j_11) ((nI (ky_tl j_12)).toInt64)) ks_X6_199 ⟨⟨rfl, rfl⟩, by decide, by decide⟩ rfl hl.1 rfl (Nat.le_of_ble_eq_true rfl) ⟨Nat.le_of_ble_eq_true rfl, Nat.le_of_ble_eq_true rfl⟩ dc_X6_mixedTexts_89 ?_
  generalize ((fn_X6_mixed (j_11) ((nI (ky_tl j_12)).toInt64)) : Int64) = j_14
  refine lv_lstore (lv' := [(5, .long (j_14)), (0, .ref x), (1, .long (a1)), (3, .long (a2))]) hx hb dc_X6_mixedTexts_92 hl (by decide) rfl (fun ls hl => ?_)
  refine lv_lload hx hb dc_X6_mixedTexts_94 (lv_at hl 0 rfl) ?_
  refine lv_aload_n hx hb dc_X6_mixedTexts_96 rfl (lv_at hl 1 rfl) ?_
  refine va_get (D := G.1) (ci := 0) (v := .ref sc) (C := RX6) (T := TX6) (N := 6) hx hb hts ki_X6 hown hE.1 hP 0 rfl rfl 1 (by decide) (hts _ kw_1_99) (fun _ h9 => h9) rfl dc_X6_mixedTexts_97 ?_
  refine lv_lload_n hx hb dc_X6_mixedTexts_100 rfl (lv_at hl 3 rfl) ?_
  refine ky_cS0 (As := [.long (a2)]) F (mt_X4_downFrom l (a2)) ks_X6_108 ⟨⟨rfl, rfl⟩, by decide, by decide⟩ rfl hl.1 rfl (Nat.le_of_ble_eq_true rfl) ⟨Nat.le_of_ble_eq_true rfl, Nat.le_of_ble_eq_true rfl⟩ dc_X6_mixedTexts_101 ?_
  generalize ((fn_X4_downFrom (a2)) : Int64) = j_15
  refine ky_cVh (As := [.long (j_15)]) (wr := [(x, .inr (0, [.ref cs, .ref sc, .ref pf, .int (u.2.1), .int (u.2.2.1), .int (u.2.2.2)])), (cs, .inl (G.2.1 2, 6, .inr (.inl (u.1))))]) F (hE.at hfr hS) hfr (mt_X3_countNumber l G sc fg fc_13 b va_13 m_13 (ky_tl j_12) f_13 ml_13 j_15 H.size hm_13 hf_13 hc_13 hn_13) kv_X6_208 ⟨⟨rfl, rfl⟩, Nat.le_of_ble_eq_true rfl, Nat.le_of_ble_eq_true rfl⟩ rfl hl.1 rfl (Nat.le_of_ble_eq_true rfl) ⟨Nat.le_of_ble_eq_true rfl, Nat.le_of_ble_eq_true rfl⟩ (va_recv hE.1 hP (ci := 1) (q0 := 2) rfl rfl) trivial hP hD hS hA [2, 3, 4, 5] [0, 1] rfl rfl (by decide) (by decide) (by decide) dc_X6_mixedTexts_104 ?_
  rintro v9 ⟨va_16, m_16, f_16, ml_16, fc_16⟩ H locs ⟨rfl, hm_16, hn_16, hf_16, hc_16⟩ hP hD hS - hz hk9
  have hP : va_P G.1 kcl [(x, .inr (0, [.ref cs, .ref sc, .ref pf, .int (u.2.1), .int (u.2.2.1), .int (u.2.2.2)])), (cs, .inl (G.2.1 2, 6, .inr (.inl (u.1)))), (sc, .inr (1, [.ref b, .ref fg])), (fg, .inl (G.2.1 1, 19, .inl (fc_16))), (b, .inr (6, [.ref va_16, .int (0), .int (ml_16), .int (nI (ky_tl j_15))])), (va_16, .inl (G.2.1 0, m_16, .inl (f_16)))] H := hP
  have hD : va_D A [(x, .inr (0, [.ref cs, .ref sc, .ref pf, .int (u.2.1), .int (u.2.2.1), .int (u.2.2.2)])), (cs, .inl (G.2.1 2, 6, .inr (.inl (u.1)))), (sc, .inr (1, [.ref b, .ref fg])), (fg, .inl (G.2.1 1, 19, .inl (fc_16))), (b, .inr (6, [.ref va_16, .int (0), .int (ml_16), .int (nI (ky_tl j_15))])), (va_16, .inl (G.2.1 0, m_16, .inl (f_16)))] := hD
  refine W.widen (k := 6) (n := 204) (by first | exact Nat.le_refl _ | omega) (by first | exact Nat.le_refl _ | omega) ?_
  refine lv_i2l (v := (nI (ky_tl j_15)).toInt64) hx hb dc_X6_mixedTexts_107 rfl ?_
  refine ky_cS0 (As := [.long (j_14), .long ((nI (ky_tl j_15)).toInt64)]) F (mt_X6_mixed l (j_14) ((nI (ky_tl j_15)).toInt64)) ks_X6_199 ⟨⟨rfl, rfl⟩, by decide, by decide⟩ rfl hl.1 rfl (Nat.le_of_ble_eq_true rfl) ⟨Nat.le_of_ble_eq_true rfl, Nat.le_of_ble_eq_true rfl⟩ dc_X6_mixedTexts_108 ?_
  generalize ((fn_X6_mixed (j_14) ((nI (ky_tl j_15)).toInt64)) : Int64) = j_17
  have hP9 := hP.sub (ws' := [(x, .inr (0, [.ref cs, .ref sc, .ref pf, .int (u.2.1), .int (u.2.2.1), .int (u.2.2.2)])), (cs, .inl (G.2.1 2, 6, .inr (.inl (u.1)))), (sc, .inr (1, [.ref b, .ref fg])), (fg, .inl (G.2.1 1, 19, .inl (fc_16))), (b, .inr (6, [.ref va_16, .int (0), .int (ml_16), .int (nI (ky_tl j_15))])), (va_16, .inl (G.2.1 0, m_16, .inl (f_16)))]) [0, 1, 2, 3, 4, 5] rfl
  have hD9 := hD.sub (ws' := [(x, .inr (0, [.ref cs, .ref sc, .ref pf, .int (u.2.1), .int (u.2.2.1), .int (u.2.2.2)])), (cs, .inl (G.2.1 2, 6, .inr (.inl (u.1)))), (sc, .inr (1, [.ref b, .ref fg])), (fg, .inl (G.2.1 1, 19, .inl (fc_16))), (b, .inr (6, [.ref va_16, .int (0), .int (ml_16), .int (nI (ky_tl j_15))])), (va_16, .inl (G.2.1 0, m_16, .inl (f_16)))]) [0, 1, 2, 3, 4, 5] (by decide) rfl
  refine W.widen (k := 6) (n := 204) (Nat.le_of_ble_eq_true rfl) (Nat.le_of_ble_eq_true rfl) ?_
  exact W.lret (v := j_17) hx hb hr (fun t ht hW => ⟨⟨_, (va_16, m_16, ky_tl j_15, f_16, ml_16, fc_16), rfl, ⟨⟨_, rfl⟩, ⟨hm_16, hn_16, hf_16, hc_16⟩⟩, by rw [ht]; exact hP9, hD9, trivial⟩, hS.F ht⟩) hS.2.2 dc_X6_mixedTexts_111
