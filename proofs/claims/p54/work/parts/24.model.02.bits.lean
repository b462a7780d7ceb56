def fn_X9_bits (a1 : Int32) (a2 : Int32) (a3 : Int32)  (w : ky_MV) : Int32 × ky_MV :=
  if (jst (fn_X9_isNo (a1))) = (0 : Int32) then (if (lg_cmp (((jlshl ((a2).toInt64) ((32 : Int32))) + (((a3).toInt64) &&& ((4294967295 : Int64)))) &&& ((9223372036854775807 : Int64))) ((9218868437227405312 : Int64))) ≤ (0 : Int32) then (if (0 : Int32) ≤ (a2) then (((fn_X9_give (a1) (fn_X9_one ((0 : Int32)), ((jlshl ((a2).toInt64) ((32 : Int32))) + (((a3).toInt64) &&& ((4294967295 : Int64)))) &&& ((9223372036854775807 : Int64))) (jst (fn_X9_isNo (a1)), w.2.1, w.2.2.1, w.2.2.2.1, w.2.2.2.2)).1, ((fn_X9_give (a1) (fn_X9_one ((0 : Int32)), ((jlshl ((a2).toInt64) ((32 : Int32))) + (((a3).toInt64) &&& ((4294967295 : Int64)))) &&& ((9223372036854775807 : Int64))) (jst (fn_X9_isNo (a1)), w.2.1, w.2.2.1, w.2.2.2.1, w.2.2.2.2)).2))) else (((fn_X9_give (a1) (fn_X9_one ((1 : Int32)), ((jlshl ((a2).toInt64) ((32 : Int32))) + (((a3).toInt64) &&& ((4294967295 : Int64)))) &&& ((9223372036854775807 : Int64))) (jst (fn_X9_isNo (a1)), w.2.1, w.2.2.1, w.2.2.2.1, w.2.2.2.2)).1, ((fn_X9_give (a1) (fn_X9_one ((1 : Int32)), ((jlshl ((a2).toInt64) ((32 : Int32))) + (((a3).toInt64) &&& ((4294967295 : Int64)))) &&& ((9223372036854775807 : Int64))) (jst (fn_X9_isNo (a1)), w.2.1, w.2.2.1, w.2.2.2.1, w.2.2.2.2)).2)))) else (((-9 : Int32), (jst (fn_X9_isNo (a1)), w.2.1, (w.2.2.1) + ((1 : Int32)), w.2.2.2.1, w.2.2.2.2)))) else (((0 : Int32), (jst (fn_X9_isNo (a1)), w.2.1, w.2.2.1, w.2.2.2.1, w.2.2.2.2)))
set_option linter.constructorNameAsVariable false in
set_option maxHeartbeats 4000000 in
set_option maxRecDepth 100000 in
theorem mt_X9_bits (l : Launch) (G : ky_G) (mo cs : Nat) (N : Nat → Prop) (w : ky_MV) (f : Nat → Option Nat)    (a1 : Int32) (a2 : Int32) (a3 : Int32) (sz : Nat) : Met l my_X9_bits (.code my_X9_bits prog_10_method_16_code 8 (some .int) :: ky_B) { frames := 6, cells := 1, slots := 2, locals := 127 } (ky_P G [.ref mo, .int (a1), .int (a2), .int (a3)] (ky_WM G mo cs w f) sz (fun H => ky_IT G mo cs N f w.2.2.2.2 H)) (ky_Q (S := ky_MV × (Nat → Option Nat)) G (va_A (ky_WM G mo cs w f) sz) (fun v u => v = some (.int (fn_X9_bits a1 a2 a3 w).1) ∧ u.1 = (fn_X9_bits a1 a2 a3 w).2) (fun u => ky_WM G mo cs u.1 u.2) (fun u H => ky_IT G mo cs N u.2 u.1.2.2.2.2 H)) 1 2 (va_A (ky_WM G mo cs w f) sz) := by
  refine ky_start (by decide) (Nat.le_of_ble_eq_true rfl) (fun p e s m below meth c F hE A hAe hsz hA hfr hP hD hS hX ls hl => ?_)
  obtain ⟨hx, hb, hml, hown, hr, hlocks, hts⟩ := id F
  have hIT0 := hX
  have hIT := hIT0
  have hl : lv_has ls 8 [(0, .ref mo), (1, .int (a1)), (2, .int (a2)), (3, .int (a3))] := hl
  have hP : va_P G.1 kcl [(mo, .inr (5, [.int (w.1), .ref cs, .int (w.2.1), .int (w.2.2.1), .int (w.2.2.2.1)])), (cs, .inl (G.2.1 3, 6, .inr (.inr (.inr (.inr (f))))))] s.heap := hP
  have hD : va_D A [(mo, .inr (5, [.int (w.1), .ref cs, .int (w.2.1), .int (w.2.2.1), .int (w.2.2.2.1)])), (cs, .inl (G.2.1 3, 6, .inr (.inr (.inr (.inr (f))))))] := hD
  have hw : fn_X9_bits a1 a2 a3 w = _ := fn_X9_bits.eq_1 a1 a2 a3 w
  refine lv_aload_n hx hb dc_X9_bits_0 rfl (lv_at hl 0 rfl) ?_
  refine lv_iload_n hx hb dc_X9_bits_1 rfl (lv_at hl 1 rfl) ?_
  refine ky_cS0 (As := [.int (a1)]) F (mt_X9_isNo l (a1)) ks_X9_51 ⟨⟨rfl, rfl⟩, by decide, by decide⟩ rfl hl.1 rfl (Nat.le_of_ble_eq_true rfl) ⟨Nat.le_of_ble_eq_true rfl, Nat.le_of_ble_eq_true rfl⟩ dc_X9_bits_2 ?_
  refine ky_cVh (As := [.int (fn_X9_isNo (a1))]) (wr := []) F (hE.at hfr hS) hfr (mt_X9_startJ l G (mo) (cs) ((w.1, w.2.1, w.2.2.1, w.2.2.2.1)) (f) (fn_X9_isNo (a1)) s.heap.size ) kv_X9_55 ⟨⟨rfl, rfl⟩, by decide, by decide⟩ rfl hl.1 rfl (Nat.le_of_ble_eq_true rfl) ⟨Nat.le_of_ble_eq_true rfl, Nat.le_of_ble_eq_true rfl⟩ (va_recv hE.1 hP (ci := 5) (q0 := 0) rfl rfl) trivial hP hD hS hA [0, 1] [] rfl rfl (by decide) (by decide) (by decide) dc_X9_bits_5 ?_
  rintro v9 u9 H locs ⟨rfl, rfl⟩ hP hD hS - hz hk9
  obtain ⟨j_1, hj_1⟩ : ∃ j9, j9 = jst (fn_X9_isNo (a1)) := ⟨_, rfl⟩
  rw [← hj_1] at hP hD ⊢
  try rw [← hj_1] at hw
  have hP : va_P G.1 kcl [(mo, .inr (5, [.int (j_1), .ref cs, .int (w.2.1), .int (w.2.2.1), .int (w.2.2.2.1)])), (cs, .inl (G.2.1 3, 6, .inr (.inr (.inr (.inr (f))))))] H := hP
  have hD : va_D A [(mo, .inr (5, [.int (j_1), .ref cs, .int (w.2.1), .int (w.2.2.1), .int (w.2.2.2.1)])), (cs, .inl (G.2.1 3, 6, .inr (.inr (.inr (.inr (f))))))] := hD
  have hIT := hIT0.ro hAe hS
  refine W.widen (k := 0) (n := 0) (Nat.le_refl _) (Nat.le_refl _) ?_
  refine lv_if_eq (tgt := 13) hx hb dc_X9_bits_8 (by decide) (fun c_2 => ?_) (fun c_2 => ?_)
  · have hw := hw.trans (if_pos c_2)
    refine lv_iload_n hx hb dc_X9_bits_13 rfl (lv_at hl 2 rfl) ?_
    refine lv_i2l (v := (a2).toInt64) hx hb dc_X9_bits_14 rfl ?_
    refine lv_bipush (v := 32) hx hb dc_X9_bits_15 (by decide) ?_
    refine lv_lshl (v := jlshl ((a2).toInt64) ((32 : Int32))) hx hb dc_X9_bits_17 rfl ?_
    refine lv_iload_n hx hb dc_X9_bits_18 rfl (lv_at hl 3 rfl) ?_
    refine lv_i2l (v := (a3).toInt64) hx hb dc_X9_bits_19 rfl ?_
    refine lv_ldc2 (v := 4294967295) hx hb hown (hts _ kw_6_122) dc_X9_bits_20 ?_
    refine lv_land hx hb dc_X9_bits_23 ?_
    refine lv_ladd hx hb dc_X9_bits_24 ?_
    refine lv_lstore (lv' := [(4, .long ((jlshl ((a2).toInt64) ((32 : Int32))) + (((a3).toInt64) &&& ((4294967295 : Int64))))), (0, .ref mo), (1, .int (a1)), (2, .int (a2)), (3, .int (a3))]) hx hb dc_X9_bits_25 hl (by decide) rfl (fun ls hl => ?_)
    refine lv_lload hx hb dc_X9_bits_27 (lv_at hl 0 rfl) ?_
    refine lv_ldc2 (v := 9223372036854775807) hx hb hown (hts _ kw_6_123) dc_X9_bits_29 ?_
    refine lv_land hx hb dc_X9_bits_32 ?_
    refine lv_lstore (lv' := [(6, .long (((jlshl ((a2).toInt64) ((32 : Int32))) + (((a3).toInt64) &&& ((4294967295 : Int64)))) &&& ((9223372036854775807 : Int64)))), (4, .long ((jlshl ((a2).toInt64) ((32 : Int32))) + (((a3).toInt64) &&& ((4294967295 : Int64))))), (0, .ref mo), (1, .int (a1)), (2, .int (a2)), (3, .int (a3))]) hx hb dc_X9_bits_33 hl (by decide) rfl (fun ls hl => ?_)
    refine lv_lload hx hb dc_X9_bits_35 (lv_at hl 0 rfl) ?_
    refine lv_ldc2 (v := 9218868437227405312) hx hb hown (hts _ kw_6_99) dc_X9_bits_37 ?_
    refine W.lcmp hx hb dc_X9_bits_40 ?_
    refine lv_if_le (tgt := 57) hx hb dc_X9_bits_41 (by decide) (fun c_3 => ?_) (fun c_3 => ?_)
    · have hw := hw.trans (if_pos c_3)
      refine lv_aload_n hx hb dc_X9_bits_57 rfl (lv_at hl 2 rfl) ?_
      refine lv_iload_n hx hb dc_X9_bits_58 rfl (lv_at hl 3 rfl) ?_
      refine va_new (ci := 4) (fs := [.int (0), .long (0)]) (C := RX8) (T := TX8) (N := 2) hx hb hts ki_X8 tyX8 tyX8_ok hown (hts _ kw_6_3) (hts _ kw_6_5) (hts _ kw_1_9) hE.1 hP hD hS hA rfl (fun j hj => by rcases (show j = 0 ∨ j = 1 by omega) with rfl | rfl <;> rfl) (Nat.le_of_ble_eq_true rfl) (Nat.le_of_ble_eq_true rfl) dc_X9_bits_59 (fun q_4 H hP hD hS => ?_)
      have hP : va_P G.1 kcl [(mo, .inr (5, [.int (j_1), .ref cs, .int (w.2.1), .int (w.2.2.1), .int (w.2.2.2.1)])), (cs, .inl (G.2.1 3, 6, .inr (.inr (.inr (.inr (f)))))), (q_4, .inr (4, [.int (0), .long (0)]))] H := hP
      have hD : va_D A [(mo, .inr (5, [.int (j_1), .ref cs, .int (w.2.1), .int (w.2.2.1), .int (w.2.2.2.1)])), (cs, .inl (G.2.1 3, 6, .inr (.inr (.inr (.inr (f)))))), (q_4, .inr (4, [.int (0), .long (0)]))] := hD
      have hIT := hIT0.ro hAe hS
      refine W.widen (k := 1) (n := 2) (Nat.le_refl _) (Nat.le_refl _) ?_
      refine lv_dup hx hb dc_X9_bits_62 rfl ?_
      refine lv_iload_n hx hb dc_X9_bits_63 rfl (lv_at hl 4 rfl) ?_
      refine lv_if_ge (tgt := 71) hx hb dc_X9_bits_64 (by decide) (fun c_5 => ?_) (fun c_5 => ?_)
      · have hw := hw.trans (if_pos c_5)
        refine lv_iconst (v := 0) hx hb dc_X9_bits_71 (by decide) ?_
        refine ky_cS0 (As := [.int ((0 : Int32))]) F (mt_X9_one l ((0 : Int32))) ks_X9_59 ⟨⟨rfl, rfl⟩, by decide, by decide⟩ rfl hl.1 rfl (Nat.le_of_ble_eq_true rfl) ⟨Nat.le_of_ble_eq_true rfl, Nat.le_of_ble_eq_true rfl⟩ dc_X9_bits_72 ?_
        refine lv_lload hx hb dc_X9_bits_75 (lv_at hl 0 rfl) ?_
        refine ky_cIh (As := [.int (fn_X9_one ((0 : Int32))), .long (((jlshl ((a2).toInt64) ((32 : Int32))) + (((a3).toInt64) &&& ((4294967295 : Int64)))) &&& ((9223372036854775807 : Int64)))]) (wr := [(mo, .inr (5, [.int (j_1), .ref cs, .int (w.2.1), .int (w.2.2.1), .int (w.2.2.2.1)])), (cs, .inl (G.2.1 3, 6, .inr (.inr (.inr (.inr (f))))))]) F (hE.at hfr hS) hfr (mt_X8_init l G (q_4) (fn_X9_one ((0 : Int32))) (((jlshl ((a2).toInt64) ((32 : Int32))) + (((a3).toInt64) &&& ((4294967295 : Int64)))) &&& ((9223372036854775807 : Int64))) H.size ) kI_X9_29 ⟨⟨rfl, rfl⟩, by decide, by decide⟩ rfl hl.1 rfl (Nat.le_of_ble_eq_true rfl) ⟨Nat.le_of_ble_eq_true rfl, Nat.le_of_ble_eq_true rfl⟩ trivial hP hD hS hA [2] [0, 1] rfl rfl (by decide) (by decide) (by decide) dc_X9_bits_77 ?_
        rintro v9 u9 H locs ⟨rfl, rfl⟩ hP hD hS - hz hk9
        have hP : va_P G.1 kcl [(mo, .inr (5, [.int (j_1), .ref cs, .int (w.2.1), .int (w.2.2.1), .int (w.2.2.2.1)])), (cs, .inl (G.2.1 3, 6, .inr (.inr (.inr (.inr (f)))))), (q_4, .inr (4, [.int (fn_X9_one ((0 : Int32))), .long (((jlshl ((a2).toInt64) ((32 : Int32))) + (((a3).toInt64) &&& ((4294967295 : Int64)))) &&& ((9223372036854775807 : Int64)))]))] H := hP
        have hD : va_D A [(mo, .inr (5, [.int (j_1), .ref cs, .int (w.2.1), .int (w.2.2.1), .int (w.2.2.2.1)])), (cs, .inl (G.2.1 3, 6, .inr (.inr (.inr (.inr (f)))))), (q_4, .inr (4, [.int (fn_X9_one ((0 : Int32))), .long (((jlshl ((a2).toInt64) ((32 : Int32))) + (((a3).toInt64) &&& ((4294967295 : Int64)))) &&& ((9223372036854775807 : Int64)))]))] := hD
        have hIT := hIT0.ro hAe hS
        refine W.widen (k := 1) (n := 2) (Nat.le_refl _) (Nat.le_refl _) ?_
        have hJ_7 : ky_It G q_4 ((fn_X9_one ((0 : Int32)), ((jlshl ((a2).toInt64) ((32 : Int32))) + (((a3).toInt64) &&& ((4294967295 : Int64)))) &&& ((9223372036854775807 : Int64)))) H := ky_itp (hP.sub (ws' := [(q_4, .inr (4, [.int (fn_X9_one ((0 : Int32))), .long (((jlshl ((a2).toInt64) ((32 : Int32))) + (((a3).toInt64) &&& ((4294967295 : Int64)))) &&& ((9223372036854775807 : Int64)))]))]) [2] rfl)
        have hk_7 : ky_ok mo cs N q_4 := ky_ok.own hAe hIT0.1 hD 0 1 2 rfl rfl rfl (by decide) (by decide)
        refine ky_cVh (As := [.int (a1), .ref q_4]) (wr := [(q_4, .inr (4, [.int (fn_X9_one ((0 : Int32))), .long (((jlshl ((a2).toInt64) ((32 : Int32))) + (((a3).toInt64) &&& ((4294967295 : Int64)))) &&& ((9223372036854775807 : Int64)))]))]) F (hE.at hfr hS) hfr (mt_X9_give l G mo cs N (j_1, w.2.1, w.2.2.1, w.2.2.2.1, w.2.2.2.2) (f) (q_4) (fn_X9_one ((0 : Int32)), ((jlshl ((a2).toInt64) ((32 : Int32))) + (((a3).toInt64) &&& ((4294967295 : Int64)))) &&& ((9223372036854775807 : Int64))) hk_7 (a1) H.size (lr_start (hj_1.symm.trans c_2))) kv_X9_63 ⟨⟨rfl, rfl⟩, by decide, by decide⟩ rfl hl.1 rfl (Nat.le_of_ble_eq_true rfl) ⟨Nat.le_of_ble_eq_true rfl, Nat.le_of_ble_eq_true rfl⟩ (va_recv hE.1 hP (ci := 5) (q0 := 0) rfl rfl) ⟨hIT, hJ_7⟩ hP hD hS hA [0, 1] [2] rfl rfl (by decide) (by decide) (by decide) dc_X9_bits_80 ?_
        rintro v9 ⟨w_8, f_8⟩ H locs ⟨rfl, hw_8⟩ hP hD hS hIT9 hz hk9
        have hw_8 : w_8 = (fn_X9_give (a1) (fn_X9_one ((0 : Int32)), ((jlshl ((a2).toInt64) ((32 : Int32))) + (((a3).toInt64) &&& ((4294967295 : Int64)))) &&& ((9223372036854775807 : Int64))) (j_1, w.2.1, w.2.2.1, w.2.2.2.1, w.2.2.2.2)).2 := hw_8
        try rw [← hw_8] at hw
        have hP : va_P G.1 kcl [(q_4, .inr (4, [.int (fn_X9_one ((0 : Int32))), .long (((jlshl ((a2).toInt64) ((32 : Int32))) + (((a3).toInt64) &&& ((4294967295 : Int64)))) &&& ((9223372036854775807 : Int64)))])), (mo, .inr (5, [.int ((w_8).1), .ref cs, .int ((w_8).2.1), .int ((w_8).2.2.1), .int ((w_8).2.2.2.1)])), (cs, .inl (G.2.1 3, 6, .inr (.inr (.inr (.inr (f_8))))))] H := hP
        have hD : va_D A [(q_4, .inr (4, [.int (fn_X9_one ((0 : Int32))), .long (((jlshl ((a2).toInt64) ((32 : Int32))) + (((a3).toInt64) &&& ((4294967295 : Int64)))) &&& ((9223372036854775807 : Int64)))])), (mo, .inr (5, [.int ((w_8).1), .ref cs, .int ((w_8).2.1), .int ((w_8).2.2.1), .int ((w_8).2.2.2.1)])), (cs, .inl (G.2.1 3, 6, .inr (.inr (.inr (.inr (f_8))))))] := hD
        have hIT : ky_IT G mo cs N f_8 ((w_8).2.2.2.2) H := hIT9
        refine W.widen (k := 1) (n := 2) (Nat.le_refl _) (Nat.le_refl _) ?_
        have hP9 : va_P G.1 kcl (ky_WM G mo cs ((w_8)) (f_8)) H := hP.sub [1, 2] rfl
        have hD9 : va_D A (ky_WM G mo cs ((w_8)) (f_8)) := hD.sub [1, 2] (by decide) rfl
        refine W.widen (k := 1) (n := 2) (Nat.le_of_ble_eq_true rfl) (Nat.le_of_ble_eq_true rfl) ?_
        exact W.iret (v := (fn_X9_give (a1) (fn_X9_one ((0 : Int32)), ((jlshl ((a2).toInt64) ((32 : Int32))) + (((a3).toInt64) &&& ((4294967295 : Int64)))) &&& ((9223372036854775807 : Int64))) (j_1, w.2.1, w.2.2.1, w.2.2.2.1, w.2.2.2.2)).1) hx hb hr (fun t ht hW => ⟨by rw [ht]; exact ky_endM (fun z => some (.int z)) ((fn_X9_give (a1) (fn_X9_one ((0 : Int32)), ((jlshl ((a2).toInt64) ((32 : Int32))) + (((a3).toInt64) &&& ((4294967295 : Int64)))) &&& ((9223372036854775807 : Int64))) (j_1, w.2.1, w.2.2.1, w.2.2.2.1, w.2.2.2.2)).1) hw hP9 hD9 (hIT), hS.F ht⟩) hS.2.2 dc_X9_bits_83
      · have hw := hw.trans (if_neg c_5)
        refine lv_iconst (v := 1) hx hb dc_X9_bits_67 (by decide) ?_
        refine lv_goto (tgt := 72) hx hb dc_X9_bits_68 (by decide) ?_
        refine ky_cS0 (As := [.int ((1 : Int32))]) F (mt_X9_one l ((1 : Int32))) ks_X9_59 ⟨⟨rfl, rfl⟩, by decide, by decide⟩ rfl hl.1 rfl (Nat.le_of_ble_eq_true rfl) ⟨Nat.le_of_ble_eq_true rfl, Nat.le_of_ble_eq_true rfl⟩ dc_X9_bits_72 ?_
        refine lv_lload hx hb dc_X9_bits_75 (lv_at hl 0 rfl) ?_
        refine ky_cIh (As := [.int (fn_X9_one ((1 : Int32))), .long (((jlshl ((a2).toInt64) ((32 : Int32))) + (((a3).toInt64) &&& ((4294967295 : Int64)))) &&& ((9223372036854775807 : Int64)))]) (wr := [(mo, .inr (5, [.int (j_1), .ref cs, .int (w.2.1), .int (w.2.2.1), .int (w.2.2.2.1)])), (cs, .inl (G.2.1 3, 6, .inr (.inr (.inr (.inr (f))))))]) F (hE.at hfr hS) hfr (mt_X8_init l G (q_4) (fn_X9_one ((1 : Int32))) (((jlshl ((a2).toInt64) ((32 : Int32))) + (((a3).toInt64) &&& ((4294967295 : Int64)))) &&& ((9223372036854775807 : Int64))) H.size ) kI_X9_29 ⟨⟨rfl, rfl⟩, by decide, by decide⟩ rfl hl.1 rfl (Nat.le_of_ble_eq_true rfl) ⟨Nat.le_of_ble_eq_true rfl, Nat.le_of_ble_eq_true rfl⟩ trivial hP hD hS hA [2] [0, 1] rfl rfl (by decide) (by decide) (by decide) dc_X9_bits_77 ?_
        rintro v9 u9 H locs ⟨rfl, rfl⟩ hP hD hS - hz hk9
        have hP : va_P G.1 kcl [(mo, .inr (5, [.int (j_1), .ref cs, .int (w.2.1), .int (w.2.2.1), .int (w.2.2.2.1)])), (cs, .inl (G.2.1 3, 6, .inr (.inr (.inr (.inr (f)))))), (q_4, .inr (4, [.int (fn_X9_one ((1 : Int32))), .long (((jlshl ((a2).toInt64) ((32 : Int32))) + (((a3).toInt64) &&& ((4294967295 : Int64)))) &&& ((9223372036854775807 : Int64)))]))] H := hP
        have hD : va_D A [(mo, .inr (5, [.int (j_1), .ref cs, .int (w.2.1), .int (w.2.2.1), .int (w.2.2.2.1)])), (cs, .inl (G.2.1 3, 6, .inr (.inr (.inr (.inr (f)))))), (q_4, .inr (4, [.int (fn_X9_one ((1 : Int32))), .long (((jlshl ((a2).toInt64) ((32 : Int32))) + (((a3).toInt64) &&& ((4294967295 : Int64)))) &&& ((9223372036854775807 : Int64)))]))] := hD
        have hIT := hIT0.ro hAe hS
        refine W.widen (k := 1) (n := 2) (Nat.le_refl _) (Nat.le_refl _) ?_
        have hJ_7 : ky_It G q_4 ((fn_X9_one ((1 : Int32)), ((jlshl ((a2).toInt64) ((32 : Int32))) + (((a3).toInt64) &&& ((4294967295 : Int64)))) &&& ((9223372036854775807 : Int64)))) H := ky_itp (hP.sub (ws' := [(q_4, .inr (4, [.int (fn_X9_one ((1 : Int32))), .long (((jlshl ((a2).toInt64) ((32 : Int32))) + (((a3).toInt64) &&& ((4294967295 : Int64)))) &&& ((9223372036854775807 : Int64)))]))]) [2] rfl)
        have hk_7 : ky_ok mo cs N q_4 := ky_ok.own hAe hIT0.1 hD 0 1 2 rfl rfl rfl (by decide) (by decide)
        refine ky_cVh (As := [.int (a1), .ref q_4]) (wr := [(q_4, .inr (4, [.int (fn_X9_one ((1 : Int32))), .long (((jlshl ((a2).toInt64) ((32 : Int32))) + (((a3).toInt64) &&& ((4294967295 : Int64)))) &&& ((9223372036854775807 : Int64)))]))]) F (hE.at hfr hS) hfr (mt_X9_give l G mo cs N (j_1, w.2.1, w.2.2.1, w.2.2.2.1, w.2.2.2.2) (f) (q_4) (fn_X9_one ((1 : Int32)), ((jlshl ((a2).toInt64) ((32 : Int32))) + (((a3).toInt64) &&& ((4294967295 : Int64)))) &&& ((9223372036854775807 : Int64))) hk_7 (a1) H.size (lr_start (hj_1.symm.trans c_2))) kv_X9_63 ⟨⟨rfl, rfl⟩, by decide, by decide⟩ rfl hl.1 rfl (Nat.le_of_ble_eq_true rfl) ⟨Nat.le_of_ble_eq_true rfl, Nat.le_of_ble_eq_true rfl⟩ (va_recv hE.1 hP (ci := 5) (q0 := 0) rfl rfl) ⟨hIT, hJ_7⟩ hP hD hS hA [0, 1] [2] rfl rfl (by decide) (by decide) (by decide) dc_X9_bits_80 ?_
        rintro v9 ⟨w_8, f_8⟩ H locs ⟨rfl, hw_8⟩ hP hD hS hIT9 hz hk9
        have hw_8 : w_8 = (fn_X9_give (a1) (fn_X9_one ((1 : Int32)), ((jlshl ((a2).toInt64) ((32 : Int32))) + (((a3).toInt64) &&& ((4294967295 : Int64)))) &&& ((9223372036854775807 : Int64))) (j_1, w.2.1, w.2.2.1, w.2.2.2.1, w.2.2.2.2)).2 := hw_8
        try rw [← hw_8] at hw
        have hP : va_P G.1 kcl [(q_4, .inr (4, [.int (fn_X9_one ((1 : Int32))), .long (((jlshl ((a2).toInt64) ((32 : Int32))) + (((a3).toInt64) &&& ((4294967295 : Int64)))) &&& ((9223372036854775807 : Int64)))])), (mo, .inr (5, [.int ((w_8).1), .ref cs, .int ((w_8).2.1), .int ((w_8).2.2.1), .int ((w_8).2.2.2.1)])), (cs, .inl (G.2.1 3, 6, .inr (.inr (.inr (.inr (f_8))))))] H := hP
        have hD : va_D A [(q_4, .inr (4, [.int (fn_X9_one ((1 : Int32))), .long (((jlshl ((a2).toInt64) ((32 : Int32))) + (((a3).toInt64) &&& ((4294967295 : Int64)))) &&& ((9223372036854775807 : Int64)))])), (mo, .inr (5, [.int ((w_8).1), .ref cs, .int ((w_8).2.1), .int ((w_8).2.2.1), .int ((w_8).2.2.2.1)])), (cs, .inl (G.2.1 3, 6, .inr (.inr (.inr (.inr (f_8))))))] := hD
        have hIT : ky_IT G mo cs N f_8 ((w_8).2.2.2.2) H := hIT9
        refine W.widen (k := 1) (n := 2) (Nat.le_refl _) (Nat.le_refl _) ?_
        have hP9 : va_P G.1 kcl (ky_WM G mo cs ((w_8)) (f_8)) H := hP.sub [1, 2] rfl
        have hD9 : va_D A (ky_WM G mo cs ((w_8)) (f_8)) := hD.sub [1, 2] (by decide) rfl
        refine W.widen (k := 1) (n := 2) (Nat.le_of_ble_eq_true rfl) (Nat.le_of_ble_eq_true rfl) ?_
        exact W.iret (v := (fn_X9_give (a1) (fn_X9_one ((1 : Int32)), ((jlshl ((a2).toInt64) ((32 : Int32))) + (((a3).toInt64) &&& ((4294967295 : Int64)))) &&& ((9223372036854775807 : Int64))) (j_1, w.2.1, w.2.2.1, w.2.2.2.1, w.2.2.2.2)).1) hx hb hr (fun t ht hW => ⟨by rw [ht]; exact ky_endM (fun z => some (.int z)) ((fn_X9_give (a1) (fn_X9_one ((1 : Int32)), ((jlshl ((a2).toInt64) ((32 : Int32))) + (((a3).toInt64) &&& ((4294967295 : Int64)))) &&& ((9223372036854775807 : Int64))) (j_1, w.2.1, w.2.2.1, w.2.2.2.1, w.2.2.2.2)).1) hw hP9 hD9 (hIT), hS.F ht⟩) hS.2.2 dc_X9_bits_83
    · have hw := hw.trans (if_neg c_3)
      refine lv_aload_n hx hb dc_X9_bits_44 rfl (lv_at hl 2 rfl) ?_
      refine lv_dup hx hb dc_X9_bits_45 rfl ?_
      refine va_get (D := G.1) (ci := 5) (v := .int (w.2.2.1)) (C := RX9) (T := TX9) (N := 5) hx hb hts ki_X9 hown hE.1 hP 0 rfl rfl 3 (by decide) (hts _ kw_6_22) (fun _ h9 => h9) rfl dc_X9_bits_46 ?_
      refine lv_iconst (v := 1) hx hb dc_X9_bits_49 (by decide) ?_
      refine lv_iadd hx hb dc_X9_bits_50 ?_
      refine va_put (D := G.1) (ci := 5) (v := .int ((w.2.2.1) + ((1 : Int32)))) (ty := .int) (C := RX9) (T := TX9) (N := 5) hx hb hts ki_X9 tyX9 tyX9_ok nmX9 hown hE.1 hP hD hS 0 rfl rfl 3 (by decide) (hts _ kw_6_22) (fun _ h9 => h9) rfl (by decide +kernel) rfl rfl (Nat.le_of_ble_eq_true rfl) dc_X9_bits_51 (fun H locs hP hD hS => ?_)
      have hP : va_P G.1 kcl [(mo, .inr (5, [.int (j_1), .ref cs, .int (w.2.1), .int ((w.2.2.1) + ((1 : Int32))), .int (w.2.2.2.1)])), (cs, .inl (G.2.1 3, 6, .inr (.inr (.inr (.inr (f))))))] H := hP
      have hD : va_D A [(mo, .inr (5, [.int (j_1), .ref cs, .int (w.2.1), .int ((w.2.2.1) + ((1 : Int32))), .int (w.2.2.2.1)])), (cs, .inl (G.2.1 3, 6, .inr (.inr (.inr (.inr (f))))))] := hD
      have hIT := hIT0.ro hAe hS
      refine lv_bipush (v := (-9)) hx hb dc_X9_bits_54 (by decide) ?_
      have hP9 : va_P G.1 kcl (ky_WM G mo cs ((j_1, w.2.1, (w.2.2.1) + ((1 : Int32)), w.2.2.2.1, w.2.2.2.2)) (f)) H := hP.sub [0, 1] rfl
      have hD9 : va_D A (ky_WM G mo cs ((j_1, w.2.1, (w.2.2.1) + ((1 : Int32)), w.2.2.2.1, w.2.2.2.2)) (f)) := hD.sub [0, 1] (by decide) rfl
      refine W.widen (k := 1) (n := 2) (Nat.le_of_ble_eq_true rfl) (Nat.le_of_ble_eq_true rfl) ?_
      exact W.iret (v := (-9 : Int32)) hx hb hr (fun t ht hW => ⟨by rw [ht]; exact ky_endM (fun z => some (.int z)) ((-9 : Int32)) hw hP9 hD9 (hIT), hS.F ht⟩) hS.2.2 dc_X9_bits_56
  · have hw := hw.trans (if_neg c_2)
    refine lv_iconst (v := 0) hx hb dc_X9_bits_11 (by decide) ?_
    have hP9 : va_P G.1 kcl (ky_WM G mo cs ((j_1, w.2.1, w.2.2.1, w.2.2.2.1, w.2.2.2.2)) (f)) H := hP.sub [0, 1] rfl
    have hD9 : va_D A (ky_WM G mo cs ((j_1, w.2.1, w.2.2.1, w.2.2.2.1, w.2.2.2.2)) (f)) := hD.sub [0, 1] (by decide) rfl
    refine W.widen (k := 1) (n := 2) (Nat.le_of_ble_eq_true rfl) (Nat.le_of_ble_eq_true rfl) ?_
    exact W.iret (v := (0 : Int32)) hx hb hr (fun t ht hW => ⟨by rw [ht]; exact ky_endM (fun z => some (.int z)) ((0 : Int32)) hw hP9 hD9 (hIT), hS.F ht⟩) hS.2.2 dc_X9_bits_12
