set_option linter.constructorNameAsVariable false in
set_option maxHeartbeats 4000000 in
set_option maxRecDepth 100000 in
theorem mt_L_zero (l : Launch) (hl9 : l.stackTraces = false) (G : ky_G) (x : Nat) (cs : Nat) (sc : Nat) (pf : Nat) (u : ky_BS) (o : Nat) (nn : Int64) (sv : Value) (a1 : Int32) (a2 : Int32) (sz : Nat)  : Met l my_L_zero (.codeWith my_L_zero method_2_code 5 (some .int) [(0, 11, 14, 19)] :: ky_B) { frames := 8, cells := 1, slots := 6, locals := 129 } (ky_P G [.ref x, .int (a1), .int (a2), .ref o] (ky_WB G x cs sc pf u ++ ky_WO o nn sv) sz (fun _ => True)) (ky_Q (S := ky_BS × Int64) G (va_A (ky_WB G x cs sc pf u ++ ky_WO o nn sv) sz) (fun v z => v = some (.int (ky_lw (fn_X6_zero a1 a2 u) u nn).1) ∧ z = (ky_lw (fn_X6_zero a1 a2 u) u nn).2) (fun z => ky_WB G x cs sc pf z.1 ++ ky_WO o z.2 sv) (fun _ _ => True)) (1) (6) (va_A (ky_WB G x cs sc pf u ++ ky_WO o nn sv) sz) := by
  refine ky_startH (hh := [(0, 11, 14, 19)]) (by decide) (Nat.le_of_ble_eq_true rfl) (fun p e s m below meth c F hT hE A hAe hsz hA hfr hP hD hS hX ls hl => ?_)
  obtain ⟨hx, hb, hml, hown, hr, hlocks, hts⟩ := id F
  have hl : lv_has ls 5 [(0, .ref x), (1, .int (a1)), (2, .int (a2)), (3, .ref o)] := hl
  have hP : va_P G.1 kcl [(x, .inr (0, [.ref cs, .ref sc, .ref pf, .int (u.2.1), .int (u.2.2.1), .int (u.2.2.2)])), (cs, .inl (G.2.1 2, 6, .inr (.inl (u.1)))), (o, .inr (3, [.long (nn), sv]))] s.heap := hP
  have hD : va_D A [(x, .inr (0, [.ref cs, .ref sc, .ref pf, .int (u.2.1), .int (u.2.2.1), .int (u.2.2.2)])), (cs, .inl (G.2.1 2, 6, .inr (.inl (u.1)))), (o, .inr (3, [.long (nn), sv]))] := hD
  refine lv_aload_n hx hb dc_L_zero_0 rfl (lv_at hl 3 rfl) ?_
  refine lv_aload_n hx hb dc_L_zero_1 rfl (lv_at hl 0 rfl) ?_
  refine lv_iload_n hx hb dc_L_zero_2 rfl (lv_at hl 1 rfl) ?_
  refine lv_iload_n hx hb dc_L_zero_3 rfl (lv_at hl 2 rfl) ?_
  refine ky_cVx (As := [.int (a1), .int (a2)]) (wr := [(o, .inr (3, [.long (nn), sv]))]) F (hE.at hfr hS) hfr (mt_X6_zero l hl9 G x cs sc pf u (a1) (a2) s.heap.size) kv_L_7 ⟨⟨rfl, rfl⟩, Nat.le_of_ble_eq_true rfl, Nat.le_of_ble_eq_true rfl⟩ rfl hl.1 rfl (Nat.le_of_ble_eq_true rfl) ⟨Nat.le_of_ble_eq_true rfl, Nat.le_of_ble_eq_true rfl⟩ (va_recv hE.1 hP (ci := 0) (q0 := 0) rfl rfl) trivial hP hD hS hA [0, 1] [2] rfl rfl (by decide) (by decide) (by decide) dc_L_zero_4 ?_ ?_
  · intro E ce q9 H locs hp hP hD hS hz hk9 hc1 hc2 hc3
    have hP : va_P G.1 kcl [(o, .inr (3, [.long (nn), sv])), (x, .inr (0, [.ref cs, .ref sc, .ref pf, .int (u.2.1), .int (u.2.2.1), .int (u.2.2.2)])), (cs, .inl (G.2.1 2, 6, .inr (.inl (u.1))))] H := hP
    have hD : va_D A [(o, .inr (3, [.long (nn), sv])), (x, .inr (0, [.ref cs, .ref sc, .ref pf, .int (u.2.1), .int (u.2.2.1), .int (u.2.2.2)])), (cs, .inl (G.2.1 2, 6, .inr (.inl (u.1))))] := hD
    have he := on_X6_zero (a1) (a2) u E hp
    subst he
    refine ky_cat1 (h1 := (0, 11, 14, 19)) (name := "java/lang/IndexOutOfBoundsException") hE hown hT (by decide) (by decide) (hts _ kw_4_82) (kc_4 _ (List.mem_of_getElem? (i := 92) rfl)) rfl hc1 hc2 hc3 ?_
    refine W.eq (g2 := F0 m 14 ls [.ref q9]) rfl ?_
    refine W.widen (k := 1) (n := 6) (by first | exact Nat.le_refl _ | omega) (by first | exact Nat.le_refl _ | omega) ?_
    refine lv_astore (lv' := [(4, .ref q9), (0, .ref x), (1, .int (a1)), (2, .int (a2)), (3, .ref o)]) hx hb dc_L_zero_14 hl (by decide) rfl (fun ls hl => ?_)
    refine lv_iconst (v := 1) hx hb dc_L_zero_16 (by decide) ?_
    have hP9 := hP.sub (ws' := [(x, .inr (0, [.ref cs, .ref sc, .ref pf, .int (u.2.1), .int (u.2.2.1), .int (u.2.2.2)])), (cs, .inl (G.2.1 2, 6, .inr (.inl (u.1)))), (o, .inr (3, [.long (nn), sv]))]) [1, 2, 0] rfl
    have hD9 := hD.sub (ws' := [(x, .inr (0, [.ref cs, .ref sc, .ref pf, .int (u.2.1), .int (u.2.2.1), .int (u.2.2.2)])), (cs, .inl (G.2.1 2, 6, .inr (.inl (u.1)))), (o, .inr (3, [.long (nn), sv]))]) [1, 2, 0] (by decide) rfl
    refine W.widen (k := 1) (n := 6) (Nat.le_of_ble_eq_true rfl) (Nat.le_of_ble_eq_true rfl) ?_
    exact W.iret (v := (1 : Int32)) hx hb hr (fun t ht hW => ⟨⟨_, (u, nn), rfl, ⟨by rw [hp, ky_lw_io], by rw [hp, ky_lw_io]⟩, by rw [ht]; exact hP9, hD9, trivial⟩, hS.F ht⟩) hS.2.2 dc_L_zero_17
  · rintro v9 u9 H locs ⟨r_0, w_0, hf_0, rfl, hu9⟩ hP hD hS - hz hk9
    have hu9 := hu9.symm
    subst hu9
    have hP : va_P G.1 kcl [(o, .inr (3, [.long (nn), sv])), (x, .inr (0, [.ref cs, .ref sc, .ref pf, .int (w_0.2.1), .int (w_0.2.2.1), .int (w_0.2.2.2)])), (cs, .inl (G.2.1 2, 6, .inr (.inl (w_0.1))))] H := hP
    have hD : va_D A [(o, .inr (3, [.long (nn), sv])), (x, .inr (0, [.ref cs, .ref sc, .ref pf, .int (w_0.2.1), .int (w_0.2.2.1), .int (w_0.2.2.2)])), (cs, .inl (G.2.1 2, 6, .inr (.inl (w_0.1))))] := hD
    refine W.widen (k := 1) (n := 6) (by first | exact Nat.le_refl _ | omega) (by first | exact Nat.le_refl _ | omega) ?_
    refine lv_i2l (v := (r_0).toInt64) hx hb dc_L_zero_7 rfl ?_
    refine va_putN (D := G.1) (ci := 3) (v := .long ((r_0).toInt64)) (ty := .long) (C := RX7) (T := TX7) (N := 2) hx hb hts ki_X7 tyX7 tyX7_ok nmX7 hown hE.1 hP hD hS 0 rfl rfl 0 (by decide) (va_Nw.use (A := _) rfl (hE.nestF (kc_4 _ (List.mem_of_getElem? (i := 72) rfl)))) (fun _ h9 => h9) rfl (by decide +kernel) rfl rfl (Nat.le_of_ble_eq_true rfl) dc_L_zero_8 (fun H locs hP hD hS => ?_)
    have hP : va_P G.1 kcl [(o, .inr (3, [.long ((r_0).toInt64), sv])), (x, .inr (0, [.ref cs, .ref sc, .ref pf, .int (w_0.2.1), .int (w_0.2.2.1), .int (w_0.2.2.2)])), (cs, .inl (G.2.1 2, 6, .inr (.inl (w_0.1))))] H := hP
    have hD : va_D A [(o, .inr (3, [.long ((r_0).toInt64), sv])), (x, .inr (0, [.ref cs, .ref sc, .ref pf, .int (w_0.2.1), .int (w_0.2.2.1), .int (w_0.2.2.2)])), (cs, .inl (G.2.1 2, 6, .inr (.inl (w_0.1))))] := hD
    refine lv_goto (tgt := 18) hx hb dc_L_zero_11 (by decide) ?_
    refine lv_iconst (v := 0) hx hb dc_L_zero_18 (by decide) ?_
    have hP9 := hP.sub (ws' := [(x, .inr (0, [.ref cs, .ref sc, .ref pf, .int (w_0.2.1), .int (w_0.2.2.1), .int (w_0.2.2.2)])), (cs, .inl (G.2.1 2, 6, .inr (.inl (w_0.1)))), (o, .inr (3, [.long ((r_0).toInt64), sv]))]) [1, 2, 0] rfl
    have hD9 := hD.sub (ws' := [(x, .inr (0, [.ref cs, .ref sc, .ref pf, .int (w_0.2.1), .int (w_0.2.2.1), .int (w_0.2.2.2)])), (cs, .inl (G.2.1 2, 6, .inr (.inl (w_0.1)))), (o, .inr (3, [.long ((r_0).toInt64), sv]))]) [1, 2, 0] (by decide) rfl
    refine W.widen (k := 1) (n := 6) (Nat.le_of_ble_eq_true rfl) (Nat.le_of_ble_eq_true rfl) ?_
    exact W.iret (v := (0 : Int32)) hx hb hr (fun t ht hW => ⟨⟨_, (w_0, (r_0).toInt64), rfl, ⟨by rw [hf_0, ky_lw_ok], by rw [hf_0, ky_lw_ok]⟩, by rw [ht]; exact hP9, hD9, trivial⟩, hS.F ht⟩) hS.2.2 dc_L_zero_19
set_option linter.constructorNameAsVariable false in
set_option maxHeartbeats 4000000 in
set_option maxRecDepth 100000 in
theorem mt_L_endless (l : Launch) (hl9 : l.stackTraces = false) (G : ky_G) (x : Nat) (cs : Nat) (sc : Nat) (pf : Nat) (u : ky_BS) (o : Nat) (nn : Int64) (sv : Value) (a1 : Int32) (a2 : Int32) (sz : Nat)  : Met l my_L_endless (.codeWith my_L_endless method_3_code 5 (some .int) [(0, 11, 14, 19)] :: ky_B) { frames := 8, cells := 1, slots := 6, locals := 129 } (ky_P G [.ref x, .int (a1), .int (a2), .ref o] (ky_WB G x cs sc pf u ++ ky_WO o nn sv) sz (fun _ => True)) (ky_Q (S := ky_BS × Int64) G (va_A (ky_WB G x cs sc pf u ++ ky_WO o nn sv) sz) (fun v z => v = some (.int (ky_lw (fn_X6_endless a1 a2 u) u nn).1) ∧ z = (ky_lw (fn_X6_endless a1 a2 u) u nn).2) (fun z => ky_WB G x cs sc pf z.1 ++ ky_WO o z.2 sv) (fun _ _ => True)) (1) (6) (va_A (ky_WB G x cs sc pf u ++ ky_WO o nn sv) sz) := by
  refine ky_startH (hh := [(0, 11, 14, 19)]) (by decide) (Nat.le_of_ble_eq_true rfl) (fun p e s m below meth c F hT hE A hAe hsz hA hfr hP hD hS hX ls hl => ?_)
  obtain ⟨hx, hb, hml, hown, hr, hlocks, hts⟩ := id F
  have hl : lv_has ls 5 [(0, .ref x), (1, .int (a1)), (2, .int (a2)), (3, .ref o)] := hl
  have hP : va_P G.1 kcl [(x, .inr (0, [.ref cs, .ref sc, .ref pf, .int (u.2.1), .int (u.2.2.1), .int (u.2.2.2)])), (cs, .inl (G.2.1 2, 6, .inr (.inl (u.1)))), (o, .inr (3, [.long (nn), sv]))] s.heap := hP
  have hD : va_D A [(x, .inr (0, [.ref cs, .ref sc, .ref pf, .int (u.2.1), .int (u.2.2.1), .int (u.2.2.2)])), (cs, .inl (G.2.1 2, 6, .inr (.inl (u.1)))), (o, .inr (3, [.long (nn), sv]))] := hD
  refine lv_aload_n hx hb dc_L_endless_0 rfl (lv_at hl 3 rfl) ?_
  refine lv_aload_n hx hb dc_L_endless_1 rfl (lv_at hl 0 rfl) ?_
  refine lv_iload_n hx hb dc_L_endless_2 rfl (lv_at hl 1 rfl) ?_
  refine lv_iload_n hx hb dc_L_endless_3 rfl (lv_at hl 2 rfl) ?_
  refine ky_cVx (As := [.int (a1), .int (a2)]) (wr := [(o, .inr (3, [.long (nn), sv]))]) F (hE.at hfr hS) hfr (mt_X6_endless l hl9 G x cs sc pf u (a1) (a2) s.heap.size) kv_L_21 ⟨⟨rfl, rfl⟩, Nat.le_of_ble_eq_true rfl, Nat.le_of_ble_eq_true rfl⟩ rfl hl.1 rfl (Nat.le_of_ble_eq_true rfl) ⟨Nat.le_of_ble_eq_true rfl, Nat.le_of_ble_eq_true rfl⟩ (va_recv hE.1 hP (ci := 0) (q0 := 0) rfl rfl) trivial hP hD hS hA [0, 1] [2] rfl rfl (by decide) (by decide) (by decide) dc_L_endless_4 ?_ ?_
  · intro E ce q9 H locs hp hP hD hS hz hk9 hc1 hc2 hc3
    have hP : va_P G.1 kcl [(o, .inr (3, [.long (nn), sv])), (x, .inr (0, [.ref cs, .ref sc, .ref pf, .int (u.2.1), .int (u.2.2.1), .int (u.2.2.2)])), (cs, .inl (G.2.1 2, 6, .inr (.inl (u.1))))] H := hP
    have hD : va_D A [(o, .inr (3, [.long (nn), sv])), (x, .inr (0, [.ref cs, .ref sc, .ref pf, .int (u.2.1), .int (u.2.2.1), .int (u.2.2.2)])), (cs, .inl (G.2.1 2, 6, .inr (.inl (u.1))))] := hD
    have he := on_X6_endless (a1) (a2) u E hp
    subst he
    refine ky_cat1 (h1 := (0, 11, 14, 19)) (name := "java/lang/IndexOutOfBoundsException") hE hown hT (by decide) (by decide) (hts _ kw_4_82) (kc_4 _ (List.mem_of_getElem? (i := 92) rfl)) rfl hc1 hc2 hc3 ?_
    refine W.eq (g2 := F0 m 14 ls [.ref q9]) rfl ?_
    refine W.widen (k := 1) (n := 6) (by first | exact Nat.le_refl _ | omega) (by first | exact Nat.le_refl _ | omega) ?_
    refine lv_astore (lv' := [(4, .ref q9), (0, .ref x), (1, .int (a1)), (2, .int (a2)), (3, .ref o)]) hx hb dc_L_endless_14 hl (by decide) rfl (fun ls hl => ?_)
    refine lv_iconst (v := 1) hx hb dc_L_endless_16 (by decide) ?_
    have hP9 := hP.sub (ws' := [(x, .inr (0, [.ref cs, .ref sc, .ref pf, .int (u.2.1), .int (u.2.2.1), .int (u.2.2.2)])), (cs, .inl (G.2.1 2, 6, .inr (.inl (u.1)))), (o, .inr (3, [.long (nn), sv]))]) [1, 2, 0] rfl
    have hD9 := hD.sub (ws' := [(x, .inr (0, [.ref cs, .ref sc, .ref pf, .int (u.2.1), .int (u.2.2.1), .int (u.2.2.2)])), (cs, .inl (G.2.1 2, 6, .inr (.inl (u.1)))), (o, .inr (3, [.long (nn), sv]))]) [1, 2, 0] (by decide) rfl
    refine W.widen (k := 1) (n := 6) (Nat.le_of_ble_eq_true rfl) (Nat.le_of_ble_eq_true rfl) ?_
    exact W.iret (v := (1 : Int32)) hx hb hr (fun t ht hW => ⟨⟨_, (u, nn), rfl, ⟨by rw [hp, ky_lw_io], by rw [hp, ky_lw_io]⟩, by rw [ht]; exact hP9, hD9, trivial⟩, hS.F ht⟩) hS.2.2 dc_L_endless_17
  · rintro v9 u9 H locs ⟨r_0, w_0, hf_0, rfl, hu9⟩ hP hD hS - hz hk9
    have hu9 := hu9.symm
    subst hu9
    have hP : va_P G.1 kcl [(o, .inr (3, [.long (nn), sv])), (x, .inr (0, [.ref cs, .ref sc, .ref pf, .int (w_0.2.1), .int (w_0.2.2.1), .int (w_0.2.2.2)])), (cs, .inl (G.2.1 2, 6, .inr (.inl (w_0.1))))] H := hP
    have hD : va_D A [(o, .inr (3, [.long (nn), sv])), (x, .inr (0, [.ref cs, .ref sc, .ref pf, .int (w_0.2.1), .int (w_0.2.2.1), .int (w_0.2.2.2)])), (cs, .inl (G.2.1 2, 6, .inr (.inl (w_0.1))))] := hD
    refine W.widen (k := 1) (n := 6) (by first | exact Nat.le_refl _ | omega) (by first | exact Nat.le_refl _ | omega) ?_
    refine lv_i2l (v := (r_0).toInt64) hx hb dc_L_endless_7 rfl ?_
    refine va_putN (D := G.1) (ci := 3) (v := .long ((r_0).toInt64)) (ty := .long) (C := RX7) (T := TX7) (N := 2) hx hb hts ki_X7 tyX7 tyX7_ok nmX7 hown hE.1 hP hD hS 0 rfl rfl 0 (by decide) (va_Nw.use (A := _) rfl (hE.nestF (kc_4 _ (List.mem_of_getElem? (i := 72) rfl)))) (fun _ h9 => h9) rfl (by decide +kernel) rfl rfl (Nat.le_of_ble_eq_true rfl) dc_L_endless_8 (fun H locs hP hD hS => ?_)
    have hP : va_P G.1 kcl [(o, .inr (3, [.long ((r_0).toInt64), sv])), (x, .inr (0, [.ref cs, .ref sc, .ref pf, .int (w_0.2.1), .int (w_0.2.2.1), .int (w_0.2.2.2)])), (cs, .inl (G.2.1 2, 6, .inr (.inl (w_0.1))))] H := hP
    have hD : va_D A [(o, .inr (3, [.long ((r_0).toInt64), sv])), (x, .inr (0, [.ref cs, .ref sc, .ref pf, .int (w_0.2.1), .int (w_0.2.2.1), .int (w_0.2.2.2)])), (cs, .inl (G.2.1 2, 6, .inr (.inl (w_0.1))))] := hD
    refine lv_goto (tgt := 18) hx hb dc_L_endless_11 (by decide) ?_
    refine lv_iconst (v := 0) hx hb dc_L_endless_18 (by decide) ?_
    have hP9 := hP.sub (ws' := [(x, .inr (0, [.ref cs, .ref sc, .ref pf, .int (w_0.2.1), .int (w_0.2.2.1), .int (w_0.2.2.2)])), (cs, .inl (G.2.1 2, 6, .inr (.inl (w_0.1)))), (o, .inr (3, [.long ((r_0).toInt64), sv]))]) [1, 2, 0] rfl
    have hD9 := hD.sub (ws' := [(x, .inr (0, [.ref cs, .ref sc, .ref pf, .int (w_0.2.1), .int (w_0.2.2.1), .int (w_0.2.2.2)])), (cs, .inl (G.2.1 2, 6, .inr (.inl (w_0.1)))), (o, .inr (3, [.long ((r_0).toInt64), sv]))]) [1, 2, 0] (by decide) rfl
    refine W.widen (k := 1) (n := 6) (Nat.le_of_ble_eq_true rfl) (Nat.le_of_ble_eq_true rfl) ?_
    exact W.iret (v := (0 : Int32)) hx hb hr (fun t ht hW => ⟨⟨_, (w_0, (r_0).toInt64), rfl, ⟨by rw [hf_0, ky_lw_ok], by rw [hf_0, ky_lw_ok]⟩, by rw [ht]; exact hP9, hD9, trivial⟩, hS.F ht⟩) hS.2.2 dc_L_endless_19
set_option linter.constructorNameAsVariable false in
set_option maxHeartbeats 4000000 in
set_option maxRecDepth 100000 in
theorem mt_L_quarters (l : Launch) (hl9 : l.stackTraces = false) (G : ky_G) (x : Nat) (cs : Nat) (sc : Nat) (pf : Nat) (u : ky_BS) (o : Nat) (nn : Int64) (sv : Value) (a1 : Int32) (a2 : Int32) (sz : Nat)  : Met l my_L_quarters (.codeWith my_L_quarters method_4_code 5 (some .int) [(0, 11, 14, 19)] :: ky_B) { frames := 8, cells := 1, slots := 6, locals := 131 } (ky_P G [.ref x, .int (a1), .int (a2), .ref o] (ky_WB G x cs sc pf u ++ ky_WO o nn sv) sz (fun _ => True)) (ky_Q (S := ky_BS × Int64) G (va_A (ky_WB G x cs sc pf u ++ ky_WO o nn sv) sz) (fun v z => v = some (.int (ky_lw (fn_X6_quarters a1 a2 u) u nn).1) ∧ z = (ky_lw (fn_X6_quarters a1 a2 u) u nn).2) (fun z => ky_WB G x cs sc pf z.1 ++ ky_WO o z.2 sv) (fun _ _ => True)) (1) (6) (va_A (ky_WB G x cs sc pf u ++ ky_WO o nn sv) sz) := by
  refine ky_startH (hh := [(0, 11, 14, 19)]) (by decide) (Nat.le_of_ble_eq_true rfl) (fun p e s m below meth c F hT hE A hAe hsz hA hfr hP hD hS hX ls hl => ?_)
  obtain ⟨hx, hb, hml, hown, hr, hlocks, hts⟩ := id F
  have hl : lv_has ls 5 [(0, .ref x), (1, .int (a1)), (2, .int (a2)), (3, .ref o)] := hl
  have hP : va_P G.1 kcl [(x, .inr (0, [.ref cs, .ref sc, .ref pf, .int (u.2.1), .int (u.2.2.1), .int (u.2.2.2)])), (cs, .inl (G.2.1 2, 6, .inr (.inl (u.1)))), (o, .inr (3, [.long (nn), sv]))] s.heap := hP
  have hD : va_D A [(x, .inr (0, [.ref cs, .ref sc, .ref pf, .int (u.2.1), .int (u.2.2.1), .int (u.2.2.2)])), (cs, .inl (G.2.1 2, 6, .inr (.inl (u.1)))), (o, .inr (3, [.long (nn), sv]))] := hD
  refine lv_aload_n hx hb dc_L_quarters_0 rfl (lv_at hl 3 rfl) ?_
  refine lv_aload_n hx hb dc_L_quarters_1 rfl (lv_at hl 0 rfl) ?_
  refine lv_iload_n hx hb dc_L_quarters_2 rfl (lv_at hl 1 rfl) ?_
  refine lv_iload_n hx hb dc_L_quarters_3 rfl (lv_at hl 2 rfl) ?_
  refine ky_cVx (As := [.int (a1), .int (a2)]) (wr := [(o, .inr (3, [.long (nn), sv]))]) F (hE.at hfr hS) hfr (mt_X6_quarters l hl9 G x cs sc pf u (a1) (a2) s.heap.size) kv_L_24 ⟨⟨rfl, rfl⟩, Nat.le_of_ble_eq_true rfl, Nat.le_of_ble_eq_true rfl⟩ rfl hl.1 rfl (Nat.le_of_ble_eq_true rfl) ⟨Nat.le_of_ble_eq_true rfl, Nat.le_of_ble_eq_true rfl⟩ (va_recv hE.1 hP (ci := 0) (q0 := 0) rfl rfl) trivial hP hD hS hA [0, 1] [2] rfl rfl (by decide) (by decide) (by decide) dc_L_quarters_4 ?_ ?_
  · intro E ce q9 H locs hp hP hD hS hz hk9 hc1 hc2 hc3
    have hP : va_P G.1 kcl [(o, .inr (3, [.long (nn), sv])), (x, .inr (0, [.ref cs, .ref sc, .ref pf, .int (u.2.1), .int (u.2.2.1), .int (u.2.2.2)])), (cs, .inl (G.2.1 2, 6, .inr (.inl (u.1))))] H := hP
    have hD : va_D A [(o, .inr (3, [.long (nn), sv])), (x, .inr (0, [.ref cs, .ref sc, .ref pf, .int (u.2.1), .int (u.2.2.1), .int (u.2.2.2)])), (cs, .inl (G.2.1 2, 6, .inr (.inl (u.1))))] := hD
    have he := on_X6_quarters (a1) (a2) u E hp
    subst he
    refine ky_cat1 (h1 := (0, 11, 14, 19)) (name := "java/lang/IndexOutOfBoundsException") hE hown hT (by decide) (by decide) (hts _ kw_4_82) (kc_4 _ (List.mem_of_getElem? (i := 92) rfl)) rfl hc1 hc2 hc3 ?_
    refine W.eq (g2 := F0 m 14 ls [.ref q9]) rfl ?_
    refine W.widen (k := 1) (n := 6) (by first | exact Nat.le_refl _ | omega) (by first | exact Nat.le_refl _ | omega) ?_
    refine lv_astore (lv' := [(4, .ref q9), (0, .ref x), (1, .int (a1)), (2, .int (a2)), (3, .ref o)]) hx hb dc_L_quarters_14 hl (by decide) rfl (fun ls hl => ?_)
    refine lv_iconst (v := 1) hx hb dc_L_quarters_16 (by decide) ?_
    have hP9 := hP.sub (ws' := [(x, .inr (0, [.ref cs, .ref sc, .ref pf, .int (u.2.1), .int (u.2.2.1), .int (u.2.2.2)])), (cs, .inl (G.2.1 2, 6, .inr (.inl (u.1)))), (o, .inr (3, [.long (nn), sv]))]) [1, 2, 0] rfl
    have hD9 := hD.sub (ws' := [(x, .inr (0, [.ref cs, .ref sc, .ref pf, .int (u.2.1), .int (u.2.2.1), .int (u.2.2.2)])), (cs, .inl (G.2.1 2, 6, .inr (.inl (u.1)))), (o, .inr (3, [.long (nn), sv]))]) [1, 2, 0] (by decide) rfl
    refine W.widen (k := 1) (n := 6) (Nat.le_of_ble_eq_true rfl) (Nat.le_of_ble_eq_true rfl) ?_
    exact W.iret (v := (1 : Int32)) hx hb hr (fun t ht hW => ⟨⟨_, (u, nn), rfl, ⟨by rw [hp, ky_lw_io], by rw [hp, ky_lw_io]⟩, by rw [ht]; exact hP9, hD9, trivial⟩, hS.F ht⟩) hS.2.2 dc_L_quarters_17
  · rintro v9 u9 H locs ⟨r_0, w_0, hf_0, rfl, hu9⟩ hP hD hS - hz hk9
    have hu9 := hu9.symm
    subst hu9
    have hP : va_P G.1 kcl [(o, .inr (3, [.long (nn), sv])), (x, .inr (0, [.ref cs, .ref sc, .ref pf, .int (w_0.2.1), .int (w_0.2.2.1), .int (w_0.2.2.2)])), (cs, .inl (G.2.1 2, 6, .inr (.inl (w_0.1))))] H := hP
    have hD : va_D A [(o, .inr (3, [.long (nn), sv])), (x, .inr (0, [.ref cs, .ref sc, .ref pf, .int (w_0.2.1), .int (w_0.2.2.1), .int (w_0.2.2.2)])), (cs, .inl (G.2.1 2, 6, .inr (.inl (w_0.1))))] := hD
    refine W.widen (k := 1) (n := 6) (by first | exact Nat.le_refl _ | omega) (by first | exact Nat.le_refl _ | omega) ?_
    refine lv_i2l (v := (r_0).toInt64) hx hb dc_L_quarters_7 rfl ?_
    refine va_putN (D := G.1) (ci := 3) (v := .long ((r_0).toInt64)) (ty := .long) (C := RX7) (T := TX7) (N := 2) hx hb hts ki_X7 tyX7 tyX7_ok nmX7 hown hE.1 hP hD hS 0 rfl rfl 0 (by decide) (va_Nw.use (A := _) rfl (hE.nestF (kc_4 _ (List.mem_of_getElem? (i := 72) rfl)))) (fun _ h9 => h9) rfl (by decide +kernel) rfl rfl (Nat.le_of_ble_eq_true rfl) dc_L_quarters_8 (fun H locs hP hD hS => ?_)
    have hP : va_P G.1 kcl [(o, .inr (3, [.long ((r_0).toInt64), sv])), (x, .inr (0, [.ref cs, .ref sc, .ref pf, .int (w_0.2.1), .int (w_0.2.2.1), .int (w_0.2.2.2)])), (cs, .inl (G.2.1 2, 6, .inr (.inl (w_0.1))))] H := hP
    have hD : va_D A [(o, .inr (3, [.long ((r_0).toInt64), sv])), (x, .inr (0, [.ref cs, .ref sc, .ref pf, .int (w_0.2.1), .int (w_0.2.2.1), .int (w_0.2.2.2)])), (cs, .inl (G.2.1 2, 6, .inr (.inl (w_0.1))))] := hD
    refine lv_goto (tgt := 18) hx hb dc_L_quarters_11 (by decide) ?_
    refine lv_iconst (v := 0) hx hb dc_L_quarters_18 (by decide) ?_
    have hP9 := hP.sub (ws' := [(x, .inr (0, [.ref cs, .ref sc, .ref pf, .int (w_0.2.1), .int (w_0.2.2.1), .int (w_0.2.2.2)])), (cs, .inl (G.2.1 2, 6, .inr (.inl (w_0.1)))), (o, .inr (3, [.long ((r_0).toInt64), sv]))]) [1, 2, 0] rfl
    have hD9 := hD.sub (ws' := [(x, .inr (0, [.ref cs, .ref sc, .ref pf, .int (w_0.2.1), .int (w_0.2.2.1), .int (w_0.2.2.2)])), (cs, .inl (G.2.1 2, 6, .inr (.inl (w_0.1)))), (o, .inr (3, [.long ((r_0).toInt64), sv]))]) [1, 2, 0] (by decide) rfl
    refine W.widen (k := 1) (n := 6) (Nat.le_of_ble_eq_true rfl) (Nat.le_of_ble_eq_true rfl) ?_
    exact W.iret (v := (0 : Int32)) hx hb hr (fun t ht hW => ⟨⟨_, (w_0, (r_0).toInt64), rfl, ⟨by rw [hf_0, ky_lw_ok], by rw [hf_0, ky_lw_ok]⟩, by rw [ht]; exact hP9, hD9, trivial⟩, hS.F ht⟩) hS.2.2 dc_L_quarters_19
set_option linter.constructorNameAsVariable false in
set_option maxHeartbeats 4000000 in
set_option maxRecDepth 100000 in
theorem mt_L_power (l : Launch) (hl9 : l.stackTraces = false) (G : ky_G) (x : Nat) (cs : Nat) (sc : Nat) (pf : Nat) (u : ky_BS) (o : Nat) (nn : Int64) (sv : Value) (a1 : Int32) (a2 : Int32) (a3 : Int32) (sz : Nat)  : Met l my_L_power (.codeWith my_L_power method_5_code 6 (some .int) [(0, 13, 16, 19), (0, 13, 20, 32)] :: ky_B) { frames := 8, cells := 2, slots := 12, locals := 130 } (ky_P G [.ref x, .int (a1), .int (a2), .int (a3), .ref o] (ky_WB G x cs sc pf u ++ ky_WO o nn sv) sz (fun _ => True)) (ky_Q (S := ky_BS × Int64) G (va_A (ky_WB G x cs sc pf u ++ ky_WO o nn sv) sz) (fun v z => v = some (.int (ky_lw (fn_X6_power a1 a2 a3 u) u nn).1) ∧ z = (ky_lw (fn_X6_power a1 a2 a3 u) u nn).2) (fun z => ky_WB G x cs sc pf z.1 ++ ky_WO o z.2 sv) (fun _ _ => True)) (2) (12) (va_A (ky_WB G x cs sc pf u ++ ky_WO o nn sv) sz) := by
  refine ky_startH (hh := [(0, 13, 16, 19), (0, 13, 20, 32)]) (by decide) (Nat.le_of_ble_eq_true rfl) (fun p e s m below meth c F hT hE A hAe hsz hA hfr hP hD hS hX ls hl => ?_)
  obtain ⟨hx, hb, hml, hown, hr, hlocks, hts⟩ := id F
  have hl : lv_has ls 6 [(0, .ref x), (1, .int (a1)), (2, .int (a2)), (3, .int (a3)), (4, .ref o)] := hl
  have hP : va_P G.1 kcl [(x, .inr (0, [.ref cs, .ref sc, .ref pf, .int (u.2.1), .int (u.2.2.1), .int (u.2.2.2)])), (cs, .inl (G.2.1 2, 6, .inr (.inl (u.1)))), (o, .inr (3, [.long (nn), sv]))] s.heap := hP
  have hD : va_D A [(x, .inr (0, [.ref cs, .ref sc, .ref pf, .int (u.2.1), .int (u.2.2.1), .int (u.2.2.2)])), (cs, .inl (G.2.1 2, 6, .inr (.inl (u.1)))), (o, .inr (3, [.long (nn), sv]))] := hD
  refine lv_aload hx hb dc_L_power_0 (lv_at hl 4 rfl) ?_
  refine lv_aload_n hx hb dc_L_power_2 rfl (lv_at hl 0 rfl) ?_
  refine lv_iload_n hx hb dc_L_power_3 rfl (lv_at hl 1 rfl) ?_
  refine lv_iload_n hx hb dc_L_power_4 rfl (lv_at hl 2 rfl) ?_
  refine lv_iload_n hx hb dc_L_power_5 rfl (lv_at hl 3 rfl) ?_
  refine ky_cVx (As := [.int (a1), .int (a2), .int (a3)]) (wr := [(o, .inr (3, [.long (nn), sv]))]) F (hE.at hfr hS) hfr (mt_X6_power l hl9 G x cs sc pf u (a1) (a2) (a3) s.heap.size) kv_L_28 ⟨⟨rfl, rfl⟩, Nat.le_of_ble_eq_true rfl, Nat.le_of_ble_eq_true rfl⟩ rfl hl.1 rfl (Nat.le_of_ble_eq_true rfl) ⟨Nat.le_of_ble_eq_true rfl, Nat.le_of_ble_eq_true rfl⟩ (va_recv hE.1 hP (ci := 0) (q0 := 0) rfl rfl) trivial hP hD hS hA [0, 1] [2] rfl rfl (by decide) (by decide) (by decide) dc_L_power_6 ?_ ?_
  · intro E ce q9 H locs hp hP hD hS hz hk9 hc1 hc2 hc3
    have hP : va_P G.1 kcl [(o, .inr (3, [.long (nn), sv])), (x, .inr (0, [.ref cs, .ref sc, .ref pf, .int (u.2.1), .int (u.2.2.1), .int (u.2.2.2)])), (cs, .inl (G.2.1 2, 6, .inr (.inl (u.1))))] H := hP
    have hD : va_D A [(o, .inr (3, [.long (nn), sv])), (x, .inr (0, [.ref cs, .ref sc, .ref pf, .int (u.2.1), .int (u.2.2.1), .int (u.2.2.2)])), (cs, .inl (G.2.1 2, 6, .inr (.inl (u.1))))] := hD
    have he := on_X6_power (a1) (a2) (a3) u E hp
    rcases he with he | he
    · skip
      subst he
      refine ky_cat1 (h1 := (0, 13, 16, 19)) (name := "java/lang/IndexOutOfBoundsException") hE hown hT (by decide) (by decide) (hts _ kw_4_82) (kc_4 _ (List.mem_of_getElem? (i := 92) rfl)) rfl hc1 hc2 hc3 ?_
      refine W.eq (g2 := F0 m 16 ls [.ref q9]) rfl ?_
      refine W.widen (k := 2) (n := 12) (by first | exact Nat.le_refl _ | omega) (by first | exact Nat.le_refl _ | omega) ?_
      refine lv_astore (lv' := [(5, .ref q9), (0, .ref x), (1, .int (a1)), (2, .int (a2)), (3, .int (a3)), (4, .ref o)]) hx hb dc_L_power_16 hl (by decide) rfl (fun ls hl => ?_)
      refine lv_iconst (v := 1) hx hb dc_L_power_18 (by decide) ?_
      have hP9 := hP.sub (ws' := [(x, .inr (0, [.ref cs, .ref sc, .ref pf, .int (u.2.1), .int (u.2.2.1), .int (u.2.2.2)])), (cs, .inl (G.2.1 2, 6, .inr (.inl (u.1)))), (o, .inr (3, [.long (nn), sv]))]) [1, 2, 0] rfl
      have hD9 := hD.sub (ws' := [(x, .inr (0, [.ref cs, .ref sc, .ref pf, .int (u.2.1), .int (u.2.2.1), .int (u.2.2.2)])), (cs, .inl (G.2.1 2, 6, .inr (.inl (u.1)))), (o, .inr (3, [.long (nn), sv]))]) [1, 2, 0] (by decide) rfl
      refine W.widen (k := 2) (n := 12) (Nat.le_of_ble_eq_true rfl) (Nat.le_of_ble_eq_true rfl) ?_
      exact W.iret (v := (1 : Int32)) hx hb hr (fun t ht hW => ⟨⟨_, (u, nn), rfl, ⟨by rw [hp, ky_lw_io], by rw [hp, ky_lw_io]⟩, by rw [ht]; exact hP9, hD9, trivial⟩, hS.F ht⟩) hS.2.2 dc_L_power_19
    · skip
      subst he
      refine ky_cat2 (h1 := (0, 13, 16, 19)) (h2 := (0, 13, 20, 32)) (nm1 := "java/lang/IndexOutOfBoundsException") (name := "java/lang/IllegalArgumentException") hE hown hT (by decide) (by decide) (by decide) (hts _ kw_4_82) ky_noia (hts _ kw_4_132) (kc_2 _ (List.mem_of_getElem? (i := 105) rfl)) rfl hc1 hc2 hc3 ?_
      refine W.eq (g2 := F0 m 20 ls [.ref q9]) rfl ?_
      refine W.widen (k := 2) (n := 12) (by first | exact Nat.le_refl _ | omega) (by first | exact Nat.le_refl _ | omega) ?_
      refine lv_astore (lv' := [(5, .ref q9), (0, .ref x), (1, .int (a1)), (2, .int (a2)), (3, .int (a3)), (4, .ref o)]) hx hb dc_L_power_20 hl (by decide) rfl (fun ls hl => ?_)
      refine lv_iconst (v := 2) hx hb dc_L_power_22 (by decide) ?_
      have hP9 := hP.sub (ws' := [(x, .inr (0, [.ref cs, .ref sc, .ref pf, .int (u.2.1), .int (u.2.2.1), .int (u.2.2.2)])), (cs, .inl (G.2.1 2, 6, .inr (.inl (u.1)))), (o, .inr (3, [.long (nn), sv]))]) [1, 2, 0] rfl
      have hD9 := hD.sub (ws' := [(x, .inr (0, [.ref cs, .ref sc, .ref pf, .int (u.2.1), .int (u.2.2.1), .int (u.2.2.2)])), (cs, .inl (G.2.1 2, 6, .inr (.inl (u.1)))), (o, .inr (3, [.long (nn), sv]))]) [1, 2, 0] (by decide) rfl
      refine W.widen (k := 2) (n := 12) (Nat.le_of_ble_eq_true rfl) (Nat.le_of_ble_eq_true rfl) ?_
      exact W.iret (v := (2 : Int32)) hx hb hr (fun t ht hW => ⟨⟨_, (u, nn), rfl, ⟨by rw [hp, ky_lw_ia], by rw [hp, ky_lw_ia]⟩, by rw [ht]; exact hP9, hD9, trivial⟩, hS.F ht⟩) hS.2.2 dc_L_power_23
  · rintro v9 u9 H locs ⟨r_0, w_0, hf_0, rfl, hu9⟩ hP hD hS - hz hk9
    have hu9 := hu9.symm
    subst hu9
    have hP : va_P G.1 kcl [(o, .inr (3, [.long (nn), sv])), (x, .inr (0, [.ref cs, .ref sc, .ref pf, .int (w_0.2.1), .int (w_0.2.2.1), .int (w_0.2.2.2)])), (cs, .inl (G.2.1 2, 6, .inr (.inl (w_0.1))))] H := hP
    have hD : va_D A [(o, .inr (3, [.long (nn), sv])), (x, .inr (0, [.ref cs, .ref sc, .ref pf, .int (w_0.2.1), .int (w_0.2.2.1), .int (w_0.2.2.2)])), (cs, .inl (G.2.1 2, 6, .inr (.inl (w_0.1))))] := hD
    refine W.widen (k := 2) (n := 12) (by first | exact Nat.le_refl _ | omega) (by first | exact Nat.le_refl _ | omega) ?_
    refine lv_i2l (v := (r_0).toInt64) hx hb dc_L_power_9 rfl ?_
    refine va_putN (D := G.1) (ci := 3) (v := .long ((r_0).toInt64)) (ty := .long) (C := RX7) (T := TX7) (N := 2) hx hb hts ki_X7 tyX7 tyX7_ok nmX7 hown hE.1 hP hD hS 0 rfl rfl 0 (by decide) (va_Nw.use (A := _) rfl (hE.nestF (kc_4 _ (List.mem_of_getElem? (i := 72) rfl)))) (fun _ h9 => h9) rfl (by decide +kernel) rfl rfl (Nat.le_of_ble_eq_true rfl) dc_L_power_10 (fun H locs hP hD hS => ?_)
    have hP : va_P G.1 kcl [(o, .inr (3, [.long ((r_0).toInt64), sv])), (x, .inr (0, [.ref cs, .ref sc, .ref pf, .int (w_0.2.1), .int (w_0.2.2.1), .int (w_0.2.2.2)])), (cs, .inl (G.2.1 2, 6, .inr (.inl (w_0.1))))] H := hP
    have hD : va_D A [(o, .inr (3, [.long ((r_0).toInt64), sv])), (x, .inr (0, [.ref cs, .ref sc, .ref pf, .int (w_0.2.1), .int (w_0.2.2.1), .int (w_0.2.2.2)])), (cs, .inl (G.2.1 2, 6, .inr (.inl (w_0.1))))] := hD
    refine lv_goto (tgt := 24) hx hb dc_L_power_13 (by decide) ?_
    refine lv_iconst (v := 0) hx hb dc_L_power_24 (by decide) ?_
    have hP9 := hP.sub (ws' := [(x, .inr (0, [.ref cs, .ref sc, .ref pf, .int (w_0.2.1), .int (w_0.2.2.1), .int (w_0.2.2.2)])), (cs, .inl (G.2.1 2, 6, .inr (.inl (w_0.1)))), (o, .inr (3, [.long ((r_0).toInt64), sv]))]) [1, 2, 0] rfl
    have hD9 := hD.sub (ws' := [(x, .inr (0, [.ref cs, .ref sc, .ref pf, .int (w_0.2.1), .int (w_0.2.2.1), .int (w_0.2.2.2)])), (cs, .inl (G.2.1 2, 6, .inr (.inl (w_0.1)))), (o, .inr (3, [.long ((r_0).toInt64), sv]))]) [1, 2, 0] (by decide) rfl
    refine W.widen (k := 2) (n := 12) (Nat.le_of_ble_eq_true rfl) (Nat.le_of_ble_eq_true rfl) ?_
    exact W.iret (v := (0 : Int32)) hx hb hr (fun t ht hW => ⟨⟨_, (w_0, (r_0).toInt64), rfl, ⟨by rw [hf_0, ky_lw_ok], by rw [hf_0, ky_lw_ok]⟩, by rw [ht]; exact hP9, hD9, trivial⟩, hS.F ht⟩) hS.2.2 dc_L_power_25
set_option linter.constructorNameAsVariable false in
set_option maxHeartbeats 4000000 in
set_option maxRecDepth 100000 in
theorem mt_L_bits (l : Launch) (hl9 : l.stackTraces = false) (G : ky_G) (x : Nat) (cs : Nat) (sc : Nat) (pf : Nat) (u : ky_BS) (o : Nat) (nn : Int64) (sv : Value) (a1 : Int32) (a2 : Int32) (a3 : Int32) (sz : Nat)  : Met l my_L_bits (.codeWith my_L_bits method_6_code 6 (some .int) [(0, 13, 16, 19)] :: ky_B) { frames := 8, cells := 1, slots := 6, locals := 132 } (ky_P G [.ref x, .int (a1), .int (a2), .int (a3), .ref o] (ky_WB G x cs sc pf u ++ ky_WO o nn sv) sz (fun _ => True)) (ky_Q (S := ky_BS × Int64) G (va_A (ky_WB G x cs sc pf u ++ ky_WO o nn sv) sz) (fun v z => v = some (.int (ky_lw (fn_X6_bits a1 a2 a3 u) u nn).1) ∧ z = (ky_lw (fn_X6_bits a1 a2 a3 u) u nn).2) (fun z => ky_WB G x cs sc pf z.1 ++ ky_WO o z.2 sv) (fun _ _ => True)) (1) (6) (va_A (ky_WB G x cs sc pf u ++ ky_WO o nn sv) sz) := by
  refine ky_startH (hh := [(0, 13, 16, 19)]) (by decide) (Nat.le_of_ble_eq_true rfl) (fun p e s m below meth c F hT hE A hAe hsz hA hfr hP hD hS hX ls hl => ?_)
  obtain ⟨hx, hb, hml, hown, hr, hlocks, hts⟩ := id F
  have hl : lv_has ls 6 [(0, .ref x), (1, .int (a1)), (2, .int (a2)), (3, .int (a3)), (4, .ref o)] := hl
  have hP : va_P G.1 kcl [(x, .inr (0, [.ref cs, .ref sc, .ref pf, .int (u.2.1), .int (u.2.2.1), .int (u.2.2.2)])), (cs, .inl (G.2.1 2, 6, .inr (.inl (u.1)))), (o, .inr (3, [.long (nn), sv]))] s.heap := hP
  have hD : va_D A [(x, .inr (0, [.ref cs, .ref sc, .ref pf, .int (u.2.1), .int (u.2.2.1), .int (u.2.2.2)])), (cs, .inl (G.2.1 2, 6, .inr (.inl (u.1)))), (o, .inr (3, [.long (nn), sv]))] := hD
  refine lv_aload hx hb dc_L_bits_0 (lv_at hl 4 rfl) ?_
  refine lv_aload_n hx hb dc_L_bits_2 rfl (lv_at hl 0 rfl) ?_
  refine lv_iload_n hx hb dc_L_bits_3 rfl (lv_at hl 1 rfl) ?_
  refine lv_iload_n hx hb dc_L_bits_4 rfl (lv_at hl 2 rfl) ?_
  refine lv_iload_n hx hb dc_L_bits_5 rfl (lv_at hl 3 rfl) ?_
  refine ky_cVx (As := [.int (a1), .int (a2), .int (a3)]) (wr := [(o, .inr (3, [.long (nn), sv]))]) F (hE.at hfr hS) hfr (mt_X6_bits l hl9 G x cs sc pf u (a1) (a2) (a3) s.heap.size) kv_L_34 ⟨⟨rfl, rfl⟩, Nat.le_of_ble_eq_true rfl, Nat.le_of_ble_eq_true rfl⟩ rfl hl.1 rfl (Nat.le_of_ble_eq_true rfl) ⟨Nat.le_of_ble_eq_true rfl, Nat.le_of_ble_eq_true rfl⟩ (va_recv hE.1 hP (ci := 0) (q0 := 0) rfl rfl) trivial hP hD hS hA [0, 1] [2] rfl rfl (by decide) (by decide) (by decide) dc_L_bits_6 ?_ ?_
  · intro E ce q9 H locs hp hP hD hS hz hk9 hc1 hc2 hc3
    have hP : va_P G.1 kcl [(o, .inr (3, [.long (nn), sv])), (x, .inr (0, [.ref cs, .ref sc, .ref pf, .int (u.2.1), .int (u.2.2.1), .int (u.2.2.2)])), (cs, .inl (G.2.1 2, 6, .inr (.inl (u.1))))] H := hP
    have hD : va_D A [(o, .inr (3, [.long (nn), sv])), (x, .inr (0, [.ref cs, .ref sc, .ref pf, .int (u.2.1), .int (u.2.2.1), .int (u.2.2.2)])), (cs, .inl (G.2.1 2, 6, .inr (.inl (u.1))))] := hD
    have he := on_X6_bits (a1) (a2) (a3) u E hp
    subst he
    refine ky_cat1 (h1 := (0, 13, 16, 19)) (name := "java/lang/IndexOutOfBoundsException") hE hown hT (by decide) (by decide) (hts _ kw_4_82) (kc_4 _ (List.mem_of_getElem? (i := 92) rfl)) rfl hc1 hc2 hc3 ?_
    refine W.eq (g2 := F0 m 16 ls [.ref q9]) rfl ?_
    refine W.widen (k := 1) (n := 6) (by first | exact Nat.le_refl _ | omega) (by first | exact Nat.le_refl _ | omega) ?_
    refine lv_astore (lv' := [(5, .ref q9), (0, .ref x), (1, .int (a1)), (2, .int (a2)), (3, .int (a3)), (4, .ref o)]) hx hb dc_L_bits_16 hl (by decide) rfl (fun ls hl => ?_)
    refine lv_iconst (v := 1) hx hb dc_L_bits_18 (by decide) ?_
    have hP9 := hP.sub (ws' := [(x, .inr (0, [.ref cs, .ref sc, .ref pf, .int (u.2.1), .int (u.2.2.1), .int (u.2.2.2)])), (cs, .inl (G.2.1 2, 6, .inr (.inl (u.1)))), (o, .inr (3, [.long (nn), sv]))]) [1, 2, 0] rfl
    have hD9 := hD.sub (ws' := [(x, .inr (0, [.ref cs, .ref sc, .ref pf, .int (u.2.1), .int (u.2.2.1), .int (u.2.2.2)])), (cs, .inl (G.2.1 2, 6, .inr (.inl (u.1)))), (o, .inr (3, [.long (nn), sv]))]) [1, 2, 0] (by decide) rfl
    refine W.widen (k := 1) (n := 6) (Nat.le_of_ble_eq_true rfl) (Nat.le_of_ble_eq_true rfl) ?_
    exact W.iret (v := (1 : Int32)) hx hb hr (fun t ht hW => ⟨⟨_, (u, nn), rfl, ⟨by rw [hp, ky_lw_io], by rw [hp, ky_lw_io]⟩, by rw [ht]; exact hP9, hD9, trivial⟩, hS.F ht⟩) hS.2.2 dc_L_bits_19
  · rintro v9 u9 H locs ⟨r_0, w_0, hf_0, rfl, hu9⟩ hP hD hS - hz hk9
    have hu9 := hu9.symm
    subst hu9
    have hP : va_P G.1 kcl [(o, .inr (3, [.long (nn), sv])), (x, .inr (0, [.ref cs, .ref sc, .ref pf, .int (w_0.2.1), .int (w_0.2.2.1), .int (w_0.2.2.2)])), (cs, .inl (G.2.1 2, 6, .inr (.inl (w_0.1))))] H := hP
    have hD : va_D A [(o, .inr (3, [.long (nn), sv])), (x, .inr (0, [.ref cs, .ref sc, .ref pf, .int (w_0.2.1), .int (w_0.2.2.1), .int (w_0.2.2.2)])), (cs, .inl (G.2.1 2, 6, .inr (.inl (w_0.1))))] := hD
    refine W.widen (k := 1) (n := 6) (by first | exact Nat.le_refl _ | omega) (by first | exact Nat.le_refl _ | omega) ?_
    refine lv_i2l (v := (r_0).toInt64) hx hb dc_L_bits_9 rfl ?_
    refine va_putN (D := G.1) (ci := 3) (v := .long ((r_0).toInt64)) (ty := .long) (C := RX7) (T := TX7) (N := 2) hx hb hts ki_X7 tyX7 tyX7_ok nmX7 hown hE.1 hP hD hS 0 rfl rfl 0 (by decide) (va_Nw.use (A := _) rfl (hE.nestF (kc_4 _ (List.mem_of_getElem? (i := 72) rfl)))) (fun _ h9 => h9) rfl (by decide +kernel) rfl rfl (Nat.le_of_ble_eq_true rfl) dc_L_bits_10 (fun H locs hP hD hS => ?_)
    have hP : va_P G.1 kcl [(o, .inr (3, [.long ((r_0).toInt64), sv])), (x, .inr (0, [.ref cs, .ref sc, .ref pf, .int (w_0.2.1), .int (w_0.2.2.1), .int (w_0.2.2.2)])), (cs, .inl (G.2.1 2, 6, .inr (.inl (w_0.1))))] H := hP
    have hD : va_D A [(o, .inr (3, [.long ((r_0).toInt64), sv])), (x, .inr (0, [.ref cs, .ref sc, .ref pf, .int (w_0.2.1), .int (w_0.2.2.1), .int (w_0.2.2.2)])), (cs, .inl (G.2.1 2, 6, .inr (.inl (w_0.1))))] := hD
    refine lv_goto (tgt := 20) hx hb dc_L_bits_13 (by decide) ?_
    refine lv_iconst (v := 0) hx hb dc_L_bits_20 (by decide) ?_
    have hP9 := hP.sub (ws' := [(x, .inr (0, [.ref cs, .ref sc, .ref pf, .int (w_0.2.1), .int (w_0.2.2.1), .int (w_0.2.2.2)])), (cs, .inl (G.2.1 2, 6, .inr (.inl (w_0.1)))), (o, .inr (3, [.long ((r_0).toInt64), sv]))]) [1, 2, 0] rfl
    have hD9 := hD.sub (ws' := [(x, .inr (0, [.ref cs, .ref sc, .ref pf, .int (w_0.2.1), .int (w_0.2.2.1), .int (w_0.2.2.2)])), (cs, .inl (G.2.1 2, 6, .inr (.inl (w_0.1)))), (o, .inr (3, [.long ((r_0).toInt64), sv]))]) [1, 2, 0] (by decide) rfl
    refine W.widen (k := 1) (n := 6) (Nat.le_of_ble_eq_true rfl) (Nat.le_of_ble_eq_true rfl) ?_
    exact W.iret (v := (0 : Int32)) hx hb hr (fun t ht hW => ⟨⟨_, (w_0, (r_0).toInt64), rfl, ⟨by rw [hf_0, ky_lw_ok], by rw [hf_0, ky_lw_ok]⟩, by rw [ht]; exact hP9, hD9, trivial⟩, hS.F ht⟩) hS.2.2 dc_L_bits_21
set_option linter.constructorNameAsVariable false in
set_option maxHeartbeats 4000000 in
set_option maxRecDepth 100000 in
theorem mt_L_sample (l : Launch) (hl9 : l.stackTraces = false) (G : ky_G) (x : Nat) (cs : Nat) (sc : Nat) (pf : Nat) (u : ky_BS) (o : Nat) (nn : Int64) (sv : Value) (a1 : Int32) (a2 : Int32) (a3 : Int32) (sz : Nat)  : Met l my_L_sample (.codeWith my_L_sample method_7_code 6 (some .int) [(0, 13, 16, 19), (0, 13, 20, 32)] :: ky_B) { frames := 8, cells := 2, slots := 12, locals := 132 } (ky_P G [.ref x, .int (a1), .int (a2), .int (a3), .ref o] (ky_WB G x cs sc pf u ++ ky_WO o nn sv) sz (fun _ => True)) (ky_Q (S := ky_BS × Int64) G (va_A (ky_WB G x cs sc pf u ++ ky_WO o nn sv) sz) (fun v z => v = some (.int (ky_lw (fn_X6_sample a1 a2 a3 u) u nn).1) ∧ z = (ky_lw (fn_X6_sample a1 a2 a3 u) u nn).2) (fun z => ky_WB G x cs sc pf z.1 ++ ky_WO o z.2 sv) (fun _ _ => True)) (2) (12) (va_A (ky_WB G x cs sc pf u ++ ky_WO o nn sv) sz) := by
  refine ky_startH (hh := [(0, 13, 16, 19), (0, 13, 20, 32)]) (by decide) (Nat.le_of_ble_eq_true rfl) (fun p e s m below meth c F hT hE A hAe hsz hA hfr hP hD hS hX ls hl => ?_)
  obtain ⟨hx, hb, hml, hown, hr, hlocks, hts⟩ := id F
  have hl : lv_has ls 6 [(0, .ref x), (1, .int (a1)), (2, .int (a2)), (3, .int (a3)), (4, .ref o)] := hl
  have hP : va_P G.1 kcl [(x, .inr (0, [.ref cs, .ref sc, .ref pf, .int (u.2.1), .int (u.2.2.1), .int (u.2.2.2)])), (cs, .inl (G.2.1 2, 6, .inr (.inl (u.1)))), (o, .inr (3, [.long (nn), sv]))] s.heap := hP
  have hD : va_D A [(x, .inr (0, [.ref cs, .ref sc, .ref pf, .int (u.2.1), .int (u.2.2.1), .int (u.2.2.2)])), (cs, .inl (G.2.1 2, 6, .inr (.inl (u.1)))), (o, .inr (3, [.long (nn), sv]))] := hD
  refine lv_aload hx hb dc_L_sample_0 (lv_at hl 4 rfl) ?_
  refine lv_aload_n hx hb dc_L_sample_2 rfl (lv_at hl 0 rfl) ?_
  refine lv_iload_n hx hb dc_L_sample_3 rfl (lv_at hl 1 rfl) ?_
  refine lv_iload_n hx hb dc_L_sample_4 rfl (lv_at hl 2 rfl) ?_
  refine lv_iload_n hx hb dc_L_sample_5 rfl (lv_at hl 3 rfl) ?_
  refine ky_cVx (As := [.int (a1), .int (a2), .int (a3)]) (wr := [(o, .inr (3, [.long (nn), sv]))]) F (hE.at hfr hS) hfr (mt_X6_sample l hl9 G x cs sc pf u (a1) (a2) (a3) s.heap.size) kv_L_38 ⟨⟨rfl, rfl⟩, Nat.le_of_ble_eq_true rfl, Nat.le_of_ble_eq_true rfl⟩ rfl hl.1 rfl (Nat.le_of_ble_eq_true rfl) ⟨Nat.le_of_ble_eq_true rfl, Nat.le_of_ble_eq_true rfl⟩ (va_recv hE.1 hP (ci := 0) (q0 := 0) rfl rfl) trivial hP hD hS hA [0, 1] [2] rfl rfl (by decide) (by decide) (by decide) dc_L_sample_6 ?_ ?_
  · intro E ce q9 H locs hp hP hD hS hz hk9 hc1 hc2 hc3
    have hP : va_P G.1 kcl [(o, .inr (3, [.long (nn), sv])), (x, .inr (0, [.ref cs, .ref sc, .ref pf, .int (u.2.1), .int (u.2.2.1), .int (u.2.2.2)])), (cs, .inl (G.2.1 2, 6, .inr (.inl (u.1))))] H := hP
    have hD : va_D A [(o, .inr (3, [.long (nn), sv])), (x, .inr (0, [.ref cs, .ref sc, .ref pf, .int (u.2.1), .int (u.2.2.1), .int (u.2.2.2)])), (cs, .inl (G.2.1 2, 6, .inr (.inl (u.1))))] := hD
    have he := on_X6_sample (a1) (a2) (a3) u E hp
    rcases he with he | he
    · skip
      subst he
      refine ky_cat1 (h1 := (0, 13, 16, 19)) (name := "java/lang/IndexOutOfBoundsException") hE hown hT (by decide) (by decide) (hts _ kw_4_82) (kc_4 _ (List.mem_of_getElem? (i := 92) rfl)) rfl hc1 hc2 hc3 ?_
      refine W.eq (g2 := F0 m 16 ls [.ref q9]) rfl ?_
      refine W.widen (k := 2) (n := 12) (by first | exact Nat.le_refl _ | omega) (by first | exact Nat.le_refl _ | omega) ?_
      refine lv_astore (lv' := [(5, .ref q9), (0, .ref x), (1, .int (a1)), (2, .int (a2)), (3, .int (a3)), (4, .ref o)]) hx hb dc_L_sample_16 hl (by decide) rfl (fun ls hl => ?_)
      refine lv_iconst (v := 1) hx hb dc_L_sample_18 (by decide) ?_
      have hP9 := hP.sub (ws' := [(x, .inr (0, [.ref cs, .ref sc, .ref pf, .int (u.2.1), .int (u.2.2.1), .int (u.2.2.2)])), (cs, .inl (G.2.1 2, 6, .inr (.inl (u.1)))), (o, .inr (3, [.long (nn), sv]))]) [1, 2, 0] rfl
      have hD9 := hD.sub (ws' := [(x, .inr (0, [.ref cs, .ref sc, .ref pf, .int (u.2.1), .int (u.2.2.1), .int (u.2.2.2)])), (cs, .inl (G.2.1 2, 6, .inr (.inl (u.1)))), (o, .inr (3, [.long (nn), sv]))]) [1, 2, 0] (by decide) rfl
      refine W.widen (k := 2) (n := 12) (Nat.le_of_ble_eq_true rfl) (Nat.le_of_ble_eq_true rfl) ?_
      exact W.iret (v := (1 : Int32)) hx hb hr (fun t ht hW => ⟨⟨_, (u, nn), rfl, ⟨by rw [hp, ky_lw_io], by rw [hp, ky_lw_io]⟩, by rw [ht]; exact hP9, hD9, trivial⟩, hS.F ht⟩) hS.2.2 dc_L_sample_19
    · skip
      subst he
      refine ky_cat2 (h1 := (0, 13, 16, 19)) (h2 := (0, 13, 20, 32)) (nm1 := "java/lang/IndexOutOfBoundsException") (name := "java/lang/IllegalArgumentException") hE hown hT (by decide) (by decide) (by decide) (hts _ kw_4_82) ky_noia (hts _ kw_4_132) (kc_2 _ (List.mem_of_getElem? (i := 105) rfl)) rfl hc1 hc2 hc3 ?_
      refine W.eq (g2 := F0 m 20 ls [.ref q9]) rfl ?_
      refine W.widen (k := 2) (n := 12) (by first | exact Nat.le_refl _ | omega) (by first | exact Nat.le_refl _ | omega) ?_
      refine lv_astore (lv' := [(5, .ref q9), (0, .ref x), (1, .int (a1)), (2, .int (a2)), (3, .int (a3)), (4, .ref o)]) hx hb dc_L_sample_20 hl (by decide) rfl (fun ls hl => ?_)
      refine lv_iconst (v := 2) hx hb dc_L_sample_22 (by decide) ?_
      have hP9 := hP.sub (ws' := [(x, .inr (0, [.ref cs, .ref sc, .ref pf, .int (u.2.1), .int (u.2.2.1), .int (u.2.2.2)])), (cs, .inl (G.2.1 2, 6, .inr (.inl (u.1)))), (o, .inr (3, [.long (nn), sv]))]) [1, 2, 0] rfl
      have hD9 := hD.sub (ws' := [(x, .inr (0, [.ref cs, .ref sc, .ref pf, .int (u.2.1), .int (u.2.2.1), .int (u.2.2.2)])), (cs, .inl (G.2.1 2, 6, .inr (.inl (u.1)))), (o, .inr (3, [.long (nn), sv]))]) [1, 2, 0] (by decide) rfl
      refine W.widen (k := 2) (n := 12) (Nat.le_of_ble_eq_true rfl) (Nat.le_of_ble_eq_true rfl) ?_
      exact W.iret (v := (2 : Int32)) hx hb hr (fun t ht hW => ⟨⟨_, (u, nn), rfl, ⟨by rw [hp, ky_lw_ia], by rw [hp, ky_lw_ia]⟩, by rw [ht]; exact hP9, hD9, trivial⟩, hS.F ht⟩) hS.2.2 dc_L_sample_23
  · rintro v9 u9 H locs ⟨r_0, w_0, hf_0, rfl, hu9⟩ hP hD hS - hz hk9
    have hu9 := hu9.symm
    subst hu9
    have hP : va_P G.1 kcl [(o, .inr (3, [.long (nn), sv])), (x, .inr (0, [.ref cs, .ref sc, .ref pf, .int (w_0.2.1), .int (w_0.2.2.1), .int (w_0.2.2.2)])), (cs, .inl (G.2.1 2, 6, .inr (.inl (w_0.1))))] H := hP
    have hD : va_D A [(o, .inr (3, [.long (nn), sv])), (x, .inr (0, [.ref cs, .ref sc, .ref pf, .int (w_0.2.1), .int (w_0.2.2.1), .int (w_0.2.2.2)])), (cs, .inl (G.2.1 2, 6, .inr (.inl (w_0.1))))] := hD
    refine W.widen (k := 2) (n := 12) (by first | exact Nat.le_refl _ | omega) (by first | exact Nat.le_refl _ | omega) ?_
    refine lv_i2l (v := (r_0).toInt64) hx hb dc_L_sample_9 rfl ?_
    refine va_putN (D := G.1) (ci := 3) (v := .long ((r_0).toInt64)) (ty := .long) (C := RX7) (T := TX7) (N := 2) hx hb hts ki_X7 tyX7 tyX7_ok nmX7 hown hE.1 hP hD hS 0 rfl rfl 0 (by decide) (va_Nw.use (A := _) rfl (hE.nestF (kc_4 _ (List.mem_of_getElem? (i := 72) rfl)))) (fun _ h9 => h9) rfl (by decide +kernel) rfl rfl (Nat.le_of_ble_eq_true rfl) dc_L_sample_10 (fun H locs hP hD hS => ?_)
    have hP : va_P G.1 kcl [(o, .inr (3, [.long ((r_0).toInt64), sv])), (x, .inr (0, [.ref cs, .ref sc, .ref pf, .int (w_0.2.1), .int (w_0.2.2.1), .int (w_0.2.2.2)])), (cs, .inl (G.2.1 2, 6, .inr (.inl (w_0.1))))] H := hP
    have hD : va_D A [(o, .inr (3, [.long ((r_0).toInt64), sv])), (x, .inr (0, [.ref cs, .ref sc, .ref pf, .int (w_0.2.1), .int (w_0.2.2.1), .int (w_0.2.2.2)])), (cs, .inl (G.2.1 2, 6, .inr (.inl (w_0.1))))] := hD
    refine lv_goto (tgt := 24) hx hb dc_L_sample_13 (by decide) ?_
    refine lv_iconst (v := 0) hx hb dc_L_sample_24 (by decide) ?_
    have hP9 := hP.sub (ws' := [(x, .inr (0, [.ref cs, .ref sc, .ref pf, .int (w_0.2.1), .int (w_0.2.2.1), .int (w_0.2.2.2)])), (cs, .inl (G.2.1 2, 6, .inr (.inl (w_0.1)))), (o, .inr (3, [.long ((r_0).toInt64), sv]))]) [1, 2, 0] rfl
    have hD9 := hD.sub (ws' := [(x, .inr (0, [.ref cs, .ref sc, .ref pf, .int (w_0.2.1), .int (w_0.2.2.1), .int (w_0.2.2.2)])), (cs, .inl (G.2.1 2, 6, .inr (.inl (w_0.1)))), (o, .inr (3, [.long ((r_0).toInt64), sv]))]) [1, 2, 0] (by decide) rfl
    refine W.widen (k := 2) (n := 12) (Nat.le_of_ble_eq_true rfl) (Nat.le_of_ble_eq_true rfl) ?_
    exact W.iret (v := (0 : Int32)) hx hb hr (fun t ht hW => ⟨⟨_, (w_0, (r_0).toInt64), rfl, ⟨by rw [hf_0, ky_lw_ok], by rw [hf_0, ky_lw_ok]⟩, by rw [ht]; exact hP9, hD9, trivial⟩, hS.F ht⟩) hS.2.2 dc_L_sample_25
set_option linter.constructorNameAsVariable false in
set_option maxHeartbeats 4000000 in
set_option maxRecDepth 100000 in
theorem mt_L_copy (l : Launch) (hl9 : l.stackTraces = false) (G : ky_G) (x : Nat) (cs : Nat) (sc : Nat) (pf : Nat) (u : ky_BS) (o : Nat) (nn : Int64) (sv : Value) (a1 : Int32) (a2 : Int32) (sz : Nat)  : Met l my_L_copy (.codeWith my_L_copy method_8_code 5 (some .int) [(0, 11, 14, 19)] :: ky_B) { frames := 9, cells := 2, slots := 12, locals := 145 } (ky_P G [.ref x, .int (a1), .int (a2), .ref o] (ky_WB G x cs sc pf u ++ ky_WO o nn sv) sz (fun _ => True)) (ky_Q (S := ky_BS × Int64) G (va_A (ky_WB G x cs sc pf u ++ ky_WO o nn sv) sz) (fun v z => v = some (.int (ky_lw (fn_X6_copy a1 a2 u) u nn).1) ∧ z = (ky_lw (fn_X6_copy a1 a2 u) u nn).2) (fun z => ky_WB G x cs sc pf z.1 ++ ky_WO o z.2 sv) (fun _ _ => True)) (2) (12) (va_A (ky_WB G x cs sc pf u ++ ky_WO o nn sv) sz) := by
  refine ky_startH (hh := [(0, 11, 14, 19)]) (by decide) (Nat.le_of_ble_eq_true rfl) (fun p e s m below meth c F hT hE A hAe hsz hA hfr hP hD hS hX ls hl => ?_)
  obtain ⟨hx, hb, hml, hown, hr, hlocks, hts⟩ := id F
  have hl : lv_has ls 5 [(0, .ref x), (1, .int (a1)), (2, .int (a2)), (3, .ref o)] := hl
  have hP : va_P G.1 kcl [(x, .inr (0, [.ref cs, .ref sc, .ref pf, .int (u.2.1), .int (u.2.2.1), .int (u.2.2.2)])), (cs, .inl (G.2.1 2, 6, .inr (.inl (u.1)))), (o, .inr (3, [.long (nn), sv]))] s.heap := hP
  have hD : va_D A [(x, .inr (0, [.ref cs, .ref sc, .ref pf, .int (u.2.1), .int (u.2.2.1), .int (u.2.2.2)])), (cs, .inl (G.2.1 2, 6, .inr (.inl (u.1)))), (o, .inr (3, [.long (nn), sv]))] := hD
  refine lv_aload_n hx hb dc_L_copy_0 rfl (lv_at hl 3 rfl) ?_
  refine lv_aload_n hx hb dc_L_copy_1 rfl (lv_at hl 0 rfl) ?_
  refine lv_iload_n hx hb dc_L_copy_2 rfl (lv_at hl 1 rfl) ?_
  refine lv_iload_n hx hb dc_L_copy_3 rfl (lv_at hl 2 rfl) ?_
  refine ky_cVx (As := [.int (a1), .int (a2)]) (wr := [(o, .inr (3, [.long (nn), sv]))]) F (hE.at hfr hS) hfr (mt_X6_copy l hl9 G x cs sc pf u (a1) (a2) s.heap.size) kv_L_41 ⟨⟨rfl, rfl⟩, Nat.le_of_ble_eq_true rfl, Nat.le_of_ble_eq_true rfl⟩ rfl hl.1 rfl (Nat.le_of_ble_eq_true rfl) ⟨Nat.le_of_ble_eq_true rfl, Nat.le_of_ble_eq_true rfl⟩ (va_recv hE.1 hP (ci := 0) (q0 := 0) rfl rfl) trivial hP hD hS hA [0, 1] [2] rfl rfl (by decide) (by decide) (by decide) dc_L_copy_4 ?_ ?_
  · intro E ce q9 H locs hp hP hD hS hz hk9 hc1 hc2 hc3
    have hP : va_P G.1 kcl [(o, .inr (3, [.long (nn), sv])), (x, .inr (0, [.ref cs, .ref sc, .ref pf, .int (u.2.1), .int (u.2.2.1), .int (u.2.2.2)])), (cs, .inl (G.2.1 2, 6, .inr (.inl (u.1))))] H := hP
    have hD : va_D A [(o, .inr (3, [.long (nn), sv])), (x, .inr (0, [.ref cs, .ref sc, .ref pf, .int (u.2.1), .int (u.2.2.1), .int (u.2.2.2)])), (cs, .inl (G.2.1 2, 6, .inr (.inl (u.1))))] := hD
    have he := on_X6_copy (a1) (a2) u E hp
    subst he
    refine ky_cat1 (h1 := (0, 11, 14, 19)) (name := "java/lang/IndexOutOfBoundsException") hE hown hT (by decide) (by decide) (hts _ kw_4_82) (kc_4 _ (List.mem_of_getElem? (i := 92) rfl)) rfl hc1 hc2 hc3 ?_
    refine W.eq (g2 := F0 m 14 ls [.ref q9]) rfl ?_
    refine W.widen (k := 2) (n := 12) (by first | exact Nat.le_refl _ | omega) (by first | exact Nat.le_refl _ | omega) ?_
    refine lv_astore (lv' := [(4, .ref q9), (0, .ref x), (1, .int (a1)), (2, .int (a2)), (3, .ref o)]) hx hb dc_L_copy_14 hl (by decide) rfl (fun ls hl => ?_)
    refine lv_iconst (v := 1) hx hb dc_L_copy_16 (by decide) ?_
    have hP9 := hP.sub (ws' := [(x, .inr (0, [.ref cs, .ref sc, .ref pf, .int (u.2.1), .int (u.2.2.1), .int (u.2.2.2)])), (cs, .inl (G.2.1 2, 6, .inr (.inl (u.1)))), (o, .inr (3, [.long (nn), sv]))]) [1, 2, 0] rfl
    have hD9 := hD.sub (ws' := [(x, .inr (0, [.ref cs, .ref sc, .ref pf, .int (u.2.1), .int (u.2.2.1), .int (u.2.2.2)])), (cs, .inl (G.2.1 2, 6, .inr (.inl (u.1)))), (o, .inr (3, [.long (nn), sv]))]) [1, 2, 0] (by decide) rfl
    refine W.widen (k := 2) (n := 12) (Nat.le_of_ble_eq_true rfl) (Nat.le_of_ble_eq_true rfl) ?_
    exact W.iret (v := (1 : Int32)) hx hb hr (fun t ht hW => ⟨⟨_, (u, nn), rfl, ⟨by rw [hp, ky_lw_io], by rw [hp, ky_lw_io]⟩, by rw [ht]; exact hP9, hD9, trivial⟩, hS.F ht⟩) hS.2.2 dc_L_copy_17
  · rintro v9 u9 H locs ⟨r_0, w_0, hf_0, rfl, hu9⟩ hP hD hS - hz hk9
    have hu9 := hu9.symm
    subst hu9
    have hP : va_P G.1 kcl [(o, .inr (3, [.long (nn), sv])), (x, .inr (0, [.ref cs, .ref sc, .ref pf, .int (w_0.2.1), .int (w_0.2.2.1), .int (w_0.2.2.2)])), (cs, .inl (G.2.1 2, 6, .inr (.inl (w_0.1))))] H := hP
    have hD : va_D A [(o, .inr (3, [.long (nn), sv])), (x, .inr (0, [.ref cs, .ref sc, .ref pf, .int (w_0.2.1), .int (w_0.2.2.1), .int (w_0.2.2.2)])), (cs, .inl (G.2.1 2, 6, .inr (.inl (w_0.1))))] := hD
    refine W.widen (k := 2) (n := 12) (by first | exact Nat.le_refl _ | omega) (by first | exact Nat.le_refl _ | omega) ?_
    refine lv_i2l (v := (r_0).toInt64) hx hb dc_L_copy_7 rfl ?_
    refine va_putN (D := G.1) (ci := 3) (v := .long ((r_0).toInt64)) (ty := .long) (C := RX7) (T := TX7) (N := 2) hx hb hts ki_X7 tyX7 tyX7_ok nmX7 hown hE.1 hP hD hS 0 rfl rfl 0 (by decide) (va_Nw.use (A := _) rfl (hE.nestF (kc_4 _ (List.mem_of_getElem? (i := 72) rfl)))) (fun _ h9 => h9) rfl (by decide +kernel) rfl rfl (Nat.le_of_ble_eq_true rfl) dc_L_copy_8 (fun H locs hP hD hS => ?_)
    have hP : va_P G.1 kcl [(o, .inr (3, [.long ((r_0).toInt64), sv])), (x, .inr (0, [.ref cs, .ref sc, .ref pf, .int (w_0.2.1), .int (w_0.2.2.1), .int (w_0.2.2.2)])), (cs, .inl (G.2.1 2, 6, .inr (.inl (w_0.1))))] H := hP
    have hD : va_D A [(o, .inr (3, [.long ((r_0).toInt64), sv])), (x, .inr (0, [.ref cs, .ref sc, .ref pf, .int (w_0.2.1), .int (w_0.2.2.1), .int (w_0.2.2.2)])), (cs, .inl (G.2.1 2, 6, .inr (.inl (w_0.1))))] := hD
    refine lv_goto (tgt := 18) hx hb dc_L_copy_11 (by decide) ?_
    refine lv_iconst (v := 0) hx hb dc_L_copy_18 (by decide) ?_
    have hP9 := hP.sub (ws' := [(x, .inr (0, [.ref cs, .ref sc, .ref pf, .int (w_0.2.1), .int (w_0.2.2.1), .int (w_0.2.2.2)])), (cs, .inl (G.2.1 2, 6, .inr (.inl (w_0.1)))), (o, .inr (3, [.long ((r_0).toInt64), sv]))]) [1, 2, 0] rfl
    have hD9 := hD.sub (ws' := [(x, .inr (0, [.ref cs, .ref sc, .ref pf, .int (w_0.2.1), .int (w_0.2.2.1), .int (w_0.2.2.2)])), (cs, .inl (G.2.1 2, 6, .inr (.inl (w_0.1)))), (o, .inr (3, [.long ((r_0).toInt64), sv]))]) [1, 2, 0] (by decide) rfl
    refine W.widen (k := 2) (n := 12) (Nat.le_of_ble_eq_true rfl) (Nat.le_of_ble_eq_true rfl) ?_
    exact W.iret (v := (0 : Int32)) hx hb hr (fun t ht hW => ⟨⟨_, (w_0, (r_0).toInt64), rfl, ⟨by rw [hf_0, ky_lw_ok], by rw [hf_0, ky_lw_ok]⟩, by rw [ht]; exact hP9, hD9, trivial⟩, hS.F ht⟩) hS.2.2 dc_L_copy_19
set_option linter.constructorNameAsVariable false in
set_option maxHeartbeats 4000000 in
set_option maxRecDepth 100000 in
theorem mt_L_swap (l : Launch) (hl9 : l.stackTraces = false) (G : ky_G) (x : Nat) (cs : Nat) (sc : Nat) (pf : Nat) (u : ky_BS) (o : Nat) (nn : Int64) (sv : Value) (a1 : Int32) (a2 : Int32) (sz : Nat)  : Met l my_L_swap (.codeWith my_L_swap method_9_code 5 (some .int) [(0, 11, 14, 19)] :: ky_B) { frames := 9, cells := 2, slots := 12, locals := 148 } (ky_P G [.ref x, .int (a1), .int (a2), .ref o] (ky_WB G x cs sc pf u ++ ky_WO o nn sv) sz (fun _ => True)) (ky_Q (S := ky_BS × Int64) G (va_A (ky_WB G x cs sc pf u ++ ky_WO o nn sv) sz) (fun v z => v = some (.int (ky_lw (fn_X6_swap a1 a2 u) u nn).1) ∧ z = (ky_lw (fn_X6_swap a1 a2 u) u nn).2) (fun z => ky_WB G x cs sc pf z.1 ++ ky_WO o z.2 sv) (fun _ _ => True)) (2) (12) (va_A (ky_WB G x cs sc pf u ++ ky_WO o nn sv) sz) := by
  refine ky_startH (hh := [(0, 11, 14, 19)]) (by decide) (Nat.le_of_ble_eq_true rfl) (fun p e s m below meth c F hT hE A hAe hsz hA hfr hP hD hS hX ls hl => ?_)
  obtain ⟨hx, hb, hml, hown, hr, hlocks, hts⟩ := id F
  have hl : lv_has ls 5 [(0, .ref x), (1, .int (a1)), (2, .int (a2)), (3, .ref o)] := hl
  have hP : va_P G.1 kcl [(x, .inr (0, [.ref cs, .ref sc, .ref pf, .int (u.2.1), .int (u.2.2.1), .int (u.2.2.2)])), (cs, .inl (G.2.1 2, 6, .inr (.inl (u.1)))), (o, .inr (3, [.long (nn), sv]))] s.heap := hP
  have hD : va_D A [(x, .inr (0, [.ref cs, .ref sc, .ref pf, .int (u.2.1), .int (u.2.2.1), .int (u.2.2.2)])), (cs, .inl (G.2.1 2, 6, .inr (.inl (u.1)))), (o, .inr (3, [.long (nn), sv]))] := hD
  refine lv_aload_n hx hb dc_L_swap_0 rfl (lv_at hl 3 rfl) ?_
  refine lv_aload_n hx hb dc_L_swap_1 rfl (lv_at hl 0 rfl) ?_
  refine lv_iload_n hx hb dc_L_swap_2 rfl (lv_at hl 1 rfl) ?_
  refine lv_iload_n hx hb dc_L_swap_3 rfl (lv_at hl 2 rfl) ?_
  refine ky_cVx (As := [.int (a1), .int (a2)]) (wr := [(o, .inr (3, [.long (nn), sv]))]) F (hE.at hfr hS) hfr (mt_X6_swap l hl9 G x cs sc pf u (a1) (a2) s.heap.size) kv_L_44 ⟨⟨rfl, rfl⟩, Nat.le_of_ble_eq_true rfl, Nat.le_of_ble_eq_true rfl⟩ rfl hl.1 rfl (Nat.le_of_ble_eq_true rfl) ⟨Nat.le_of_ble_eq_true rfl, Nat.le_of_ble_eq_true rfl⟩ (va_recv hE.1 hP (ci := 0) (q0 := 0) rfl rfl) trivial hP hD hS hA [0, 1] [2] rfl rfl (by decide) (by decide) (by decide) dc_L_swap_4 ?_ ?_
  · intro E ce q9 H locs hp hP hD hS hz hk9 hc1 hc2 hc3
    have hP : va_P G.1 kcl [(o, .inr (3, [.long (nn), sv])), (x, .inr (0, [.ref cs, .ref sc, .ref pf, .int (u.2.1), .int (u.2.2.1), .int (u.2.2.2)])), (cs, .inl (G.2.1 2, 6, .inr (.inl (u.1))))] H := hP
    have hD : va_D A [(o, .inr (3, [.long (nn), sv])), (x, .inr (0, [.ref cs, .ref sc, .ref pf, .int (u.2.1), .int (u.2.2.1), .int (u.2.2.2)])), (cs, .inl (G.2.1 2, 6, .inr (.inl (u.1))))] := hD
    have he := on_X6_swap (a1) (a2) u E hp
    subst he
    refine ky_cat1 (h1 := (0, 11, 14, 19)) (name := "java/lang/IndexOutOfBoundsException") hE hown hT (by decide) (by decide) (hts _ kw_4_82) (kc_4 _ (List.mem_of_getElem? (i := 92) rfl)) rfl hc1 hc2 hc3 ?_
    refine W.eq (g2 := F0 m 14 ls [.ref q9]) rfl ?_
    refine W.widen (k := 2) (n := 12) (by first | exact Nat.le_refl _ | omega) (by first | exact Nat.le_refl _ | omega) ?_
    refine lv_astore (lv' := [(4, .ref q9), (0, .ref x), (1, .int (a1)), (2, .int (a2)), (3, .ref o)]) hx hb dc_L_swap_14 hl (by decide) rfl (fun ls hl => ?_)
    refine lv_iconst (v := 1) hx hb dc_L_swap_16 (by decide) ?_
    have hP9 := hP.sub (ws' := [(x, .inr (0, [.ref cs, .ref sc, .ref pf, .int (u.2.1), .int (u.2.2.1), .int (u.2.2.2)])), (cs, .inl (G.2.1 2, 6, .inr (.inl (u.1)))), (o, .inr (3, [.long (nn), sv]))]) [1, 2, 0] rfl
    have hD9 := hD.sub (ws' := [(x, .inr (0, [.ref cs, .ref sc, .ref pf, .int (u.2.1), .int (u.2.2.1), .int (u.2.2.2)])), (cs, .inl (G.2.1 2, 6, .inr (.inl (u.1)))), (o, .inr (3, [.long (nn), sv]))]) [1, 2, 0] (by decide) rfl
    refine W.widen (k := 2) (n := 12) (Nat.le_of_ble_eq_true rfl) (Nat.le_of_ble_eq_true rfl) ?_
    exact W.iret (v := (1 : Int32)) hx hb hr (fun t ht hW => ⟨⟨_, (u, nn), rfl, ⟨by rw [hp, ky_lw_io], by rw [hp, ky_lw_io]⟩, by rw [ht]; exact hP9, hD9, trivial⟩, hS.F ht⟩) hS.2.2 dc_L_swap_17
  · rintro v9 u9 H locs ⟨r_0, w_0, hf_0, rfl, hu9⟩ hP hD hS - hz hk9
    have hu9 := hu9.symm
    subst hu9
    have hP : va_P G.1 kcl [(o, .inr (3, [.long (nn), sv])), (x, .inr (0, [.ref cs, .ref sc, .ref pf, .int (w_0.2.1), .int (w_0.2.2.1), .int (w_0.2.2.2)])), (cs, .inl (G.2.1 2, 6, .inr (.inl (w_0.1))))] H := hP
    have hD : va_D A [(o, .inr (3, [.long (nn), sv])), (x, .inr (0, [.ref cs, .ref sc, .ref pf, .int (w_0.2.1), .int (w_0.2.2.1), .int (w_0.2.2.2)])), (cs, .inl (G.2.1 2, 6, .inr (.inl (w_0.1))))] := hD
    refine W.widen (k := 2) (n := 12) (by first | exact Nat.le_refl _ | omega) (by first | exact Nat.le_refl _ | omega) ?_
    refine lv_i2l (v := (r_0).toInt64) hx hb dc_L_swap_7 rfl ?_
    refine va_putN (D := G.1) (ci := 3) (v := .long ((r_0).toInt64)) (ty := .long) (C := RX7) (T := TX7) (N := 2) hx hb hts ki_X7 tyX7 tyX7_ok nmX7 hown hE.1 hP hD hS 0 rfl rfl 0 (by decide) (va_Nw.use (A := _) rfl (hE.nestF (kc_4 _ (List.mem_of_getElem? (i := 72) rfl)))) (fun _ h9 => h9) rfl (by decide +kernel) rfl rfl (Nat.le_of_ble_eq_true rfl) dc_L_swap_8 (fun H locs hP hD hS => ?_)
    have hP : va_P G.1 kcl [(o, .inr (3, [.long ((r_0).toInt64), sv])), (x, .inr (0, [.ref cs, .ref sc, .ref pf, .int (w_0.2.1), .int (w_0.2.2.1), .int (w_0.2.2.2)])), (cs, .inl (G.2.1 2, 6, .inr (.inl (w_0.1))))] H := hP
    have hD : va_D A [(o, .inr (3, [.long ((r_0).toInt64), sv])), (x, .inr (0, [.ref cs, .ref sc, .ref pf, .int (w_0.2.1), .int (w_0.2.2.1), .int (w_0.2.2.2)])), (cs, .inl (G.2.1 2, 6, .inr (.inl (w_0.1))))] := hD
    refine lv_goto (tgt := 18) hx hb dc_L_swap_11 (by decide) ?_
    refine lv_iconst (v := 0) hx hb dc_L_swap_18 (by decide) ?_
    have hP9 := hP.sub (ws' := [(x, .inr (0, [.ref cs, .ref sc, .ref pf, .int (w_0.2.1), .int (w_0.2.2.1), .int (w_0.2.2.2)])), (cs, .inl (G.2.1 2, 6, .inr (.inl (w_0.1)))), (o, .inr (3, [.long ((r_0).toInt64), sv]))]) [1, 2, 0] rfl
    have hD9 := hD.sub (ws' := [(x, .inr (0, [.ref cs, .ref sc, .ref pf, .int (w_0.2.1), .int (w_0.2.2.1), .int (w_0.2.2.2)])), (cs, .inl (G.2.1 2, 6, .inr (.inl (w_0.1)))), (o, .inr (3, [.long ((r_0).toInt64), sv]))]) [1, 2, 0] (by decide) rfl
    refine W.widen (k := 2) (n := 12) (Nat.le_of_ble_eq_true rfl) (Nat.le_of_ble_eq_true rfl) ?_
    exact W.iret (v := (0 : Int32)) hx hb hr (fun t ht hW => ⟨⟨_, (w_0, (r_0).toInt64), rfl, ⟨by rw [hf_0, ky_lw_ok], by rw [hf_0, ky_lw_ok]⟩, by rw [ht]; exact hP9, hD9, trivial⟩, hS.F ht⟩) hS.2.2 dc_L_swap_19
set_option linter.constructorNameAsVariable false in
set_option maxHeartbeats 4000000 in
set_option maxRecDepth 100000 in
theorem mt_L_floor (l : Launch) (hl9 : l.stackTraces = false) (G : ky_G) (x : Nat) (cs : Nat) (sc : Nat) (pf : Nat) (u : ky_BS) (o : Nat) (nn : Int64) (sv : Value) (a1 : Int32) (a2 : Int32) (sz : Nat)  : Met l my_L_floor (.codeWith my_L_floor method_10_code 5 (some .int) [(0, 11, 14, 19)] :: ky_B) { frames := 9, cells := 2, slots := 12, locals := 145 } (ky_P G [.ref x, .int (a1), .int (a2), .ref o] (ky_WB G x cs sc pf u ++ ky_WO o nn sv) sz (fun _ => True)) (ky_Q (S := ky_BS × Int64) G (va_A (ky_WB G x cs sc pf u ++ ky_WO o nn sv) sz) (fun v z => v = some (.int (ky_lw (fn_X6_floor a1 a2 u) u nn).1) ∧ z = (ky_lw (fn_X6_floor a1 a2 u) u nn).2) (fun z => ky_WB G x cs sc pf z.1 ++ ky_WO o z.2 sv) (fun _ _ => True)) (2) (12) (va_A (ky_WB G x cs sc pf u ++ ky_WO o nn sv) sz) := by
  refine ky_startH (hh := [(0, 11, 14, 19)]) (by decide) (Nat.le_of_ble_eq_true rfl) (fun p e s m below meth c F hT hE A hAe hsz hA hfr hP hD hS hX ls hl => ?_)
  obtain ⟨hx, hb, hml, hown, hr, hlocks, hts⟩ := id F
  have hl : lv_has ls 5 [(0, .ref x), (1, .int (a1)), (2, .int (a2)), (3, .ref o)] := hl
  have hP : va_P G.1 kcl [(x, .inr (0, [.ref cs, .ref sc, .ref pf, .int (u.2.1), .int (u.2.2.1), .int (u.2.2.2)])), (cs, .inl (G.2.1 2, 6, .inr (.inl (u.1)))), (o, .inr (3, [.long (nn), sv]))] s.heap := hP
  have hD : va_D A [(x, .inr (0, [.ref cs, .ref sc, .ref pf, .int (u.2.1), .int (u.2.2.1), .int (u.2.2.2)])), (cs, .inl (G.2.1 2, 6, .inr (.inl (u.1)))), (o, .inr (3, [.long (nn), sv]))] := hD
  refine lv_aload_n hx hb dc_L_floor_0 rfl (lv_at hl 3 rfl) ?_
  refine lv_aload_n hx hb dc_L_floor_1 rfl (lv_at hl 0 rfl) ?_
  refine lv_iload_n hx hb dc_L_floor_2 rfl (lv_at hl 1 rfl) ?_
  refine lv_iload_n hx hb dc_L_floor_3 rfl (lv_at hl 2 rfl) ?_
  refine ky_cVx (As := [.int (a1), .int (a2)]) (wr := [(o, .inr (3, [.long (nn), sv]))]) F (hE.at hfr hS) hfr (mt_X6_floor l hl9 G x cs sc pf u (a1) (a2) s.heap.size) kv_L_47 ⟨⟨rfl, rfl⟩, Nat.le_of_ble_eq_true rfl, Nat.le_of_ble_eq_true rfl⟩ rfl hl.1 rfl (Nat.le_of_ble_eq_true rfl) ⟨Nat.le_of_ble_eq_true rfl, Nat.le_of_ble_eq_true rfl⟩ (va_recv hE.1 hP (ci := 0) (q0 := 0) rfl rfl) trivial hP hD hS hA [0, 1] [2] rfl rfl (by decide) (by decide) (by decide) dc_L_floor_4 ?_ ?_
  · intro E ce q9 H locs hp hP hD hS hz hk9 hc1 hc2 hc3
    have hP : va_P G.1 kcl [(o, .inr (3, [.long (nn), sv])), (x, .inr (0, [.ref cs, .ref sc, .ref pf, .int (u.2.1), .int (u.2.2.1), .int (u.2.2.2)])), (cs, .inl (G.2.1 2, 6, .inr (.inl (u.1))))] H := hP
    have hD : va_D A [(o, .inr (3, [.long (nn), sv])), (x, .inr (0, [.ref cs, .ref sc, .ref pf, .int (u.2.1), .int (u.2.2.1), .int (u.2.2.2)])), (cs, .inl (G.2.1 2, 6, .inr (.inl (u.1))))] := hD
    have he := on_X6_floor (a1) (a2) u E hp
    subst he
    refine ky_cat1 (h1 := (0, 11, 14, 19)) (name := "java/lang/IndexOutOfBoundsException") hE hown hT (by decide) (by decide) (hts _ kw_4_82) (kc_4 _ (List.mem_of_getElem? (i := 92) rfl)) rfl hc1 hc2 hc3 ?_
    refine W.eq (g2 := F0 m 14 ls [.ref q9]) rfl ?_
    refine W.widen (k := 2) (n := 12) (by first | exact Nat.le_refl _ | omega) (by first | exact Nat.le_refl _ | omega) ?_
    refine lv_astore (lv' := [(4, .ref q9), (0, .ref x), (1, .int (a1)), (2, .int (a2)), (3, .ref o)]) hx hb dc_L_floor_14 hl (by decide) rfl (fun ls hl => ?_)
    refine lv_iconst (v := 1) hx hb dc_L_floor_16 (by decide) ?_
    have hP9 := hP.sub (ws' := [(x, .inr (0, [.ref cs, .ref sc, .ref pf, .int (u.2.1), .int (u.2.2.1), .int (u.2.2.2)])), (cs, .inl (G.2.1 2, 6, .inr (.inl (u.1)))), (o, .inr (3, [.long (nn), sv]))]) [1, 2, 0] rfl
    have hD9 := hD.sub (ws' := [(x, .inr (0, [.ref cs, .ref sc, .ref pf, .int (u.2.1), .int (u.2.2.1), .int (u.2.2.2)])), (cs, .inl (G.2.1 2, 6, .inr (.inl (u.1)))), (o, .inr (3, [.long (nn), sv]))]) [1, 2, 0] (by decide) rfl
    refine W.widen (k := 2) (n := 12) (Nat.le_of_ble_eq_true rfl) (Nat.le_of_ble_eq_true rfl) ?_
    exact W.iret (v := (1 : Int32)) hx hb hr (fun t ht hW => ⟨⟨_, (u, nn), rfl, ⟨by rw [hp, ky_lw_io], by rw [hp, ky_lw_io]⟩, by rw [ht]; exact hP9, hD9, trivial⟩, hS.F ht⟩) hS.2.2 dc_L_floor_17
  · rintro v9 u9 H locs ⟨r_0, w_0, hf_0, rfl, hu9⟩ hP hD hS - hz hk9
    have hu9 := hu9.symm
    subst hu9
    have hP : va_P G.1 kcl [(o, .inr (3, [.long (nn), sv])), (x, .inr (0, [.ref cs, .ref sc, .ref pf, .int (w_0.2.1), .int (w_0.2.2.1), .int (w_0.2.2.2)])), (cs, .inl (G.2.1 2, 6, .inr (.inl (w_0.1))))] H := hP
    have hD : va_D A [(o, .inr (3, [.long (nn), sv])), (x, .inr (0, [.ref cs, .ref sc, .ref pf, .int (w_0.2.1), .int (w_0.2.2.1), .int (w_0.2.2.2)])), (cs, .inl (G.2.1 2, 6, .inr (.inl (w_0.1))))] := hD
    refine W.widen (k := 2) (n := 12) (by first | exact Nat.le_refl _ | omega) (by first | exact Nat.le_refl _ | omega) ?_
    refine lv_i2l (v := (r_0).toInt64) hx hb dc_L_floor_7 rfl ?_
    refine va_putN (D := G.1) (ci := 3) (v := .long ((r_0).toInt64)) (ty := .long) (C := RX7) (T := TX7) (N := 2) hx hb hts ki_X7 tyX7 tyX7_ok nmX7 hown hE.1 hP hD hS 0 rfl rfl 0 (by decide) (va_Nw.use (A := _) rfl (hE.nestF (kc_4 _ (List.mem_of_getElem? (i := 72) rfl)))) (fun _ h9 => h9) rfl (by decide +kernel) rfl rfl (Nat.le_of_ble_eq_true rfl) dc_L_floor_8 (fun H locs hP hD hS => ?_)
    have hP : va_P G.1 kcl [(o, .inr (3, [.long ((r_0).toInt64), sv])), (x, .inr (0, [.ref cs, .ref sc, .ref pf, .int (w_0.2.1), .int (w_0.2.2.1), .int (w_0.2.2.2)])), (cs, .inl (G.2.1 2, 6, .inr (.inl (w_0.1))))] H := hP
    have hD : va_D A [(o, .inr (3, [.long ((r_0).toInt64), sv])), (x, .inr (0, [.ref cs, .ref sc, .ref pf, .int (w_0.2.1), .int (w_0.2.2.1), .int (w_0.2.2.2)])), (cs, .inl (G.2.1 2, 6, .inr (.inl (w_0.1))))] := hD
    refine lv_goto (tgt := 18) hx hb dc_L_floor_11 (by decide) ?_
    refine lv_iconst (v := 0) hx hb dc_L_floor_18 (by decide) ?_
    have hP9 := hP.sub (ws' := [(x, .inr (0, [.ref cs, .ref sc, .ref pf, .int (w_0.2.1), .int (w_0.2.2.1), .int (w_0.2.2.2)])), (cs, .inl (G.2.1 2, 6, .inr (.inl (w_0.1)))), (o, .inr (3, [.long ((r_0).toInt64), sv]))]) [1, 2, 0] rfl
    have hD9 := hD.sub (ws' := [(x, .inr (0, [.ref cs, .ref sc, .ref pf, .int (w_0.2.1), .int (w_0.2.2.1), .int (w_0.2.2.2)])), (cs, .inl (G.2.1 2, 6, .inr (.inl (w_0.1)))), (o, .inr (3, [.long ((r_0).toInt64), sv]))]) [1, 2, 0] (by decide) rfl
    refine W.widen (k := 2) (n := 12) (Nat.le_of_ble_eq_true rfl) (Nat.le_of_ble_eq_true rfl) ?_
    exact W.iret (v := (0 : Int32)) hx hb hr (fun t ht hW => ⟨⟨_, (w_0, (r_0).toInt64), rfl, ⟨by rw [hf_0, ky_lw_ok], by rw [hf_0, ky_lw_ok]⟩, by rw [ht]; exact hP9, hD9, trivial⟩, hS.F ht⟩) hS.2.2 dc_L_floor_19
set_option linter.constructorNameAsVariable false in
set_option maxHeartbeats 4000000 in
set_option maxRecDepth 100000 in
theorem mt_L_ceil (l : Launch) (hl9 : l.stackTraces = false) (G : ky_G) (x : Nat) (cs : Nat) (sc : Nat) (pf : Nat) (u : ky_BS) (o : Nat) (nn : Int64) (sv : Value) (a1 : Int32) (a2 : Int32) (sz : Nat)  : Met l my_L_ceil (.codeWith my_L_ceil method_11_code 5 (some .int) [(0, 11, 14, 19)] :: ky_B) { frames := 9, cells := 2, slots := 12, locals := 145 } (ky_P G [.ref x, .int (a1), .int (a2), .ref o] (ky_WB G x cs sc pf u ++ ky_WO o nn sv) sz (fun _ => True)) (ky_Q (S := ky_BS × Int64) G (va_A (ky_WB G x cs sc pf u ++ ky_WO o nn sv) sz) (fun v z => v = some (.int (ky_lw (fn_X6_ceil a1 a2 u) u nn).1) ∧ z = (ky_lw (fn_X6_ceil a1 a2 u) u nn).2) (fun z => ky_WB G x cs sc pf z.1 ++ ky_WO o z.2 sv) (fun _ _ => True)) (2) (12) (va_A (ky_WB G x cs sc pf u ++ ky_WO o nn sv) sz) := by
  refine ky_startH (hh := [(0, 11, 14, 19)]) (by decide) (Nat.le_of_ble_eq_true rfl) (fun p e s m below meth c F hT hE A hAe hsz hA hfr hP hD hS hX ls hl => ?_)
  obtain ⟨hx, hb, hml, hown, hr, hlocks, hts⟩ := id F
  have hl : lv_has ls 5 [(0, .ref x), (1, .int (a1)), (2, .int (a2)), (3, .ref o)] := hl
  have hP : va_P G.1 kcl [(x, .inr (0, [.ref cs, .ref sc, .ref pf, .int (u.2.1), .int (u.2.2.1), .int (u.2.2.2)])), (cs, .inl (G.2.1 2, 6, .inr (.inl (u.1)))), (o, .inr (3, [.long (nn), sv]))] s.heap := hP
  have hD : va_D A [(x, .inr (0, [.ref cs, .ref sc, .ref pf, .int (u.2.1), .int (u.2.2.1), .int (u.2.2.2)])), (cs, .inl (G.2.1 2, 6, .inr (.inl (u.1)))), (o, .inr (3, [.long (nn), sv]))] := hD
  refine lv_aload_n hx hb dc_L_ceil_0 rfl (lv_at hl 3 rfl) ?_
  refine lv_aload_n hx hb dc_L_ceil_1 rfl (lv_at hl 0 rfl) ?_
  refine lv_iload_n hx hb dc_L_ceil_2 rfl (lv_at hl 1 rfl) ?_
  refine lv_iload_n hx hb dc_L_ceil_3 rfl (lv_at hl 2 rfl) ?_
  refine ky_cVx (As := [.int (a1), .int (a2)]) (wr := [(o, .inr (3, [.long (nn), sv]))]) F (hE.at hfr hS) hfr (mt_X6_ceil l hl9 G x cs sc pf u (a1) (a2) s.heap.size) kv_L_50 ⟨⟨rfl, rfl⟩, Nat.le_of_ble_eq_true rfl, Nat.le_of_ble_eq_true rfl⟩ rfl hl.1 rfl (Nat.le_of_ble_eq_true rfl) ⟨Nat.le_of_ble_eq_true rfl, Nat.le_of_ble_eq_true rfl⟩ (va_recv hE.1 hP (ci := 0) (q0 := 0) rfl rfl) trivial hP hD hS hA [0, 1] [2] rfl rfl (by decide) (by decide) (by decide) dc_L_ceil_4 ?_ ?_
  · intro E ce q9 H locs hp hP hD hS hz hk9 hc1 hc2 hc3
    have hP : va_P G.1 kcl [(o, .inr (3, [.long (nn), sv])), (x, .inr (0, [.ref cs, .ref sc, .ref pf, .int (u.2.1), .int (u.2.2.1), .int (u.2.2.2)])), (cs, .inl (G.2.1 2, 6, .inr (.inl (u.1))))] H := hP
    have hD : va_D A [(o, .inr (3, [.long (nn), sv])), (x, .inr (0, [.ref cs, .ref sc, .ref pf, .int (u.2.1), .int (u.2.2.1), .int (u.2.2.2)])), (cs, .inl (G.2.1 2, 6, .inr (.inl (u.1))))] := hD
    have he := on_X6_ceil (a1) (a2) u E hp
    subst he
    refine ky_cat1 (h1 := (0, 11, 14, 19)) (name := "java/lang/IndexOutOfBoundsException") hE hown hT (by decide) (by decide) (hts _ kw_4_82) (kc_4 _ (List.mem_of_getElem? (i := 92) rfl)) rfl hc1 hc2 hc3 ?_
    refine W.eq (g2 := F0 m 14 ls [.ref q9]) rfl ?_
    refine W.widen (k := 2) (n := 12) (by first | exact Nat.le_refl _ | omega) (by first | exact Nat.le_refl _ | omega) ?_
    refine lv_astore (lv' := [(4, .ref q9), (0, .ref x), (1, .int (a1)), (2, .int (a2)), (3, .ref o)]) hx hb dc_L_ceil_14 hl (by decide) rfl (fun ls hl => ?_)
    refine lv_iconst (v := 1) hx hb dc_L_ceil_16 (by decide) ?_
    have hP9 := hP.sub (ws' := [(x, .inr (0, [.ref cs, .ref sc, .ref pf, .int (u.2.1), .int (u.2.2.1), .int (u.2.2.2)])), (cs, .inl (G.2.1 2, 6, .inr (.inl (u.1)))), (o, .inr (3, [.long (nn), sv]))]) [1, 2, 0] rfl
    have hD9 := hD.sub (ws' := [(x, .inr (0, [.ref cs, .ref sc, .ref pf, .int (u.2.1), .int (u.2.2.1), .int (u.2.2.2)])), (cs, .inl (G.2.1 2, 6, .inr (.inl (u.1)))), (o, .inr (3, [.long (nn), sv]))]) [1, 2, 0] (by decide) rfl
    refine W.widen (k := 2) (n := 12) (Nat.le_of_ble_eq_true rfl) (Nat.le_of_ble_eq_true rfl) ?_
    exact W.iret (v := (1 : Int32)) hx hb hr (fun t ht hW => ⟨⟨_, (u, nn), rfl, ⟨by rw [hp, ky_lw_io], by rw [hp, ky_lw_io]⟩, by rw [ht]; exact hP9, hD9, trivial⟩, hS.F ht⟩) hS.2.2 dc_L_ceil_17
  · rintro v9 u9 H locs ⟨r_0, w_0, hf_0, rfl, hu9⟩ hP hD hS - hz hk9
    have hu9 := hu9.symm
    subst hu9
    have hP : va_P G.1 kcl [(o, .inr (3, [.long (nn), sv])), (x, .inr (0, [.ref cs, .ref sc, .ref pf, .int (w_0.2.1), .int (w_0.2.2.1), .int (w_0.2.2.2)])), (cs, .inl (G.2.1 2, 6, .inr (.inl (w_0.1))))] H := hP
    have hD : va_D A [(o, .inr (3, [.long (nn), sv])), (x, .inr (0, [.ref cs, .ref sc, .ref pf, .int (w_0.2.1), .int (w_0.2.2.1), .int (w_0.2.2.2)])), (cs, .inl (G.2.1 2, 6, .inr (.inl (w_0.1))))] := hD
    refine W.widen (k := 2) (n := 12) (by first | exact Nat.le_refl _ | omega) (by first | exact Nat.le_refl _ | omega) ?_
    refine lv_i2l (v := (r_0).toInt64) hx hb dc_L_ceil_7 rfl ?_
    refine va_putN (D := G.1) (ci := 3) (v := .long ((r_0).toInt64)) (ty := .long) (C := RX7) (T := TX7) (N := 2) hx hb hts ki_X7 tyX7 tyX7_ok nmX7 hown hE.1 hP hD hS 0 rfl rfl 0 (by decide) (va_Nw.use (A := _) rfl (hE.nestF (kc_4 _ (List.mem_of_getElem? (i := 72) rfl)))) (fun _ h9 => h9) rfl (by decide +kernel) rfl rfl (Nat.le_of_ble_eq_true rfl) dc_L_ceil_8 (fun H locs hP hD hS => ?_)
    have hP : va_P G.1 kcl [(o, .inr (3, [.long ((r_0).toInt64), sv])), (x, .inr (0, [.ref cs, .ref sc, .ref pf, .int (w_0.2.1), .int (w_0.2.2.1), .int (w_0.2.2.2)])), (cs, .inl (G.2.1 2, 6, .inr (.inl (w_0.1))))] H := hP
    have hD : va_D A [(o, .inr (3, [.long ((r_0).toInt64), sv])), (x, .inr (0, [.ref cs, .ref sc, .ref pf, .int (w_0.2.1), .int (w_0.2.2.1), .int (w_0.2.2.2)])), (cs, .inl (G.2.1 2, 6, .inr (.inl (w_0.1))))] := hD
    refine lv_goto (tgt := 18) hx hb dc_L_ceil_11 (by decide) ?_
    refine lv_iconst (v := 0) hx hb dc_L_ceil_18 (by decide) ?_
    have hP9 := hP.sub (ws' := [(x, .inr (0, [.ref cs, .ref sc, .ref pf, .int (w_0.2.1), .int (w_0.2.2.1), .int (w_0.2.2.2)])), (cs, .inl (G.2.1 2, 6, .inr (.inl (w_0.1)))), (o, .inr (3, [.long ((r_0).toInt64), sv]))]) [1, 2, 0] rfl
    have hD9 := hD.sub (ws' := [(x, .inr (0, [.ref cs, .ref sc, .ref pf, .int (w_0.2.1), .int (w_0.2.2.1), .int (w_0.2.2.2)])), (cs, .inl (G.2.1 2, 6, .inr (.inl (w_0.1)))), (o, .inr (3, [.long ((r_0).toInt64), sv]))]) [1, 2, 0] (by decide) rfl
    refine W.widen (k := 2) (n := 12) (Nat.le_of_ble_eq_true rfl) (Nat.le_of_ble_eq_true rfl) ?_
    exact W.iret (v := (0 : Int32)) hx hb hr (fun t ht hW => ⟨⟨_, (w_0, (r_0).toInt64), rfl, ⟨by rw [hf_0, ky_lw_ok], by rw [hf_0, ky_lw_ok]⟩, by rw [ht]; exact hP9, hD9, trivial⟩, hS.F ht⟩) hS.2.2 dc_L_ceil_19
set_option linter.constructorNameAsVariable false in
set_option maxHeartbeats 4000000 in
set_option maxRecDepth 100000 in
theorem mt_L_rint (l : Launch) (hl9 : l.stackTraces = false) (G : ky_G) (x : Nat) (cs : Nat) (sc : Nat) (pf : Nat) (u : ky_BS) (o : Nat) (nn : Int64) (sv : Value) (a1 : Int32) (a2 : Int32) (sz : Nat)  : Met l my_L_rint (.codeWith my_L_rint method_12_code 5 (some .int) [(0, 11, 14, 19)] :: ky_B) { frames := 9, cells := 2, slots := 12, locals := 145 } (ky_P G [.ref x, .int (a1), .int (a2), .ref o] (ky_WB G x cs sc pf u ++ ky_WO o nn sv) sz (fun _ => True)) (ky_Q (S := ky_BS × Int64) G (va_A (ky_WB G x cs sc pf u ++ ky_WO o nn sv) sz) (fun v z => v = some (.int (ky_lw (fn_X6_rint a1 a2 u) u nn).1) ∧ z = (ky_lw (fn_X6_rint a1 a2 u) u nn).2) (fun z => ky_WB G x cs sc pf z.1 ++ ky_WO o z.2 sv) (fun _ _ => True)) (2) (12) (va_A (ky_WB G x cs sc pf u ++ ky_WO o nn sv) sz) := by
  refine ky_startH (hh := [(0, 11, 14, 19)]) (by decide) (Nat.le_of_ble_eq_true rfl) (fun p e s m below meth c F hT hE A hAe hsz hA hfr hP hD hS hX ls hl => ?_)
  obtain ⟨hx, hb, hml, hown, hr, hlocks, hts⟩ := id F
  have hl : lv_has ls 5 [(0, .ref x), (1, .int (a1)), (2, .int (a2)), (3, .ref o)] := hl
  have hP : va_P G.1 kcl [(x, .inr (0, [.ref cs, .ref sc, .ref pf, .int (u.2.1), .int (u.2.2.1), .int (u.2.2.2)])), (cs, .inl (G.2.1 2, 6, .inr (.inl (u.1)))), (o, .inr (3, [.long (nn), sv]))] s.heap := hP
  have hD : va_D A [(x, .inr (0, [.ref cs, .ref sc, .ref pf, .int (u.2.1), .int (u.2.2.1), .int (u.2.2.2)])), (cs, .inl (G.2.1 2, 6, .inr (.inl (u.1)))), (o, .inr (3, [.long (nn), sv]))] := hD
  refine lv_aload_n hx hb dc_L_rint_0 rfl (lv_at hl 3 rfl) ?_
  refine lv_aload_n hx hb dc_L_rint_1 rfl (lv_at hl 0 rfl) ?_
  refine lv_iload_n hx hb dc_L_rint_2 rfl (lv_at hl 1 rfl) ?_
  refine lv_iload_n hx hb dc_L_rint_3 rfl (lv_at hl 2 rfl) ?_
  refine ky_cVx (As := [.int (a1), .int (a2)]) (wr := [(o, .inr (3, [.long (nn), sv]))]) F (hE.at hfr hS) hfr (mt_X6_rint l hl9 G x cs sc pf u (a1) (a2) s.heap.size) kv_L_53 ⟨⟨rfl, rfl⟩, Nat.le_of_ble_eq_true rfl, Nat.le_of_ble_eq_true rfl⟩ rfl hl.1 rfl (Nat.le_of_ble_eq_true rfl) ⟨Nat.le_of_ble_eq_true rfl, Nat.le_of_ble_eq_true rfl⟩ (va_recv hE.1 hP (ci := 0) (q0 := 0) rfl rfl) trivial hP hD hS hA [0, 1] [2] rfl rfl (by decide) (by decide) (by decide) dc_L_rint_4 ?_ ?_
  · intro E ce q9 H locs hp hP hD hS hz hk9 hc1 hc2 hc3
    have hP : va_P G.1 kcl [(o, .inr (3, [.long (nn), sv])), (x, .inr (0, [.ref cs, .ref sc, .ref pf, .int (u.2.1), .int (u.2.2.1), .int (u.2.2.2)])), (cs, .inl (G.2.1 2, 6, .inr (.inl (u.1))))] H := hP
    have hD : va_D A [(o, .inr (3, [.long (nn), sv])), (x, .inr (0, [.ref cs, .ref sc, .ref pf, .int (u.2.1), .int (u.2.2.1), .int (u.2.2.2)])), (cs, .inl (G.2.1 2, 6, .inr (.inl (u.1))))] := hD
    have he := on_X6_rint (a1) (a2) u E hp
    subst he
    refine ky_cat1 (h1 := (0, 11, 14, 19)) (name := "java/lang/IndexOutOfBoundsException") hE hown hT (by decide) (by decide) (hts _ kw_4_82) (kc_4 _ (List.mem_of_getElem? (i := 92) rfl)) rfl hc1 hc2 hc3 ?_
    refine W.eq (g2 := F0 m 14 ls [.ref q9]) rfl ?_
    refine W.widen (k := 2) (n := 12) (by first | exact Nat.le_refl _ | omega) (by first | exact Nat.le_refl _ | omega) ?_
    refine lv_astore (lv' := [(4, .ref q9), (0, .ref x), (1, .int (a1)), (2, .int (a2)), (3, .ref o)]) hx hb dc_L_rint_14 hl (by decide) rfl (fun ls hl => ?_)
    refine lv_iconst (v := 1) hx hb dc_L_rint_16 (by decide) ?_
    have hP9 := hP.sub (ws' := [(x, .inr (0, [.ref cs, .ref sc, .ref pf, .int (u.2.1), .int (u.2.2.1), .int (u.2.2.2)])), (cs, .inl (G.2.1 2, 6, .inr (.inl (u.1)))), (o, .inr (3, [.long (nn), sv]))]) [1, 2, 0] rfl
    have hD9 := hD.sub (ws' := [(x, .inr (0, [.ref cs, .ref sc, .ref pf, .int (u.2.1), .int (u.2.2.1), .int (u.2.2.2)])), (cs, .inl (G.2.1 2, 6, .inr (.inl (u.1)))), (o, .inr (3, [.long (nn), sv]))]) [1, 2, 0] (by decide) rfl
    refine W.widen (k := 2) (n := 12) (Nat.le_of_ble_eq_true rfl) (Nat.le_of_ble_eq_true rfl) ?_
    exact W.iret (v := (1 : Int32)) hx hb hr (fun t ht hW => ⟨⟨_, (u, nn), rfl, ⟨by rw [hp, ky_lw_io], by rw [hp, ky_lw_io]⟩, by rw [ht]; exact hP9, hD9, trivial⟩, hS.F ht⟩) hS.2.2 dc_L_rint_17
  · rintro v9 u9 H locs ⟨r_0, w_0, hf_0, rfl, hu9⟩ hP hD hS - hz hk9
    have hu9 := hu9.symm
    subst hu9
    have hP : va_P G.1 kcl [(o, .inr (3, [.long (nn), sv])), (x, .inr (0, [.ref cs, .ref sc, .ref pf, .int (w_0.2.1), .int (w_0.2.2.1), .int (w_0.2.2.2)])), (cs, .inl (G.2.1 2, 6, .inr (.inl (w_0.1))))] H := hP
    have hD : va_D A [(o, .inr (3, [.long (nn), sv])), (x, .inr (0, [.ref cs, .ref sc, .ref pf, .int (w_0.2.1), .int (w_0.2.2.1), .int (w_0.2.2.2)])), (cs, .inl (G.2.1 2, 6, .inr (.inl (w_0.1))))] := hD
    refine W.widen (k := 2) (n := 12) (by first | exact Nat.le_refl _ | omega) (by first | exact Nat.le_refl _ | omega) ?_
    refine lv_i2l (v := (r_0).toInt64) hx hb dc_L_rint_7 rfl ?_
    refine va_putN (D := G.1) (ci := 3) (v := .long ((r_0).toInt64)) (ty := .long) (C := RX7) (T := TX7) (N := 2) hx hb hts ki_X7 tyX7 tyX7_ok nmX7 hown hE.1 hP hD hS 0 rfl rfl 0 (by decide) (va_Nw.use (A := _) rfl (hE.nestF (kc_4 _ (List.mem_of_getElem? (i := 72) rfl)))) (fun _ h9 => h9) rfl (by decide +kernel) rfl rfl (Nat.le_of_ble_eq_true rfl) dc_L_rint_8 (fun H locs hP hD hS => ?_)
    have hP : va_P G.1 kcl [(o, .inr (3, [.long ((r_0).toInt64), sv])), (x, .inr (0, [.ref cs, .ref sc, .ref pf, .int (w_0.2.1), .int (w_0.2.2.1), .int (w_0.2.2.2)])), (cs, .inl (G.2.1 2, 6, .inr (.inl (w_0.1))))] H := hP
    have hD : va_D A [(o, .inr (3, [.long ((r_0).toInt64), sv])), (x, .inr (0, [.ref cs, .ref sc, .ref pf, .int (w_0.2.1), .int (w_0.2.2.1), .int (w_0.2.2.2)])), (cs, .inl (G.2.1 2, 6, .inr (.inl (w_0.1))))] := hD
    refine lv_goto (tgt := 18) hx hb dc_L_rint_11 (by decide) ?_
    refine lv_iconst (v := 0) hx hb dc_L_rint_18 (by decide) ?_
    have hP9 := hP.sub (ws' := [(x, .inr (0, [.ref cs, .ref sc, .ref pf, .int (w_0.2.1), .int (w_0.2.2.1), .int (w_0.2.2.2)])), (cs, .inl (G.2.1 2, 6, .inr (.inl (w_0.1)))), (o, .inr (3, [.long ((r_0).toInt64), sv]))]) [1, 2, 0] rfl
    have hD9 := hD.sub (ws' := [(x, .inr (0, [.ref cs, .ref sc, .ref pf, .int (w_0.2.1), .int (w_0.2.2.1), .int (w_0.2.2.2)])), (cs, .inl (G.2.1 2, 6, .inr (.inl (w_0.1)))), (o, .inr (3, [.long ((r_0).toInt64), sv]))]) [1, 2, 0] (by decide) rfl
    refine W.widen (k := 2) (n := 12) (Nat.le_of_ble_eq_true rfl) (Nat.le_of_ble_eq_true rfl) ?_
    exact W.iret (v := (0 : Int32)) hx hb hr (fun t ht hW => ⟨⟨_, (w_0, (r_0).toInt64), rfl, ⟨by rw [hf_0, ky_lw_ok], by rw [hf_0, ky_lw_ok]⟩, by rw [ht]; exact hP9, hD9, trivial⟩, hS.F ht⟩) hS.2.2 dc_L_rint_19
set_option linter.constructorNameAsVariable false in
set_option maxHeartbeats 4000000 in
set_option maxRecDepth 100000 in
theorem mt_L_size (l : Launch) (hl9 : l.stackTraces = false) (G : ky_G) (x : Nat) (cs : Nat) (sc : Nat) (pf : Nat) (u : ky_BS) (o : Nat) (nn : Int64) (sv : Value) (a1 : Int32) (a2 : Int32) (sz : Nat)  : Met l my_L_size (.codeWith my_L_size method_13_code 5 (some .int) [(0, 11, 14, 19)] :: ky_B) { frames := 9, cells := 2, slots := 12, locals := 145 } (ky_P G [.ref x, .int (a1), .int (a2), .ref o] (ky_WB G x cs sc pf u ++ ky_WO o nn sv) sz (fun _ => True)) (ky_Q (S := ky_BS × Int64) G (va_A (ky_WB G x cs sc pf u ++ ky_WO o nn sv) sz) (fun v z => v = some (.int (ky_lw (fn_X6_size a1 a2 u) u nn).1) ∧ z = (ky_lw (fn_X6_size a1 a2 u) u nn).2) (fun z => ky_WB G x cs sc pf z.1 ++ ky_WO o z.2 sv) (fun _ _ => True)) (2) (12) (va_A (ky_WB G x cs sc pf u ++ ky_WO o nn sv) sz) := by
  refine ky_startH (hh := [(0, 11, 14, 19)]) (by decide) (Nat.le_of_ble_eq_true rfl) (fun p e s m below meth c F hT hE A hAe hsz hA hfr hP hD hS hX ls hl => ?_)
  obtain ⟨hx, hb, hml, hown, hr, hlocks, hts⟩ := id F
  have hl : lv_has ls 5 [(0, .ref x), (1, .int (a1)), (2, .int (a2)), (3, .ref o)] := hl
  have hP : va_P G.1 kcl [(x, .inr (0, [.ref cs, .ref sc, .ref pf, .int (u.2.1), .int (u.2.2.1), .int (u.2.2.2)])), (cs, .inl (G.2.1 2, 6, .inr (.inl (u.1)))), (o, .inr (3, [.long (nn), sv]))] s.heap := hP
  have hD : va_D A [(x, .inr (0, [.ref cs, .ref sc, .ref pf, .int (u.2.1), .int (u.2.2.1), .int (u.2.2.2)])), (cs, .inl (G.2.1 2, 6, .inr (.inl (u.1)))), (o, .inr (3, [.long (nn), sv]))] := hD
  refine lv_aload_n hx hb dc_L_size_0 rfl (lv_at hl 3 rfl) ?_
  refine lv_aload_n hx hb dc_L_size_1 rfl (lv_at hl 0 rfl) ?_
  refine lv_iload_n hx hb dc_L_size_2 rfl (lv_at hl 1 rfl) ?_
  refine lv_iload_n hx hb dc_L_size_3 rfl (lv_at hl 2 rfl) ?_
  refine ky_cVx (As := [.int (a1), .int (a2)]) (wr := [(o, .inr (3, [.long (nn), sv]))]) F (hE.at hfr hS) hfr (mt_X6_size l hl9 G x cs sc pf u (a1) (a2) s.heap.size) kv_L_56 ⟨⟨rfl, rfl⟩, Nat.le_of_ble_eq_true rfl, Nat.le_of_ble_eq_true rfl⟩ rfl hl.1 rfl (Nat.le_of_ble_eq_true rfl) ⟨Nat.le_of_ble_eq_true rfl, Nat.le_of_ble_eq_true rfl⟩ (va_recv hE.1 hP (ci := 0) (q0 := 0) rfl rfl) trivial hP hD hS hA [0, 1] [2] rfl rfl (by decide) (by decide) (by decide) dc_L_size_4 ?_ ?_
  · intro E ce q9 H locs hp hP hD hS hz hk9 hc1 hc2 hc3
    have hP : va_P G.1 kcl [(o, .inr (3, [.long (nn), sv])), (x, .inr (0, [.ref cs, .ref sc, .ref pf, .int (u.2.1), .int (u.2.2.1), .int (u.2.2.2)])), (cs, .inl (G.2.1 2, 6, .inr (.inl (u.1))))] H := hP
    have hD : va_D A [(o, .inr (3, [.long (nn), sv])), (x, .inr (0, [.ref cs, .ref sc, .ref pf, .int (u.2.1), .int (u.2.2.1), .int (u.2.2.2)])), (cs, .inl (G.2.1 2, 6, .inr (.inl (u.1))))] := hD
    have he := on_X6_size (a1) (a2) u E hp
    subst he
    refine ky_cat1 (h1 := (0, 11, 14, 19)) (name := "java/lang/IndexOutOfBoundsException") hE hown hT (by decide) (by decide) (hts _ kw_4_82) (kc_4 _ (List.mem_of_getElem? (i := 92) rfl)) rfl hc1 hc2 hc3 ?_
    refine W.eq (g2 := F0 m 14 ls [.ref q9]) rfl ?_
    refine W.widen (k := 2) (n := 12) (by first | exact Nat.le_refl _ | omega) (by first | exact Nat.le_refl _ | omega) ?_
    refine lv_astore (lv' := [(4, .ref q9), (0, .ref x), (1, .int (a1)), (2, .int (a2)), (3, .ref o)]) hx hb dc_L_size_14 hl (by decide) rfl (fun ls hl => ?_)
    refine lv_iconst (v := 1) hx hb dc_L_size_16 (by decide) ?_
    have hP9 := hP.sub (ws' := [(x, .inr (0, [.ref cs, .ref sc, .ref pf, .int (u.2.1), .int (u.2.2.1), .int (u.2.2.2)])), (cs, .inl (G.2.1 2, 6, .inr (.inl (u.1)))), (o, .inr (3, [.long (nn), sv]))]) [1, 2, 0] rfl
    have hD9 := hD.sub (ws' := [(x, .inr (0, [.ref cs, .ref sc, .ref pf, .int (u.2.1), .int (u.2.2.1), .int (u.2.2.2)])), (cs, .inl (G.2.1 2, 6, .inr (.inl (u.1)))), (o, .inr (3, [.long (nn), sv]))]) [1, 2, 0] (by decide) rfl
    refine W.widen (k := 2) (n := 12) (Nat.le_of_ble_eq_true rfl) (Nat.le_of_ble_eq_true rfl) ?_
    exact W.iret (v := (1 : Int32)) hx hb hr (fun t ht hW => ⟨⟨_, (u, nn), rfl, ⟨by rw [hp, ky_lw_io], by rw [hp, ky_lw_io]⟩, by rw [ht]; exact hP9, hD9, trivial⟩, hS.F ht⟩) hS.2.2 dc_L_size_17
  · rintro v9 u9 H locs ⟨r_0, w_0, hf_0, rfl, hu9⟩ hP hD hS - hz hk9
    have hu9 := hu9.symm
    subst hu9
    have hP : va_P G.1 kcl [(o, .inr (3, [.long (nn), sv])), (x, .inr (0, [.ref cs, .ref sc, .ref pf, .int (w_0.2.1), .int (w_0.2.2.1), .int (w_0.2.2.2)])), (cs, .inl (G.2.1 2, 6, .inr (.inl (w_0.1))))] H := hP
    have hD : va_D A [(o, .inr (3, [.long (nn), sv])), (x, .inr (0, [.ref cs, .ref sc, .ref pf, .int (w_0.2.1), .int (w_0.2.2.1), .int (w_0.2.2.2)])), (cs, .inl (G.2.1 2, 6, .inr (.inl (w_0.1))))] := hD
    refine W.widen (k := 2) (n := 12) (by first | exact Nat.le_refl _ | omega) (by first | exact Nat.le_refl _ | omega) ?_
    refine lv_i2l (v := (r_0).toInt64) hx hb dc_L_size_7 rfl ?_
    refine va_putN (D := G.1) (ci := 3) (v := .long ((r_0).toInt64)) (ty := .long) (C := RX7) (T := TX7) (N := 2) hx hb hts ki_X7 tyX7 tyX7_ok nmX7 hown hE.1 hP hD hS 0 rfl rfl 0 (by decide) (va_Nw.use (A := _) rfl (hE.nestF (kc_4 _ (List.mem_of_getElem? (i := 72) rfl)))) (fun _ h9 => h9) rfl (by decide +kernel) rfl rfl (Nat.le_of_ble_eq_true rfl) dc_L_size_8 (fun H locs hP hD hS => ?_)
    have hP : va_P G.1 kcl [(o, .inr (3, [.long ((r_0).toInt64), sv])), (x, .inr (0, [.ref cs, .ref sc, .ref pf, .int (w_0.2.1), .int (w_0.2.2.1), .int (w_0.2.2.2)])), (cs, .inl (G.2.1 2, 6, .inr (.inl (w_0.1))))] H := hP
    have hD : va_D A [(o, .inr (3, [.long ((r_0).toInt64), sv])), (x, .inr (0, [.ref cs, .ref sc, .ref pf, .int (w_0.2.1), .int (w_0.2.2.1), .int (w_0.2.2.2)])), (cs, .inl (G.2.1 2, 6, .inr (.inl (w_0.1))))] := hD
    refine lv_goto (tgt := 18) hx hb dc_L_size_11 (by decide) ?_
    refine lv_iconst (v := 0) hx hb dc_L_size_18 (by decide) ?_
    have hP9 := hP.sub (ws' := [(x, .inr (0, [.ref cs, .ref sc, .ref pf, .int (w_0.2.1), .int (w_0.2.2.1), .int (w_0.2.2.2)])), (cs, .inl (G.2.1 2, 6, .inr (.inl (w_0.1)))), (o, .inr (3, [.long ((r_0).toInt64), sv]))]) [1, 2, 0] rfl
    have hD9 := hD.sub (ws' := [(x, .inr (0, [.ref cs, .ref sc, .ref pf, .int (w_0.2.1), .int (w_0.2.2.1), .int (w_0.2.2.2)])), (cs, .inl (G.2.1 2, 6, .inr (.inl (w_0.1)))), (o, .inr (3, [.long ((r_0).toInt64), sv]))]) [1, 2, 0] (by decide) rfl
    refine W.widen (k := 2) (n := 12) (Nat.le_of_ble_eq_true rfl) (Nat.le_of_ble_eq_true rfl) ?_
    exact W.iret (v := (0 : Int32)) hx hb hr (fun t ht hW => ⟨⟨_, (w_0, (r_0).toInt64), rfl, ⟨by rw [hf_0, ky_lw_ok], by rw [hf_0, ky_lw_ok]⟩, by rw [ht]; exact hP9, hD9, trivial⟩, hS.F ht⟩) hS.2.2 dc_L_size_19
set_option linter.constructorNameAsVariable false in
set_option maxHeartbeats 4000000 in
set_option maxRecDepth 100000 in
theorem mt_L_turn (l : Launch) (hl9 : l.stackTraces = false) (G : ky_G) (x : Nat) (cs : Nat) (sc : Nat) (pf : Nat) (u : ky_BS) (o : Nat) (nn : Int64) (sv : Value) (a1 : Int32) (a2 : Int32) (sz : Nat)  : Met l my_L_turn (.codeWith my_L_turn method_14_code 5 (some .int) [(0, 11, 14, 19)] :: ky_B) { frames := 9, cells := 2, slots := 12, locals := 145 } (ky_P G [.ref x, .int (a1), .int (a2), .ref o] (ky_WB G x cs sc pf u ++ ky_WO o nn sv) sz (fun _ => True)) (ky_Q (S := ky_BS × Int64) G (va_A (ky_WB G x cs sc pf u ++ ky_WO o nn sv) sz) (fun v z => v = some (.int (ky_lw (fn_X6_turn a1 a2 u) u nn).1) ∧ z = (ky_lw (fn_X6_turn a1 a2 u) u nn).2) (fun z => ky_WB G x cs sc pf z.1 ++ ky_WO o z.2 sv) (fun _ _ => True)) (2) (12) (va_A (ky_WB G x cs sc pf u ++ ky_WO o nn sv) sz) := by
  refine ky_startH (hh := [(0, 11, 14, 19)]) (by decide) (Nat.le_of_ble_eq_true rfl) (fun p e s m below meth c F hT hE A hAe hsz hA hfr hP hD hS hX ls hl => ?_)
  obtain ⟨hx, hb, hml, hown, hr, hlocks, hts⟩ := id F
  have hl : lv_has ls 5 [(0, .ref x), (1, .int (a1)), (2, .int (a2)), (3, .ref o)] := hl
  have hP : va_P G.1 kcl [(x, .inr (0, [.ref cs, .ref sc, .ref pf, .int (u.2.1), .int (u.2.2.1), .int (u.2.2.2)])), (cs, .inl (G.2.1 2, 6, .inr (.inl (u.1)))), (o, .inr (3, [.long (nn), sv]))] s.heap := hP
  have hD : va_D A [(x, .inr (0, [.ref cs, .ref sc, .ref pf, .int (u.2.1), .int (u.2.2.1), .int (u.2.2.2)])), (cs, .inl (G.2.1 2, 6, .inr (.inl (u.1)))), (o, .inr (3, [.long (nn), sv]))] := hD
  refine lv_aload_n hx hb dc_L_turn_0 rfl (lv_at hl 3 rfl) ?_
  refine lv_aload_n hx hb dc_L_turn_1 rfl (lv_at hl 0 rfl) ?_
  refine lv_iload_n hx hb dc_L_turn_2 rfl (lv_at hl 1 rfl) ?_
  refine lv_iload_n hx hb dc_L_turn_3 rfl (lv_at hl 2 rfl) ?_
  refine ky_cVx (As := [.int (a1), .int (a2)]) (wr := [(o, .inr (3, [.long (nn), sv]))]) F (hE.at hfr hS) hfr (mt_X6_turn l hl9 G x cs sc pf u (a1) (a2) s.heap.size) kv_L_59 ⟨⟨rfl, rfl⟩, Nat.le_of_ble_eq_true rfl, Nat.le_of_ble_eq_true rfl⟩ rfl hl.1 rfl (Nat.le_of_ble_eq_true rfl) ⟨Nat.le_of_ble_eq_true rfl, Nat.le_of_ble_eq_true rfl⟩ (va_recv hE.1 hP (ci := 0) (q0 := 0) rfl rfl) trivial hP hD hS hA [0, 1] [2] rfl rfl (by decide) (by decide) (by decide) dc_L_turn_4 ?_ ?_
  · intro E ce q9 H locs hp hP hD hS hz hk9 hc1 hc2 hc3
    have hP : va_P G.1 kcl [(o, .inr (3, [.long (nn), sv])), (x, .inr (0, [.ref cs, .ref sc, .ref pf, .int (u.2.1), .int (u.2.2.1), .int (u.2.2.2)])), (cs, .inl (G.2.1 2, 6, .inr (.inl (u.1))))] H := hP
    have hD : va_D A [(o, .inr (3, [.long (nn), sv])), (x, .inr (0, [.ref cs, .ref sc, .ref pf, .int (u.2.1), .int (u.2.2.1), .int (u.2.2.2)])), (cs, .inl (G.2.1 2, 6, .inr (.inl (u.1))))] := hD
    have he := on_X6_turn (a1) (a2) u E hp
    subst he
    refine ky_cat1 (h1 := (0, 11, 14, 19)) (name := "java/lang/IndexOutOfBoundsException") hE hown hT (by decide) (by decide) (hts _ kw_4_82) (kc_4 _ (List.mem_of_getElem? (i := 92) rfl)) rfl hc1 hc2 hc3 ?_
    refine W.eq (g2 := F0 m 14 ls [.ref q9]) rfl ?_
    refine W.widen (k := 2) (n := 12) (by first | exact Nat.le_refl _ | omega) (by first | exact Nat.le_refl _ | omega) ?_
    refine lv_astore (lv' := [(4, .ref q9), (0, .ref x), (1, .int (a1)), (2, .int (a2)), (3, .ref o)]) hx hb dc_L_turn_14 hl (by decide) rfl (fun ls hl => ?_)
    refine lv_iconst (v := 1) hx hb dc_L_turn_16 (by decide) ?_
    have hP9 := hP.sub (ws' := [(x, .inr (0, [.ref cs, .ref sc, .ref pf, .int (u.2.1), .int (u.2.2.1), .int (u.2.2.2)])), (cs, .inl (G.2.1 2, 6, .inr (.inl (u.1)))), (o, .inr (3, [.long (nn), sv]))]) [1, 2, 0] rfl
    have hD9 := hD.sub (ws' := [(x, .inr (0, [.ref cs, .ref sc, .ref pf, .int (u.2.1), .int (u.2.2.1), .int (u.2.2.2)])), (cs, .inl (G.2.1 2, 6, .inr (.inl (u.1)))), (o, .inr (3, [.long (nn), sv]))]) [1, 2, 0] (by decide) rfl
    refine W.widen (k := 2) (n := 12) (Nat.le_of_ble_eq_true rfl) (Nat.le_of_ble_eq_true rfl) ?_
    exact W.iret (v := (1 : Int32)) hx hb hr (fun t ht hW => ⟨⟨_, (u, nn), rfl, ⟨by rw [hp, ky_lw_io], by rw [hp, ky_lw_io]⟩, by rw [ht]; exact hP9, hD9, trivial⟩, hS.F ht⟩) hS.2.2 dc_L_turn_17
  · rintro v9 u9 H locs ⟨r_0, w_0, hf_0, rfl, hu9⟩ hP hD hS - hz hk9
    have hu9 := hu9.symm
    subst hu9
    have hP : va_P G.1 kcl [(o, .inr (3, [.long (nn), sv])), (x, .inr (0, [.ref cs, .ref sc, .ref pf, .int (w_0.2.1), .int (w_0.2.2.1), .int (w_0.2.2.2)])), (cs, .inl (G.2.1 2, 6, .inr (.inl (w_0.1))))] H := hP
    have hD : va_D A [(o, .inr (3, [.long (nn), sv])), (x, .inr (0, [.ref cs, .ref sc, .ref pf, .int (w_0.2.1), .int (w_0.2.2.1), .int (w_0.2.2.2)])), (cs, .inl (G.2.1 2, 6, .inr (.inl (w_0.1))))] := hD
    refine W.widen (k := 2) (n := 12) (by first | exact Nat.le_refl _ | omega) (by first | exact Nat.le_refl _ | omega) ?_
    refine lv_i2l (v := (r_0).toInt64) hx hb dc_L_turn_7 rfl ?_
    refine va_putN (D := G.1) (ci := 3) (v := .long ((r_0).toInt64)) (ty := .long) (C := RX7) (T := TX7) (N := 2) hx hb hts ki_X7 tyX7 tyX7_ok nmX7 hown hE.1 hP hD hS 0 rfl rfl 0 (by decide) (va_Nw.use (A := _) rfl (hE.nestF (kc_4 _ (List.mem_of_getElem? (i := 72) rfl)))) (fun _ h9 => h9) rfl (by decide +kernel) rfl rfl (Nat.le_of_ble_eq_true rfl) dc_L_turn_8 (fun H locs hP hD hS => ?_)
    have hP : va_P G.1 kcl [(o, .inr (3, [.long ((r_0).toInt64), sv])), (x, .inr (0, [.ref cs, .ref sc, .ref pf, .int (w_0.2.1), .int (w_0.2.2.1), .int (w_0.2.2.2)])), (cs, .inl (G.2.1 2, 6, .inr (.inl (w_0.1))))] H := hP
    have hD : va_D A [(o, .inr (3, [.long ((r_0).toInt64), sv])), (x, .inr (0, [.ref cs, .ref sc, .ref pf, .int (w_0.2.1), .int (w_0.2.2.1), .int (w_0.2.2.2)])), (cs, .inl (G.2.1 2, 6, .inr (.inl (w_0.1))))] := hD
    refine lv_goto (tgt := 18) hx hb dc_L_turn_11 (by decide) ?_
    refine lv_iconst (v := 0) hx hb dc_L_turn_18 (by decide) ?_
    have hP9 := hP.sub (ws' := [(x, .inr (0, [.ref cs, .ref sc, .ref pf, .int (w_0.2.1), .int (w_0.2.2.1), .int (w_0.2.2.2)])), (cs, .inl (G.2.1 2, 6, .inr (.inl (w_0.1)))), (o, .inr (3, [.long ((r_0).toInt64), sv]))]) [1, 2, 0] rfl
    have hD9 := hD.sub (ws' := [(x, .inr (0, [.ref cs, .ref sc, .ref pf, .int (w_0.2.1), .int (w_0.2.2.1), .int (w_0.2.2.2)])), (cs, .inl (G.2.1 2, 6, .inr (.inl (w_0.1)))), (o, .inr (3, [.long ((r_0).toInt64), sv]))]) [1, 2, 0] (by decide) rfl
    refine W.widen (k := 2) (n := 12) (Nat.le_of_ble_eq_true rfl) (Nat.le_of_ble_eq_true rfl) ?_
    exact W.iret (v := (0 : Int32)) hx hb hr (fun t ht hW => ⟨⟨_, (w_0, (r_0).toInt64), rfl, ⟨by rw [hf_0, ky_lw_ok], by rw [hf_0, ky_lw_ok]⟩, by rw [ht]; exact hP9, hD9, trivial⟩, hS.F ht⟩) hS.2.2 dc_L_turn_19
set_option linter.constructorNameAsVariable false in
set_option maxHeartbeats 4000000 in
set_option maxRecDepth 100000 in
theorem mt_L_sign (l : Launch) (hl9 : l.stackTraces = false) (G : ky_G) (x : Nat) (cs : Nat) (sc : Nat) (pf : Nat) (u : ky_BS) (o : Nat) (nn : Int64) (sv : Value) (a1 : Int32) (a2 : Int32) (sz : Nat)  : Met l my_L_sign (.codeWith my_L_sign method_15_code 5 (some .int) [(0, 11, 14, 19)] :: ky_B) { frames := 9, cells := 2, slots := 12, locals := 145 } (ky_P G [.ref x, .int (a1), .int (a2), .ref o] (ky_WB G x cs sc pf u ++ ky_WO o nn sv) sz (fun _ => True)) (ky_Q (S := ky_BS × Int64) G (va_A (ky_WB G x cs sc pf u ++ ky_WO o nn sv) sz) (fun v z => v = some (.int (ky_lw (fn_X6_sign a1 a2 u) u nn).1) ∧ z = (ky_lw (fn_X6_sign a1 a2 u) u nn).2) (fun z => ky_WB G x cs sc pf z.1 ++ ky_WO o z.2 sv) (fun _ _ => True)) (2) (12) (va_A (ky_WB G x cs sc pf u ++ ky_WO o nn sv) sz) := by
  refine ky_startH (hh := [(0, 11, 14, 19)]) (by decide) (Nat.le_of_ble_eq_true rfl) (fun p e s m below meth c F hT hE A hAe hsz hA hfr hP hD hS hX ls hl => ?_)
  obtain ⟨hx, hb, hml, hown, hr, hlocks, hts⟩ := id F
  have hl : lv_has ls 5 [(0, .ref x), (1, .int (a1)), (2, .int (a2)), (3, .ref o)] := hl
  have hP : va_P G.1 kcl [(x, .inr (0, [.ref cs, .ref sc, .ref pf, .int (u.2.1), .int (u.2.2.1), .int (u.2.2.2)])), (cs, .inl (G.2.1 2, 6, .inr (.inl (u.1)))), (o, .inr (3, [.long (nn), sv]))] s.heap := hP
  have hD : va_D A [(x, .inr (0, [.ref cs, .ref sc, .ref pf, .int (u.2.1), .int (u.2.2.1), .int (u.2.2.2)])), (cs, .inl (G.2.1 2, 6, .inr (.inl (u.1)))), (o, .inr (3, [.long (nn), sv]))] := hD
  refine lv_aload_n hx hb dc_L_sign_0 rfl (lv_at hl 3 rfl) ?_
  refine lv_aload_n hx hb dc_L_sign_1 rfl (lv_at hl 0 rfl) ?_
  refine lv_iload_n hx hb dc_L_sign_2 rfl (lv_at hl 1 rfl) ?_
  refine lv_iload_n hx hb dc_L_sign_3 rfl (lv_at hl 2 rfl) ?_
  refine ky_cVx (As := [.int (a1), .int (a2)]) (wr := [(o, .inr (3, [.long (nn), sv]))]) F (hE.at hfr hS) hfr (mt_X6_sign l hl9 G x cs sc pf u (a1) (a2) s.heap.size) kv_L_62 ⟨⟨rfl, rfl⟩, Nat.le_of_ble_eq_true rfl, Nat.le_of_ble_eq_true rfl⟩ rfl hl.1 rfl (Nat.le_of_ble_eq_true rfl) ⟨Nat.le_of_ble_eq_true rfl, Nat.le_of_ble_eq_true rfl⟩ (va_recv hE.1 hP (ci := 0) (q0 := 0) rfl rfl) trivial hP hD hS hA [0, 1] [2] rfl rfl (by decide) (by decide) (by decide) dc_L_sign_4 ?_ ?_
  · intro E ce q9 H locs hp hP hD hS hz hk9 hc1 hc2 hc3
    have hP : va_P G.1 kcl [(o, .inr (3, [.long (nn), sv])), (x, .inr (0, [.ref cs, .ref sc, .ref pf, .int (u.2.1), .int (u.2.2.1), .int (u.2.2.2)])), (cs, .inl (G.2.1 2, 6, .inr (.inl (u.1))))] H := hP
    have hD : va_D A [(o, .inr (3, [.long (nn), sv])), (x, .inr (0, [.ref cs, .ref sc, .ref pf, .int (u.2.1), .int (u.2.2.1), .int (u.2.2.2)])), (cs, .inl (G.2.1 2, 6, .inr (.inl (u.1))))] := hD
    have he := on_X6_sign (a1) (a2) u E hp
    subst he
    refine ky_cat1 (h1 := (0, 11, 14, 19)) (name := "java/lang/IndexOutOfBoundsException") hE hown hT (by decide) (by decide) (hts _ kw_4_82) (kc_4 _ (List.mem_of_getElem? (i := 92) rfl)) rfl hc1 hc2 hc3 ?_
    refine W.eq (g2 := F0 m 14 ls [.ref q9]) rfl ?_
    refine W.widen (k := 2) (n := 12) (by first | exact Nat.le_refl _ | omega) (by first | exact Nat.le_refl _ | omega) ?_
    refine lv_astore (lv' := [(4, .ref q9), (0, .ref x), (1, .int (a1)), (2, .int (a2)), (3, .ref o)]) hx hb dc_L_sign_14 hl (by decide) rfl (fun ls hl => ?_)
    refine lv_iconst (v := 1) hx hb dc_L_sign_16 (by decide) ?_
    have hP9 := hP.sub (ws' := [(x, .inr (0, [.ref cs, .ref sc, .ref pf, .int (u.2.1), .int (u.2.2.1), .int (u.2.2.2)])), (cs, .inl (G.2.1 2, 6, .inr (.inl (u.1)))), (o, .inr (3, [.long (nn), sv]))]) [1, 2, 0] rfl
    have hD9 := hD.sub (ws' := [(x, .inr (0, [.ref cs, .ref sc, .ref pf, .int (u.2.1), .int (u.2.2.1), .int (u.2.2.2)])), (cs, .inl (G.2.1 2, 6, .inr (.inl (u.1)))), (o, .inr (3, [.long (nn), sv]))]) [1, 2, 0] (by decide) rfl
    refine W.widen (k := 2) (n := 12) (Nat.le_of_ble_eq_true rfl) (Nat.le_of_ble_eq_true rfl) ?_
    exact W.iret (v := (1 : Int32)) hx hb hr (fun t ht hW => ⟨⟨_, (u, nn), rfl, ⟨by rw [hp, ky_lw_io], by rw [hp, ky_lw_io]⟩, by rw [ht]; exact hP9, hD9, trivial⟩, hS.F ht⟩) hS.2.2 dc_L_sign_17
  · rintro v9 u9 H locs ⟨r_0, w_0, hf_0, rfl, hu9⟩ hP hD hS - hz hk9
    have hu9 := hu9.symm
    subst hu9
    have hP : va_P G.1 kcl [(o, .inr (3, [.long (nn), sv])), (x, .inr (0, [.ref cs, .ref sc, .ref pf, .int (w_0.2.1), .int (w_0.2.2.1), .int (w_0.2.2.2)])), (cs, .inl (G.2.1 2, 6, .inr (.inl (w_0.1))))] H := hP
    have hD : va_D A [(o, .inr (3, [.long (nn), sv])), (x, .inr (0, [.ref cs, .ref sc, .ref pf, .int (w_0.2.1), .int (w_0.2.2.1), .int (w_0.2.2.2)])), (cs, .inl (G.2.1 2, 6, .inr (.inl (w_0.1))))] := hD
    refine W.widen (k := 2) (n := 12) (by first | exact Nat.le_refl _ | omega) (by first | exact Nat.le_refl _ | omega) ?_
    refine lv_i2l (v := (r_0).toInt64) hx hb dc_L_sign_7 rfl ?_
    refine va_putN (D := G.1) (ci := 3) (v := .long ((r_0).toInt64)) (ty := .long) (C := RX7) (T := TX7) (N := 2) hx hb hts ki_X7 tyX7 tyX7_ok nmX7 hown hE.1 hP hD hS 0 rfl rfl 0 (by decide) (va_Nw.use (A := _) rfl (hE.nestF (kc_4 _ (List.mem_of_getElem? (i := 72) rfl)))) (fun _ h9 => h9) rfl (by decide +kernel) rfl rfl (Nat.le_of_ble_eq_true rfl) dc_L_sign_8 (fun H locs hP hD hS => ?_)
    have hP : va_P G.1 kcl [(o, .inr (3, [.long ((r_0).toInt64), sv])), (x, .inr (0, [.ref cs, .ref sc, .ref pf, .int (w_0.2.1), .int (w_0.2.2.1), .int (w_0.2.2.2)])), (cs, .inl (G.2.1 2, 6, .inr (.inl (w_0.1))))] H := hP
    have hD : va_D A [(o, .inr (3, [.long ((r_0).toInt64), sv])), (x, .inr (0, [.ref cs, .ref sc, .ref pf, .int (w_0.2.1), .int (w_0.2.2.1), .int (w_0.2.2.2)])), (cs, .inl (G.2.1 2, 6, .inr (.inl (w_0.1))))] := hD
    refine lv_goto (tgt := 18) hx hb dc_L_sign_11 (by decide) ?_
    refine lv_iconst (v := 0) hx hb dc_L_sign_18 (by decide) ?_
    have hP9 := hP.sub (ws' := [(x, .inr (0, [.ref cs, .ref sc, .ref pf, .int (w_0.2.1), .int (w_0.2.2.1), .int (w_0.2.2.2)])), (cs, .inl (G.2.1 2, 6, .inr (.inl (w_0.1)))), (o, .inr (3, [.long ((r_0).toInt64), sv]))]) [1, 2, 0] rfl
    have hD9 := hD.sub (ws' := [(x, .inr (0, [.ref cs, .ref sc, .ref pf, .int (w_0.2.1), .int (w_0.2.2.1), .int (w_0.2.2.2)])), (cs, .inl (G.2.1 2, 6, .inr (.inl (w_0.1)))), (o, .inr (3, [.long ((r_0).toInt64), sv]))]) [1, 2, 0] (by decide) rfl
    refine W.widen (k := 2) (n := 12) (Nat.le_of_ble_eq_true rfl) (Nat.le_of_ble_eq_true rfl) ?_
    exact W.iret (v := (0 : Int32)) hx hb hr (fun t ht hW => ⟨⟨_, (w_0, (r_0).toInt64), rfl, ⟨by rw [hf_0, ky_lw_ok], by rw [hf_0, ky_lw_ok]⟩, by rw [ht]; exact hP9, hD9, trivial⟩, hS.F ht⟩) hS.2.2 dc_L_sign_19
set_option linter.constructorNameAsVariable false in
set_option maxHeartbeats 4000000 in
set_option maxRecDepth 100000 in
theorem mt_L_up (l : Launch) (hl9 : l.stackTraces = false) (G : ky_G) (x : Nat) (cs : Nat) (sc : Nat) (pf : Nat) (u : ky_BS) (o : Nat) (nn : Int64) (sv : Value) (a1 : Int32) (a2 : Int32) (sz : Nat)  : Met l my_L_up (.codeWith my_L_up method_16_code 5 (some .int) [(0, 11, 14, 19)] :: ky_B) { frames := 9, cells := 2, slots := 12, locals := 145 } (ky_P G [.ref x, .int (a1), .int (a2), .ref o] (ky_WB G x cs sc pf u ++ ky_WO o nn sv) sz (fun _ => True)) (ky_Q (S := ky_BS × Int64) G (va_A (ky_WB G x cs sc pf u ++ ky_WO o nn sv) sz) (fun v z => v = some (.int (ky_lw (fn_X6_up a1 a2 u) u nn).1) ∧ z = (ky_lw (fn_X6_up a1 a2 u) u nn).2) (fun z => ky_WB G x cs sc pf z.1 ++ ky_WO o z.2 sv) (fun _ _ => True)) (2) (12) (va_A (ky_WB G x cs sc pf u ++ ky_WO o nn sv) sz) := by
  refine ky_startH (hh := [(0, 11, 14, 19)]) (by decide) (Nat.le_of_ble_eq_true rfl) (fun p e s m below meth c F hT hE A hAe hsz hA hfr hP hD hS hX ls hl => ?_)
  obtain ⟨hx, hb, hml, hown, hr, hlocks, hts⟩ := id F
  have hl : lv_has ls 5 [(0, .ref x), (1, .int (a1)), (2, .int (a2)), (3, .ref o)] := hl
  have hP : va_P G.1 kcl [(x, .inr (0, [.ref cs, .ref sc, .ref pf, .int (u.2.1), .int (u.2.2.1), .int (u.2.2.2)])), (cs, .inl (G.2.1 2, 6, .inr (.inl (u.1)))), (o, .inr (3, [.long (nn), sv]))] s.heap := hP
  have hD : va_D A [(x, .inr (0, [.ref cs, .ref sc, .ref pf, .int (u.2.1), .int (u.2.2.1), .int (u.2.2.2)])), (cs, .inl (G.2.1 2, 6, .inr (.inl (u.1)))), (o, .inr (3, [.long (nn), sv]))] := hD
  refine lv_aload_n hx hb dc_L_up_0 rfl (lv_at hl 3 rfl) ?_
  refine lv_aload_n hx hb dc_L_up_1 rfl (lv_at hl 0 rfl) ?_
  refine lv_iload_n hx hb dc_L_up_2 rfl (lv_at hl 1 rfl) ?_
  refine lv_iload_n hx hb dc_L_up_3 rfl (lv_at hl 2 rfl) ?_
  refine ky_cVx (As := [.int (a1), .int (a2)]) (wr := [(o, .inr (3, [.long (nn), sv]))]) F (hE.at hfr hS) hfr (mt_X6_up l hl9 G x cs sc pf u (a1) (a2) s.heap.size) kv_L_65 ⟨⟨rfl, rfl⟩, Nat.le_of_ble_eq_true rfl, Nat.le_of_ble_eq_true rfl⟩ rfl hl.1 rfl (Nat.le_of_ble_eq_true rfl) ⟨Nat.le_of_ble_eq_true rfl, Nat.le_of_ble_eq_true rfl⟩ (va_recv hE.1 hP (ci := 0) (q0 := 0) rfl rfl) trivial hP hD hS hA [0, 1] [2] rfl rfl (by decide) (by decide) (by decide) dc_L_up_4 ?_ ?_
  · intro E ce q9 H locs hp hP hD hS hz hk9 hc1 hc2 hc3
    have hP : va_P G.1 kcl [(o, .inr (3, [.long (nn), sv])), (x, .inr (0, [.ref cs, .ref sc, .ref pf, .int (u.2.1), .int (u.2.2.1), .int (u.2.2.2)])), (cs, .inl (G.2.1 2, 6, .inr (.inl (u.1))))] H := hP
    have hD : va_D A [(o, .inr (3, [.long (nn), sv])), (x, .inr (0, [.ref cs, .ref sc, .ref pf, .int (u.2.1), .int (u.2.2.1), .int (u.2.2.2)])), (cs, .inl (G.2.1 2, 6, .inr (.inl (u.1))))] := hD
    have he := on_X6_up (a1) (a2) u E hp
    subst he
    refine ky_cat1 (h1 := (0, 11, 14, 19)) (name := "java/lang/IndexOutOfBoundsException") hE hown hT (by decide) (by decide) (hts _ kw_4_82) (kc_4 _ (List.mem_of_getElem? (i := 92) rfl)) rfl hc1 hc2 hc3 ?_
    refine W.eq (g2 := F0 m 14 ls [.ref q9]) rfl ?_
    refine W.widen (k := 2) (n := 12) (by first | exact Nat.le_refl _ | omega) (by first | exact Nat.le_refl _ | omega) ?_
    refine lv_astore (lv' := [(4, .ref q9), (0, .ref x), (1, .int (a1)), (2, .int (a2)), (3, .ref o)]) hx hb dc_L_up_14 hl (by decide) rfl (fun ls hl => ?_)
    refine lv_iconst (v := 1) hx hb dc_L_up_16 (by decide) ?_
    have hP9 := hP.sub (ws' := [(x, .inr (0, [.ref cs, .ref sc, .ref pf, .int (u.2.1), .int (u.2.2.1), .int (u.2.2.2)])), (cs, .inl (G.2.1 2, 6, .inr (.inl (u.1)))), (o, .inr (3, [.long (nn), sv]))]) [1, 2, 0] rfl
    have hD9 := hD.sub (ws' := [(x, .inr (0, [.ref cs, .ref sc, .ref pf, .int (u.2.1), .int (u.2.2.1), .int (u.2.2.2)])), (cs, .inl (G.2.1 2, 6, .inr (.inl (u.1)))), (o, .inr (3, [.long (nn), sv]))]) [1, 2, 0] (by decide) rfl
    refine W.widen (k := 2) (n := 12) (Nat.le_of_ble_eq_true rfl) (Nat.le_of_ble_eq_true rfl) ?_
    exact W.iret (v := (1 : Int32)) hx hb hr (fun t ht hW => ⟨⟨_, (u, nn), rfl, ⟨by rw [hp, ky_lw_io], by rw [hp, ky_lw_io]⟩, by rw [ht]; exact hP9, hD9, trivial⟩, hS.F ht⟩) hS.2.2 dc_L_up_17
  · rintro v9 u9 H locs ⟨r_0, w_0, hf_0, rfl, hu9⟩ hP hD hS - hz hk9
    have hu9 := hu9.symm
    subst hu9
    have hP : va_P G.1 kcl [(o, .inr (3, [.long (nn), sv])), (x, .inr (0, [.ref cs, .ref sc, .ref pf, .int (w_0.2.1), .int (w_0.2.2.1), .int (w_0.2.2.2)])), (cs, .inl (G.2.1 2, 6, .inr (.inl (w_0.1))))] H := hP
    have hD : va_D A [(o, .inr (3, [.long (nn), sv])), (x, .inr (0, [.ref cs, .ref sc, .ref pf, .int (w_0.2.1), .int (w_0.2.2.1), .int (w_0.2.2.2)])), (cs, .inl (G.2.1 2, 6, .inr (.inl (w_0.1))))] := hD
    refine W.widen (k := 2) (n := 12) (by first | exact Nat.le_refl _ | omega) (by first | exact Nat.le_refl _ | omega) ?_
    refine lv_i2l (v := (r_0).toInt64) hx hb dc_L_up_7 rfl ?_
    refine va_putN (D := G.1) (ci := 3) (v := .long ((r_0).toInt64)) (ty := .long) (C := RX7) (T := TX7) (N := 2) hx hb hts ki_X7 tyX7 tyX7_ok nmX7 hown hE.1 hP hD hS 0 rfl rfl 0 (by decide) (va_Nw.use (A := _) rfl (hE.nestF (kc_4 _ (List.mem_of_getElem? (i := 72) rfl)))) (fun _ h9 => h9) rfl (by decide +kernel) rfl rfl (Nat.le_of_ble_eq_true rfl) dc_L_up_8 (fun H locs hP hD hS => ?_)
    have hP : va_P G.1 kcl [(o, .inr (3, [.long ((r_0).toInt64), sv])), (x, .inr (0, [.ref cs, .ref sc, .ref pf, .int (w_0.2.1), .int (w_0.2.2.1), .int (w_0.2.2.2)])), (cs, .inl (G.2.1 2, 6, .inr (.inl (w_0.1))))] H := hP
    have hD : va_D A [(o, .inr (3, [.long ((r_0).toInt64), sv])), (x, .inr (0, [.ref cs, .ref sc, .ref pf, .int (w_0.2.1), .int (w_0.2.2.1), .int (w_0.2.2.2)])), (cs, .inl (G.2.1 2, 6, .inr (.inl (w_0.1))))] := hD
    refine lv_goto (tgt := 18) hx hb dc_L_up_11 (by decide) ?_
    refine lv_iconst (v := 0) hx hb dc_L_up_18 (by decide) ?_
    have hP9 := hP.sub (ws' := [(x, .inr (0, [.ref cs, .ref sc, .ref pf, .int (w_0.2.1), .int (w_0.2.2.1), .int (w_0.2.2.2)])), (cs, .inl (G.2.1 2, 6, .inr (.inl (w_0.1)))), (o, .inr (3, [.long ((r_0).toInt64), sv]))]) [1, 2, 0] rfl
    have hD9 := hD.sub (ws' := [(x, .inr (0, [.ref cs, .ref sc, .ref pf, .int (w_0.2.1), .int (w_0.2.2.1), .int (w_0.2.2.2)])), (cs, .inl (G.2.1 2, 6, .inr (.inl (w_0.1)))), (o, .inr (3, [.long ((r_0).toInt64), sv]))]) [1, 2, 0] (by decide) rfl
    refine W.widen (k := 2) (n := 12) (Nat.le_of_ble_eq_true rfl) (Nat.le_of_ble_eq_true rfl) ?_
    exact W.iret (v := (0 : Int32)) hx hb hr (fun t ht hW => ⟨⟨_, (w_0, (r_0).toInt64), rfl, ⟨by rw [hf_0, ky_lw_ok], by rw [hf_0, ky_lw_ok]⟩, by rw [ht]; exact hP9, hD9, trivial⟩, hS.F ht⟩) hS.2.2 dc_L_up_19
set_option linter.constructorNameAsVariable false in
set_option maxHeartbeats 4000000 in
set_option maxRecDepth 100000 in
theorem mt_L_down (l : Launch) (hl9 : l.stackTraces = false) (G : ky_G) (x : Nat) (cs : Nat) (sc : Nat) (pf : Nat) (u : ky_BS) (o : Nat) (nn : Int64) (sv : Value) (a1 : Int32) (a2 : Int32) (sz : Nat)  : Met l my_L_down (.codeWith my_L_down method_17_code 5 (some .int) [(0, 11, 14, 19)] :: ky_B) { frames := 9, cells := 2, slots := 12, locals := 145 } (ky_P G [.ref x, .int (a1), .int (a2), .ref o] (ky_WB G x cs sc pf u ++ ky_WO o nn sv) sz (fun _ => True)) (ky_Q (S := ky_BS × Int64) G (va_A (ky_WB G x cs sc pf u ++ ky_WO o nn sv) sz) (fun v z => v = some (.int (ky_lw (fn_X6_down a1 a2 u) u nn).1) ∧ z = (ky_lw (fn_X6_down a1 a2 u) u nn).2) (fun z => ky_WB G x cs sc pf z.1 ++ ky_WO o z.2 sv) (fun _ _ => True)) (2) (12) (va_A (ky_WB G x cs sc pf u ++ ky_WO o nn sv) sz) := by
  refine ky_startH (hh := [(0, 11, 14, 19)]) (by decide) (Nat.le_of_ble_eq_true rfl) (fun p e s m below meth c F hT hE A hAe hsz hA hfr hP hD hS hX ls hl => ?_)
  obtain ⟨hx, hb, hml, hown, hr, hlocks, hts⟩ := id F
  have hl : lv_has ls 5 [(0, .ref x), (1, .int (a1)), (2, .int (a2)), (3, .ref o)] := hl
  have hP : va_P G.1 kcl [(x, .inr (0, [.ref cs, .ref sc, .ref pf, .int (u.2.1), .int (u.2.2.1), .int (u.2.2.2)])), (cs, .inl (G.2.1 2, 6, .inr (.inl (u.1)))), (o, .inr (3, [.long (nn), sv]))] s.heap := hP
  have hD : va_D A [(x, .inr (0, [.ref cs, .ref sc, .ref pf, .int (u.2.1), .int (u.2.2.1), .int (u.2.2.2)])), (cs, .inl (G.2.1 2, 6, .inr (.inl (u.1)))), (o, .inr (3, [.long (nn), sv]))] := hD
  refine lv_aload_n hx hb dc_L_down_0 rfl (lv_at hl 3 rfl) ?_
  refine lv_aload_n hx hb dc_L_down_1 rfl (lv_at hl 0 rfl) ?_
  refine lv_iload_n hx hb dc_L_down_2 rfl (lv_at hl 1 rfl) ?_
  refine lv_iload_n hx hb dc_L_down_3 rfl (lv_at hl 2 rfl) ?_
  refine ky_cVx (As := [.int (a1), .int (a2)]) (wr := [(o, .inr (3, [.long (nn), sv]))]) F (hE.at hfr hS) hfr (mt_X6_down l hl9 G x cs sc pf u (a1) (a2) s.heap.size) kv_L_68 ⟨⟨rfl, rfl⟩, Nat.le_of_ble_eq_true rfl, Nat.le_of_ble_eq_true rfl⟩ rfl hl.1 rfl (Nat.le_of_ble_eq_true rfl) ⟨Nat.le_of_ble_eq_true rfl, Nat.le_of_ble_eq_true rfl⟩ (va_recv hE.1 hP (ci := 0) (q0 := 0) rfl rfl) trivial hP hD hS hA [0, 1] [2] rfl rfl (by decide) (by decide) (by decide) dc_L_down_4 ?_ ?_
  · intro E ce q9 H locs hp hP hD hS hz hk9 hc1 hc2 hc3
    have hP : va_P G.1 kcl [(o, .inr (3, [.long (nn), sv])), (x, .inr (0, [.ref cs, .ref sc, .ref pf, .int (u.2.1), .int (u.2.2.1), .int (u.2.2.2)])), (cs, .inl (G.2.1 2, 6, .inr (.inl (u.1))))] H := hP
    have hD : va_D A [(o, .inr (3, [.long (nn), sv])), (x, .inr (0, [.ref cs, .ref sc, .ref pf, .int (u.2.1), .int (u.2.2.1), .int (u.2.2.2)])), (cs, .inl (G.2.1 2, 6, .inr (.inl (u.1))))] := hD
    have he := on_X6_down (a1) (a2) u E hp
    subst he
    refine ky_cat1 (h1 := (0, 11, 14, 19)) (name := "java/lang/IndexOutOfBoundsException") hE hown hT (by decide) (by decide) (hts _ kw_4_82) (kc_4 _ (List.mem_of_getElem? (i := 92) rfl)) rfl hc1 hc2 hc3 ?_
    refine W.eq (g2 := F0 m 14 ls [.ref q9]) rfl ?_
    refine W.widen (k := 2) (n := 12) (by first | exact Nat.le_refl _ | omega) (by first | exact Nat.le_refl _ | omega) ?_
    refine lv_astore (lv' := [(4, .ref q9), (0, .ref x), (1, .int (a1)), (2, .int (a2)), (3, .ref o)]) hx hb dc_L_down_14 hl (by decide) rfl (fun ls hl => ?_)
    refine lv_iconst (v := 1) hx hb dc_L_down_16 (by decide) ?_
    have hP9 := hP.sub (ws' := [(x, .inr (0, [.ref cs, .ref sc, .ref pf, .int (u.2.1), .int (u.2.2.1), .int (u.2.2.2)])), (cs, .inl (G.2.1 2, 6, .inr (.inl (u.1)))), (o, .inr (3, [.long (nn), sv]))]) [1, 2, 0] rfl
    have hD9 := hD.sub (ws' := [(x, .inr (0, [.ref cs, .ref sc, .ref pf, .int (u.2.1), .int (u.2.2.1), .int (u.2.2.2)])), (cs, .inl (G.2.1 2, 6, .inr (.inl (u.1)))), (o, .inr (3, [.long (nn), sv]))]) [1, 2, 0] (by decide) rfl
    refine W.widen (k := 2) (n := 12) (Nat.le_of_ble_eq_true rfl) (Nat.le_of_ble_eq_true rfl) ?_
    exact W.iret (v := (1 : Int32)) hx hb hr (fun t ht hW => ⟨⟨_, (u, nn), rfl, ⟨by rw [hp, ky_lw_io], by rw [hp, ky_lw_io]⟩, by rw [ht]; exact hP9, hD9, trivial⟩, hS.F ht⟩) hS.2.2 dc_L_down_17
  · rintro v9 u9 H locs ⟨r_0, w_0, hf_0, rfl, hu9⟩ hP hD hS - hz hk9
    have hu9 := hu9.symm
    subst hu9
    have hP : va_P G.1 kcl [(o, .inr (3, [.long (nn), sv])), (x, .inr (0, [.ref cs, .ref sc, .ref pf, .int (w_0.2.1), .int (w_0.2.2.1), .int (w_0.2.2.2)])), (cs, .inl (G.2.1 2, 6, .inr (.inl (w_0.1))))] H := hP
    have hD : va_D A [(o, .inr (3, [.long (nn), sv])), (x, .inr (0, [.ref cs, .ref sc, .ref pf, .int (w_0.2.1), .int (w_0.2.2.1), .int (w_0.2.2.2)])), (cs, .inl (G.2.1 2, 6, .inr (.inl (w_0.1))))] := hD
    refine W.widen (k := 2) (n := 12) (by first | exact Nat.le_refl _ | omega) (by first | exact Nat.le_refl _ | omega) ?_
    refine lv_i2l (v := (r_0).toInt64) hx hb dc_L_down_7 rfl ?_
    refine va_putN (D := G.1) (ci := 3) (v := .long ((r_0).toInt64)) (ty := .long) (C := RX7) (T := TX7) (N := 2) hx hb hts ki_X7 tyX7 tyX7_ok nmX7 hown hE.1 hP hD hS 0 rfl rfl 0 (by decide) (va_Nw.use (A := _) rfl (hE.nestF (kc_4 _ (List.mem_of_getElem? (i := 72) rfl)))) (fun _ h9 => h9) rfl (by decide +kernel) rfl rfl (Nat.le_of_ble_eq_true rfl) dc_L_down_8 (fun H locs hP hD hS => ?_)
    have hP : va_P G.1 kcl [(o, .inr (3, [.long ((r_0).toInt64), sv])), (x, .inr (0, [.ref cs, .ref sc, .ref pf, .int (w_0.2.1), .int (w_0.2.2.1), .int (w_0.2.2.2)])), (cs, .inl (G.2.1 2, 6, .inr (.inl (w_0.1))))] H := hP
    have hD : va_D A [(o, .inr (3, [.long ((r_0).toInt64), sv])), (x, .inr (0, [.ref cs, .ref sc, .ref pf, .int (w_0.2.1), .int (w_0.2.2.1), .int (w_0.2.2.2)])), (cs, .inl (G.2.1 2, 6, .inr (.inl (w_0.1))))] := hD
    refine lv_goto (tgt := 18) hx hb dc_L_down_11 (by decide) ?_
    refine lv_iconst (v := 0) hx hb dc_L_down_18 (by decide) ?_
    have hP9 := hP.sub (ws' := [(x, .inr (0, [.ref cs, .ref sc, .ref pf, .int (w_0.2.1), .int (w_0.2.2.1), .int (w_0.2.2.2)])), (cs, .inl (G.2.1 2, 6, .inr (.inl (w_0.1)))), (o, .inr (3, [.long ((r_0).toInt64), sv]))]) [1, 2, 0] rfl
    have hD9 := hD.sub (ws' := [(x, .inr (0, [.ref cs, .ref sc, .ref pf, .int (w_0.2.1), .int (w_0.2.2.1), .int (w_0.2.2.2)])), (cs, .inl (G.2.1 2, 6, .inr (.inl (w_0.1)))), (o, .inr (3, [.long ((r_0).toInt64), sv]))]) [1, 2, 0] (by decide) rfl
    refine W.widen (k := 2) (n := 12) (Nat.le_of_ble_eq_true rfl) (Nat.le_of_ble_eq_true rfl) ?_
    exact W.iret (v := (0 : Int32)) hx hb hr (fun t ht hW => ⟨⟨_, (w_0, (r_0).toInt64), rfl, ⟨by rw [hf_0, ky_lw_ok], by rw [hf_0, ky_lw_ok]⟩, by rw [ht]; exact hP9, hD9, trivial⟩, hS.F ht⟩) hS.2.2 dc_L_down_19
set_option linter.constructorNameAsVariable false in
set_option maxHeartbeats 4000000 in
set_option maxRecDepth 100000 in
theorem mt_L_step (l : Launch) (hl9 : l.stackTraces = false) (G : ky_G) (x : Nat) (cs : Nat) (sc : Nat) (pf : Nat) (u : ky_BS) (o : Nat) (nn : Int64) (sv : Value) (a1 : Int32) (a2 : Int32) (sz : Nat)  : Met l my_L_step (.codeWith my_L_step method_18_code 5 (some .int) [(0, 11, 14, 19)] :: ky_B) { frames := 9, cells := 2, slots := 12, locals := 145 } (ky_P G [.ref x, .int (a1), .int (a2), .ref o] (ky_WB G x cs sc pf u ++ ky_WO o nn sv) sz (fun _ => True)) (ky_Q (S := ky_BS × Int64) G (va_A (ky_WB G x cs sc pf u ++ ky_WO o nn sv) sz) (fun v z => v = some (.int (ky_lw (fn_X6_step a1 a2 u) u nn).1) ∧ z = (ky_lw (fn_X6_step a1 a2 u) u nn).2) (fun z => ky_WB G x cs sc pf z.1 ++ ky_WO o z.2 sv) (fun _ _ => True)) (2) (12) (va_A (ky_WB G x cs sc pf u ++ ky_WO o nn sv) sz) := by
  refine ky_startH (hh := [(0, 11, 14, 19)]) (by decide) (Nat.le_of_ble_eq_true rfl) (fun p e s m below meth c F hT hE A hAe hsz hA hfr hP hD hS hX ls hl => ?_)
  obtain ⟨hx, hb, hml, hown, hr, hlocks, hts⟩ := id F
  have hl : lv_has ls 5 [(0, .ref x), (1, .int (a1)), (2, .int (a2)), (3, .ref o)] := hl
  have hP : va_P G.1 kcl [(x, .inr (0, [.ref cs, .ref sc, .ref pf, .int (u.2.1), .int (u.2.2.1), .int (u.2.2.2)])), (cs, .inl (G.2.1 2, 6, .inr (.inl (u.1)))), (o, .inr (3, [.long (nn), sv]))] s.heap := hP
  have hD : va_D A [(x, .inr (0, [.ref cs, .ref sc, .ref pf, .int (u.2.1), .int (u.2.2.1), .int (u.2.2.2)])), (cs, .inl (G.2.1 2, 6, .inr (.inl (u.1)))), (o, .inr (3, [.long (nn), sv]))] := hD
  refine lv_aload_n hx hb dc_L_step_0 rfl (lv_at hl 3 rfl) ?_
  refine lv_aload_n hx hb dc_L_step_1 rfl (lv_at hl 0 rfl) ?_
  refine lv_iload_n hx hb dc_L_step_2 rfl (lv_at hl 1 rfl) ?_
  refine lv_iload_n hx hb dc_L_step_3 rfl (lv_at hl 2 rfl) ?_
  refine ky_cVx (As := [.int (a1), .int (a2)]) (wr := [(o, .inr (3, [.long (nn), sv]))]) F (hE.at hfr hS) hfr (mt_X6_step l hl9 G x cs sc pf u (a1) (a2) s.heap.size) kv_L_71 ⟨⟨rfl, rfl⟩, Nat.le_of_ble_eq_true rfl, Nat.le_of_ble_eq_true rfl⟩ rfl hl.1 rfl (Nat.le_of_ble_eq_true rfl) ⟨Nat.le_of_ble_eq_true rfl, Nat.le_of_ble_eq_true rfl⟩ (va_recv hE.1 hP (ci := 0) (q0 := 0) rfl rfl) trivial hP hD hS hA [0, 1] [2] rfl rfl (by decide) (by decide) (by decide) dc_L_step_4 ?_ ?_
  · intro E ce q9 H locs hp hP hD hS hz hk9 hc1 hc2 hc3
    have hP : va_P G.1 kcl [(o, .inr (3, [.long (nn), sv])), (x, .inr (0, [.ref cs, .ref sc, .ref pf, .int (u.2.1), .int (u.2.2.1), .int (u.2.2.2)])), (cs, .inl (G.2.1 2, 6, .inr (.inl (u.1))))] H := hP
    have hD : va_D A [(o, .inr (3, [.long (nn), sv])), (x, .inr (0, [.ref cs, .ref sc, .ref pf, .int (u.2.1), .int (u.2.2.1), .int (u.2.2.2)])), (cs, .inl (G.2.1 2, 6, .inr (.inl (u.1))))] := hD
    have he := on_X6_step (a1) (a2) u E hp
    subst he
    refine ky_cat1 (h1 := (0, 11, 14, 19)) (name := "java/lang/IndexOutOfBoundsException") hE hown hT (by decide) (by decide) (hts _ kw_4_82) (kc_4 _ (List.mem_of_getElem? (i := 92) rfl)) rfl hc1 hc2 hc3 ?_
    refine W.eq (g2 := F0 m 14 ls [.ref q9]) rfl ?_
    refine W.widen (k := 2) (n := 12) (by first | exact Nat.le_refl _ | omega) (by first | exact Nat.le_refl _ | omega) ?_
    refine lv_astore (lv' := [(4, .ref q9), (0, .ref x), (1, .int (a1)), (2, .int (a2)), (3, .ref o)]) hx hb dc_L_step_14 hl (by decide) rfl (fun ls hl => ?_)
    refine lv_iconst (v := 1) hx hb dc_L_step_16 (by decide) ?_
    have hP9 := hP.sub (ws' := [(x, .inr (0, [.ref cs, .ref sc, .ref pf, .int (u.2.1), .int (u.2.2.1), .int (u.2.2.2)])), (cs, .inl (G.2.1 2, 6, .inr (.inl (u.1)))), (o, .inr (3, [.long (nn), sv]))]) [1, 2, 0] rfl
    have hD9 := hD.sub (ws' := [(x, .inr (0, [.ref cs, .ref sc, .ref pf, .int (u.2.1), .int (u.2.2.1), .int (u.2.2.2)])), (cs, .inl (G.2.1 2, 6, .inr (.inl (u.1)))), (o, .inr (3, [.long (nn), sv]))]) [1, 2, 0] (by decide) rfl
    refine W.widen (k := 2) (n := 12) (Nat.le_of_ble_eq_true rfl) (Nat.le_of_ble_eq_true rfl) ?_
    exact W.iret (v := (1 : Int32)) hx hb hr (fun t ht hW => ⟨⟨_, (u, nn), rfl, ⟨by rw [hp, ky_lw_io], by rw [hp, ky_lw_io]⟩, by rw [ht]; exact hP9, hD9, trivial⟩, hS.F ht⟩) hS.2.2 dc_L_step_17
  · rintro v9 u9 H locs ⟨r_0, w_0, hf_0, rfl, hu9⟩ hP hD hS - hz hk9
    have hu9 := hu9.symm
    subst hu9
    have hP : va_P G.1 kcl [(o, .inr (3, [.long (nn), sv])), (x, .inr (0, [.ref cs, .ref sc, .ref pf, .int (w_0.2.1), .int (w_0.2.2.1), .int (w_0.2.2.2)])), (cs, .inl (G.2.1 2, 6, .inr (.inl (w_0.1))))] H := hP
    have hD : va_D A [(o, .inr (3, [.long (nn), sv])), (x, .inr (0, [.ref cs, .ref sc, .ref pf, .int (w_0.2.1), .int (w_0.2.2.1), .int (w_0.2.2.2)])), (cs, .inl (G.2.1 2, 6, .inr (.inl (w_0.1))))] := hD
    refine W.widen (k := 2) (n := 12) (by first | exact Nat.le_refl _ | omega) (by first | exact Nat.le_refl _ | omega) ?_
    refine lv_i2l (v := (r_0).toInt64) hx hb dc_L_step_7 rfl ?_
    refine va_putN (D := G.1) (ci := 3) (v := .long ((r_0).toInt64)) (ty := .long) (C := RX7) (T := TX7) (N := 2) hx hb hts ki_X7 tyX7 tyX7_ok nmX7 hown hE.1 hP hD hS 0 rfl rfl 0 (by decide) (va_Nw.use (A := _) rfl (hE.nestF (kc_4 _ (List.mem_of_getElem? (i := 72) rfl)))) (fun _ h9 => h9) rfl (by decide +kernel) rfl rfl (Nat.le_of_ble_eq_true rfl) dc_L_step_8 (fun H locs hP hD hS => ?_)
    have hP : va_P G.1 kcl [(o, .inr (3, [.long ((r_0).toInt64), sv])), (x, .inr (0, [.ref cs, .ref sc, .ref pf, .int (w_0.2.1), .int (w_0.2.2.1), .int (w_0.2.2.2)])), (cs, .inl (G.2.1 2, 6, .inr (.inl (w_0.1))))] H := hP
    have hD : va_D A [(o, .inr (3, [.long ((r_0).toInt64), sv])), (x, .inr (0, [.ref cs, .ref sc, .ref pf, .int (w_0.2.1), .int (w_0.2.2.1), .int (w_0.2.2.2)])), (cs, .inl (G.2.1 2, 6, .inr (.inl (w_0.1))))] := hD
    refine lv_goto (tgt := 18) hx hb dc_L_step_11 (by decide) ?_
    refine lv_iconst (v := 0) hx hb dc_L_step_18 (by decide) ?_
    have hP9 := hP.sub (ws' := [(x, .inr (0, [.ref cs, .ref sc, .ref pf, .int (w_0.2.1), .int (w_0.2.2.1), .int (w_0.2.2.2)])), (cs, .inl (G.2.1 2, 6, .inr (.inl (w_0.1)))), (o, .inr (3, [.long ((r_0).toInt64), sv]))]) [1, 2, 0] rfl
    have hD9 := hD.sub (ws' := [(x, .inr (0, [.ref cs, .ref sc, .ref pf, .int (w_0.2.1), .int (w_0.2.2.1), .int (w_0.2.2.2)])), (cs, .inl (G.2.1 2, 6, .inr (.inl (w_0.1)))), (o, .inr (3, [.long ((r_0).toInt64), sv]))]) [1, 2, 0] (by decide) rfl
    refine W.widen (k := 2) (n := 12) (Nat.le_of_ble_eq_true rfl) (Nat.le_of_ble_eq_true rfl) ?_
    exact W.iret (v := (0 : Int32)) hx hb hr (fun t ht hW => ⟨⟨_, (w_0, (r_0).toInt64), rfl, ⟨by rw [hf_0, ky_lw_ok], by rw [hf_0, ky_lw_ok]⟩, by rw [ht]; exact hP9, hD9, trivial⟩, hS.F ht⟩) hS.2.2 dc_L_step_19
set_option linter.constructorNameAsVariable false in
set_option maxHeartbeats 4000000 in
set_option maxRecDepth 100000 in
theorem mt_L_unit (l : Launch) (hl9 : l.stackTraces = false) (G : ky_G) (x : Nat) (cs : Nat) (sc : Nat) (pf : Nat) (u : ky_BS) (o : Nat) (nn : Int64) (sv : Value) (a1 : Int32) (a2 : Int32) (sz : Nat)  : Met l my_L_unit (.codeWith my_L_unit method_19_code 5 (some .int) [(0, 11, 14, 19)] :: ky_B) { frames := 9, cells := 2, slots := 12, locals := 145 } (ky_P G [.ref x, .int (a1), .int (a2), .ref o] (ky_WB G x cs sc pf u ++ ky_WO o nn sv) sz (fun _ => True)) (ky_Q (S := ky_BS × Int64) G (va_A (ky_WB G x cs sc pf u ++ ky_WO o nn sv) sz) (fun v z => v = some (.int (ky_lw (fn_X6_unit a1 a2 u) u nn).1) ∧ z = (ky_lw (fn_X6_unit a1 a2 u) u nn).2) (fun z => ky_WB G x cs sc pf z.1 ++ ky_WO o z.2 sv) (fun _ _ => True)) (2) (12) (va_A (ky_WB G x cs sc pf u ++ ky_WO o nn sv) sz) := by
  refine ky_startH (hh := [(0, 11, 14, 19)]) (by decide) (Nat.le_of_ble_eq_true rfl) (fun p e s m below meth c F hT hE A hAe hsz hA hfr hP hD hS hX ls hl => ?_)
  obtain ⟨hx, hb, hml, hown, hr, hlocks, hts⟩ := id F
  have hl : lv_has ls 5 [(0, .ref x), (1, .int (a1)), (2, .int (a2)), (3, .ref o)] := hl
  have hP : va_P G.1 kcl [(x, .inr (0, [.ref cs, .ref sc, .ref pf, .int (u.2.1), .int (u.2.2.1), .int (u.2.2.2)])), (cs, .inl (G.2.1 2, 6, .inr (.inl (u.1)))), (o, .inr (3, [.long (nn), sv]))] s.heap := hP
  have hD : va_D A [(x, .inr (0, [.ref cs, .ref sc, .ref pf, .int (u.2.1), .int (u.2.2.1), .int (u.2.2.2)])), (cs, .inl (G.2.1 2, 6, .inr (.inl (u.1)))), (o, .inr (3, [.long (nn), sv]))] := hD
  refine lv_aload_n hx hb dc_L_unit_0 rfl (lv_at hl 3 rfl) ?_
  refine lv_aload_n hx hb dc_L_unit_1 rfl (lv_at hl 0 rfl) ?_
  refine lv_iload_n hx hb dc_L_unit_2 rfl (lv_at hl 1 rfl) ?_
  refine lv_iload_n hx hb dc_L_unit_3 rfl (lv_at hl 2 rfl) ?_
  refine ky_cVx (As := [.int (a1), .int (a2)]) (wr := [(o, .inr (3, [.long (nn), sv]))]) F (hE.at hfr hS) hfr (mt_X6_unit l hl9 G x cs sc pf u (a1) (a2) s.heap.size) kv_L_74 ⟨⟨rfl, rfl⟩, Nat.le_of_ble_eq_true rfl, Nat.le_of_ble_eq_true rfl⟩ rfl hl.1 rfl (Nat.le_of_ble_eq_true rfl) ⟨Nat.le_of_ble_eq_true rfl, Nat.le_of_ble_eq_true rfl⟩ (va_recv hE.1 hP (ci := 0) (q0 := 0) rfl rfl) trivial hP hD hS hA [0, 1] [2] rfl rfl (by decide) (by decide) (by decide) dc_L_unit_4 ?_ ?_
  · intro E ce q9 H locs hp hP hD hS hz hk9 hc1 hc2 hc3
    have hP : va_P G.1 kcl [(o, .inr (3, [.long (nn), sv])), (x, .inr (0, [.ref cs, .ref sc, .ref pf, .int (u.2.1), .int (u.2.2.1), .int (u.2.2.2)])), (cs, .inl (G.2.1 2, 6, .inr (.inl (u.1))))] H := hP
    have hD : va_D A [(o, .inr (3, [.long (nn), sv])), (x, .inr (0, [.ref cs, .ref sc, .ref pf, .int (u.2.1), .int (u.2.2.1), .int (u.2.2.2)])), (cs, .inl (G.2.1 2, 6, .inr (.inl (u.1))))] := hD
    have he := on_X6_unit (a1) (a2) u E hp
    subst he
    refine ky_cat1 (h1 := (0, 11, 14, 19)) (name := "java/lang/IndexOutOfBoundsException") hE hown hT (by decide) (by decide) (hts _ kw_4_82) (kc_4 _ (List.mem_of_getElem? (i := 92) rfl)) rfl hc1 hc2 hc3 ?_
    refine W.eq (g2 := F0 m 14 ls [.ref q9]) rfl ?_
    refine W.widen (k := 2) (n := 12) (by first | exact Nat.le_refl _ | omega) (by first | exact Nat.le_refl _ | omega) ?_
    refine lv_astore (lv' := [(4, .ref q9), (0, .ref x), (1, .int (a1)), (2, .int (a2)), (3, .ref o)]) hx hb dc_L_unit_14 hl (by decide) rfl (fun ls hl => ?_)
    refine lv_iconst (v := 1) hx hb dc_L_unit_16 (by decide) ?_
    have hP9 := hP.sub (ws' := [(x, .inr (0, [.ref cs, .ref sc, .ref pf, .int (u.2.1), .int (u.2.2.1), .int (u.2.2.2)])), (cs, .inl (G.2.1 2, 6, .inr (.inl (u.1)))), (o, .inr (3, [.long (nn), sv]))]) [1, 2, 0] rfl
    have hD9 := hD.sub (ws' := [(x, .inr (0, [.ref cs, .ref sc, .ref pf, .int (u.2.1), .int (u.2.2.1), .int (u.2.2.2)])), (cs, .inl (G.2.1 2, 6, .inr (.inl (u.1)))), (o, .inr (3, [.long (nn), sv]))]) [1, 2, 0] (by decide) rfl
    refine W.widen (k := 2) (n := 12) (Nat.le_of_ble_eq_true rfl) (Nat.le_of_ble_eq_true rfl) ?_
    exact W.iret (v := (1 : Int32)) hx hb hr (fun t ht hW => ⟨⟨_, (u, nn), rfl, ⟨by rw [hp, ky_lw_io], by rw [hp, ky_lw_io]⟩, by rw [ht]; exact hP9, hD9, trivial⟩, hS.F ht⟩) hS.2.2 dc_L_unit_17
  · rintro v9 u9 H locs ⟨r_0, w_0, hf_0, rfl, hu9⟩ hP hD hS - hz hk9
    have hu9 := hu9.symm
    subst hu9
    have hP : va_P G.1 kcl [(o, .inr (3, [.long (nn), sv])), (x, .inr (0, [.ref cs, .ref sc, .ref pf, .int (w_0.2.1), .int (w_0.2.2.1), .int (w_0.2.2.2)])), (cs, .inl (G.2.1 2, 6, .inr (.inl (w_0.1))))] H := hP
    have hD : va_D A [(o, .inr (3, [.long (nn), sv])), (x, .inr (0, [.ref cs, .ref sc, .ref pf, .int (w_0.2.1), .int (w_0.2.2.1), .int (w_0.2.2.2)])), (cs, .inl (G.2.1 2, 6, .inr (.inl (w_0.1))))] := hD
    refine W.widen (k := 2) (n := 12) (by first | exact Nat.le_refl _ | omega) (by first | exact Nat.le_refl _ | omega) ?_
    refine lv_i2l (v := (r_0).toInt64) hx hb dc_L_unit_7 rfl ?_
    refine va_putN (D := G.1) (ci := 3) (v := .long ((r_0).toInt64)) (ty := .long) (C := RX7) (T := TX7) (N := 2) hx hb hts ki_X7 tyX7 tyX7_ok nmX7 hown hE.1 hP hD hS 0 rfl rfl 0 (by decide) (va_Nw.use (A := _) rfl (hE.nestF (kc_4 _ (List.mem_of_getElem? (i := 72) rfl)))) (fun _ h9 => h9) rfl (by decide +kernel) rfl rfl (Nat.le_of_ble_eq_true rfl) dc_L_unit_8 (fun H locs hP hD hS => ?_)
    have hP : va_P G.1 kcl [(o, .inr (3, [.long ((r_0).toInt64), sv])), (x, .inr (0, [.ref cs, .ref sc, .ref pf, .int (w_0.2.1), .int (w_0.2.2.1), .int (w_0.2.2.2)])), (cs, .inl (G.2.1 2, 6, .inr (.inl (w_0.1))))] H := hP
    have hD : va_D A [(o, .inr (3, [.long ((r_0).toInt64), sv])), (x, .inr (0, [.ref cs, .ref sc, .ref pf, .int (w_0.2.1), .int (w_0.2.2.1), .int (w_0.2.2.2)])), (cs, .inl (G.2.1 2, 6, .inr (.inl (w_0.1))))] := hD
    refine lv_goto (tgt := 18) hx hb dc_L_unit_11 (by decide) ?_
    refine lv_iconst (v := 0) hx hb dc_L_unit_18 (by decide) ?_
    have hP9 := hP.sub (ws' := [(x, .inr (0, [.ref cs, .ref sc, .ref pf, .int (w_0.2.1), .int (w_0.2.2.1), .int (w_0.2.2.2)])), (cs, .inl (G.2.1 2, 6, .inr (.inl (w_0.1)))), (o, .inr (3, [.long ((r_0).toInt64), sv]))]) [1, 2, 0] rfl
    have hD9 := hD.sub (ws' := [(x, .inr (0, [.ref cs, .ref sc, .ref pf, .int (w_0.2.1), .int (w_0.2.2.1), .int (w_0.2.2.2)])), (cs, .inl (G.2.1 2, 6, .inr (.inl (w_0.1)))), (o, .inr (3, [.long ((r_0).toInt64), sv]))]) [1, 2, 0] (by decide) rfl
    refine W.widen (k := 2) (n := 12) (Nat.le_of_ble_eq_true rfl) (Nat.le_of_ble_eq_true rfl) ?_
    exact W.iret (v := (0 : Int32)) hx hb hr (fun t ht hW => ⟨⟨_, (w_0, (r_0).toInt64), rfl, ⟨by rw [hf_0, ky_lw_ok], by rw [hf_0, ky_lw_ok]⟩, by rw [ht]; exact hP9, hD9, trivial⟩, hS.F ht⟩) hS.2.2 dc_L_unit_19
set_option linter.constructorNameAsVariable false in
set_option maxHeartbeats 4000000 in
set_option maxRecDepth 100000 in
theorem mt_L_times (l : Launch) (hl9 : l.stackTraces = false) (G : ky_G) (x : Nat) (cs : Nat) (sc : Nat) (pf : Nat) (u : ky_BS) (o : Nat) (nn : Int64) (sv : Value) (a1 : Int32) (a2 : Int32) (a3 : Int32) (sz : Nat)  : Met l my_L_times (.codeWith my_L_times method_20_code 6 (some .int) [(0, 13, 16, 19)] :: ky_B) { frames := 9, cells := 2, slots := 12, locals := 146 } (ky_P G [.ref x, .int (a1), .int (a2), .int (a3), .ref o] (ky_WB G x cs sc pf u ++ ky_WO o nn sv) sz (fun _ => True)) (ky_Q (S := ky_BS × Int64) G (va_A (ky_WB G x cs sc pf u ++ ky_WO o nn sv) sz) (fun v z => v = some (.int (ky_lw (fn_X6_times a1 a2 a3 u) u nn).1) ∧ z = (ky_lw (fn_X6_times a1 a2 a3 u) u nn).2) (fun z => ky_WB G x cs sc pf z.1 ++ ky_WO o z.2 sv) (fun _ _ => True)) (2) (12) (va_A (ky_WB G x cs sc pf u ++ ky_WO o nn sv) sz) := by
  refine ky_startH (hh := [(0, 13, 16, 19)]) (by decide) (Nat.le_of_ble_eq_true rfl) (fun p e s m below meth c F hT hE A hAe hsz hA hfr hP hD hS hX ls hl => ?_)
  obtain ⟨hx, hb, hml, hown, hr, hlocks, hts⟩ := id F
  have hl : lv_has ls 6 [(0, .ref x), (1, .int (a1)), (2, .int (a2)), (3, .int (a3)), (4, .ref o)] := hl
  have hP : va_P G.1 kcl [(x, .inr (0, [.ref cs, .ref sc, .ref pf, .int (u.2.1), .int (u.2.2.1), .int (u.2.2.2)])), (cs, .inl (G.2.1 2, 6, .inr (.inl (u.1)))), (o, .inr (3, [.long (nn), sv]))] s.heap := hP
  have hD : va_D A [(x, .inr (0, [.ref cs, .ref sc, .ref pf, .int (u.2.1), .int (u.2.2.1), .int (u.2.2.2)])), (cs, .inl (G.2.1 2, 6, .inr (.inl (u.1)))), (o, .inr (3, [.long (nn), sv]))] := hD
  refine lv_aload hx hb dc_L_times_0 (lv_at hl 4 rfl) ?_
  refine lv_aload_n hx hb dc_L_times_2 rfl (lv_at hl 0 rfl) ?_
  refine lv_iload_n hx hb dc_L_times_3 rfl (lv_at hl 1 rfl) ?_
  refine lv_iload_n hx hb dc_L_times_4 rfl (lv_at hl 2 rfl) ?_
  refine lv_iload_n hx hb dc_L_times_5 rfl (lv_at hl 3 rfl) ?_
  refine ky_cVx (As := [.int (a1), .int (a2), .int (a3)]) (wr := [(o, .inr (3, [.long (nn), sv]))]) F (hE.at hfr hS) hfr (mt_X6_times l hl9 G x cs sc pf u (a1) (a2) (a3) s.heap.size) kv_L_77 ⟨⟨rfl, rfl⟩, Nat.le_of_ble_eq_true rfl, Nat.le_of_ble_eq_true rfl⟩ rfl hl.1 rfl (Nat.le_of_ble_eq_true rfl) ⟨Nat.le_of_ble_eq_true rfl, Nat.le_of_ble_eq_true rfl⟩ (va_recv hE.1 hP (ci := 0) (q0 := 0) rfl rfl) trivial hP hD hS hA [0, 1] [2] rfl rfl (by decide) (by decide) (by decide) dc_L_times_6 ?_ ?_
  · intro E ce q9 H locs hp hP hD hS hz hk9 hc1 hc2 hc3
    have hP : va_P G.1 kcl [(o, .inr (3, [.long (nn), sv])), (x, .inr (0, [.ref cs, .ref sc, .ref pf, .int (u.2.1), .int (u.2.2.1), .int (u.2.2.2)])), (cs, .inl (G.2.1 2, 6, .inr (.inl (u.1))))] H := hP
    have hD : va_D A [(o, .inr (3, [.long (nn), sv])), (x, .inr (0, [.ref cs, .ref sc, .ref pf, .int (u.2.1), .int (u.2.2.1), .int (u.2.2.2)])), (cs, .inl (G.2.1 2, 6, .inr (.inl (u.1))))] := hD
    have he := on_X6_times (a1) (a2) (a3) u E hp
    subst he
    refine ky_cat1 (h1 := (0, 13, 16, 19)) (name := "java/lang/IndexOutOfBoundsException") hE hown hT (by decide) (by decide) (hts _ kw_4_82) (kc_4 _ (List.mem_of_getElem? (i := 92) rfl)) rfl hc1 hc2 hc3 ?_
    refine W.eq (g2 := F0 m 16 ls [.ref q9]) rfl ?_
    refine W.widen (k := 2) (n := 12) (by first | exact Nat.le_refl _ | omega) (by first | exact Nat.le_refl _ | omega) ?_
    refine lv_astore (lv' := [(5, .ref q9), (0, .ref x), (1, .int (a1)), (2, .int (a2)), (3, .int (a3)), (4, .ref o)]) hx hb dc_L_times_16 hl (by decide) rfl (fun ls hl => ?_)
    refine lv_iconst (v := 1) hx hb dc_L_times_18 (by decide) ?_
    have hP9 := hP.sub (ws' := [(x, .inr (0, [.ref cs, .ref sc, .ref pf, .int (u.2.1), .int (u.2.2.1), .int (u.2.2.2)])), (cs, .inl (G.2.1 2, 6, .inr (.inl (u.1)))), (o, .inr (3, [.long (nn), sv]))]) [1, 2, 0] rfl
    have hD9 := hD.sub (ws' := [(x, .inr (0, [.ref cs, .ref sc, .ref pf, .int (u.2.1), .int (u.2.2.1), .int (u.2.2.2)])), (cs, .inl (G.2.1 2, 6, .inr (.inl (u.1)))), (o, .inr (3, [.long (nn), sv]))]) [1, 2, 0] (by decide) rfl
    refine W.widen (k := 2) (n := 12) (Nat.le_of_ble_eq_true rfl) (Nat.le_of_ble_eq_true rfl) ?_
    exact W.iret (v := (1 : Int32)) hx hb hr (fun t ht hW => ⟨⟨_, (u, nn), rfl, ⟨by rw [hp, ky_lw_io], by rw [hp, ky_lw_io]⟩, by rw [ht]; exact hP9, hD9, trivial⟩, hS.F ht⟩) hS.2.2 dc_L_times_19
  · rintro v9 u9 H locs ⟨r_0, w_0, hf_0, rfl, hu9⟩ hP hD hS - hz hk9
    have hu9 := hu9.symm
    subst hu9
    have hP : va_P G.1 kcl [(o, .inr (3, [.long (nn), sv])), (x, .inr (0, [.ref cs, .ref sc, .ref pf, .int (w_0.2.1), .int (w_0.2.2.1), .int (w_0.2.2.2)])), (cs, .inl (G.2.1 2, 6, .inr (.inl (w_0.1))))] H := hP
    have hD : va_D A [(o, .inr (3, [.long (nn), sv])), (x, .inr (0, [.ref cs, .ref sc, .ref pf, .int (w_0.2.1), .int (w_0.2.2.1), .int (w_0.2.2.2)])), (cs, .inl (G.2.1 2, 6, .inr (.inl (w_0.1))))] := hD
    refine W.widen (k := 2) (n := 12) (by first | exact Nat.le_refl _ | omega) (by first | exact Nat.le_refl _ | omega) ?_
    refine lv_i2l (v := (r_0).toInt64) hx hb dc_L_times_9 rfl ?_
    refine va_putN (D := G.1) (ci := 3) (v := .long ((r_0).toInt64)) (ty := .long) (C := RX7) (T := TX7) (N := 2) hx hb hts ki_X7 tyX7 tyX7_ok nmX7 hown hE.1 hP hD hS 0 rfl rfl 0 (by decide) (va_Nw.use (A := _) rfl (hE.nestF (kc_4 _ (List.mem_of_getElem? (i := 72) rfl)))) (fun _ h9 => h9) rfl (by decide +kernel) rfl rfl (Nat.le_of_ble_eq_true rfl) dc_L_times_10 (fun H locs hP hD hS => ?_)
    have hP : va_P G.1 kcl [(o, .inr (3, [.long ((r_0).toInt64), sv])), (x, .inr (0, [.ref cs, .ref sc, .ref pf, .int (w_0.2.1), .int (w_0.2.2.1), .int (w_0.2.2.2)])), (cs, .inl (G.2.1 2, 6, .inr (.inl (w_0.1))))] H := hP
    have hD : va_D A [(o, .inr (3, [.long ((r_0).toInt64), sv])), (x, .inr (0, [.ref cs, .ref sc, .ref pf, .int (w_0.2.1), .int (w_0.2.2.1), .int (w_0.2.2.2)])), (cs, .inl (G.2.1 2, 6, .inr (.inl (w_0.1))))] := hD
    refine lv_goto (tgt := 20) hx hb dc_L_times_13 (by decide) ?_
    refine lv_iconst (v := 0) hx hb dc_L_times_20 (by decide) ?_
    have hP9 := hP.sub (ws' := [(x, .inr (0, [.ref cs, .ref sc, .ref pf, .int (w_0.2.1), .int (w_0.2.2.1), .int (w_0.2.2.2)])), (cs, .inl (G.2.1 2, 6, .inr (.inl (w_0.1)))), (o, .inr (3, [.long ((r_0).toInt64), sv]))]) [1, 2, 0] rfl
    have hD9 := hD.sub (ws' := [(x, .inr (0, [.ref cs, .ref sc, .ref pf, .int (w_0.2.1), .int (w_0.2.2.1), .int (w_0.2.2.2)])), (cs, .inl (G.2.1 2, 6, .inr (.inl (w_0.1)))), (o, .inr (3, [.long ((r_0).toInt64), sv]))]) [1, 2, 0] (by decide) rfl
    refine W.widen (k := 2) (n := 12) (Nat.le_of_ble_eq_true rfl) (Nat.le_of_ble_eq_true rfl) ?_
    exact W.iret (v := (0 : Int32)) hx hb hr (fun t ht hW => ⟨⟨_, (w_0, (r_0).toInt64), rfl, ⟨by rw [hf_0, ky_lw_ok], by rw [hf_0, ky_lw_ok]⟩, by rw [ht]; exact hP9, hD9, trivial⟩, hS.F ht⟩) hS.2.2 dc_L_times_21
set_option linter.constructorNameAsVariable false in
set_option maxHeartbeats 4000000 in
set_option maxRecDepth 100000 in
theorem mt_L_side (l : Launch) (hl9 : l.stackTraces = false) (G : ky_G) (x : Nat) (cs : Nat) (sc : Nat) (pf : Nat) (u : ky_BS) (o : Nat) (nn : Int64) (sv : Value) (a1 : Int32) (a2 : Int32) (a3 : Int32) (sz : Nat)  : Met l my_L_side (.codeWith my_L_side method_21_code 6 (some .int) [(0, 13, 16, 19)] :: ky_B) { frames := 9, cells := 3, slots := 18, locals := 146 } (ky_P G [.ref x, .int (a1), .int (a2), .int (a3), .ref o] (ky_WB G x cs sc pf u ++ ky_WO o nn sv) sz (fun _ => True)) (ky_Q (S := ky_BS × Int64) G (va_A (ky_WB G x cs sc pf u ++ ky_WO o nn sv) sz) (fun v z => v = some (.int (ky_lw (fn_X6_side a1 a2 a3 u) u nn).1) ∧ z = (ky_lw (fn_X6_side a1 a2 a3 u) u nn).2) (fun z => ky_WB G x cs sc pf z.1 ++ ky_WO o z.2 sv) (fun _ _ => True)) (3) (18) (va_A (ky_WB G x cs sc pf u ++ ky_WO o nn sv) sz) := by
  refine ky_startH (hh := [(0, 13, 16, 19)]) (by decide) (Nat.le_of_ble_eq_true rfl) (fun p e s m below meth c F hT hE A hAe hsz hA hfr hP hD hS hX ls hl => ?_)
  obtain ⟨hx, hb, hml, hown, hr, hlocks, hts⟩ := id F
  have hl : lv_has ls 6 [(0, .ref x), (1, .int (a1)), (2, .int (a2)), (3, .int (a3)), (4, .ref o)] := hl
  have hP : va_P G.1 kcl [(x, .inr (0, [.ref cs, .ref sc, .ref pf, .int (u.2.1), .int (u.2.2.1), .int (u.2.2.2)])), (cs, .inl (G.2.1 2, 6, .inr (.inl (u.1)))), (o, .inr (3, [.long (nn), sv]))] s.heap := hP
  have hD : va_D A [(x, .inr (0, [.ref cs, .ref sc, .ref pf, .int (u.2.1), .int (u.2.2.1), .int (u.2.2.2)])), (cs, .inl (G.2.1 2, 6, .inr (.inl (u.1)))), (o, .inr (3, [.long (nn), sv]))] := hD
  refine lv_aload hx hb dc_L_side_0 (lv_at hl 4 rfl) ?_
  refine lv_aload_n hx hb dc_L_side_2 rfl (lv_at hl 0 rfl) ?_
  refine lv_iload_n hx hb dc_L_side_3 rfl (lv_at hl 1 rfl) ?_
  refine lv_iload_n hx hb dc_L_side_4 rfl (lv_at hl 2 rfl) ?_
  refine lv_iload_n hx hb dc_L_side_5 rfl (lv_at hl 3 rfl) ?_
  refine ky_cVx (As := [.int (a1), .int (a2), .int (a3)]) (wr := [(o, .inr (3, [.long (nn), sv]))]) F (hE.at hfr hS) hfr (mt_X6_side l hl9 G x cs sc pf u (a1) (a2) (a3) s.heap.size) kv_L_80 ⟨⟨rfl, rfl⟩, Nat.le_of_ble_eq_true rfl, Nat.le_of_ble_eq_true rfl⟩ rfl hl.1 rfl (Nat.le_of_ble_eq_true rfl) ⟨Nat.le_of_ble_eq_true rfl, Nat.le_of_ble_eq_true rfl⟩ (va_recv hE.1 hP (ci := 0) (q0 := 0) rfl rfl) trivial hP hD hS hA [0, 1] [2] rfl rfl (by decide) (by decide) (by decide) dc_L_side_6 ?_ ?_
  · intro E ce q9 H locs hp hP hD hS hz hk9 hc1 hc2 hc3
    have hP : va_P G.1 kcl [(o, .inr (3, [.long (nn), sv])), (x, .inr (0, [.ref cs, .ref sc, .ref pf, .int (u.2.1), .int (u.2.2.1), .int (u.2.2.2)])), (cs, .inl (G.2.1 2, 6, .inr (.inl (u.1))))] H := hP
    have hD : va_D A [(o, .inr (3, [.long (nn), sv])), (x, .inr (0, [.ref cs, .ref sc, .ref pf, .int (u.2.1), .int (u.2.2.1), .int (u.2.2.2)])), (cs, .inl (G.2.1 2, 6, .inr (.inl (u.1))))] := hD
    have he := on_X6_side (a1) (a2) (a3) u E hp
    subst he
    refine ky_cat1 (h1 := (0, 13, 16, 19)) (name := "java/lang/IndexOutOfBoundsException") hE hown hT (by decide) (by decide) (hts _ kw_4_82) (kc_4 _ (List.mem_of_getElem? (i := 92) rfl)) rfl hc1 hc2 hc3 ?_
    refine W.eq (g2 := F0 m 16 ls [.ref q9]) rfl ?_
    refine W.widen (k := 3) (n := 18) (by first | exact Nat.le_refl _ | omega) (by first | exact Nat.le_refl _ | omega) ?_
    refine lv_astore (lv' := [(5, .ref q9), (0, .ref x), (1, .int (a1)), (2, .int (a2)), (3, .int (a3)), (4, .ref o)]) hx hb dc_L_side_16 hl (by decide) rfl (fun ls hl => ?_)
    refine lv_iconst (v := 1) hx hb dc_L_side_18 (by decide) ?_
    have hP9 := hP.sub (ws' := [(x, .inr (0, [.ref cs, .ref sc, .ref pf, .int (u.2.1), .int (u.2.2.1), .int (u.2.2.2)])), (cs, .inl (G.2.1 2, 6, .inr (.inl (u.1)))), (o, .inr (3, [.long (nn), sv]))]) [1, 2, 0] rfl
    have hD9 := hD.sub (ws' := [(x, .inr (0, [.ref cs, .ref sc, .ref pf, .int (u.2.1), .int (u.2.2.1), .int (u.2.2.2)])), (cs, .inl (G.2.1 2, 6, .inr (.inl (u.1)))), (o, .inr (3, [.long (nn), sv]))]) [1, 2, 0] (by decide) rfl
    refine W.widen (k := 3) (n := 18) (Nat.le_of_ble_eq_true rfl) (Nat.le_of_ble_eq_true rfl) ?_
    exact W.iret (v := (1 : Int32)) hx hb hr (fun t ht hW => ⟨⟨_, (u, nn), rfl, ⟨by rw [hp, ky_lw_io], by rw [hp, ky_lw_io]⟩, by rw [ht]; exact hP9, hD9, trivial⟩, hS.F ht⟩) hS.2.2 dc_L_side_19
  · rintro v9 u9 H locs ⟨r_0, w_0, hf_0, rfl, hu9⟩ hP hD hS - hz hk9
    have hu9 := hu9.symm
    subst hu9
    have hP : va_P G.1 kcl [(o, .inr (3, [.long (nn), sv])), (x, .inr (0, [.ref cs, .ref sc, .ref pf, .int (w_0.2.1), .int (w_0.2.2.1), .int (w_0.2.2.2)])), (cs, .inl (G.2.1 2, 6, .inr (.inl (w_0.1))))] H := hP
    have hD : va_D A [(o, .inr (3, [.long (nn), sv])), (x, .inr (0, [.ref cs, .ref sc, .ref pf, .int (w_0.2.1), .int (w_0.2.2.1), .int (w_0.2.2.2)])), (cs, .inl (G.2.1 2, 6, .inr (.inl (w_0.1))))] := hD
    refine W.widen (k := 3) (n := 18) (by first | exact Nat.le_refl _ | omega) (by first | exact Nat.le_refl _ | omega) ?_
    refine lv_i2l (v := (r_0).toInt64) hx hb dc_L_side_9 rfl ?_
    refine va_putN (D := G.1) (ci := 3) (v := .long ((r_0).toInt64)) (ty := .long) (C := RX7) (T := TX7) (N := 2) hx hb hts ki_X7 tyX7 tyX7_ok nmX7 hown hE.1 hP hD hS 0 rfl rfl 0 (by decide) (va_Nw.use (A := _) rfl (hE.nestF (kc_4 _ (List.mem_of_getElem? (i := 72) rfl)))) (fun _ h9 => h9) rfl (by decide +kernel) rfl rfl (Nat.le_of_ble_eq_true rfl) dc_L_side_10 (fun H locs hP hD hS => ?_)
    have hP : va_P G.1 kcl [(o, .inr (3, [.long ((r_0).toInt64), sv])), (x, .inr (0, [.ref cs, .ref sc, .ref pf, .int (w_0.2.1), .int (w_0.2.2.1), .int (w_0.2.2.2)])), (cs, .inl (G.2.1 2, 6, .inr (.inl (w_0.1))))] H := hP
    have hD : va_D A [(o, .inr (3, [.long ((r_0).toInt64), sv])), (x, .inr (0, [.ref cs, .ref sc, .ref pf, .int (w_0.2.1), .int (w_0.2.2.1), .int (w_0.2.2.2)])), (cs, .inl (G.2.1 2, 6, .inr (.inl (w_0.1))))] := hD
    refine lv_goto (tgt := 20) hx hb dc_L_side_13 (by decide) ?_
    refine lv_iconst (v := 0) hx hb dc_L_side_20 (by decide) ?_
    have hP9 := hP.sub (ws' := [(x, .inr (0, [.ref cs, .ref sc, .ref pf, .int (w_0.2.1), .int (w_0.2.2.1), .int (w_0.2.2.2)])), (cs, .inl (G.2.1 2, 6, .inr (.inl (w_0.1)))), (o, .inr (3, [.long ((r_0).toInt64), sv]))]) [1, 2, 0] rfl
    have hD9 := hD.sub (ws' := [(x, .inr (0, [.ref cs, .ref sc, .ref pf, .int (w_0.2.1), .int (w_0.2.2.1), .int (w_0.2.2.2)])), (cs, .inl (G.2.1 2, 6, .inr (.inl (w_0.1)))), (o, .inr (3, [.long ((r_0).toInt64), sv]))]) [1, 2, 0] (by decide) rfl
    refine W.widen (k := 3) (n := 18) (Nat.le_of_ble_eq_true rfl) (Nat.le_of_ble_eq_true rfl) ?_
    exact W.iret (v := (0 : Int32)) hx hb hr (fun t ht hW => ⟨⟨_, (w_0, (r_0).toInt64), rfl, ⟨by rw [hf_0, ky_lw_ok], by rw [hf_0, ky_lw_ok]⟩, by rw [ht]; exact hP9, hD9, trivial⟩, hS.F ht⟩) hS.2.2 dc_L_side_21
set_option linter.constructorNameAsVariable false in
set_option maxHeartbeats 4000000 in
set_option maxRecDepth 100000 in
theorem mt_L_max (l : Launch) (hl9 : l.stackTraces = false) (G : ky_G) (x : Nat) (cs : Nat) (sc : Nat) (pf : Nat) (u : ky_BS) (o : Nat) (nn : Int64) (sv : Value) (a1 : Int32) (a2 : Int32) (a3 : Int32) (sz : Nat)  : Met l my_L_max (.codeWith my_L_max method_22_code 6 (some .int) [(0, 13, 16, 19)] :: ky_B) { frames := 9, cells := 3, slots := 18, locals := 146 } (ky_P G [.ref x, .int (a1), .int (a2), .int (a3), .ref o] (ky_WB G x cs sc pf u ++ ky_WO o nn sv) sz (fun _ => True)) (ky_Q (S := ky_BS × Int64) G (va_A (ky_WB G x cs sc pf u ++ ky_WO o nn sv) sz) (fun v z => v = some (.int (ky_lw (fn_X6_max a1 a2 a3 u) u nn).1) ∧ z = (ky_lw (fn_X6_max a1 a2 a3 u) u nn).2) (fun z => ky_WB G x cs sc pf z.1 ++ ky_WO o z.2 sv) (fun _ _ => True)) (3) (18) (va_A (ky_WB G x cs sc pf u ++ ky_WO o nn sv) sz) := by
  refine ky_startH (hh := [(0, 13, 16, 19)]) (by decide) (Nat.le_of_ble_eq_true rfl) (fun p e s m below meth c F hT hE A hAe hsz hA hfr hP hD hS hX ls hl => ?_)
  obtain ⟨hx, hb, hml, hown, hr, hlocks, hts⟩ := id F
  have hl : lv_has ls 6 [(0, .ref x), (1, .int (a1)), (2, .int (a2)), (3, .int (a3)), (4, .ref o)] := hl
  have hP : va_P G.1 kcl [(x, .inr (0, [.ref cs, .ref sc, .ref pf, .int (u.2.1), .int (u.2.2.1), .int (u.2.2.2)])), (cs, .inl (G.2.1 2, 6, .inr (.inl (u.1)))), (o, .inr (3, [.long (nn), sv]))] s.heap := hP
  have hD : va_D A [(x, .inr (0, [.ref cs, .ref sc, .ref pf, .int (u.2.1), .int (u.2.2.1), .int (u.2.2.2)])), (cs, .inl (G.2.1 2, 6, .inr (.inl (u.1)))), (o, .inr (3, [.long (nn), sv]))] := hD
  refine lv_aload hx hb dc_L_max_0 (lv_at hl 4 rfl) ?_
  refine lv_aload_n hx hb dc_L_max_2 rfl (lv_at hl 0 rfl) ?_
  refine lv_iload_n hx hb dc_L_max_3 rfl (lv_at hl 1 rfl) ?_
  refine lv_iload_n hx hb dc_L_max_4 rfl (lv_at hl 2 rfl) ?_
  refine lv_iload_n hx hb dc_L_max_5 rfl (lv_at hl 3 rfl) ?_
  refine ky_cVx (As := [.int (a1), .int (a2), .int (a3)]) (wr := [(o, .inr (3, [.long (nn), sv]))]) F (hE.at hfr hS) hfr (mt_X6_max l hl9 G x cs sc pf u (a1) (a2) (a3) s.heap.size) kv_L_83 ⟨⟨rfl, rfl⟩, Nat.le_of_ble_eq_true rfl, Nat.le_of_ble_eq_true rfl⟩ rfl hl.1 rfl (Nat.le_of_ble_eq_true rfl) ⟨Nat.le_of_ble_eq_true rfl, Nat.le_of_ble_eq_true rfl⟩ (va_recv hE.1 hP (ci := 0) (q0 := 0) rfl rfl) trivial hP hD hS hA [0, 1] [2] rfl rfl (by decide) (by decide) (by decide) dc_L_max_6 ?_ ?_
  · intro E ce q9 H locs hp hP hD hS hz hk9 hc1 hc2 hc3
    have hP : va_P G.1 kcl [(o, .inr (3, [.long (nn), sv])), (x, .inr (0, [.ref cs, .ref sc, .ref pf, .int (u.2.1), .int (u.2.2.1), .int (u.2.2.2)])), (cs, .inl (G.2.1 2, 6, .inr (.inl (u.1))))] H := hP
    have hD : va_D A [(o, .inr (3, [.long (nn), sv])), (x, .inr (0, [.ref cs, .ref sc, .ref pf, .int (u.2.1), .int (u.2.2.1), .int (u.2.2.2)])), (cs, .inl (G.2.1 2, 6, .inr (.inl (u.1))))] := hD
    have he := on_X6_max (a1) (a2) (a3) u E hp
    subst he
    refine ky_cat1 (h1 := (0, 13, 16, 19)) (name := "java/lang/IndexOutOfBoundsException") hE hown hT (by decide) (by decide) (hts _ kw_4_82) (kc_4 _ (List.mem_of_getElem? (i := 92) rfl)) rfl hc1 hc2 hc3 ?_
    refine W.eq (g2 := F0 m 16 ls [.ref q9]) rfl ?_
    refine W.widen (k := 3) (n := 18) (by first | exact Nat.le_refl _ | omega) (by first | exact Nat.le_refl _ | omega) ?_
    refine lv_astore (lv' := [(5, .ref q9), (0, .ref x), (1, .int (a1)), (2, .int (a2)), (3, .int (a3)), (4, .ref o)]) hx hb dc_L_max_16 hl (by decide) rfl (fun ls hl => ?_)
    refine lv_iconst (v := 1) hx hb dc_L_max_18 (by decide) ?_
    have hP9 := hP.sub (ws' := [(x, .inr (0, [.ref cs, .ref sc, .ref pf, .int (u.2.1), .int (u.2.2.1), .int (u.2.2.2)])), (cs, .inl (G.2.1 2, 6, .inr (.inl (u.1)))), (o, .inr (3, [.long (nn), sv]))]) [1, 2, 0] rfl
    have hD9 := hD.sub (ws' := [(x, .inr (0, [.ref cs, .ref sc, .ref pf, .int (u.2.1), .int (u.2.2.1), .int (u.2.2.2)])), (cs, .inl (G.2.1 2, 6, .inr (.inl (u.1)))), (o, .inr (3, [.long (nn), sv]))]) [1, 2, 0] (by decide) rfl
    refine W.widen (k := 3) (n := 18) (Nat.le_of_ble_eq_true rfl) (Nat.le_of_ble_eq_true rfl) ?_
    exact W.iret (v := (1 : Int32)) hx hb hr (fun t ht hW => ⟨⟨_, (u, nn), rfl, ⟨by rw [hp, ky_lw_io], by rw [hp, ky_lw_io]⟩, by rw [ht]; exact hP9, hD9, trivial⟩, hS.F ht⟩) hS.2.2 dc_L_max_19
  · rintro v9 u9 H locs ⟨r_0, w_0, hf_0, rfl, hu9⟩ hP hD hS - hz hk9
    have hu9 := hu9.symm
    subst hu9
    have hP : va_P G.1 kcl [(o, .inr (3, [.long (nn), sv])), (x, .inr (0, [.ref cs, .ref sc, .ref pf, .int (w_0.2.1), .int (w_0.2.2.1), .int (w_0.2.2.2)])), (cs, .inl (G.2.1 2, 6, .inr (.inl (w_0.1))))] H := hP
    have hD : va_D A [(o, .inr (3, [.long (nn), sv])), (x, .inr (0, [.ref cs, .ref sc, .ref pf, .int (w_0.2.1), .int (w_0.2.2.1), .int (w_0.2.2.2)])), (cs, .inl (G.2.1 2, 6, .inr (.inl (w_0.1))))] := hD
    refine W.widen (k := 3) (n := 18) (by first | exact Nat.le_refl _ | omega) (by first | exact Nat.le_refl _ | omega) ?_
    refine lv_i2l (v := (r_0).toInt64) hx hb dc_L_max_9 rfl ?_
    refine va_putN (D := G.1) (ci := 3) (v := .long ((r_0).toInt64)) (ty := .long) (C := RX7) (T := TX7) (N := 2) hx hb hts ki_X7 tyX7 tyX7_ok nmX7 hown hE.1 hP hD hS 0 rfl rfl 0 (by decide) (va_Nw.use (A := _) rfl (hE.nestF (kc_4 _ (List.mem_of_getElem? (i := 72) rfl)))) (fun _ h9 => h9) rfl (by decide +kernel) rfl rfl (Nat.le_of_ble_eq_true rfl) dc_L_max_10 (fun H locs hP hD hS => ?_)
    have hP : va_P G.1 kcl [(o, .inr (3, [.long ((r_0).toInt64), sv])), (x, .inr (0, [.ref cs, .ref sc, .ref pf, .int (w_0.2.1), .int (w_0.2.2.1), .int (w_0.2.2.2)])), (cs, .inl (G.2.1 2, 6, .inr (.inl (w_0.1))))] H := hP
    have hD : va_D A [(o, .inr (3, [.long ((r_0).toInt64), sv])), (x, .inr (0, [.ref cs, .ref sc, .ref pf, .int (w_0.2.1), .int (w_0.2.2.1), .int (w_0.2.2.2)])), (cs, .inl (G.2.1 2, 6, .inr (.inl (w_0.1))))] := hD
    refine lv_goto (tgt := 20) hx hb dc_L_max_13 (by decide) ?_
    refine lv_iconst (v := 0) hx hb dc_L_max_20 (by decide) ?_
    have hP9 := hP.sub (ws' := [(x, .inr (0, [.ref cs, .ref sc, .ref pf, .int (w_0.2.1), .int (w_0.2.2.1), .int (w_0.2.2.2)])), (cs, .inl (G.2.1 2, 6, .inr (.inl (w_0.1)))), (o, .inr (3, [.long ((r_0).toInt64), sv]))]) [1, 2, 0] rfl
    have hD9 := hD.sub (ws' := [(x, .inr (0, [.ref cs, .ref sc, .ref pf, .int (w_0.2.1), .int (w_0.2.2.1), .int (w_0.2.2.2)])), (cs, .inl (G.2.1 2, 6, .inr (.inl (w_0.1)))), (o, .inr (3, [.long ((r_0).toInt64), sv]))]) [1, 2, 0] (by decide) rfl
    refine W.widen (k := 3) (n := 18) (Nat.le_of_ble_eq_true rfl) (Nat.le_of_ble_eq_true rfl) ?_
    exact W.iret (v := (0 : Int32)) hx hb hr (fun t ht hW => ⟨⟨_, (w_0, (r_0).toInt64), rfl, ⟨by rw [hf_0, ky_lw_ok], by rw [hf_0, ky_lw_ok]⟩, by rw [ht]; exact hP9, hD9, trivial⟩, hS.F ht⟩) hS.2.2 dc_L_max_21
set_option linter.constructorNameAsVariable false in
set_option maxHeartbeats 4000000 in
set_option maxRecDepth 100000 in
theorem mt_L_min (l : Launch) (hl9 : l.stackTraces = false) (G : ky_G) (x : Nat) (cs : Nat) (sc : Nat) (pf : Nat) (u : ky_BS) (o : Nat) (nn : Int64) (sv : Value) (a1 : Int32) (a2 : Int32) (a3 : Int32) (sz : Nat)  : Met l my_L_min (.codeWith my_L_min method_23_code 6 (some .int) [(0, 13, 16, 19)] :: ky_B) { frames := 9, cells := 3, slots := 18, locals := 146 } (ky_P G [.ref x, .int (a1), .int (a2), .int (a3), .ref o] (ky_WB G x cs sc pf u ++ ky_WO o nn sv) sz (fun _ => True)) (ky_Q (S := ky_BS × Int64) G (va_A (ky_WB G x cs sc pf u ++ ky_WO o nn sv) sz) (fun v z => v = some (.int (ky_lw (fn_X6_min a1 a2 a3 u) u nn).1) ∧ z = (ky_lw (fn_X6_min a1 a2 a3 u) u nn).2) (fun z => ky_WB G x cs sc pf z.1 ++ ky_WO o z.2 sv) (fun _ _ => True)) (3) (18) (va_A (ky_WB G x cs sc pf u ++ ky_WO o nn sv) sz) := by
  refine ky_startH (hh := [(0, 13, 16, 19)]) (by decide) (Nat.le_of_ble_eq_true rfl) (fun p e s m below meth c F hT hE A hAe hsz hA hfr hP hD hS hX ls hl => ?_)
  obtain ⟨hx, hb, hml, hown, hr, hlocks, hts⟩ := id F
  have hl : lv_has ls 6 [(0, .ref x), (1, .int (a1)), (2, .int (a2)), (3, .int (a3)), (4, .ref o)] := hl
  have hP : va_P G.1 kcl [(x, .inr (0, [.ref cs, .ref sc, .ref pf, .int (u.2.1), .int (u.2.2.1), .int (u.2.2.2)])), (cs, .inl (G.2.1 2, 6, .inr (.inl (u.1)))), (o, .inr (3, [.long (nn), sv]))] s.heap := hP
  have hD : va_D A [(x, .inr (0, [.ref cs, .ref sc, .ref pf, .int (u.2.1), .int (u.2.2.1), .int (u.2.2.2)])), (cs, .inl (G.2.1 2, 6, .inr (.inl (u.1)))), (o, .inr (3, [.long (nn), sv]))] := hD
  refine lv_aload hx hb dc_L_min_0 (lv_at hl 4 rfl) ?_
  refine lv_aload_n hx hb dc_L_min_2 rfl (lv_at hl 0 rfl) ?_
  refine lv_iload_n hx hb dc_L_min_3 rfl (lv_at hl 1 rfl) ?_
  refine lv_iload_n hx hb dc_L_min_4 rfl (lv_at hl 2 rfl) ?_
  refine lv_iload_n hx hb dc_L_min_5 rfl (lv_at hl 3 rfl) ?_
  refine ky_cVx (As := [.int (a1), .int (a2), .int (a3)]) (wr := [(o, .inr (3, [.long (nn), sv]))]) F (hE.at hfr hS) hfr (mt_X6_min l hl9 G x cs sc pf u (a1) (a2) (a3) s.heap.size) kv_L_86 ⟨⟨rfl, rfl⟩, Nat.le_of_ble_eq_true rfl, Nat.le_of_ble_eq_true rfl⟩ rfl hl.1 rfl (Nat.le_of_ble_eq_true rfl) ⟨Nat.le_of_ble_eq_true rfl, Nat.le_of_ble_eq_true rfl⟩ (va_recv hE.1 hP (ci := 0) (q0 := 0) rfl rfl) trivial hP hD hS hA [0, 1] [2] rfl rfl (by decide) (by decide) (by decide) dc_L_min_6 ?_ ?_
  · intro E ce q9 H locs hp hP hD hS hz hk9 hc1 hc2 hc3
    have hP : va_P G.1 kcl [(o, .inr (3, [.long (nn), sv])), (x, .inr (0, [.ref cs, .ref sc, .ref pf, .int (u.2.1), .int (u.2.2.1), .int (u.2.2.2)])), (cs, .inl (G.2.1 2, 6, .inr (.inl (u.1))))] H := hP
    have hD : va_D A [(o, .inr (3, [.long (nn), sv])), (x, .inr (0, [.ref cs, .ref sc, .ref pf, .int (u.2.1), .int (u.2.2.1), .int (u.2.2.2)])), (cs, .inl (G.2.1 2, 6, .inr (.inl (u.1))))] := hD
    have he := on_X6_min (a1) (a2) (a3) u E hp
    subst he
    refine ky_cat1 (h1 := (0, 13, 16, 19)) (name := "java/lang/IndexOutOfBoundsException") hE hown hT (by decide) (by decide) (hts _ kw_4_82) (kc_4 _ (List.mem_of_getElem? (i := 92) rfl)) rfl hc1 hc2 hc3 ?_
    refine W.eq (g2 := F0 m 16 ls [.ref q9]) rfl ?_
    refine W.widen (k := 3) (n := 18) (by first | exact Nat.le_refl _ | omega) (by first | exact Nat.le_refl _ | omega) ?_
    refine lv_astore (lv' := [(5, .ref q9), (0, .ref x), (1, .int (a1)), (2, .int (a2)), (3, .int (a3)), (4, .ref o)]) hx hb dc_L_min_16 hl (by decide) rfl (fun ls hl => ?_)
    refine lv_iconst (v := 1) hx hb dc_L_min_18 (by decide) ?_
    have hP9 := hP.sub (ws' := [(x, .inr (0, [.ref cs, .ref sc, .ref pf, .int (u.2.1), .int (u.2.2.1), .int (u.2.2.2)])), (cs, .inl (G.2.1 2, 6, .inr (.inl (u.1)))), (o, .inr (3, [.long (nn), sv]))]) [1, 2, 0] rfl
    have hD9 := hD.sub (ws' := [(x, .inr (0, [.ref cs, .ref sc, .ref pf, .int (u.2.1), .int (u.2.2.1), .int (u.2.2.2)])), (cs, .inl (G.2.1 2, 6, .inr (.inl (u.1)))), (o, .inr (3, [.long (nn), sv]))]) [1, 2, 0] (by decide) rfl
    refine W.widen (k := 3) (n := 18) (Nat.le_of_ble_eq_true rfl) (Nat.le_of_ble_eq_true rfl) ?_
    exact W.iret (v := (1 : Int32)) hx hb hr (fun t ht hW => ⟨⟨_, (u, nn), rfl, ⟨by rw [hp, ky_lw_io], by rw [hp, ky_lw_io]⟩, by rw [ht]; exact hP9, hD9, trivial⟩, hS.F ht⟩) hS.2.2 dc_L_min_19
  · rintro v9 u9 H locs ⟨r_0, w_0, hf_0, rfl, hu9⟩ hP hD hS - hz hk9
    have hu9 := hu9.symm
    subst hu9
    have hP : va_P G.1 kcl [(o, .inr (3, [.long (nn), sv])), (x, .inr (0, [.ref cs, .ref sc, .ref pf, .int (w_0.2.1), .int (w_0.2.2.1), .int (w_0.2.2.2)])), (cs, .inl (G.2.1 2, 6, .inr (.inl (w_0.1))))] H := hP
    have hD : va_D A [(o, .inr (3, [.long (nn), sv])), (x, .inr (0, [.ref cs, .ref sc, .ref pf, .int (w_0.2.1), .int (w_0.2.2.1), .int (w_0.2.2.2)])), (cs, .inl (G.2.1 2, 6, .inr (.inl (w_0.1))))] := hD
    refine W.widen (k := 3) (n := 18) (by first | exact Nat.le_refl _ | omega) (by first | exact Nat.le_refl _ | omega) ?_
    refine lv_i2l (v := (r_0).toInt64) hx hb dc_L_min_9 rfl ?_
    refine va_putN (D := G.1) (ci := 3) (v := .long ((r_0).toInt64)) (ty := .long) (C := RX7) (T := TX7) (N := 2) hx hb hts ki_X7 tyX7 tyX7_ok nmX7 hown hE.1 hP hD hS 0 rfl rfl 0 (by decide) (va_Nw.use (A := _) rfl (hE.nestF (kc_4 _ (List.mem_of_getElem? (i := 72) rfl)))) (fun _ h9 => h9) rfl (by decide +kernel) rfl rfl (Nat.le_of_ble_eq_true rfl) dc_L_min_10 (fun H locs hP hD hS => ?_)
    have hP : va_P G.1 kcl [(o, .inr (3, [.long ((r_0).toInt64), sv])), (x, .inr (0, [.ref cs, .ref sc, .ref pf, .int (w_0.2.1), .int (w_0.2.2.1), .int (w_0.2.2.2)])), (cs, .inl (G.2.1 2, 6, .inr (.inl (w_0.1))))] H := hP
    have hD : va_D A [(o, .inr (3, [.long ((r_0).toInt64), sv])), (x, .inr (0, [.ref cs, .ref sc, .ref pf, .int (w_0.2.1), .int (w_0.2.2.1), .int (w_0.2.2.2)])), (cs, .inl (G.2.1 2, 6, .inr (.inl (w_0.1))))] := hD
    refine lv_goto (tgt := 20) hx hb dc_L_min_13 (by decide) ?_
    refine lv_iconst (v := 0) hx hb dc_L_min_20 (by decide) ?_
    have hP9 := hP.sub (ws' := [(x, .inr (0, [.ref cs, .ref sc, .ref pf, .int (w_0.2.1), .int (w_0.2.2.1), .int (w_0.2.2.2)])), (cs, .inl (G.2.1 2, 6, .inr (.inl (w_0.1)))), (o, .inr (3, [.long ((r_0).toInt64), sv]))]) [1, 2, 0] rfl
    have hD9 := hD.sub (ws' := [(x, .inr (0, [.ref cs, .ref sc, .ref pf, .int (w_0.2.1), .int (w_0.2.2.1), .int (w_0.2.2.2)])), (cs, .inl (G.2.1 2, 6, .inr (.inl (w_0.1)))), (o, .inr (3, [.long ((r_0).toInt64), sv]))]) [1, 2, 0] (by decide) rfl
    refine W.widen (k := 3) (n := 18) (Nat.le_of_ble_eq_true rfl) (Nat.le_of_ble_eq_true rfl) ?_
    exact W.iret (v := (0 : Int32)) hx hb hr (fun t ht hW => ⟨⟨_, (w_0, (r_0).toInt64), rfl, ⟨by rw [hf_0, ky_lw_ok], by rw [hf_0, ky_lw_ok]⟩, by rw [ht]; exact hP9, hD9, trivial⟩, hS.F ht⟩) hS.2.2 dc_L_min_21
set_option linter.constructorNameAsVariable false in
set_option maxHeartbeats 4000000 in
set_option maxRecDepth 100000 in
theorem mt_L_walk (l : Launch) (hl9 : l.stackTraces = false) (G : ky_G) (x : Nat) (cs : Nat) (sc : Nat) (pf : Nat) (u : ky_BS) (o : Nat) (nn : Int64) (sv : Value) (a1 : Int32) (a2 : Int32) (sz : Nat)  : Met l my_L_walk (.codeWith my_L_walk method_24_code 5 (some .int) [(0, 11, 14, 19), (0, 11, 18, 32)] :: ky_B) { frames := 8, cells := 2, slots := 12, locals := 129 } (ky_P G [.ref x, .int (a1), .int (a2), .ref o] (ky_WB G x cs sc pf u ++ ky_WO o nn sv) sz (fun _ => True)) (ky_Q (S := ky_BS × Int64) G (va_A (ky_WB G x cs sc pf u ++ ky_WO o nn sv) sz) (fun v z => v = some (.int (ky_lw (fn_X6_walk a1 a2 u) u nn).1) ∧ z = (ky_lw (fn_X6_walk a1 a2 u) u nn).2) (fun z => ky_WB G x cs sc pf z.1 ++ ky_WO o z.2 sv) (fun _ _ => True)) (2) (12) (va_A (ky_WB G x cs sc pf u ++ ky_WO o nn sv) sz) := by
  refine ky_startH (hh := [(0, 11, 14, 19), (0, 11, 18, 32)]) (by decide) (Nat.le_of_ble_eq_true rfl) (fun p e s m below meth c F hT hE A hAe hsz hA hfr hP hD hS hX ls hl => ?_)
  obtain ⟨hx, hb, hml, hown, hr, hlocks, hts⟩ := id F
  have hl : lv_has ls 5 [(0, .ref x), (1, .int (a1)), (2, .int (a2)), (3, .ref o)] := hl
  have hP : va_P G.1 kcl [(x, .inr (0, [.ref cs, .ref sc, .ref pf, .int (u.2.1), .int (u.2.2.1), .int (u.2.2.2)])), (cs, .inl (G.2.1 2, 6, .inr (.inl (u.1)))), (o, .inr (3, [.long (nn), sv]))] s.heap := hP
  have hD : va_D A [(x, .inr (0, [.ref cs, .ref sc, .ref pf, .int (u.2.1), .int (u.2.2.1), .int (u.2.2.2)])), (cs, .inl (G.2.1 2, 6, .inr (.inl (u.1)))), (o, .inr (3, [.long (nn), sv]))] := hD
  refine lv_aload_n hx hb dc_L_walk_0 rfl (lv_at hl 3 rfl) ?_
  refine lv_aload_n hx hb dc_L_walk_1 rfl (lv_at hl 0 rfl) ?_
  refine lv_iload_n hx hb dc_L_walk_2 rfl (lv_at hl 1 rfl) ?_
  refine lv_iload_n hx hb dc_L_walk_3 rfl (lv_at hl 2 rfl) ?_
  refine ky_cVx (As := [.int (a1), .int (a2)]) (wr := [(o, .inr (3, [.long (nn), sv]))]) F (hE.at hfr hS) hfr (mt_X6_walk l hl9 G x cs sc pf u (a1) (a2) s.heap.size) kv_L_89 ⟨⟨rfl, rfl⟩, Nat.le_of_ble_eq_true rfl, Nat.le_of_ble_eq_true rfl⟩ rfl hl.1 rfl (Nat.le_of_ble_eq_true rfl) ⟨Nat.le_of_ble_eq_true rfl, Nat.le_of_ble_eq_true rfl⟩ (va_recv hE.1 hP (ci := 0) (q0 := 0) rfl rfl) trivial hP hD hS hA [0, 1] [2] rfl rfl (by decide) (by decide) (by decide) dc_L_walk_4 ?_ ?_
  · intro E ce q9 H locs hp hP hD hS hz hk9 hc1 hc2 hc3
    have hP : va_P G.1 kcl [(o, .inr (3, [.long (nn), sv])), (x, .inr (0, [.ref cs, .ref sc, .ref pf, .int (u.2.1), .int (u.2.2.1), .int (u.2.2.2)])), (cs, .inl (G.2.1 2, 6, .inr (.inl (u.1))))] H := hP
    have hD : va_D A [(o, .inr (3, [.long (nn), sv])), (x, .inr (0, [.ref cs, .ref sc, .ref pf, .int (u.2.1), .int (u.2.2.1), .int (u.2.2.2)])), (cs, .inl (G.2.1 2, 6, .inr (.inl (u.1))))] := hD
    have he := on_X6_walk (a1) (a2) u E hp
    rcases he with he | he
    · skip
      subst he
      refine ky_cat1 (h1 := (0, 11, 14, 19)) (name := "java/lang/IndexOutOfBoundsException") hE hown hT (by decide) (by decide) (hts _ kw_4_82) (kc_4 _ (List.mem_of_getElem? (i := 92) rfl)) rfl hc1 hc2 hc3 ?_
      refine W.eq (g2 := F0 m 14 ls [.ref q9]) rfl ?_
      refine W.widen (k := 2) (n := 12) (by first | exact Nat.le_refl _ | omega) (by first | exact Nat.le_refl _ | omega) ?_
      refine lv_astore (lv' := [(4, .ref q9), (0, .ref x), (1, .int (a1)), (2, .int (a2)), (3, .ref o)]) hx hb dc_L_walk_14 hl (by decide) rfl (fun ls hl => ?_)
      refine lv_iconst (v := 1) hx hb dc_L_walk_16 (by decide) ?_
      have hP9 := hP.sub (ws' := [(x, .inr (0, [.ref cs, .ref sc, .ref pf, .int (u.2.1), .int (u.2.2.1), .int (u.2.2.2)])), (cs, .inl (G.2.1 2, 6, .inr (.inl (u.1)))), (o, .inr (3, [.long (nn), sv]))]) [1, 2, 0] rfl
      have hD9 := hD.sub (ws' := [(x, .inr (0, [.ref cs, .ref sc, .ref pf, .int (u.2.1), .int (u.2.2.1), .int (u.2.2.2)])), (cs, .inl (G.2.1 2, 6, .inr (.inl (u.1)))), (o, .inr (3, [.long (nn), sv]))]) [1, 2, 0] (by decide) rfl
      refine W.widen (k := 2) (n := 12) (Nat.le_of_ble_eq_true rfl) (Nat.le_of_ble_eq_true rfl) ?_
      exact W.iret (v := (1 : Int32)) hx hb hr (fun t ht hW => ⟨⟨_, (u, nn), rfl, ⟨by rw [hp, ky_lw_io], by rw [hp, ky_lw_io]⟩, by rw [ht]; exact hP9, hD9, trivial⟩, hS.F ht⟩) hS.2.2 dc_L_walk_17
    · skip
      subst he
      refine ky_cat2 (h1 := (0, 11, 14, 19)) (h2 := (0, 11, 18, 32)) (nm1 := "java/lang/IndexOutOfBoundsException") (name := "java/lang/IllegalArgumentException") hE hown hT (by decide) (by decide) (by decide) (hts _ kw_4_82) ky_noia (hts _ kw_4_132) (kc_2 _ (List.mem_of_getElem? (i := 105) rfl)) rfl hc1 hc2 hc3 ?_
      refine W.eq (g2 := F0 m 18 ls [.ref q9]) rfl ?_
      refine W.widen (k := 2) (n := 12) (by first | exact Nat.le_refl _ | omega) (by first | exact Nat.le_refl _ | omega) ?_
      refine lv_astore (lv' := [(4, .ref q9), (0, .ref x), (1, .int (a1)), (2, .int (a2)), (3, .ref o)]) hx hb dc_L_walk_18 hl (by decide) rfl (fun ls hl => ?_)
      refine lv_iconst (v := 2) hx hb dc_L_walk_20 (by decide) ?_
      have hP9 := hP.sub (ws' := [(x, .inr (0, [.ref cs, .ref sc, .ref pf, .int (u.2.1), .int (u.2.2.1), .int (u.2.2.2)])), (cs, .inl (G.2.1 2, 6, .inr (.inl (u.1)))), (o, .inr (3, [.long (nn), sv]))]) [1, 2, 0] rfl
      have hD9 := hD.sub (ws' := [(x, .inr (0, [.ref cs, .ref sc, .ref pf, .int (u.2.1), .int (u.2.2.1), .int (u.2.2.2)])), (cs, .inl (G.2.1 2, 6, .inr (.inl (u.1)))), (o, .inr (3, [.long (nn), sv]))]) [1, 2, 0] (by decide) rfl
      refine W.widen (k := 2) (n := 12) (Nat.le_of_ble_eq_true rfl) (Nat.le_of_ble_eq_true rfl) ?_
      exact W.iret (v := (2 : Int32)) hx hb hr (fun t ht hW => ⟨⟨_, (u, nn), rfl, ⟨by rw [hp, ky_lw_ia], by rw [hp, ky_lw_ia]⟩, by rw [ht]; exact hP9, hD9, trivial⟩, hS.F ht⟩) hS.2.2 dc_L_walk_21
  · rintro v9 u9 H locs ⟨r_0, w_0, hf_0, rfl, hu9⟩ hP hD hS - hz hk9
    have hu9 := hu9.symm
    subst hu9
    have hP : va_P G.1 kcl [(o, .inr (3, [.long (nn), sv])), (x, .inr (0, [.ref cs, .ref sc, .ref pf, .int (w_0.2.1), .int (w_0.2.2.1), .int (w_0.2.2.2)])), (cs, .inl (G.2.1 2, 6, .inr (.inl (w_0.1))))] H := hP
    have hD : va_D A [(o, .inr (3, [.long (nn), sv])), (x, .inr (0, [.ref cs, .ref sc, .ref pf, .int (w_0.2.1), .int (w_0.2.2.1), .int (w_0.2.2.2)])), (cs, .inl (G.2.1 2, 6, .inr (.inl (w_0.1))))] := hD
    refine W.widen (k := 2) (n := 12) (by first | exact Nat.le_refl _ | omega) (by first | exact Nat.le_refl _ | omega) ?_
    refine lv_i2l (v := (r_0).toInt64) hx hb dc_L_walk_7 rfl ?_
    refine va_putN (D := G.1) (ci := 3) (v := .long ((r_0).toInt64)) (ty := .long) (C := RX7) (T := TX7) (N := 2) hx hb hts ki_X7 tyX7 tyX7_ok nmX7 hown hE.1 hP hD hS 0 rfl rfl 0 (by decide) (va_Nw.use (A := _) rfl (hE.nestF (kc_4 _ (List.mem_of_getElem? (i := 72) rfl)))) (fun _ h9 => h9) rfl (by decide +kernel) rfl rfl (Nat.le_of_ble_eq_true rfl) dc_L_walk_8 (fun H locs hP hD hS => ?_)
    have hP : va_P G.1 kcl [(o, .inr (3, [.long ((r_0).toInt64), sv])), (x, .inr (0, [.ref cs, .ref sc, .ref pf, .int (w_0.2.1), .int (w_0.2.2.1), .int (w_0.2.2.2)])), (cs, .inl (G.2.1 2, 6, .inr (.inl (w_0.1))))] H := hP
    have hD : va_D A [(o, .inr (3, [.long ((r_0).toInt64), sv])), (x, .inr (0, [.ref cs, .ref sc, .ref pf, .int (w_0.2.1), .int (w_0.2.2.1), .int (w_0.2.2.2)])), (cs, .inl (G.2.1 2, 6, .inr (.inl (w_0.1))))] := hD
    refine lv_goto (tgt := 22) hx hb dc_L_walk_11 (by decide) ?_
    refine lv_iconst (v := 0) hx hb dc_L_walk_22 (by decide) ?_
    have hP9 := hP.sub (ws' := [(x, .inr (0, [.ref cs, .ref sc, .ref pf, .int (w_0.2.1), .int (w_0.2.2.1), .int (w_0.2.2.2)])), (cs, .inl (G.2.1 2, 6, .inr (.inl (w_0.1)))), (o, .inr (3, [.long ((r_0).toInt64), sv]))]) [1, 2, 0] rfl
    have hD9 := hD.sub (ws' := [(x, .inr (0, [.ref cs, .ref sc, .ref pf, .int (w_0.2.1), .int (w_0.2.2.1), .int (w_0.2.2.2)])), (cs, .inl (G.2.1 2, 6, .inr (.inl (w_0.1)))), (o, .inr (3, [.long ((r_0).toInt64), sv]))]) [1, 2, 0] (by decide) rfl
    refine W.widen (k := 2) (n := 12) (Nat.le_of_ble_eq_true rfl) (Nat.le_of_ble_eq_true rfl) ?_
    exact W.iret (v := (0 : Int32)) hx hb hr (fun t ht hW => ⟨⟨_, (w_0, (r_0).toInt64), rfl, ⟨by rw [hf_0, ky_lw_ok], by rw [hf_0, ky_lw_ok]⟩, by rw [ht]; exact hP9, hD9, trivial⟩, hS.F ht⟩) hS.2.2 dc_L_walk_23
set_option linter.constructorNameAsVariable false in
set_option maxHeartbeats 4000000 in
set_option maxRecDepth 100000 in
theorem mt_L_kind (l : Launch) (hl9 : l.stackTraces = false) (G : ky_G) (x : Nat) (cs : Nat) (sc : Nat) (pf : Nat) (u : ky_BS) (o : Nat) (nn : Int64) (sv : Value) (a1 : Int32) (sz : Nat)  : Met l my_L_kind (.codeWith my_L_kind method_25_code 4 (some .int) [(0, 10, 13, 19)] :: ky_B) { frames := 8, cells := 1, slots := 6, locals := 123 } (ky_P G [.ref x, .int (a1), .ref o] (ky_WB G x cs sc pf u ++ ky_WO o nn sv) sz (fun _ => True)) (ky_Q (S := ky_BS × Int64) G (va_A (ky_WB G x cs sc pf u ++ ky_WO o nn sv) sz) (fun v z => v = some (.int (ky_lw (fn_X6_kind a1 u) u nn).1) ∧ z = (ky_lw (fn_X6_kind a1 u) u nn).2) (fun z => ky_WB G x cs sc pf z.1 ++ ky_WO o z.2 sv) (fun _ _ => True)) (1) (6) (va_A (ky_WB G x cs sc pf u ++ ky_WO o nn sv) sz) := by
  refine ky_startH (hh := [(0, 10, 13, 19)]) (by decide) (Nat.le_of_ble_eq_true rfl) (fun p e s m below meth c F hT hE A hAe hsz hA hfr hP hD hS hX ls hl => ?_)
  obtain ⟨hx, hb, hml, hown, hr, hlocks, hts⟩ := id F
  have hl : lv_has ls 4 [(0, .ref x), (1, .int (a1)), (2, .ref o)] := hl
  have hP : va_P G.1 kcl [(x, .inr (0, [.ref cs, .ref sc, .ref pf, .int (u.2.1), .int (u.2.2.1), .int (u.2.2.2)])), (cs, .inl (G.2.1 2, 6, .inr (.inl (u.1)))), (o, .inr (3, [.long (nn), sv]))] s.heap := hP
  have hD : va_D A [(x, .inr (0, [.ref cs, .ref sc, .ref pf, .int (u.2.1), .int (u.2.2.1), .int (u.2.2.2)])), (cs, .inl (G.2.1 2, 6, .inr (.inl (u.1)))), (o, .inr (3, [.long (nn), sv]))] := hD
  refine lv_aload_n hx hb dc_L_kind_0 rfl (lv_at hl 2 rfl) ?_
  refine lv_aload_n hx hb dc_L_kind_1 rfl (lv_at hl 0 rfl) ?_
  refine lv_iload_n hx hb dc_L_kind_2 rfl (lv_at hl 1 rfl) ?_
  refine ky_cVx (As := [.int (a1)]) (wr := [(o, .inr (3, [.long (nn), sv]))]) F (hE.at hfr hS) hfr (mt_X6_kind l hl9 G x cs sc pf u (a1) s.heap.size) kv_L_92 ⟨⟨rfl, rfl⟩, Nat.le_of_ble_eq_true rfl, Nat.le_of_ble_eq_true rfl⟩ rfl hl.1 rfl (Nat.le_of_ble_eq_true rfl) ⟨Nat.le_of_ble_eq_true rfl, Nat.le_of_ble_eq_true rfl⟩ (va_recv hE.1 hP (ci := 0) (q0 := 0) rfl rfl) trivial hP hD hS hA [0, 1] [2] rfl rfl (by decide) (by decide) (by decide) dc_L_kind_3 ?_ ?_
  · intro E ce q9 H locs hp hP hD hS hz hk9 hc1 hc2 hc3
    have hP : va_P G.1 kcl [(o, .inr (3, [.long (nn), sv])), (x, .inr (0, [.ref cs, .ref sc, .ref pf, .int (u.2.1), .int (u.2.2.1), .int (u.2.2.2)])), (cs, .inl (G.2.1 2, 6, .inr (.inl (u.1))))] H := hP
    have hD : va_D A [(o, .inr (3, [.long (nn), sv])), (x, .inr (0, [.ref cs, .ref sc, .ref pf, .int (u.2.1), .int (u.2.2.1), .int (u.2.2.2)])), (cs, .inl (G.2.1 2, 6, .inr (.inl (u.1))))] := hD
    have he := on_X6_kind (a1) u E hp
    subst he
    refine ky_cat1 (h1 := (0, 10, 13, 19)) (name := "java/lang/IndexOutOfBoundsException") hE hown hT (by decide) (by decide) (hts _ kw_4_82) (kc_4 _ (List.mem_of_getElem? (i := 92) rfl)) rfl hc1 hc2 hc3 ?_
    refine W.eq (g2 := F0 m 13 ls [.ref q9]) rfl ?_
    refine W.widen (k := 1) (n := 6) (by first | exact Nat.le_refl _ | omega) (by first | exact Nat.le_refl _ | omega) ?_
    refine lv_astore_n (lv' := [(3, .ref q9), (0, .ref x), (1, .int (a1)), (2, .ref o)]) hx hb dc_L_kind_13 rfl hl (by decide) rfl (fun ls hl => ?_)
    refine lv_iconst (v := 1) hx hb dc_L_kind_14 (by decide) ?_
    have hP9 := hP.sub (ws' := [(x, .inr (0, [.ref cs, .ref sc, .ref pf, .int (u.2.1), .int (u.2.2.1), .int (u.2.2.2)])), (cs, .inl (G.2.1 2, 6, .inr (.inl (u.1)))), (o, .inr (3, [.long (nn), sv]))]) [1, 2, 0] rfl
    have hD9 := hD.sub (ws' := [(x, .inr (0, [.ref cs, .ref sc, .ref pf, .int (u.2.1), .int (u.2.2.1), .int (u.2.2.2)])), (cs, .inl (G.2.1 2, 6, .inr (.inl (u.1)))), (o, .inr (3, [.long (nn), sv]))]) [1, 2, 0] (by decide) rfl
    refine W.widen (k := 1) (n := 6) (Nat.le_of_ble_eq_true rfl) (Nat.le_of_ble_eq_true rfl) ?_
    exact W.iret (v := (1 : Int32)) hx hb hr (fun t ht hW => ⟨⟨_, (u, nn), rfl, ⟨by rw [hp, ky_lw_io], by rw [hp, ky_lw_io]⟩, by rw [ht]; exact hP9, hD9, trivial⟩, hS.F ht⟩) hS.2.2 dc_L_kind_15
  · rintro v9 u9 H locs ⟨r_0, w_0, hf_0, rfl, hu9⟩ hP hD hS - hz hk9
    have hu9 := hu9.symm
    subst hu9
    have hP : va_P G.1 kcl [(o, .inr (3, [.long (nn), sv])), (x, .inr (0, [.ref cs, .ref sc, .ref pf, .int (w_0.2.1), .int (w_0.2.2.1), .int (w_0.2.2.2)])), (cs, .inl (G.2.1 2, 6, .inr (.inl (w_0.1))))] H := hP
    have hD : va_D A [(o, .inr (3, [.long (nn), sv])), (x, .inr (0, [.ref cs, .ref sc, .ref pf, .int (w_0.2.1), .int (w_0.2.2.1), .int (w_0.2.2.2)])), (cs, .inl (G.2.1 2, 6, .inr (.inl (w_0.1))))] := hD
    refine W.widen (k := 1) (n := 6) (by first | exact Nat.le_refl _ | omega) (by first | exact Nat.le_refl _ | omega) ?_
    refine lv_i2l (v := (r_0).toInt64) hx hb dc_L_kind_6 rfl ?_
    refine va_putN (D := G.1) (ci := 3) (v := .long ((r_0).toInt64)) (ty := .long) (C := RX7) (T := TX7) (N := 2) hx hb hts ki_X7 tyX7 tyX7_ok nmX7 hown hE.1 hP hD hS 0 rfl rfl 0 (by decide) (va_Nw.use (A := _) rfl (hE.nestF (kc_4 _ (List.mem_of_getElem? (i := 72) rfl)))) (fun _ h9 => h9) rfl (by decide +kernel) rfl rfl (Nat.le_of_ble_eq_true rfl) dc_L_kind_7 (fun H locs hP hD hS => ?_)
    have hP : va_P G.1 kcl [(o, .inr (3, [.long ((r_0).toInt64), sv])), (x, .inr (0, [.ref cs, .ref sc, .ref pf, .int (w_0.2.1), .int (w_0.2.2.1), .int (w_0.2.2.2)])), (cs, .inl (G.2.1 2, 6, .inr (.inl (w_0.1))))] H := hP
    have hD : va_D A [(o, .inr (3, [.long ((r_0).toInt64), sv])), (x, .inr (0, [.ref cs, .ref sc, .ref pf, .int (w_0.2.1), .int (w_0.2.2.1), .int (w_0.2.2.2)])), (cs, .inl (G.2.1 2, 6, .inr (.inl (w_0.1))))] := hD
    refine lv_goto (tgt := 16) hx hb dc_L_kind_10 (by decide) ?_
    refine lv_iconst (v := 0) hx hb dc_L_kind_16 (by decide) ?_
    have hP9 := hP.sub (ws' := [(x, .inr (0, [.ref cs, .ref sc, .ref pf, .int (w_0.2.1), .int (w_0.2.2.1), .int (w_0.2.2.2)])), (cs, .inl (G.2.1 2, 6, .inr (.inl (w_0.1)))), (o, .inr (3, [.long ((r_0).toInt64), sv]))]) [1, 2, 0] rfl
    have hD9 := hD.sub (ws' := [(x, .inr (0, [.ref cs, .ref sc, .ref pf, .int (w_0.2.1), .int (w_0.2.2.1), .int (w_0.2.2.2)])), (cs, .inl (G.2.1 2, 6, .inr (.inl (w_0.1)))), (o, .inr (3, [.long ((r_0).toInt64), sv]))]) [1, 2, 0] (by decide) rfl
    refine W.widen (k := 1) (n := 6) (Nat.le_of_ble_eq_true rfl) (Nat.le_of_ble_eq_true rfl) ?_
    exact W.iret (v := (0 : Int32)) hx hb hr (fun t ht hW => ⟨⟨_, (w_0, (r_0).toInt64), rfl, ⟨by rw [hf_0, ky_lw_ok], by rw [hf_0, ky_lw_ok]⟩, by rw [ht]; exact hP9, hD9, trivial⟩, hS.F ht⟩) hS.2.2 dc_L_kind_17
set_option linter.constructorNameAsVariable false in
set_option maxHeartbeats 4000000 in
set_option maxRecDepth 100000 in
theorem mt_L_digits (l : Launch) (hl9 : l.stackTraces = false) (G : ky_G) (x : Nat) (cs : Nat) (sc : Nat) (pf : Nat) (u : ky_BS) (o : Nat) (nn : Int64) (sv : Value) (a1 : Int32) (a2 : Int32) (sz : Nat)  : Met l my_L_digits (.codeWith my_L_digits method_26_code 5 (some .int) [(0, 11, 14, 19), (0, 11, 18, 32)] :: ky_B) { frames := 8, cells := 2, slots := 12, locals := 126 } (ky_P G [.ref x, .int (a1), .int (a2), .ref o] (ky_WB G x cs sc pf u ++ ky_WO o nn sv) sz (fun _ => True)) (ky_Q (S := ky_BS × Int64) G (va_A (ky_WB G x cs sc pf u ++ ky_WO o nn sv) sz) (fun v z => v = some (.int (ky_lw (fn_X6_digits a1 a2 u) u nn).1) ∧ z = (ky_lw (fn_X6_digits a1 a2 u) u nn).2) (fun z => ky_WB G x cs sc pf z.1 ++ ky_WO o z.2 sv) (fun _ _ => True)) (2) (12) (va_A (ky_WB G x cs sc pf u ++ ky_WO o nn sv) sz) := by
  refine ky_startH (hh := [(0, 11, 14, 19), (0, 11, 18, 32)]) (by decide) (Nat.le_of_ble_eq_true rfl) (fun p e s m below meth c F hT hE A hAe hsz hA hfr hP hD hS hX ls hl => ?_)
  obtain ⟨hx, hb, hml, hown, hr, hlocks, hts⟩ := id F
  have hl : lv_has ls 5 [(0, .ref x), (1, .int (a1)), (2, .int (a2)), (3, .ref o)] := hl
  have hP : va_P G.1 kcl [(x, .inr (0, [.ref cs, .ref sc, .ref pf, .int (u.2.1), .int (u.2.2.1), .int (u.2.2.2)])), (cs, .inl (G.2.1 2, 6, .inr (.inl (u.1)))), (o, .inr (3, [.long (nn), sv]))] s.heap := hP
  have hD : va_D A [(x, .inr (0, [.ref cs, .ref sc, .ref pf, .int (u.2.1), .int (u.2.2.1), .int (u.2.2.2)])), (cs, .inl (G.2.1 2, 6, .inr (.inl (u.1)))), (o, .inr (3, [.long (nn), sv]))] := hD
  refine lv_aload_n hx hb dc_L_digits_0 rfl (lv_at hl 3 rfl) ?_
  refine lv_aload_n hx hb dc_L_digits_1 rfl (lv_at hl 0 rfl) ?_
  refine lv_iload_n hx hb dc_L_digits_2 rfl (lv_at hl 1 rfl) ?_
  refine lv_iload_n hx hb dc_L_digits_3 rfl (lv_at hl 2 rfl) ?_
  refine ky_cVx (As := [.int (a1), .int (a2)]) (wr := [(o, .inr (3, [.long (nn), sv]))]) F (hE.at hfr hS) hfr (mt_X6_digits l hl9 G x cs sc pf u (a1) (a2) s.heap.size) kv_L_96 ⟨⟨rfl, rfl⟩, Nat.le_of_ble_eq_true rfl, Nat.le_of_ble_eq_true rfl⟩ rfl hl.1 rfl (Nat.le_of_ble_eq_true rfl) ⟨Nat.le_of_ble_eq_true rfl, Nat.le_of_ble_eq_true rfl⟩ (va_recv hE.1 hP (ci := 0) (q0 := 0) rfl rfl) trivial hP hD hS hA [0, 1] [2] rfl rfl (by decide) (by decide) (by decide) dc_L_digits_4 ?_ ?_
  · intro E ce q9 H locs hp hP hD hS hz hk9 hc1 hc2 hc3
    have hP : va_P G.1 kcl [(o, .inr (3, [.long (nn), sv])), (x, .inr (0, [.ref cs, .ref sc, .ref pf, .int (u.2.1), .int (u.2.2.1), .int (u.2.2.2)])), (cs, .inl (G.2.1 2, 6, .inr (.inl (u.1))))] H := hP
    have hD : va_D A [(o, .inr (3, [.long (nn), sv])), (x, .inr (0, [.ref cs, .ref sc, .ref pf, .int (u.2.1), .int (u.2.2.1), .int (u.2.2.2)])), (cs, .inl (G.2.1 2, 6, .inr (.inl (u.1))))] := hD
    have he := on_X6_digits (a1) (a2) u E hp
    rcases he with he | he
    · skip
      subst he
      refine ky_cat1 (h1 := (0, 11, 14, 19)) (name := "java/lang/IndexOutOfBoundsException") hE hown hT (by decide) (by decide) (hts _ kw_4_82) (kc_4 _ (List.mem_of_getElem? (i := 92) rfl)) rfl hc1 hc2 hc3 ?_
      refine W.eq (g2 := F0 m 14 ls [.ref q9]) rfl ?_
      refine W.widen (k := 2) (n := 12) (by first | exact Nat.le_refl _ | omega) (by first | exact Nat.le_refl _ | omega) ?_
      refine lv_astore (lv' := [(4, .ref q9), (0, .ref x), (1, .int (a1)), (2, .int (a2)), (3, .ref o)]) hx hb dc_L_digits_14 hl (by decide) rfl (fun ls hl => ?_)
      refine lv_iconst (v := 1) hx hb dc_L_digits_16 (by decide) ?_
      have hP9 := hP.sub (ws' := [(x, .inr (0, [.ref cs, .ref sc, .ref pf, .int (u.2.1), .int (u.2.2.1), .int (u.2.2.2)])), (cs, .inl (G.2.1 2, 6, .inr (.inl (u.1)))), (o, .inr (3, [.long (nn), sv]))]) [1, 2, 0] rfl
      have hD9 := hD.sub (ws' := [(x, .inr (0, [.ref cs, .ref sc, .ref pf, .int (u.2.1), .int (u.2.2.1), .int (u.2.2.2)])), (cs, .inl (G.2.1 2, 6, .inr (.inl (u.1)))), (o, .inr (3, [.long (nn), sv]))]) [1, 2, 0] (by decide) rfl
      refine W.widen (k := 2) (n := 12) (Nat.le_of_ble_eq_true rfl) (Nat.le_of_ble_eq_true rfl) ?_
      exact W.iret (v := (1 : Int32)) hx hb hr (fun t ht hW => ⟨⟨_, (u, nn), rfl, ⟨by rw [hp, ky_lw_io], by rw [hp, ky_lw_io]⟩, by rw [ht]; exact hP9, hD9, trivial⟩, hS.F ht⟩) hS.2.2 dc_L_digits_17
    · skip
      subst he
      refine ky_cat2 (h1 := (0, 11, 14, 19)) (h2 := (0, 11, 18, 32)) (nm1 := "java/lang/IndexOutOfBoundsException") (name := "java/lang/IllegalArgumentException") hE hown hT (by decide) (by decide) (by decide) (hts _ kw_4_82) ky_noia (hts _ kw_4_132) (kc_2 _ (List.mem_of_getElem? (i := 105) rfl)) rfl hc1 hc2 hc3 ?_
      refine W.eq (g2 := F0 m 18 ls [.ref q9]) rfl ?_
      refine W.widen (k := 2) (n := 12) (by first | exact Nat.le_refl _ | omega) (by first | exact Nat.le_refl _ | omega) ?_
      refine lv_astore (lv' := [(4, .ref q9), (0, .ref x), (1, .int (a1)), (2, .int (a2)), (3, .ref o)]) hx hb dc_L_digits_18 hl (by decide) rfl (fun ls hl => ?_)
      refine lv_iconst (v := 2) hx hb dc_L_digits_20 (by decide) ?_
      have hP9 := hP.sub (ws' := [(x, .inr (0, [.ref cs, .ref sc, .ref pf, .int (u.2.1), .int (u.2.2.1), .int (u.2.2.2)])), (cs, .inl (G.2.1 2, 6, .inr (.inl (u.1)))), (o, .inr (3, [.long (nn), sv]))]) [1, 2, 0] rfl
      have hD9 := hD.sub (ws' := [(x, .inr (0, [.ref cs, .ref sc, .ref pf, .int (u.2.1), .int (u.2.2.1), .int (u.2.2.2)])), (cs, .inl (G.2.1 2, 6, .inr (.inl (u.1)))), (o, .inr (3, [.long (nn), sv]))]) [1, 2, 0] (by decide) rfl
      refine W.widen (k := 2) (n := 12) (Nat.le_of_ble_eq_true rfl) (Nat.le_of_ble_eq_true rfl) ?_
      exact W.iret (v := (2 : Int32)) hx hb hr (fun t ht hW => ⟨⟨_, (u, nn), rfl, ⟨by rw [hp, ky_lw_ia], by rw [hp, ky_lw_ia]⟩, by rw [ht]; exact hP9, hD9, trivial⟩, hS.F ht⟩) hS.2.2 dc_L_digits_21
  · rintro v9 u9 H locs ⟨r_0, w_0, hf_0, rfl, hu9⟩ hP hD hS - hz hk9
    have hu9 := hu9.symm
    subst hu9
    have hP : va_P G.1 kcl [(o, .inr (3, [.long (nn), sv])), (x, .inr (0, [.ref cs, .ref sc, .ref pf, .int (w_0.2.1), .int (w_0.2.2.1), .int (w_0.2.2.2)])), (cs, .inl (G.2.1 2, 6, .inr (.inl (w_0.1))))] H := hP
    have hD : va_D A [(o, .inr (3, [.long (nn), sv])), (x, .inr (0, [.ref cs, .ref sc, .ref pf, .int (w_0.2.1), .int (w_0.2.2.1), .int (w_0.2.2.2)])), (cs, .inl (G.2.1 2, 6, .inr (.inl (w_0.1))))] := hD
    refine W.widen (k := 2) (n := 12) (by first | exact Nat.le_refl _ | omega) (by first | exact Nat.le_refl _ | omega) ?_
    refine lv_i2l (v := (r_0).toInt64) hx hb dc_L_digits_7 rfl ?_
    refine va_putN (D := G.1) (ci := 3) (v := .long ((r_0).toInt64)) (ty := .long) (C := RX7) (T := TX7) (N := 2) hx hb hts ki_X7 tyX7 tyX7_ok nmX7 hown hE.1 hP hD hS 0 rfl rfl 0 (by decide) (va_Nw.use (A := _) rfl (hE.nestF (kc_4 _ (List.mem_of_getElem? (i := 72) rfl)))) (fun _ h9 => h9) rfl (by decide +kernel) rfl rfl (Nat.le_of_ble_eq_true rfl) dc_L_digits_8 (fun H locs hP hD hS => ?_)
    have hP : va_P G.1 kcl [(o, .inr (3, [.long ((r_0).toInt64), sv])), (x, .inr (0, [.ref cs, .ref sc, .ref pf, .int (w_0.2.1), .int (w_0.2.2.1), .int (w_0.2.2.2)])), (cs, .inl (G.2.1 2, 6, .inr (.inl (w_0.1))))] H := hP
    have hD : va_D A [(o, .inr (3, [.long ((r_0).toInt64), sv])), (x, .inr (0, [.ref cs, .ref sc, .ref pf, .int (w_0.2.1), .int (w_0.2.2.1), .int (w_0.2.2.2)])), (cs, .inl (G.2.1 2, 6, .inr (.inl (w_0.1))))] := hD
    refine lv_goto (tgt := 22) hx hb dc_L_digits_11 (by decide) ?_
    refine lv_iconst (v := 0) hx hb dc_L_digits_22 (by decide) ?_
    have hP9 := hP.sub (ws' := [(x, .inr (0, [.ref cs, .ref sc, .ref pf, .int (w_0.2.1), .int (w_0.2.2.1), .int (w_0.2.2.2)])), (cs, .inl (G.2.1 2, 6, .inr (.inl (w_0.1)))), (o, .inr (3, [.long ((r_0).toInt64), sv]))]) [1, 2, 0] rfl
    have hD9 := hD.sub (ws' := [(x, .inr (0, [.ref cs, .ref sc, .ref pf, .int (w_0.2.1), .int (w_0.2.2.1), .int (w_0.2.2.2)])), (cs, .inl (G.2.1 2, 6, .inr (.inl (w_0.1)))), (o, .inr (3, [.long ((r_0).toInt64), sv]))]) [1, 2, 0] (by decide) rfl
    refine W.widen (k := 2) (n := 12) (Nat.le_of_ble_eq_true rfl) (Nat.le_of_ble_eq_true rfl) ?_
    exact W.iret (v := (0 : Int32)) hx hb hr (fun t ht hW => ⟨⟨_, (w_0, (r_0).toInt64), rfl, ⟨by rw [hf_0, ky_lw_ok], by rw [hf_0, ky_lw_ok]⟩, by rw [ht]; exact hP9, hD9, trivial⟩, hS.F ht⟩) hS.2.2 dc_L_digits_23
set_option linter.constructorNameAsVariable false in
set_option maxHeartbeats 4000000 in
set_option maxRecDepth 100000 in
theorem mt_L_exponent (l : Launch) (hl9 : l.stackTraces = false) (G : ky_G) (x : Nat) (cs : Nat) (sc : Nat) (pf : Nat) (u : ky_BS) (o : Nat) (nn : Int64) (sv : Value) (a1 : Int32) (sz : Nat)  : Met l my_L_exponent (.codeWith my_L_exponent method_28_code 4 (some .int) [(0, 10, 13, 19)] :: ky_B) { frames := 8, cells := 1, slots := 6, locals := 123 } (ky_P G [.ref x, .int (a1), .ref o] (ky_WB G x cs sc pf u ++ ky_WO o nn sv) sz (fun _ => True)) (ky_Q (S := ky_BS × Int64) G (va_A (ky_WB G x cs sc pf u ++ ky_WO o nn sv) sz) (fun v z => v = some (.int (ky_lw (fn_X6_exponent a1 u) u nn).1) ∧ z = (ky_lw (fn_X6_exponent a1 u) u nn).2) (fun z => ky_WB G x cs sc pf z.1 ++ ky_WO o z.2 sv) (fun _ _ => True)) (1) (6) (va_A (ky_WB G x cs sc pf u ++ ky_WO o nn sv) sz) := by
  refine ky_startH (hh := [(0, 10, 13, 19)]) (by decide) (Nat.le_of_ble_eq_true rfl) (fun p e s m below meth c F hT hE A hAe hsz hA hfr hP hD hS hX ls hl => ?_)
  obtain ⟨hx, hb, hml, hown, hr, hlocks, hts⟩ := id F
  have hl : lv_has ls 4 [(0, .ref x), (1, .int (a1)), (2, .ref o)] := hl
  have hP : va_P G.1 kcl [(x, .inr (0, [.ref cs, .ref sc, .ref pf, .int (u.2.1), .int (u.2.2.1), .int (u.2.2.2)])), (cs, .inl (G.2.1 2, 6, .inr (.inl (u.1)))), (o, .inr (3, [.long (nn), sv]))] s.heap := hP
  have hD : va_D A [(x, .inr (0, [.ref cs, .ref sc, .ref pf, .int (u.2.1), .int (u.2.2.1), .int (u.2.2.2)])), (cs, .inl (G.2.1 2, 6, .inr (.inl (u.1)))), (o, .inr (3, [.long (nn), sv]))] := hD
  refine lv_aload_n hx hb dc_L_exponent_0 rfl (lv_at hl 2 rfl) ?_
  refine lv_aload_n hx hb dc_L_exponent_1 rfl (lv_at hl 0 rfl) ?_
  refine lv_iload_n hx hb dc_L_exponent_2 rfl (lv_at hl 1 rfl) ?_
  refine ky_cVx (As := [.int (a1)]) (wr := [(o, .inr (3, [.long (nn), sv]))]) F (hE.at hfr hS) hfr (mt_X6_exponent l hl9 G x cs sc pf u (a1) s.heap.size) kv_L_107 ⟨⟨rfl, rfl⟩, Nat.le_of_ble_eq_true rfl, Nat.le_of_ble_eq_true rfl⟩ rfl hl.1 rfl (Nat.le_of_ble_eq_true rfl) ⟨Nat.le_of_ble_eq_true rfl, Nat.le_of_ble_eq_true rfl⟩ (va_recv hE.1 hP (ci := 0) (q0 := 0) rfl rfl) trivial hP hD hS hA [0, 1] [2] rfl rfl (by decide) (by decide) (by decide) dc_L_exponent_3 ?_ ?_
  · intro E ce q9 H locs hp hP hD hS hz hk9 hc1 hc2 hc3
    have hP : va_P G.1 kcl [(o, .inr (3, [.long (nn), sv])), (x, .inr (0, [.ref cs, .ref sc, .ref pf, .int (u.2.1), .int (u.2.2.1), .int (u.2.2.2)])), (cs, .inl (G.2.1 2, 6, .inr (.inl (u.1))))] H := hP
    have hD : va_D A [(o, .inr (3, [.long (nn), sv])), (x, .inr (0, [.ref cs, .ref sc, .ref pf, .int (u.2.1), .int (u.2.2.1), .int (u.2.2.2)])), (cs, .inl (G.2.1 2, 6, .inr (.inl (u.1))))] := hD
    have he := on_X6_exponent (a1) u E hp
    subst he
    refine ky_cat1 (h1 := (0, 10, 13, 19)) (name := "java/lang/IndexOutOfBoundsException") hE hown hT (by decide) (by decide) (hts _ kw_4_82) (kc_4 _ (List.mem_of_getElem? (i := 92) rfl)) rfl hc1 hc2 hc3 ?_
    refine W.eq (g2 := F0 m 13 ls [.ref q9]) rfl ?_
    refine W.widen (k := 1) (n := 6) (by first | exact Nat.le_refl _ | omega) (by first | exact Nat.le_refl _ | omega) ?_
    refine lv_astore_n (lv' := [(3, .ref q9), (0, .ref x), (1, .int (a1)), (2, .ref o)]) hx hb dc_L_exponent_13 rfl hl (by decide) rfl (fun ls hl => ?_)
    refine lv_iconst (v := 1) hx hb dc_L_exponent_14 (by decide) ?_
    have hP9 := hP.sub (ws' := [(x, .inr (0, [.ref cs, .ref sc, .ref pf, .int (u.2.1), .int (u.2.2.1), .int (u.2.2.2)])), (cs, .inl (G.2.1 2, 6, .inr (.inl (u.1)))), (o, .inr (3, [.long (nn), sv]))]) [1, 2, 0] rfl
    have hD9 := hD.sub (ws' := [(x, .inr (0, [.ref cs, .ref sc, .ref pf, .int (u.2.1), .int (u.2.2.1), .int (u.2.2.2)])), (cs, .inl (G.2.1 2, 6, .inr (.inl (u.1)))), (o, .inr (3, [.long (nn), sv]))]) [1, 2, 0] (by decide) rfl
    refine W.widen (k := 1) (n := 6) (Nat.le_of_ble_eq_true rfl) (Nat.le_of_ble_eq_true rfl) ?_
    exact W.iret (v := (1 : Int32)) hx hb hr (fun t ht hW => ⟨⟨_, (u, nn), rfl, ⟨by rw [hp, ky_lw_io], by rw [hp, ky_lw_io]⟩, by rw [ht]; exact hP9, hD9, trivial⟩, hS.F ht⟩) hS.2.2 dc_L_exponent_15
  · rintro v9 u9 H locs ⟨r_0, w_0, hf_0, rfl, hu9⟩ hP hD hS - hz hk9
    have hu9 := hu9.symm
    subst hu9
    have hP : va_P G.1 kcl [(o, .inr (3, [.long (nn), sv])), (x, .inr (0, [.ref cs, .ref sc, .ref pf, .int (w_0.2.1), .int (w_0.2.2.1), .int (w_0.2.2.2)])), (cs, .inl (G.2.1 2, 6, .inr (.inl (w_0.1))))] H := hP
    have hD : va_D A [(o, .inr (3, [.long (nn), sv])), (x, .inr (0, [.ref cs, .ref sc, .ref pf, .int (w_0.2.1), .int (w_0.2.2.1), .int (w_0.2.2.2)])), (cs, .inl (G.2.1 2, 6, .inr (.inl (w_0.1))))] := hD
    refine W.widen (k := 1) (n := 6) (by first | exact Nat.le_refl _ | omega) (by first | exact Nat.le_refl _ | omega) ?_
    refine lv_i2l (v := (r_0).toInt64) hx hb dc_L_exponent_6 rfl ?_
    refine va_putN (D := G.1) (ci := 3) (v := .long ((r_0).toInt64)) (ty := .long) (C := RX7) (T := TX7) (N := 2) hx hb hts ki_X7 tyX7 tyX7_ok nmX7 hown hE.1 hP hD hS 0 rfl rfl 0 (by decide) (va_Nw.use (A := _) rfl (hE.nestF (kc_4 _ (List.mem_of_getElem? (i := 72) rfl)))) (fun _ h9 => h9) rfl (by decide +kernel) rfl rfl (Nat.le_of_ble_eq_true rfl) dc_L_exponent_7 (fun H locs hP hD hS => ?_)
    have hP : va_P G.1 kcl [(o, .inr (3, [.long ((r_0).toInt64), sv])), (x, .inr (0, [.ref cs, .ref sc, .ref pf, .int (w_0.2.1), .int (w_0.2.2.1), .int (w_0.2.2.2)])), (cs, .inl (G.2.1 2, 6, .inr (.inl (w_0.1))))] H := hP
    have hD : va_D A [(o, .inr (3, [.long ((r_0).toInt64), sv])), (x, .inr (0, [.ref cs, .ref sc, .ref pf, .int (w_0.2.1), .int (w_0.2.2.1), .int (w_0.2.2.2)])), (cs, .inl (G.2.1 2, 6, .inr (.inl (w_0.1))))] := hD
    refine lv_goto (tgt := 16) hx hb dc_L_exponent_10 (by decide) ?_
    refine lv_iconst (v := 0) hx hb dc_L_exponent_16 (by decide) ?_
    have hP9 := hP.sub (ws' := [(x, .inr (0, [.ref cs, .ref sc, .ref pf, .int (w_0.2.1), .int (w_0.2.2.1), .int (w_0.2.2.2)])), (cs, .inl (G.2.1 2, 6, .inr (.inl (w_0.1)))), (o, .inr (3, [.long ((r_0).toInt64), sv]))]) [1, 2, 0] rfl
    have hD9 := hD.sub (ws' := [(x, .inr (0, [.ref cs, .ref sc, .ref pf, .int (w_0.2.1), .int (w_0.2.2.1), .int (w_0.2.2.2)])), (cs, .inl (G.2.1 2, 6, .inr (.inl (w_0.1)))), (o, .inr (3, [.long ((r_0).toInt64), sv]))]) [1, 2, 0] (by decide) rfl
    refine W.widen (k := 1) (n := 6) (Nat.le_of_ble_eq_true rfl) (Nat.le_of_ble_eq_true rfl) ?_
    exact W.iret (v := (0 : Int32)) hx hb hr (fun t ht hW => ⟨⟨_, (w_0, (r_0).toInt64), rfl, ⟨by rw [hf_0, ky_lw_ok], by rw [hf_0, ky_lw_ok]⟩, by rw [ht]; exact hP9, hD9, trivial⟩, hS.F ht⟩) hS.2.2 dc_L_exponent_17
set_option linter.constructorNameAsVariable false in
set_option maxHeartbeats 4000000 in
set_option maxRecDepth 100000 in
theorem mt_L_round (l : Launch) (hl9 : l.stackTraces = false) (G : ky_G) (x : Nat) (cs : Nat) (sc : Nat) (pf : Nat) (u : ky_BS) (o : Nat) (nn : Int64) (sv : Value) (a1 : Int32) (a2 : Int32) (sz : Nat)  : Met l my_L_round (.codeWith my_L_round method_29_code 5 (some .int) [(0, 11, 14, 19)] :: ky_B) { frames := 8, cells := 1, slots := 6, locals := 124 } (ky_P G [.ref x, .int (a1), .int (a2), .ref o] (ky_WB G x cs sc pf u ++ ky_WO o nn sv) sz (fun _ => True)) (ky_Q (S := ky_BS × Int64) G (va_A (ky_WB G x cs sc pf u ++ ky_WO o nn sv) sz) (fun v z => v = some (.int (ky_lw (fn_X6_round a1 a2 u) u nn).1) ∧ z = (ky_lw (fn_X6_round a1 a2 u) u nn).2) (fun z => ky_WB G x cs sc pf z.1 ++ ky_WO o z.2 sv) (fun _ _ => True)) (1) (6) (va_A (ky_WB G x cs sc pf u ++ ky_WO o nn sv) sz) := by
  refine ky_startH (hh := [(0, 11, 14, 19)]) (by decide) (Nat.le_of_ble_eq_true rfl) (fun p e s m below meth c F hT hE A hAe hsz hA hfr hP hD hS hX ls hl => ?_)
  obtain ⟨hx, hb, hml, hown, hr, hlocks, hts⟩ := id F
  have hl : lv_has ls 5 [(0, .ref x), (1, .int (a1)), (2, .int (a2)), (3, .ref o)] := hl
  have hP : va_P G.1 kcl [(x, .inr (0, [.ref cs, .ref sc, .ref pf, .int (u.2.1), .int (u.2.2.1), .int (u.2.2.2)])), (cs, .inl (G.2.1 2, 6, .inr (.inl (u.1)))), (o, .inr (3, [.long (nn), sv]))] s.heap := hP
  have hD : va_D A [(x, .inr (0, [.ref cs, .ref sc, .ref pf, .int (u.2.1), .int (u.2.2.1), .int (u.2.2.2)])), (cs, .inl (G.2.1 2, 6, .inr (.inl (u.1)))), (o, .inr (3, [.long (nn), sv]))] := hD
  refine lv_aload_n hx hb dc_L_round_0 rfl (lv_at hl 3 rfl) ?_
  refine lv_aload_n hx hb dc_L_round_1 rfl (lv_at hl 0 rfl) ?_
  refine lv_iload_n hx hb dc_L_round_2 rfl (lv_at hl 1 rfl) ?_
  refine lv_iload_n hx hb dc_L_round_3 rfl (lv_at hl 2 rfl) ?_
  refine ky_cVx (As := [.int (a1), .int (a2)]) (wr := [(o, .inr (3, [.long (nn), sv]))]) F (hE.at hfr hS) hfr (mt_X6_round l hl9 G x cs sc pf u (a1) (a2) s.heap.size) kv_L_110 ⟨⟨rfl, rfl⟩, Nat.le_of_ble_eq_true rfl, Nat.le_of_ble_eq_true rfl⟩ rfl hl.1 rfl (Nat.le_of_ble_eq_true rfl) ⟨Nat.le_of_ble_eq_true rfl, Nat.le_of_ble_eq_true rfl⟩ (va_recv hE.1 hP (ci := 0) (q0 := 0) rfl rfl) trivial hP hD hS hA [0, 1] [2] rfl rfl (by decide) (by decide) (by decide) dc_L_round_4 ?_ ?_
  · intro E ce q9 H locs hp hP hD hS hz hk9 hc1 hc2 hc3
    have hP : va_P G.1 kcl [(o, .inr (3, [.long (nn), sv])), (x, .inr (0, [.ref cs, .ref sc, .ref pf, .int (u.2.1), .int (u.2.2.1), .int (u.2.2.2)])), (cs, .inl (G.2.1 2, 6, .inr (.inl (u.1))))] H := hP
    have hD : va_D A [(o, .inr (3, [.long (nn), sv])), (x, .inr (0, [.ref cs, .ref sc, .ref pf, .int (u.2.1), .int (u.2.2.1), .int (u.2.2.2)])), (cs, .inl (G.2.1 2, 6, .inr (.inl (u.1))))] := hD
    have he := on_X6_round (a1) (a2) u E hp
    subst he
    refine ky_cat1 (h1 := (0, 11, 14, 19)) (name := "java/lang/IndexOutOfBoundsException") hE hown hT (by decide) (by decide) (hts _ kw_4_82) (kc_4 _ (List.mem_of_getElem? (i := 92) rfl)) rfl hc1 hc2 hc3 ?_
    refine W.eq (g2 := F0 m 14 ls [.ref q9]) rfl ?_
    refine W.widen (k := 1) (n := 6) (by first | exact Nat.le_refl _ | omega) (by first | exact Nat.le_refl _ | omega) ?_
    refine lv_astore (lv' := [(4, .ref q9), (0, .ref x), (1, .int (a1)), (2, .int (a2)), (3, .ref o)]) hx hb dc_L_round_14 hl (by decide) rfl (fun ls hl => ?_)
    refine lv_iconst (v := 1) hx hb dc_L_round_16 (by decide) ?_
    have hP9 := hP.sub (ws' := [(x, .inr (0, [.ref cs, .ref sc, .ref pf, .int (u.2.1), .int (u.2.2.1), .int (u.2.2.2)])), (cs, .inl (G.2.1 2, 6, .inr (.inl (u.1)))), (o, .inr (3, [.long (nn), sv]))]) [1, 2, 0] rfl
    have hD9 := hD.sub (ws' := [(x, .inr (0, [.ref cs, .ref sc, .ref pf, .int (u.2.1), .int (u.2.2.1), .int (u.2.2.2)])), (cs, .inl (G.2.1 2, 6, .inr (.inl (u.1)))), (o, .inr (3, [.long (nn), sv]))]) [1, 2, 0] (by decide) rfl
    refine W.widen (k := 1) (n := 6) (Nat.le_of_ble_eq_true rfl) (Nat.le_of_ble_eq_true rfl) ?_
    exact W.iret (v := (1 : Int32)) hx hb hr (fun t ht hW => ⟨⟨_, (u, nn), rfl, ⟨by rw [hp, ky_lw_io], by rw [hp, ky_lw_io]⟩, by rw [ht]; exact hP9, hD9, trivial⟩, hS.F ht⟩) hS.2.2 dc_L_round_17
  · rintro v9 u9 H locs ⟨r_0, w_0, hf_0, rfl, hu9⟩ hP hD hS - hz hk9
    have hu9 := hu9.symm
    subst hu9
    have hP : va_P G.1 kcl [(o, .inr (3, [.long (nn), sv])), (x, .inr (0, [.ref cs, .ref sc, .ref pf, .int (w_0.2.1), .int (w_0.2.2.1), .int (w_0.2.2.2)])), (cs, .inl (G.2.1 2, 6, .inr (.inl (w_0.1))))] H := hP
    have hD : va_D A [(o, .inr (3, [.long (nn), sv])), (x, .inr (0, [.ref cs, .ref sc, .ref pf, .int (w_0.2.1), .int (w_0.2.2.1), .int (w_0.2.2.2)])), (cs, .inl (G.2.1 2, 6, .inr (.inl (w_0.1))))] := hD
    refine W.widen (k := 1) (n := 6) (by first | exact Nat.le_refl _ | omega) (by first | exact Nat.le_refl _ | omega) ?_
    refine lv_i2l (v := (r_0).toInt64) hx hb dc_L_round_7 rfl ?_
    refine va_putN (D := G.1) (ci := 3) (v := .long ((r_0).toInt64)) (ty := .long) (C := RX7) (T := TX7) (N := 2) hx hb hts ki_X7 tyX7 tyX7_ok nmX7 hown hE.1 hP hD hS 0 rfl rfl 0 (by decide) (va_Nw.use (A := _) rfl (hE.nestF (kc_4 _ (List.mem_of_getElem? (i := 72) rfl)))) (fun _ h9 => h9) rfl (by decide +kernel) rfl rfl (Nat.le_of_ble_eq_true rfl) dc_L_round_8 (fun H locs hP hD hS => ?_)
    have hP : va_P G.1 kcl [(o, .inr (3, [.long ((r_0).toInt64), sv])), (x, .inr (0, [.ref cs, .ref sc, .ref pf, .int (w_0.2.1), .int (w_0.2.2.1), .int (w_0.2.2.2)])), (cs, .inl (G.2.1 2, 6, .inr (.inl (w_0.1))))] H := hP
    have hD : va_D A [(o, .inr (3, [.long ((r_0).toInt64), sv])), (x, .inr (0, [.ref cs, .ref sc, .ref pf, .int (w_0.2.1), .int (w_0.2.2.1), .int (w_0.2.2.2)])), (cs, .inl (G.2.1 2, 6, .inr (.inl (w_0.1))))] := hD
    refine lv_goto (tgt := 18) hx hb dc_L_round_11 (by decide) ?_
    refine lv_iconst (v := 0) hx hb dc_L_round_18 (by decide) ?_
    have hP9 := hP.sub (ws' := [(x, .inr (0, [.ref cs, .ref sc, .ref pf, .int (w_0.2.1), .int (w_0.2.2.1), .int (w_0.2.2.2)])), (cs, .inl (G.2.1 2, 6, .inr (.inl (w_0.1)))), (o, .inr (3, [.long ((r_0).toInt64), sv]))]) [1, 2, 0] rfl
    have hD9 := hD.sub (ws' := [(x, .inr (0, [.ref cs, .ref sc, .ref pf, .int (w_0.2.1), .int (w_0.2.2.1), .int (w_0.2.2.2)])), (cs, .inl (G.2.1 2, 6, .inr (.inl (w_0.1)))), (o, .inr (3, [.long ((r_0).toInt64), sv]))]) [1, 2, 0] (by decide) rfl
    refine W.widen (k := 1) (n := 6) (Nat.le_of_ble_eq_true rfl) (Nat.le_of_ble_eq_true rfl) ?_
    exact W.iret (v := (0 : Int32)) hx hb hr (fun t ht hW => ⟨⟨_, (w_0, (r_0).toInt64), rfl, ⟨by rw [hf_0, ky_lw_ok], by rw [hf_0, ky_lw_ok]⟩, by rw [ht]; exact hP9, hD9, trivial⟩, hS.F ht⟩) hS.2.2 dc_L_round_19
set_option linter.constructorNameAsVariable false in
set_option maxHeartbeats 4000000 in
set_option maxRecDepth 100000 in
theorem mt_L_shortened (l : Launch) (hl9 : l.stackTraces = false) (G : ky_G) (x : Nat) (cs : Nat) (sc : Nat) (pf : Nat) (u : ky_BS) (o : Nat) (nn : Int64) (sv : Value) (a1 : Int32) (sz : Nat)  : Met l my_L_shortened (.codeWith my_L_shortened method_32_code 4 (some .int) [(0, 10, 13, 19)] :: ky_B) { frames := 8, cells := 1, slots := 6, locals := 123 } (ky_P G [.ref x, .int (a1), .ref o] (ky_WB G x cs sc pf u ++ ky_WO o nn sv) sz (fun _ => True)) (ky_Q (S := ky_BS × Int64) G (va_A (ky_WB G x cs sc pf u ++ ky_WO o nn sv) sz) (fun v z => v = some (.int (ky_lw (fn_X6_shortened a1 u) u nn).1) ∧ z = (ky_lw (fn_X6_shortened a1 u) u nn).2) (fun z => ky_WB G x cs sc pf z.1 ++ ky_WO o z.2 sv) (fun _ _ => True)) (1) (6) (va_A (ky_WB G x cs sc pf u ++ ky_WO o nn sv) sz) := by
  refine ky_startH (hh := [(0, 10, 13, 19)]) (by decide) (Nat.le_of_ble_eq_true rfl) (fun p e s m below meth c F hT hE A hAe hsz hA hfr hP hD hS hX ls hl => ?_)
  obtain ⟨hx, hb, hml, hown, hr, hlocks, hts⟩ := id F
  have hl : lv_has ls 4 [(0, .ref x), (1, .int (a1)), (2, .ref o)] := hl
  have hP : va_P G.1 kcl [(x, .inr (0, [.ref cs, .ref sc, .ref pf, .int (u.2.1), .int (u.2.2.1), .int (u.2.2.2)])), (cs, .inl (G.2.1 2, 6, .inr (.inl (u.1)))), (o, .inr (3, [.long (nn), sv]))] s.heap := hP
  have hD : va_D A [(x, .inr (0, [.ref cs, .ref sc, .ref pf, .int (u.2.1), .int (u.2.2.1), .int (u.2.2.2)])), (cs, .inl (G.2.1 2, 6, .inr (.inl (u.1)))), (o, .inr (3, [.long (nn), sv]))] := hD
  refine lv_aload_n hx hb dc_L_shortened_0 rfl (lv_at hl 2 rfl) ?_
  refine lv_aload_n hx hb dc_L_shortened_1 rfl (lv_at hl 0 rfl) ?_
  refine lv_iload_n hx hb dc_L_shortened_2 rfl (lv_at hl 1 rfl) ?_
  refine ky_cVx (As := [.int (a1)]) (wr := [(o, .inr (3, [.long (nn), sv]))]) F (hE.at hfr hS) hfr (mt_X6_shortened l hl9 G x cs sc pf u (a1) s.heap.size) kv_L_119 ⟨⟨rfl, rfl⟩, Nat.le_of_ble_eq_true rfl, Nat.le_of_ble_eq_true rfl⟩ rfl hl.1 rfl (Nat.le_of_ble_eq_true rfl) ⟨Nat.le_of_ble_eq_true rfl, Nat.le_of_ble_eq_true rfl⟩ (va_recv hE.1 hP (ci := 0) (q0 := 0) rfl rfl) trivial hP hD hS hA [0, 1] [2] rfl rfl (by decide) (by decide) (by decide) dc_L_shortened_3 ?_ ?_
  · intro E ce q9 H locs hp hP hD hS hz hk9 hc1 hc2 hc3
    have hP : va_P G.1 kcl [(o, .inr (3, [.long (nn), sv])), (x, .inr (0, [.ref cs, .ref sc, .ref pf, .int (u.2.1), .int (u.2.2.1), .int (u.2.2.2)])), (cs, .inl (G.2.1 2, 6, .inr (.inl (u.1))))] H := hP
    have hD : va_D A [(o, .inr (3, [.long (nn), sv])), (x, .inr (0, [.ref cs, .ref sc, .ref pf, .int (u.2.1), .int (u.2.2.1), .int (u.2.2.2)])), (cs, .inl (G.2.1 2, 6, .inr (.inl (u.1))))] := hD
    have he := on_X6_shortened (a1) u E hp
    subst he
    refine ky_cat1 (h1 := (0, 10, 13, 19)) (name := "java/lang/IndexOutOfBoundsException") hE hown hT (by decide) (by decide) (hts _ kw_4_82) (kc_4 _ (List.mem_of_getElem? (i := 92) rfl)) rfl hc1 hc2 hc3 ?_
    refine W.eq (g2 := F0 m 13 ls [.ref q9]) rfl ?_
    refine W.widen (k := 1) (n := 6) (by first | exact Nat.le_refl _ | omega) (by first | exact Nat.le_refl _ | omega) ?_
    refine lv_astore_n (lv' := [(3, .ref q9), (0, .ref x), (1, .int (a1)), (2, .ref o)]) hx hb dc_L_shortened_13 rfl hl (by decide) rfl (fun ls hl => ?_)
    refine lv_iconst (v := 1) hx hb dc_L_shortened_14 (by decide) ?_
    have hP9 := hP.sub (ws' := [(x, .inr (0, [.ref cs, .ref sc, .ref pf, .int (u.2.1), .int (u.2.2.1), .int (u.2.2.2)])), (cs, .inl (G.2.1 2, 6, .inr (.inl (u.1)))), (o, .inr (3, [.long (nn), sv]))]) [1, 2, 0] rfl
    have hD9 := hD.sub (ws' := [(x, .inr (0, [.ref cs, .ref sc, .ref pf, .int (u.2.1), .int (u.2.2.1), .int (u.2.2.2)])), (cs, .inl (G.2.1 2, 6, .inr (.inl (u.1)))), (o, .inr (3, [.long (nn), sv]))]) [1, 2, 0] (by decide) rfl
    refine W.widen (k := 1) (n := 6) (Nat.le_of_ble_eq_true rfl) (Nat.le_of_ble_eq_true rfl) ?_
    exact W.iret (v := (1 : Int32)) hx hb hr (fun t ht hW => ⟨⟨_, (u, nn), rfl, ⟨by rw [hp, ky_lw_io], by rw [hp, ky_lw_io]⟩, by rw [ht]; exact hP9, hD9, trivial⟩, hS.F ht⟩) hS.2.2 dc_L_shortened_15
  · rintro v9 u9 H locs ⟨r_0, w_0, hf_0, rfl, hu9⟩ hP hD hS - hz hk9
    have hu9 := hu9.symm
    subst hu9
    have hP : va_P G.1 kcl [(o, .inr (3, [.long (nn), sv])), (x, .inr (0, [.ref cs, .ref sc, .ref pf, .int (w_0.2.1), .int (w_0.2.2.1), .int (w_0.2.2.2)])), (cs, .inl (G.2.1 2, 6, .inr (.inl (w_0.1))))] H := hP
    have hD : va_D A [(o, .inr (3, [.long (nn), sv])), (x, .inr (0, [.ref cs, .ref sc, .ref pf, .int (w_0.2.1), .int (w_0.2.2.1), .int (w_0.2.2.2)])), (cs, .inl (G.2.1 2, 6, .inr (.inl (w_0.1))))] := hD
    refine W.widen (k := 1) (n := 6) (by first | exact Nat.le_refl _ | omega) (by first | exact Nat.le_refl _ | omega) ?_
    refine lv_i2l (v := (r_0).toInt64) hx hb dc_L_shortened_6 rfl ?_
    refine va_putN (D := G.1) (ci := 3) (v := .long ((r_0).toInt64)) (ty := .long) (C := RX7) (T := TX7) (N := 2) hx hb hts ki_X7 tyX7 tyX7_ok nmX7 hown hE.1 hP hD hS 0 rfl rfl 0 (by decide) (va_Nw.use (A := _) rfl (hE.nestF (kc_4 _ (List.mem_of_getElem? (i := 72) rfl)))) (fun _ h9 => h9) rfl (by decide +kernel) rfl rfl (Nat.le_of_ble_eq_true rfl) dc_L_shortened_7 (fun H locs hP hD hS => ?_)
    have hP : va_P G.1 kcl [(o, .inr (3, [.long ((r_0).toInt64), sv])), (x, .inr (0, [.ref cs, .ref sc, .ref pf, .int (w_0.2.1), .int (w_0.2.2.1), .int (w_0.2.2.2)])), (cs, .inl (G.2.1 2, 6, .inr (.inl (w_0.1))))] H := hP
    have hD : va_D A [(o, .inr (3, [.long ((r_0).toInt64), sv])), (x, .inr (0, [.ref cs, .ref sc, .ref pf, .int (w_0.2.1), .int (w_0.2.2.1), .int (w_0.2.2.2)])), (cs, .inl (G.2.1 2, 6, .inr (.inl (w_0.1))))] := hD
    refine lv_goto (tgt := 16) hx hb dc_L_shortened_10 (by decide) ?_
    refine lv_iconst (v := 0) hx hb dc_L_shortened_16 (by decide) ?_
    have hP9 := hP.sub (ws' := [(x, .inr (0, [.ref cs, .ref sc, .ref pf, .int (w_0.2.1), .int (w_0.2.2.1), .int (w_0.2.2.2)])), (cs, .inl (G.2.1 2, 6, .inr (.inl (w_0.1)))), (o, .inr (3, [.long ((r_0).toInt64), sv]))]) [1, 2, 0] rfl
    have hD9 := hD.sub (ws' := [(x, .inr (0, [.ref cs, .ref sc, .ref pf, .int (w_0.2.1), .int (w_0.2.2.1), .int (w_0.2.2.2)])), (cs, .inl (G.2.1 2, 6, .inr (.inl (w_0.1)))), (o, .inr (3, [.long ((r_0).toInt64), sv]))]) [1, 2, 0] (by decide) rfl
    refine W.widen (k := 1) (n := 6) (Nat.le_of_ble_eq_true rfl) (Nat.le_of_ble_eq_true rfl) ?_
    exact W.iret (v := (0 : Int32)) hx hb hr (fun t ht hW => ⟨⟨_, (w_0, (r_0).toInt64), rfl, ⟨by rw [hf_0, ky_lw_ok], by rw [hf_0, ky_lw_ok]⟩, by rw [ht]; exact hP9, hD9, trivial⟩, hS.F ht⟩) hS.2.2 dc_L_shortened_17
set_option linter.constructorNameAsVariable false in
set_option maxHeartbeats 4000000 in
set_option maxRecDepth 100000 in
theorem mt_L_signed (l : Launch) (hl9 : l.stackTraces = false) (G : ky_G) (x : Nat) (cs : Nat) (sc : Nat) (pf : Nat) (u : ky_BS) (o : Nat) (nn : Int64) (sv : Value) (a1 : Int32) (sz : Nat)  : Met l my_L_signed (.codeWith my_L_signed method_33_code 4 (some .int) [(0, 10, 13, 19)] :: ky_B) { frames := 8, cells := 1, slots := 6, locals := 123 } (ky_P G [.ref x, .int (a1), .ref o] (ky_WB G x cs sc pf u ++ ky_WO o nn sv) sz (fun _ => True)) (ky_Q (S := ky_BS × Int64) G (va_A (ky_WB G x cs sc pf u ++ ky_WO o nn sv) sz) (fun v z => v = some (.int (ky_lw (fn_X6_signed a1 u) u nn).1) ∧ z = (ky_lw (fn_X6_signed a1 u) u nn).2) (fun z => ky_WB G x cs sc pf z.1 ++ ky_WO o z.2 sv) (fun _ _ => True)) (1) (6) (va_A (ky_WB G x cs sc pf u ++ ky_WO o nn sv) sz) := by
  refine ky_startH (hh := [(0, 10, 13, 19)]) (by decide) (Nat.le_of_ble_eq_true rfl) (fun p e s m below meth c F hT hE A hAe hsz hA hfr hP hD hS hX ls hl => ?_)
  obtain ⟨hx, hb, hml, hown, hr, hlocks, hts⟩ := id F
  have hl : lv_has ls 4 [(0, .ref x), (1, .int (a1)), (2, .ref o)] := hl
  have hP : va_P G.1 kcl [(x, .inr (0, [.ref cs, .ref sc, .ref pf, .int (u.2.1), .int (u.2.2.1), .int (u.2.2.2)])), (cs, .inl (G.2.1 2, 6, .inr (.inl (u.1)))), (o, .inr (3, [.long (nn), sv]))] s.heap := hP
  have hD : va_D A [(x, .inr (0, [.ref cs, .ref sc, .ref pf, .int (u.2.1), .int (u.2.2.1), .int (u.2.2.2)])), (cs, .inl (G.2.1 2, 6, .inr (.inl (u.1)))), (o, .inr (3, [.long (nn), sv]))] := hD
  refine lv_aload_n hx hb dc_L_signed_0 rfl (lv_at hl 2 rfl) ?_
  refine lv_aload_n hx hb dc_L_signed_1 rfl (lv_at hl 0 rfl) ?_
  refine lv_iload_n hx hb dc_L_signed_2 rfl (lv_at hl 1 rfl) ?_
  refine ky_cVx (As := [.int (a1)]) (wr := [(o, .inr (3, [.long (nn), sv]))]) F (hE.at hfr hS) hfr (mt_X6_signed l hl9 G x cs sc pf u (a1) s.heap.size) kv_L_122 ⟨⟨rfl, rfl⟩, Nat.le_of_ble_eq_true rfl, Nat.le_of_ble_eq_true rfl⟩ rfl hl.1 rfl (Nat.le_of_ble_eq_true rfl) ⟨Nat.le_of_ble_eq_true rfl, Nat.le_of_ble_eq_true rfl⟩ (va_recv hE.1 hP (ci := 0) (q0 := 0) rfl rfl) trivial hP hD hS hA [0, 1] [2] rfl rfl (by decide) (by decide) (by decide) dc_L_signed_3 ?_ ?_
  · intro E ce q9 H locs hp hP hD hS hz hk9 hc1 hc2 hc3
    have hP : va_P G.1 kcl [(o, .inr (3, [.long (nn), sv])), (x, .inr (0, [.ref cs, .ref sc, .ref pf, .int (u.2.1), .int (u.2.2.1), .int (u.2.2.2)])), (cs, .inl (G.2.1 2, 6, .inr (.inl (u.1))))] H := hP
    have hD : va_D A [(o, .inr (3, [.long (nn), sv])), (x, .inr (0, [.ref cs, .ref sc, .ref pf, .int (u.2.1), .int (u.2.2.1), .int (u.2.2.2)])), (cs, .inl (G.2.1 2, 6, .inr (.inl (u.1))))] := hD
    have he := on_X6_signed (a1) u E hp
    subst he
    refine ky_cat1 (h1 := (0, 10, 13, 19)) (name := "java/lang/IndexOutOfBoundsException") hE hown hT (by decide) (by decide) (hts _ kw_4_82) (kc_4 _ (List.mem_of_getElem? (i := 92) rfl)) rfl hc1 hc2 hc3 ?_
    refine W.eq (g2 := F0 m 13 ls [.ref q9]) rfl ?_
    refine W.widen (k := 1) (n := 6) (by first | exact Nat.le_refl _ | omega) (by first | exact Nat.le_refl _ | omega) ?_
    refine lv_astore_n (lv' := [(3, .ref q9), (0, .ref x), (1, .int (a1)), (2, .ref o)]) hx hb dc_L_signed_13 rfl hl (by decide) rfl (fun ls hl => ?_)
    refine lv_iconst (v := 1) hx hb dc_L_signed_14 (by decide) ?_
    have hP9 := hP.sub (ws' := [(x, .inr (0, [.ref cs, .ref sc, .ref pf, .int (u.2.1), .int (u.2.2.1), .int (u.2.2.2)])), (cs, .inl (G.2.1 2, 6, .inr (.inl (u.1)))), (o, .inr (3, [.long (nn), sv]))]) [1, 2, 0] rfl
    have hD9 := hD.sub (ws' := [(x, .inr (0, [.ref cs, .ref sc, .ref pf, .int (u.2.1), .int (u.2.2.1), .int (u.2.2.2)])), (cs, .inl (G.2.1 2, 6, .inr (.inl (u.1)))), (o, .inr (3, [.long (nn), sv]))]) [1, 2, 0] (by decide) rfl
    refine W.widen (k := 1) (n := 6) (Nat.le_of_ble_eq_true rfl) (Nat.le_of_ble_eq_true rfl) ?_
    exact W.iret (v := (1 : Int32)) hx hb hr (fun t ht hW => ⟨⟨_, (u, nn), rfl, ⟨by rw [hp, ky_lw_io], by rw [hp, ky_lw_io]⟩, by rw [ht]; exact hP9, hD9, trivial⟩, hS.F ht⟩) hS.2.2 dc_L_signed_15
  · rintro v9 u9 H locs ⟨r_0, w_0, hf_0, rfl, hu9⟩ hP hD hS - hz hk9
    have hu9 := hu9.symm
    subst hu9
    have hP : va_P G.1 kcl [(o, .inr (3, [.long (nn), sv])), (x, .inr (0, [.ref cs, .ref sc, .ref pf, .int (w_0.2.1), .int (w_0.2.2.1), .int (w_0.2.2.2)])), (cs, .inl (G.2.1 2, 6, .inr (.inl (w_0.1))))] H := hP
    have hD : va_D A [(o, .inr (3, [.long (nn), sv])), (x, .inr (0, [.ref cs, .ref sc, .ref pf, .int (w_0.2.1), .int (w_0.2.2.1), .int (w_0.2.2.2)])), (cs, .inl (G.2.1 2, 6, .inr (.inl (w_0.1))))] := hD
    refine W.widen (k := 1) (n := 6) (by first | exact Nat.le_refl _ | omega) (by first | exact Nat.le_refl _ | omega) ?_
    refine lv_i2l (v := (r_0).toInt64) hx hb dc_L_signed_6 rfl ?_
    refine va_putN (D := G.1) (ci := 3) (v := .long ((r_0).toInt64)) (ty := .long) (C := RX7) (T := TX7) (N := 2) hx hb hts ki_X7 tyX7 tyX7_ok nmX7 hown hE.1 hP hD hS 0 rfl rfl 0 (by decide) (va_Nw.use (A := _) rfl (hE.nestF (kc_4 _ (List.mem_of_getElem? (i := 72) rfl)))) (fun _ h9 => h9) rfl (by decide +kernel) rfl rfl (Nat.le_of_ble_eq_true rfl) dc_L_signed_7 (fun H locs hP hD hS => ?_)
    have hP : va_P G.1 kcl [(o, .inr (3, [.long ((r_0).toInt64), sv])), (x, .inr (0, [.ref cs, .ref sc, .ref pf, .int (w_0.2.1), .int (w_0.2.2.1), .int (w_0.2.2.2)])), (cs, .inl (G.2.1 2, 6, .inr (.inl (w_0.1))))] H := hP
    have hD : va_D A [(o, .inr (3, [.long ((r_0).toInt64), sv])), (x, .inr (0, [.ref cs, .ref sc, .ref pf, .int (w_0.2.1), .int (w_0.2.2.1), .int (w_0.2.2.2)])), (cs, .inl (G.2.1 2, 6, .inr (.inl (w_0.1))))] := hD
    refine lv_goto (tgt := 16) hx hb dc_L_signed_10 (by decide) ?_
    refine lv_iconst (v := 0) hx hb dc_L_signed_16 (by decide) ?_
    have hP9 := hP.sub (ws' := [(x, .inr (0, [.ref cs, .ref sc, .ref pf, .int (w_0.2.1), .int (w_0.2.2.1), .int (w_0.2.2.2)])), (cs, .inl (G.2.1 2, 6, .inr (.inl (w_0.1)))), (o, .inr (3, [.long ((r_0).toInt64), sv]))]) [1, 2, 0] rfl
    have hD9 := hD.sub (ws' := [(x, .inr (0, [.ref cs, .ref sc, .ref pf, .int (w_0.2.1), .int (w_0.2.2.1), .int (w_0.2.2.2)])), (cs, .inl (G.2.1 2, 6, .inr (.inl (w_0.1)))), (o, .inr (3, [.long ((r_0).toInt64), sv]))]) [1, 2, 0] (by decide) rfl
    refine W.widen (k := 1) (n := 6) (Nat.le_of_ble_eq_true rfl) (Nat.le_of_ble_eq_true rfl) ?_
    exact W.iret (v := (0 : Int32)) hx hb hr (fun t ht hW => ⟨⟨_, (w_0, (r_0).toInt64), rfl, ⟨by rw [hf_0, ky_lw_ok], by rw [hf_0, ky_lw_ok]⟩, by rw [ht]; exact hP9, hD9, trivial⟩, hS.F ht⟩) hS.2.2 dc_L_signed_17
set_option linter.constructorNameAsVariable false in
set_option maxHeartbeats 4000000 in
set_option maxRecDepth 100000 in
theorem mt_L_isWhole (l : Launch) (hl9 : l.stackTraces = false) (G : ky_G) (x : Nat) (cs : Nat) (sc : Nat) (pf : Nat) (u : ky_BS) (o : Nat) (nn : Int64) (sv : Value) (a1 : Int32) (sz : Nat)  : Met l my_L_isWhole (.codeWith my_L_isWhole method_34_code 4 (some .int) [(0, 17, 20, 19)] :: ky_B) { frames := 8, cells := 1, slots := 6, locals := 123 } (ky_P G [.ref x, .int (a1), .ref o] (ky_WB G x cs sc pf u ++ ky_WO o nn sv) sz (fun _ => True)) (ky_Q (S := ky_BS × Int64) G (va_A (ky_WB G x cs sc pf u ++ ky_WO o nn sv) sz) (fun v z => v = some (.int (ky_lwb (fn_X6_isWhole a1 u) u nn).1) ∧ z = (ky_lwb (fn_X6_isWhole a1 u) u nn).2) (fun z => ky_WB G x cs sc pf z.1 ++ ky_WO o z.2 sv) (fun _ _ => True)) (1) (6) (va_A (ky_WB G x cs sc pf u ++ ky_WO o nn sv) sz) := by
  refine ky_startH (hh := [(0, 17, 20, 19)]) (by decide) (Nat.le_of_ble_eq_true rfl) (fun p e s m below meth c F hT hE A hAe hsz hA hfr hP hD hS hX ls hl => ?_)
  obtain ⟨hx, hb, hml, hown, hr, hlocks, hts⟩ := id F
  have hl : lv_has ls 4 [(0, .ref x), (1, .int (a1)), (2, .ref o)] := hl
  have hP : va_P G.1 kcl [(x, .inr (0, [.ref cs, .ref sc, .ref pf, .int (u.2.1), .int (u.2.2.1), .int (u.2.2.2)])), (cs, .inl (G.2.1 2, 6, .inr (.inl (u.1)))), (o, .inr (3, [.long (nn), sv]))] s.heap := hP
  have hD : va_D A [(x, .inr (0, [.ref cs, .ref sc, .ref pf, .int (u.2.1), .int (u.2.2.1), .int (u.2.2.2)])), (cs, .inl (G.2.1 2, 6, .inr (.inl (u.1)))), (o, .inr (3, [.long (nn), sv]))] := hD
  refine lv_aload_n hx hb dc_L_isWhole_0 rfl (lv_at hl 2 rfl) ?_
  refine lv_aload_n hx hb dc_L_isWhole_1 rfl (lv_at hl 0 rfl) ?_
  refine lv_iload_n hx hb dc_L_isWhole_2 rfl (lv_at hl 1 rfl) ?_
  refine ky_cVx (As := [.int (a1)]) (wr := [(o, .inr (3, [.long (nn), sv]))]) F (hE.at hfr hS) hfr (mt_X6_isWhole l hl9 G x cs sc pf u (a1) s.heap.size) kv_L_125 ⟨⟨rfl, rfl⟩, Nat.le_of_ble_eq_true rfl, Nat.le_of_ble_eq_true rfl⟩ rfl hl.1 rfl (Nat.le_of_ble_eq_true rfl) ⟨Nat.le_of_ble_eq_true rfl, Nat.le_of_ble_eq_true rfl⟩ (va_recv hE.1 hP (ci := 0) (q0 := 0) rfl rfl) trivial hP hD hS hA [0, 1] [2] rfl rfl (by decide) (by decide) (by decide) dc_L_isWhole_3 ?_ ?_
  · intro E ce q9 H locs hp hP hD hS hz hk9 hc1 hc2 hc3
    have hP : va_P G.1 kcl [(o, .inr (3, [.long (nn), sv])), (x, .inr (0, [.ref cs, .ref sc, .ref pf, .int (u.2.1), .int (u.2.2.1), .int (u.2.2.2)])), (cs, .inl (G.2.1 2, 6, .inr (.inl (u.1))))] H := hP
    have hD : va_D A [(o, .inr (3, [.long (nn), sv])), (x, .inr (0, [.ref cs, .ref sc, .ref pf, .int (u.2.1), .int (u.2.2.1), .int (u.2.2.2)])), (cs, .inl (G.2.1 2, 6, .inr (.inl (u.1))))] := hD
    have he := on_X6_isWhole (a1) u E hp
    subst he
    refine ky_cat1 (h1 := (0, 17, 20, 19)) (name := "java/lang/IndexOutOfBoundsException") hE hown hT (by decide) (by decide) (hts _ kw_4_82) (kc_4 _ (List.mem_of_getElem? (i := 92) rfl)) rfl hc1 hc2 hc3 ?_
    refine W.eq (g2 := F0 m 20 ls [.ref q9]) rfl ?_
    refine W.widen (k := 1) (n := 6) (by first | exact Nat.le_refl _ | omega) (by first | exact Nat.le_refl _ | omega) ?_
    refine lv_astore_n (lv' := [(3, .ref q9), (0, .ref x), (1, .int (a1)), (2, .ref o)]) hx hb dc_L_isWhole_20 rfl hl (by decide) rfl (fun ls hl => ?_)
    refine lv_iconst (v := 1) hx hb dc_L_isWhole_21 (by decide) ?_
    have hP9 := hP.sub (ws' := [(x, .inr (0, [.ref cs, .ref sc, .ref pf, .int (u.2.1), .int (u.2.2.1), .int (u.2.2.2)])), (cs, .inl (G.2.1 2, 6, .inr (.inl (u.1)))), (o, .inr (3, [.long (nn), sv]))]) [1, 2, 0] rfl
    have hD9 := hD.sub (ws' := [(x, .inr (0, [.ref cs, .ref sc, .ref pf, .int (u.2.1), .int (u.2.2.1), .int (u.2.2.2)])), (cs, .inl (G.2.1 2, 6, .inr (.inl (u.1)))), (o, .inr (3, [.long (nn), sv]))]) [1, 2, 0] (by decide) rfl
    refine W.widen (k := 1) (n := 6) (Nat.le_of_ble_eq_true rfl) (Nat.le_of_ble_eq_true rfl) ?_
    exact W.iret (v := (1 : Int32)) hx hb hr (fun t ht hW => ⟨⟨_, (u, nn), rfl, ⟨by rw [hp, ky_lwb_io], by rw [hp, ky_lwb_io]⟩, by rw [ht]; exact hP9, hD9, trivial⟩, hS.F ht⟩) hS.2.2 dc_L_isWhole_22
  · rintro v9 u9 H locs ⟨r_0, w_0, hf_0, rfl, hu9⟩ hP hD hS - hz hk9
    have hu9 := hu9.symm
    subst hu9
    have hP : va_P G.1 kcl [(o, .inr (3, [.long (nn), sv])), (x, .inr (0, [.ref cs, .ref sc, .ref pf, .int (w_0.2.1), .int (w_0.2.2.1), .int (w_0.2.2.2)])), (cs, .inl (G.2.1 2, 6, .inr (.inl (w_0.1))))] H := hP
    have hD : va_D A [(o, .inr (3, [.long (nn), sv])), (x, .inr (0, [.ref cs, .ref sc, .ref pf, .int (w_0.2.1), .int (w_0.2.2.1), .int (w_0.2.2.2)])), (cs, .inl (G.2.1 2, 6, .inr (.inl (w_0.1))))] := hD
    refine W.widen (k := 1) (n := 6) (by first | exact Nat.le_refl _ | omega) (by first | exact Nat.le_refl _ | omega) ?_
    refine lv_if_eq (tgt := 13) hx hb dc_L_isWhole_6 (by decide) (fun c_1 => ?_) (fun c_1 => ?_)
    · skip
      refine lv_lconst (v := 0) hx hb dc_L_isWhole_13 (by decide) ?_
      refine va_putN (D := G.1) (ci := 3) (v := .long ((0 : Int64))) (ty := .long) (C := RX7) (T := TX7) (N := 2) hx hb hts ki_X7 tyX7 tyX7_ok nmX7 hown hE.1 hP hD hS 0 rfl rfl 0 (by decide) (va_Nw.use (A := _) rfl (hE.nestF (kc_4 _ (List.mem_of_getElem? (i := 72) rfl)))) (fun _ h9 => h9) rfl (by decide +kernel) rfl rfl (Nat.le_of_ble_eq_true rfl) dc_L_isWhole_14 (fun H locs hP hD hS => ?_)
      have hP : va_P G.1 kcl [(o, .inr (3, [.long ((0 : Int64)), sv])), (x, .inr (0, [.ref cs, .ref sc, .ref pf, .int (w_0.2.1), .int (w_0.2.2.1), .int (w_0.2.2.2)])), (cs, .inl (G.2.1 2, 6, .inr (.inl (w_0.1))))] H := hP
      have hD : va_D A [(o, .inr (3, [.long ((0 : Int64)), sv])), (x, .inr (0, [.ref cs, .ref sc, .ref pf, .int (w_0.2.1), .int (w_0.2.2.1), .int (w_0.2.2.2)])), (cs, .inl (G.2.1 2, 6, .inr (.inl (w_0.1))))] := hD
      refine lv_goto (tgt := 23) hx hb dc_L_isWhole_17 (by decide) ?_
      refine lv_iconst (v := 0) hx hb dc_L_isWhole_23 (by decide) ?_
      have hP9 := hP.sub (ws' := [(x, .inr (0, [.ref cs, .ref sc, .ref pf, .int (w_0.2.1), .int (w_0.2.2.1), .int (w_0.2.2.2)])), (cs, .inl (G.2.1 2, 6, .inr (.inl (w_0.1)))), (o, .inr (3, [.long ((0 : Int64)), sv]))]) [1, 2, 0] rfl
      have hD9 := hD.sub (ws' := [(x, .inr (0, [.ref cs, .ref sc, .ref pf, .int (w_0.2.1), .int (w_0.2.2.1), .int (w_0.2.2.2)])), (cs, .inl (G.2.1 2, 6, .inr (.inl (w_0.1)))), (o, .inr (3, [.long ((0 : Int64)), sv]))]) [1, 2, 0] (by decide) rfl
      refine W.widen (k := 1) (n := 6) (Nat.le_of_ble_eq_true rfl) (Nat.le_of_ble_eq_true rfl) ?_
      exact W.iret (v := (0 : Int32)) hx hb hr (fun t ht hW => ⟨⟨_, (w_0, (0 : Int64)), rfl, ⟨by rw [hf_0, ky_lwb_ok], by rw [hf_0, ky_lwb_ok, if_pos c_1]⟩, by rw [ht]; exact hP9, hD9, trivial⟩, hS.F ht⟩) hS.2.2 dc_L_isWhole_24
    · skip
      refine lv_lconst (v := 1) hx hb dc_L_isWhole_9 (by decide) ?_
      refine lv_goto (tgt := 14) hx hb dc_L_isWhole_10 (by decide) ?_
      refine va_putN (D := G.1) (ci := 3) (v := .long ((1 : Int64))) (ty := .long) (C := RX7) (T := TX7) (N := 2) hx hb hts ki_X7 tyX7 tyX7_ok nmX7 hown hE.1 hP hD hS 0 rfl rfl 0 (by decide) (va_Nw.use (A := _) rfl (hE.nestF (kc_4 _ (List.mem_of_getElem? (i := 72) rfl)))) (fun _ h9 => h9) rfl (by decide +kernel) rfl rfl (Nat.le_of_ble_eq_true rfl) dc_L_isWhole_14 (fun H locs hP hD hS => ?_)
      have hP : va_P G.1 kcl [(o, .inr (3, [.long ((1 : Int64)), sv])), (x, .inr (0, [.ref cs, .ref sc, .ref pf, .int (w_0.2.1), .int (w_0.2.2.1), .int (w_0.2.2.2)])), (cs, .inl (G.2.1 2, 6, .inr (.inl (w_0.1))))] H := hP
      have hD : va_D A [(o, .inr (3, [.long ((1 : Int64)), sv])), (x, .inr (0, [.ref cs, .ref sc, .ref pf, .int (w_0.2.1), .int (w_0.2.2.1), .int (w_0.2.2.2)])), (cs, .inl (G.2.1 2, 6, .inr (.inl (w_0.1))))] := hD
      refine lv_goto (tgt := 23) hx hb dc_L_isWhole_17 (by decide) ?_
      refine lv_iconst (v := 0) hx hb dc_L_isWhole_23 (by decide) ?_
      have hP9 := hP.sub (ws' := [(x, .inr (0, [.ref cs, .ref sc, .ref pf, .int (w_0.2.1), .int (w_0.2.2.1), .int (w_0.2.2.2)])), (cs, .inl (G.2.1 2, 6, .inr (.inl (w_0.1)))), (o, .inr (3, [.long ((1 : Int64)), sv]))]) [1, 2, 0] rfl
      have hD9 := hD.sub (ws' := [(x, .inr (0, [.ref cs, .ref sc, .ref pf, .int (w_0.2.1), .int (w_0.2.2.1), .int (w_0.2.2.2)])), (cs, .inl (G.2.1 2, 6, .inr (.inl (w_0.1)))), (o, .inr (3, [.long ((1 : Int64)), sv]))]) [1, 2, 0] (by decide) rfl
      refine W.widen (k := 1) (n := 6) (Nat.le_of_ble_eq_true rfl) (Nat.le_of_ble_eq_true rfl) ?_
      exact W.iret (v := (0 : Int32)) hx hb hr (fun t ht hW => ⟨⟨_, (w_0, (1 : Int64)), rfl, ⟨by rw [hf_0, ky_lwb_ok], by rw [hf_0, ky_lwb_ok, if_neg c_1]⟩, by rw [ht]; exact hP9, hD9, trivial⟩, hS.F ht⟩) hS.2.2 dc_L_isWhole_24
set_option linter.constructorNameAsVariable false in
set_option maxHeartbeats 4000000 in
set_option maxRecDepth 100000 in
theorem mt_L_compare (l : Launch) (hl9 : l.stackTraces = false) (G : ky_G) (x : Nat) (cs : Nat) (sc : Nat) (pf : Nat) (u : ky_BS) (o : Nat) (nn : Int64) (sv : Value) (a1 : Int32) (a2 : Int32) (sz : Nat)  : Met l my_L_compare (.codeWith my_L_compare method_35_code 5 (some .int) [(0, 11, 14, 19)] :: ky_B) { frames := 9, cells := 2, slots := 12, locals := 145 } (ky_P G [.ref x, .int (a1), .int (a2), .ref o] (ky_WB G x cs sc pf u ++ ky_WO o nn sv) sz (fun _ => True)) (ky_Q (S := ky_BS × Int64) G (va_A (ky_WB G x cs sc pf u ++ ky_WO o nn sv) sz) (fun v z => v = some (.int (ky_lw (fn_X6_compare a1 a2 u) u nn).1) ∧ z = (ky_lw (fn_X6_compare a1 a2 u) u nn).2) (fun z => ky_WB G x cs sc pf z.1 ++ ky_WO o z.2 sv) (fun _ _ => True)) (2) (12) (va_A (ky_WB G x cs sc pf u ++ ky_WO o nn sv) sz) := by
  refine ky_startH (hh := [(0, 11, 14, 19)]) (by decide) (Nat.le_of_ble_eq_true rfl) (fun p e s m below meth c F hT hE A hAe hsz hA hfr hP hD hS hX ls hl => ?_)
  obtain ⟨hx, hb, hml, hown, hr, hlocks, hts⟩ := id F
  have hl : lv_has ls 5 [(0, .ref x), (1, .int (a1)), (2, .int (a2)), (3, .ref o)] := hl
  have hP : va_P G.1 kcl [(x, .inr (0, [.ref cs, .ref sc, .ref pf, .int (u.2.1), .int (u.2.2.1), .int (u.2.2.2)])), (cs, .inl (G.2.1 2, 6, .inr (.inl (u.1)))), (o, .inr (3, [.long (nn), sv]))] s.heap := hP
  have hD : va_D A [(x, .inr (0, [.ref cs, .ref sc, .ref pf, .int (u.2.1), .int (u.2.2.1), .int (u.2.2.2)])), (cs, .inl (G.2.1 2, 6, .inr (.inl (u.1)))), (o, .inr (3, [.long (nn), sv]))] := hD
  refine lv_aload_n hx hb dc_L_compare_0 rfl (lv_at hl 3 rfl) ?_
  refine lv_aload_n hx hb dc_L_compare_1 rfl (lv_at hl 0 rfl) ?_
  refine lv_iload_n hx hb dc_L_compare_2 rfl (lv_at hl 1 rfl) ?_
  refine lv_iload_n hx hb dc_L_compare_3 rfl (lv_at hl 2 rfl) ?_
  refine ky_cVx (As := [.int (a1), .int (a2)]) (wr := [(o, .inr (3, [.long (nn), sv]))]) F (hE.at hfr hS) hfr (mt_X6_compare l hl9 G x cs sc pf u (a1) (a2) s.heap.size) kv_L_129 ⟨⟨rfl, rfl⟩, Nat.le_of_ble_eq_true rfl, Nat.le_of_ble_eq_true rfl⟩ rfl hl.1 rfl (Nat.le_of_ble_eq_true rfl) ⟨Nat.le_of_ble_eq_true rfl, Nat.le_of_ble_eq_true rfl⟩ (va_recv hE.1 hP (ci := 0) (q0 := 0) rfl rfl) trivial hP hD hS hA [0, 1] [2] rfl rfl (by decide) (by decide) (by decide) dc_L_compare_4 ?_ ?_
  · intro E ce q9 H locs hp hP hD hS hz hk9 hc1 hc2 hc3
    have hP : va_P G.1 kcl [(o, .inr (3, [.long (nn), sv])), (x, .inr (0, [.ref cs, .ref sc, .ref pf, .int (u.2.1), .int (u.2.2.1), .int (u.2.2.2)])), (cs, .inl (G.2.1 2, 6, .inr (.inl (u.1))))] H := hP
    have hD : va_D A [(o, .inr (3, [.long (nn), sv])), (x, .inr (0, [.ref cs, .ref sc, .ref pf, .int (u.2.1), .int (u.2.2.1), .int (u.2.2.2)])), (cs, .inl (G.2.1 2, 6, .inr (.inl (u.1))))] := hD
    have he := on_X6_compare (a1) (a2) u E hp
    subst he
    refine ky_cat1 (h1 := (0, 11, 14, 19)) (name := "java/lang/IndexOutOfBoundsException") hE hown hT (by decide) (by decide) (hts _ kw_4_82) (kc_4 _ (List.mem_of_getElem? (i := 92) rfl)) rfl hc1 hc2 hc3 ?_
    refine W.eq (g2 := F0 m 14 ls [.ref q9]) rfl ?_
    refine W.widen (k := 2) (n := 12) (by first | exact Nat.le_refl _ | omega) (by first | exact Nat.le_refl _ | omega) ?_
    refine lv_astore (lv' := [(4, .ref q9), (0, .ref x), (1, .int (a1)), (2, .int (a2)), (3, .ref o)]) hx hb dc_L_compare_14 hl (by decide) rfl (fun ls hl => ?_)
    refine lv_iconst (v := 1) hx hb dc_L_compare_16 (by decide) ?_
    have hP9 := hP.sub (ws' := [(x, .inr (0, [.ref cs, .ref sc, .ref pf, .int (u.2.1), .int (u.2.2.1), .int (u.2.2.2)])), (cs, .inl (G.2.1 2, 6, .inr (.inl (u.1)))), (o, .inr (3, [.long (nn), sv]))]) [1, 2, 0] rfl
    have hD9 := hD.sub (ws' := [(x, .inr (0, [.ref cs, .ref sc, .ref pf, .int (u.2.1), .int (u.2.2.1), .int (u.2.2.2)])), (cs, .inl (G.2.1 2, 6, .inr (.inl (u.1)))), (o, .inr (3, [.long (nn), sv]))]) [1, 2, 0] (by decide) rfl
    refine W.widen (k := 2) (n := 12) (Nat.le_of_ble_eq_true rfl) (Nat.le_of_ble_eq_true rfl) ?_
    exact W.iret (v := (1 : Int32)) hx hb hr (fun t ht hW => ⟨⟨_, (u, nn), rfl, ⟨by rw [hp, ky_lw_io], by rw [hp, ky_lw_io]⟩, by rw [ht]; exact hP9, hD9, trivial⟩, hS.F ht⟩) hS.2.2 dc_L_compare_17
  · rintro v9 u9 H locs ⟨r_0, w_0, hf_0, rfl, hu9⟩ hP hD hS - hz hk9
    have hu9 := hu9.symm
    subst hu9
    have hP : va_P G.1 kcl [(o, .inr (3, [.long (nn), sv])), (x, .inr (0, [.ref cs, .ref sc, .ref pf, .int (w_0.2.1), .int (w_0.2.2.1), .int (w_0.2.2.2)])), (cs, .inl (G.2.1 2, 6, .inr (.inl (w_0.1))))] H := hP
    have hD : va_D A [(o, .inr (3, [.long (nn), sv])), (x, .inr (0, [.ref cs, .ref sc, .ref pf, .int (w_0.2.1), .int (w_0.2.2.1), .int (w_0.2.2.2)])), (cs, .inl (G.2.1 2, 6, .inr (.inl (w_0.1))))] := hD
    refine W.widen (k := 2) (n := 12) (by first | exact Nat.le_refl _ | omega) (by first | exact Nat.le_refl _ | omega) ?_
    refine lv_i2l (v := (r_0).toInt64) hx hb dc_L_compare_7 rfl ?_
    refine va_putN (D := G.1) (ci := 3) (v := .long ((r_0).toInt64)) (ty := .long) (C := RX7) (T := TX7) (N := 2) hx hb hts ki_X7 tyX7 tyX7_ok nmX7 hown hE.1 hP hD hS 0 rfl rfl 0 (by decide) (va_Nw.use (A := _) rfl (hE.nestF (kc_4 _ (List.mem_of_getElem? (i := 72) rfl)))) (fun _ h9 => h9) rfl (by decide +kernel) rfl rfl (Nat.le_of_ble_eq_true rfl) dc_L_compare_8 (fun H locs hP hD hS => ?_)
    have hP : va_P G.1 kcl [(o, .inr (3, [.long ((r_0).toInt64), sv])), (x, .inr (0, [.ref cs, .ref sc, .ref pf, .int (w_0.2.1), .int (w_0.2.2.1), .int (w_0.2.2.2)])), (cs, .inl (G.2.1 2, 6, .inr (.inl (w_0.1))))] H := hP
    have hD : va_D A [(o, .inr (3, [.long ((r_0).toInt64), sv])), (x, .inr (0, [.ref cs, .ref sc, .ref pf, .int (w_0.2.1), .int (w_0.2.2.1), .int (w_0.2.2.2)])), (cs, .inl (G.2.1 2, 6, .inr (.inl (w_0.1))))] := hD
    refine lv_goto (tgt := 18) hx hb dc_L_compare_11 (by decide) ?_
    refine lv_iconst (v := 0) hx hb dc_L_compare_18 (by decide) ?_
    have hP9 := hP.sub (ws' := [(x, .inr (0, [.ref cs, .ref sc, .ref pf, .int (w_0.2.1), .int (w_0.2.2.1), .int (w_0.2.2.2)])), (cs, .inl (G.2.1 2, 6, .inr (.inl (w_0.1)))), (o, .inr (3, [.long ((r_0).toInt64), sv]))]) [1, 2, 0] rfl
    have hD9 := hD.sub (ws' := [(x, .inr (0, [.ref cs, .ref sc, .ref pf, .int (w_0.2.1), .int (w_0.2.2.1), .int (w_0.2.2.2)])), (cs, .inl (G.2.1 2, 6, .inr (.inl (w_0.1)))), (o, .inr (3, [.long ((r_0).toInt64), sv]))]) [1, 2, 0] (by decide) rfl
    refine W.widen (k := 2) (n := 12) (Nat.le_of_ble_eq_true rfl) (Nat.le_of_ble_eq_true rfl) ?_
    exact W.iret (v := (0 : Int32)) hx hb hr (fun t ht hW => ⟨⟨_, (w_0, (r_0).toInt64), rfl, ⟨by rw [hf_0, ky_lw_ok], by rw [hf_0, ky_lw_ok]⟩, by rw [ht]; exact hP9, hD9, trivial⟩, hS.F ht⟩) hS.2.2 dc_L_compare_19
set_option linter.constructorNameAsVariable false in
set_option maxHeartbeats 4000000 in
set_option maxRecDepth 100000 in
theorem mt_L_areLike (l : Launch) (hl9 : l.stackTraces = false) (G : ky_G) (x : Nat) (cs : Nat) (sc : Nat) (pf : Nat) (u : ky_BS) (o : Nat) (nn : Int64) (sv : Value) (a1 : Int32) (a2 : Int32) (sz : Nat)  : Met l my_L_areLike (.codeWith my_L_areLike method_36_code 5 (some .int) [(0, 18, 21, 19)] :: ky_B) { frames := 9, cells := 2, slots := 12, locals := 145 } (ky_P G [.ref x, .int (a1), .int (a2), .ref o] (ky_WB G x cs sc pf u ++ ky_WO o nn sv) sz (fun _ => True)) (ky_Q (S := ky_BS × Int64) G (va_A (ky_WB G x cs sc pf u ++ ky_WO o nn sv) sz) (fun v z => v = some (.int (ky_lwb (fn_X6_areLike a1 a2 u) u nn).1) ∧ z = (ky_lwb (fn_X6_areLike a1 a2 u) u nn).2) (fun z => ky_WB G x cs sc pf z.1 ++ ky_WO o z.2 sv) (fun _ _ => True)) (2) (12) (va_A (ky_WB G x cs sc pf u ++ ky_WO o nn sv) sz) := by
  refine ky_startH (hh := [(0, 18, 21, 19)]) (by decide) (Nat.le_of_ble_eq_true rfl) (fun p e s m below meth c F hT hE A hAe hsz hA hfr hP hD hS hX ls hl => ?_)
  obtain ⟨hx, hb, hml, hown, hr, hlocks, hts⟩ := id F
  have hl : lv_has ls 5 [(0, .ref x), (1, .int (a1)), (2, .int (a2)), (3, .ref o)] := hl
  have hP : va_P G.1 kcl [(x, .inr (0, [.ref cs, .ref sc, .ref pf, .int (u.2.1), .int (u.2.2.1), .int (u.2.2.2)])), (cs, .inl (G.2.1 2, 6, .inr (.inl (u.1)))), (o, .inr (3, [.long (nn), sv]))] s.heap := hP
  have hD : va_D A [(x, .inr (0, [.ref cs, .ref sc, .ref pf, .int (u.2.1), .int (u.2.2.1), .int (u.2.2.2)])), (cs, .inl (G.2.1 2, 6, .inr (.inl (u.1)))), (o, .inr (3, [.long (nn), sv]))] := hD
  refine lv_aload_n hx hb dc_L_areLike_0 rfl (lv_at hl 3 rfl) ?_
  refine lv_aload_n hx hb dc_L_areLike_1 rfl (lv_at hl 0 rfl) ?_
  refine lv_iload_n hx hb dc_L_areLike_2 rfl (lv_at hl 1 rfl) ?_
  refine lv_iload_n hx hb dc_L_areLike_3 rfl (lv_at hl 2 rfl) ?_
  refine ky_cVx (As := [.int (a1), .int (a2)]) (wr := [(o, .inr (3, [.long (nn), sv]))]) F (hE.at hfr hS) hfr (mt_X6_areLike l hl9 G x cs sc pf u (a1) (a2) s.heap.size) kv_L_132 ⟨⟨rfl, rfl⟩, Nat.le_of_ble_eq_true rfl, Nat.le_of_ble_eq_true rfl⟩ rfl hl.1 rfl (Nat.le_of_ble_eq_true rfl) ⟨Nat.le_of_ble_eq_true rfl, Nat.le_of_ble_eq_true rfl⟩ (va_recv hE.1 hP (ci := 0) (q0 := 0) rfl rfl) trivial hP hD hS hA [0, 1] [2] rfl rfl (by decide) (by decide) (by decide) dc_L_areLike_4 ?_ ?_
  · intro E ce q9 H locs hp hP hD hS hz hk9 hc1 hc2 hc3
    have hP : va_P G.1 kcl [(o, .inr (3, [.long (nn), sv])), (x, .inr (0, [.ref cs, .ref sc, .ref pf, .int (u.2.1), .int (u.2.2.1), .int (u.2.2.2)])), (cs, .inl (G.2.1 2, 6, .inr (.inl (u.1))))] H := hP
    have hD : va_D A [(o, .inr (3, [.long (nn), sv])), (x, .inr (0, [.ref cs, .ref sc, .ref pf, .int (u.2.1), .int (u.2.2.1), .int (u.2.2.2)])), (cs, .inl (G.2.1 2, 6, .inr (.inl (u.1))))] := hD
    have he := on_X6_areLike (a1) (a2) u E hp
    subst he
    refine ky_cat1 (h1 := (0, 18, 21, 19)) (name := "java/lang/IndexOutOfBoundsException") hE hown hT (by decide) (by decide) (hts _ kw_4_82) (kc_4 _ (List.mem_of_getElem? (i := 92) rfl)) rfl hc1 hc2 hc3 ?_
    refine W.eq (g2 := F0 m 21 ls [.ref q9]) rfl ?_
    refine W.widen (k := 2) (n := 12) (by first | exact Nat.le_refl _ | omega) (by first | exact Nat.le_refl _ | omega) ?_
    refine lv_astore (lv' := [(4, .ref q9), (0, .ref x), (1, .int (a1)), (2, .int (a2)), (3, .ref o)]) hx hb dc_L_areLike_21 hl (by decide) rfl (fun ls hl => ?_)
    refine lv_iconst (v := 1) hx hb dc_L_areLike_23 (by decide) ?_
    have hP9 := hP.sub (ws' := [(x, .inr (0, [.ref cs, .ref sc, .ref pf, .int (u.2.1), .int (u.2.2.1), .int (u.2.2.2)])), (cs, .inl (G.2.1 2, 6, .inr (.inl (u.1)))), (o, .inr (3, [.long (nn), sv]))]) [1, 2, 0] rfl
    have hD9 := hD.sub (ws' := [(x, .inr (0, [.ref cs, .ref sc, .ref pf, .int (u.2.1), .int (u.2.2.1), .int (u.2.2.2)])), (cs, .inl (G.2.1 2, 6, .inr (.inl (u.1)))), (o, .inr (3, [.long (nn), sv]))]) [1, 2, 0] (by decide) rfl
    refine W.widen (k := 2) (n := 12) (Nat.le_of_ble_eq_true rfl) (Nat.le_of_ble_eq_true rfl) ?_
    exact W.iret (v := (1 : Int32)) hx hb hr (fun t ht hW => ⟨⟨_, (u, nn), rfl, ⟨by rw [hp, ky_lwb_io], by rw [hp, ky_lwb_io]⟩, by rw [ht]; exact hP9, hD9, trivial⟩, hS.F ht⟩) hS.2.2 dc_L_areLike_24
  · rintro v9 u9 H locs ⟨r_0, w_0, hf_0, rfl, hu9⟩ hP hD hS - hz hk9
    have hu9 := hu9.symm
    subst hu9
    have hP : va_P G.1 kcl [(o, .inr (3, [.long (nn), sv])), (x, .inr (0, [.ref cs, .ref sc, .ref pf, .int (w_0.2.1), .int (w_0.2.2.1), .int (w_0.2.2.2)])), (cs, .inl (G.2.1 2, 6, .inr (.inl (w_0.1))))] H := hP
    have hD : va_D A [(o, .inr (3, [.long (nn), sv])), (x, .inr (0, [.ref cs, .ref sc, .ref pf, .int (w_0.2.1), .int (w_0.2.2.1), .int (w_0.2.2.2)])), (cs, .inl (G.2.1 2, 6, .inr (.inl (w_0.1))))] := hD
    refine W.widen (k := 2) (n := 12) (by first | exact Nat.le_refl _ | omega) (by first | exact Nat.le_refl _ | omega) ?_
    refine lv_if_eq (tgt := 14) hx hb dc_L_areLike_7 (by decide) (fun c_1 => ?_) (fun c_1 => ?_)
    · skip
      refine lv_lconst (v := 0) hx hb dc_L_areLike_14 (by decide) ?_
      refine va_putN (D := G.1) (ci := 3) (v := .long ((0 : Int64))) (ty := .long) (C := RX7) (T := TX7) (N := 2) hx hb hts ki_X7 tyX7 tyX7_ok nmX7 hown hE.1 hP hD hS 0 rfl rfl 0 (by decide) (va_Nw.use (A := _) rfl (hE.nestF (kc_4 _ (List.mem_of_getElem? (i := 72) rfl)))) (fun _ h9 => h9) rfl (by decide +kernel) rfl rfl (Nat.le_of_ble_eq_true rfl) dc_L_areLike_15 (fun H locs hP hD hS => ?_)
      have hP : va_P G.1 kcl [(o, .inr (3, [.long ((0 : Int64)), sv])), (x, .inr (0, [.ref cs, .ref sc, .ref pf, .int (w_0.2.1), .int (w_0.2.2.1), .int (w_0.2.2.2)])), (cs, .inl (G.2.1 2, 6, .inr (.inl (w_0.1))))] H := hP
      have hD : va_D A [(o, .inr (3, [.long ((0 : Int64)), sv])), (x, .inr (0, [.ref cs, .ref sc, .ref pf, .int (w_0.2.1), .int (w_0.2.2.1), .int (w_0.2.2.2)])), (cs, .inl (G.2.1 2, 6, .inr (.inl (w_0.1))))] := hD
      refine lv_goto (tgt := 25) hx hb dc_L_areLike_18 (by decide) ?_
      refine lv_iconst (v := 0) hx hb dc_L_areLike_25 (by decide) ?_
      have hP9 := hP.sub (ws' := [(x, .inr (0, [.ref cs, .ref sc, .ref pf, .int (w_0.2.1), .int (w_0.2.2.1), .int (w_0.2.2.2)])), (cs, .inl (G.2.1 2, 6, .inr (.inl (w_0.1)))), (o, .inr (3, [.long ((0 : Int64)), sv]))]) [1, 2, 0] rfl
      have hD9 := hD.sub (ws' := [(x, .inr (0, [.ref cs, .ref sc, .ref pf, .int (w_0.2.1), .int (w_0.2.2.1), .int (w_0.2.2.2)])), (cs, .inl (G.2.1 2, 6, .inr (.inl (w_0.1)))), (o, .inr (3, [.long ((0 : Int64)), sv]))]) [1, 2, 0] (by decide) rfl
      refine W.widen (k := 2) (n := 12) (Nat.le_of_ble_eq_true rfl) (Nat.le_of_ble_eq_true rfl) ?_
      exact W.iret (v := (0 : Int32)) hx hb hr (fun t ht hW => ⟨⟨_, (w_0, (0 : Int64)), rfl, ⟨by rw [hf_0, ky_lwb_ok], by rw [hf_0, ky_lwb_ok, if_pos c_1]⟩, by rw [ht]; exact hP9, hD9, trivial⟩, hS.F ht⟩) hS.2.2 dc_L_areLike_26
    · skip
      refine lv_lconst (v := 1) hx hb dc_L_areLike_10 (by decide) ?_
      refine lv_goto (tgt := 15) hx hb dc_L_areLike_11 (by decide) ?_
      refine va_putN (D := G.1) (ci := 3) (v := .long ((1 : Int64))) (ty := .long) (C := RX7) (T := TX7) (N := 2) hx hb hts ki_X7 tyX7 tyX7_ok nmX7 hown hE.1 hP hD hS 0 rfl rfl 0 (by decide) (va_Nw.use (A := _) rfl (hE.nestF (kc_4 _ (List.mem_of_getElem? (i := 72) rfl)))) (fun _ h9 => h9) rfl (by decide +kernel) rfl rfl (Nat.le_of_ble_eq_true rfl) dc_L_areLike_15 (fun H locs hP hD hS => ?_)
      have hP : va_P G.1 kcl [(o, .inr (3, [.long ((1 : Int64)), sv])), (x, .inr (0, [.ref cs, .ref sc, .ref pf, .int (w_0.2.1), .int (w_0.2.2.1), .int (w_0.2.2.2)])), (cs, .inl (G.2.1 2, 6, .inr (.inl (w_0.1))))] H := hP
      have hD : va_D A [(o, .inr (3, [.long ((1 : Int64)), sv])), (x, .inr (0, [.ref cs, .ref sc, .ref pf, .int (w_0.2.1), .int (w_0.2.2.1), .int (w_0.2.2.2)])), (cs, .inl (G.2.1 2, 6, .inr (.inl (w_0.1))))] := hD
      refine lv_goto (tgt := 25) hx hb dc_L_areLike_18 (by decide) ?_
      refine lv_iconst (v := 0) hx hb dc_L_areLike_25 (by decide) ?_
      have hP9 := hP.sub (ws' := [(x, .inr (0, [.ref cs, .ref sc, .ref pf, .int (w_0.2.1), .int (w_0.2.2.1), .int (w_0.2.2.2)])), (cs, .inl (G.2.1 2, 6, .inr (.inl (w_0.1)))), (o, .inr (3, [.long ((1 : Int64)), sv]))]) [1, 2, 0] rfl
      have hD9 := hD.sub (ws' := [(x, .inr (0, [.ref cs, .ref sc, .ref pf, .int (w_0.2.1), .int (w_0.2.2.1), .int (w_0.2.2.2)])), (cs, .inl (G.2.1 2, 6, .inr (.inl (w_0.1)))), (o, .inr (3, [.long ((1 : Int64)), sv]))]) [1, 2, 0] (by decide) rfl
      refine W.widen (k := 2) (n := 12) (Nat.le_of_ble_eq_true rfl) (Nat.le_of_ble_eq_true rfl) ?_
      exact W.iret (v := (0 : Int32)) hx hb hr (fun t ht hW => ⟨⟨_, (w_0, (1 : Int64)), rfl, ⟨by rw [hf_0, ky_lwb_ok], by rw [hf_0, ky_lwb_ok, if_neg c_1]⟩, by rw [ht]; exact hP9, hD9, trivial⟩, hS.F ht⟩) hS.2.2 dc_L_areLike_26
set_option linter.constructorNameAsVariable false in
set_option maxHeartbeats 4000000 in
set_option maxRecDepth 100000 in
theorem mt_L_isBelow (l : Launch) (hl9 : l.stackTraces = false) (G : ky_G) (x : Nat) (cs : Nat) (sc : Nat) (pf : Nat) (u : ky_BS) (o : Nat) (nn : Int64) (sv : Value) (a1 : Int32) (a2 : Int32) (sz : Nat)  : Met l my_L_isBelow (.codeWith my_L_isBelow method_37_code 5 (some .int) [(0, 18, 21, 19)] :: ky_B) { frames := 9, cells := 2, slots := 12, locals := 145 } (ky_P G [.ref x, .int (a1), .int (a2), .ref o] (ky_WB G x cs sc pf u ++ ky_WO o nn sv) sz (fun _ => True)) (ky_Q (S := ky_BS × Int64) G (va_A (ky_WB G x cs sc pf u ++ ky_WO o nn sv) sz) (fun v z => v = some (.int (ky_lwb (fn_X6_isBelow a1 a2 u) u nn).1) ∧ z = (ky_lwb (fn_X6_isBelow a1 a2 u) u nn).2) (fun z => ky_WB G x cs sc pf z.1 ++ ky_WO o z.2 sv) (fun _ _ => True)) (2) (12) (va_A (ky_WB G x cs sc pf u ++ ky_WO o nn sv) sz) := by
  refine ky_startH (hh := [(0, 18, 21, 19)]) (by decide) (Nat.le_of_ble_eq_true rfl) (fun p e s m below meth c F hT hE A hAe hsz hA hfr hP hD hS hX ls hl => ?_)
  obtain ⟨hx, hb, hml, hown, hr, hlocks, hts⟩ := id F
  have hl : lv_has ls 5 [(0, .ref x), (1, .int (a1)), (2, .int (a2)), (3, .ref o)] := hl
  have hP : va_P G.1 kcl [(x, .inr (0, [.ref cs, .ref sc, .ref pf, .int (u.2.1), .int (u.2.2.1), .int (u.2.2.2)])), (cs, .inl (G.2.1 2, 6, .inr (.inl (u.1)))), (o, .inr (3, [.long (nn), sv]))] s.heap := hP
  have hD : va_D A [(x, .inr (0, [.ref cs, .ref sc, .ref pf, .int (u.2.1), .int (u.2.2.1), .int (u.2.2.2)])), (cs, .inl (G.2.1 2, 6, .inr (.inl (u.1)))), (o, .inr (3, [.long (nn), sv]))] := hD
  refine lv_aload_n hx hb dc_L_isBelow_0 rfl (lv_at hl 3 rfl) ?_
  refine lv_aload_n hx hb dc_L_isBelow_1 rfl (lv_at hl 0 rfl) ?_
  refine lv_iload_n hx hb dc_L_isBelow_2 rfl (lv_at hl 1 rfl) ?_
  refine lv_iload_n hx hb dc_L_isBelow_3 rfl (lv_at hl 2 rfl) ?_
  refine ky_cVx (As := [.int (a1), .int (a2)]) (wr := [(o, .inr (3, [.long (nn), sv]))]) F (hE.at hfr hS) hfr (mt_X6_isBelow l hl9 G x cs sc pf u (a1) (a2) s.heap.size) kv_L_136 ⟨⟨rfl, rfl⟩, Nat.le_of_ble_eq_true rfl, Nat.le_of_ble_eq_true rfl⟩ rfl hl.1 rfl (Nat.le_of_ble_eq_true rfl) ⟨Nat.le_of_ble_eq_true rfl, Nat.le_of_ble_eq_true rfl⟩ (va_recv hE.1 hP (ci := 0) (q0 := 0) rfl rfl) trivial hP hD hS hA [0, 1] [2] rfl rfl (by decide) (by decide) (by decide) dc_L_isBelow_4 ?_ ?_
  · intro E ce q9 H locs hp hP hD hS hz hk9 hc1 hc2 hc3
    have hP : va_P G.1 kcl [(o, .inr (3, [.long (nn), sv])), (x, .inr (0, [.ref cs, .ref sc, .ref pf, .int (u.2.1), .int (u.2.2.1), .int (u.2.2.2)])), (cs, .inl (G.2.1 2, 6, .inr (.inl (u.1))))] H := hP
    have hD : va_D A [(o, .inr (3, [.long (nn), sv])), (x, .inr (0, [.ref cs, .ref sc, .ref pf, .int (u.2.1), .int (u.2.2.1), .int (u.2.2.2)])), (cs, .inl (G.2.1 2, 6, .inr (.inl (u.1))))] := hD
    have he := on_X6_isBelow (a1) (a2) u E hp
    subst he
    refine ky_cat1 (h1 := (0, 18, 21, 19)) (name := "java/lang/IndexOutOfBoundsException") hE hown hT (by decide) (by decide) (hts _ kw_4_82) (kc_4 _ (List.mem_of_getElem? (i := 92) rfl)) rfl hc1 hc2 hc3 ?_
    refine W.eq (g2 := F0 m 21 ls [.ref q9]) rfl ?_
    refine W.widen (k := 2) (n := 12) (by first | exact Nat.le_refl _ | omega) (by first | exact Nat.le_refl _ | omega) ?_
    refine lv_astore (lv' := [(4, .ref q9), (0, .ref x), (1, .int (a1)), (2, .int (a2)), (3, .ref o)]) hx hb dc_L_isBelow_21 hl (by decide) rfl (fun ls hl => ?_)
    refine lv_iconst (v := 1) hx hb dc_L_isBelow_23 (by decide) ?_
    have hP9 := hP.sub (ws' := [(x, .inr (0, [.ref cs, .ref sc, .ref pf, .int (u.2.1), .int (u.2.2.1), .int (u.2.2.2)])), (cs, .inl (G.2.1 2, 6, .inr (.inl (u.1)))), (o, .inr (3, [.long (nn), sv]))]) [1, 2, 0] rfl
    have hD9 := hD.sub (ws' := [(x, .inr (0, [.ref cs, .ref sc, .ref pf, .int (u.2.1), .int (u.2.2.1), .int (u.2.2.2)])), (cs, .inl (G.2.1 2, 6, .inr (.inl (u.1)))), (o, .inr (3, [.long (nn), sv]))]) [1, 2, 0] (by decide) rfl
    refine W.widen (k := 2) (n := 12) (Nat.le_of_ble_eq_true rfl) (Nat.le_of_ble_eq_true rfl) ?_
    exact W.iret (v := (1 : Int32)) hx hb hr (fun t ht hW => ⟨⟨_, (u, nn), rfl, ⟨by rw [hp, ky_lwb_io], by rw [hp, ky_lwb_io]⟩, by rw [ht]; exact hP9, hD9, trivial⟩, hS.F ht⟩) hS.2.2 dc_L_isBelow_24
  · rintro v9 u9 H locs ⟨r_0, w_0, hf_0, rfl, hu9⟩ hP hD hS - hz hk9
    have hu9 := hu9.symm
    subst hu9
    have hP : va_P G.1 kcl [(o, .inr (3, [.long (nn), sv])), (x, .inr (0, [.ref cs, .ref sc, .ref pf, .int (w_0.2.1), .int (w_0.2.2.1), .int (w_0.2.2.2)])), (cs, .inl (G.2.1 2, 6, .inr (.inl (w_0.1))))] H := hP
    have hD : va_D A [(o, .inr (3, [.long (nn), sv])), (x, .inr (0, [.ref cs, .ref sc, .ref pf, .int (w_0.2.1), .int (w_0.2.2.1), .int (w_0.2.2.2)])), (cs, .inl (G.2.1 2, 6, .inr (.inl (w_0.1))))] := hD
    refine W.widen (k := 2) (n := 12) (by first | exact Nat.le_refl _ | omega) (by first | exact Nat.le_refl _ | omega) ?_
    refine lv_if_eq (tgt := 14) hx hb dc_L_isBelow_7 (by decide) (fun c_1 => ?_) (fun c_1 => ?_)
    · skip
      refine lv_lconst (v := 0) hx hb dc_L_isBelow_14 (by decide) ?_
      refine va_putN (D := G.1) (ci := 3) (v := .long ((0 : Int64))) (ty := .long) (C := RX7) (T := TX7) (N := 2) hx hb hts ki_X7 tyX7 tyX7_ok nmX7 hown hE.1 hP hD hS 0 rfl rfl 0 (by decide) (va_Nw.use (A := _) rfl (hE.nestF (kc_4 _ (List.mem_of_getElem? (i := 72) rfl)))) (fun _ h9 => h9) rfl (by decide +kernel) rfl rfl (Nat.le_of_ble_eq_true rfl) dc_L_isBelow_15 (fun H locs hP hD hS => ?_)
      have hP : va_P G.1 kcl [(o, .inr (3, [.long ((0 : Int64)), sv])), (x, .inr (0, [.ref cs, .ref sc, .ref pf, .int (w_0.2.1), .int (w_0.2.2.1), .int (w_0.2.2.2)])), (cs, .inl (G.2.1 2, 6, .inr (.inl (w_0.1))))] H := hP
      have hD : va_D A [(o, .inr (3, [.long ((0 : Int64)), sv])), (x, .inr (0, [.ref cs, .ref sc, .ref pf, .int (w_0.2.1), .int (w_0.2.2.1), .int (w_0.2.2.2)])), (cs, .inl (G.2.1 2, 6, .inr (.inl (w_0.1))))] := hD
      refine lv_goto (tgt := 25) hx hb dc_L_isBelow_18 (by decide) ?_
      refine lv_iconst (v := 0) hx hb dc_L_isBelow_25 (by decide) ?_
      have hP9 := hP.sub (ws' := [(x, .inr (0, [.ref cs, .ref sc, .ref pf, .int (w_0.2.1), .int (w_0.2.2.1), .int (w_0.2.2.2)])), (cs, .inl (G.2.1 2, 6, .inr (.inl (w_0.1)))), (o, .inr (3, [.long ((0 : Int64)), sv]))]) [1, 2, 0] rfl
      have hD9 := hD.sub (ws' := [(x, .inr (0, [.ref cs, .ref sc, .ref pf, .int (w_0.2.1), .int (w_0.2.2.1), .int (w_0.2.2.2)])), (cs, .inl (G.2.1 2, 6, .inr (.inl (w_0.1)))), (o, .inr (3, [.long ((0 : Int64)), sv]))]) [1, 2, 0] (by decide) rfl
      refine W.widen (k := 2) (n := 12) (Nat.le_of_ble_eq_true rfl) (Nat.le_of_ble_eq_true rfl) ?_
      exact W.iret (v := (0 : Int32)) hx hb hr (fun t ht hW => ⟨⟨_, (w_0, (0 : Int64)), rfl, ⟨by rw [hf_0, ky_lwb_ok], by rw [hf_0, ky_lwb_ok, if_pos c_1]⟩, by rw [ht]; exact hP9, hD9, trivial⟩, hS.F ht⟩) hS.2.2 dc_L_isBelow_26
    · skip
      refine lv_lconst (v := 1) hx hb dc_L_isBelow_10 (by decide) ?_
      refine lv_goto (tgt := 15) hx hb dc_L_isBelow_11 (by decide) ?_
      refine va_putN (D := G.1) (ci := 3) (v := .long ((1 : Int64))) (ty := .long) (C := RX7) (T := TX7) (N := 2) hx hb hts ki_X7 tyX7 tyX7_ok nmX7 hown hE.1 hP hD hS 0 rfl rfl 0 (by decide) (va_Nw.use (A := _) rfl (hE.nestF (kc_4 _ (List.mem_of_getElem? (i := 72) rfl)))) (fun _ h9 => h9) rfl (by decide +kernel) rfl rfl (Nat.le_of_ble_eq_true rfl) dc_L_isBelow_15 (fun H locs hP hD hS => ?_)
      have hP : va_P G.1 kcl [(o, .inr (3, [.long ((1 : Int64)), sv])), (x, .inr (0, [.ref cs, .ref sc, .ref pf, .int (w_0.2.1), .int (w_0.2.2.1), .int (w_0.2.2.2)])), (cs, .inl (G.2.1 2, 6, .inr (.inl (w_0.1))))] H := hP
      have hD : va_D A [(o, .inr (3, [.long ((1 : Int64)), sv])), (x, .inr (0, [.ref cs, .ref sc, .ref pf, .int (w_0.2.1), .int (w_0.2.2.1), .int (w_0.2.2.2)])), (cs, .inl (G.2.1 2, 6, .inr (.inl (w_0.1))))] := hD
      refine lv_goto (tgt := 25) hx hb dc_L_isBelow_18 (by decide) ?_
      refine lv_iconst (v := 0) hx hb dc_L_isBelow_25 (by decide) ?_
      have hP9 := hP.sub (ws' := [(x, .inr (0, [.ref cs, .ref sc, .ref pf, .int (w_0.2.1), .int (w_0.2.2.1), .int (w_0.2.2.2)])), (cs, .inl (G.2.1 2, 6, .inr (.inl (w_0.1)))), (o, .inr (3, [.long ((1 : Int64)), sv]))]) [1, 2, 0] rfl
      have hD9 := hD.sub (ws' := [(x, .inr (0, [.ref cs, .ref sc, .ref pf, .int (w_0.2.1), .int (w_0.2.2.1), .int (w_0.2.2.2)])), (cs, .inl (G.2.1 2, 6, .inr (.inl (w_0.1)))), (o, .inr (3, [.long ((1 : Int64)), sv]))]) [1, 2, 0] (by decide) rfl
      refine W.widen (k := 2) (n := 12) (Nat.le_of_ble_eq_true rfl) (Nat.le_of_ble_eq_true rfl) ?_
      exact W.iret (v := (0 : Int32)) hx hb hr (fun t ht hW => ⟨⟨_, (w_0, (1 : Int64)), rfl, ⟨by rw [hf_0, ky_lwb_ok], by rw [hf_0, ky_lwb_ok, if_neg c_1]⟩, by rw [ht]; exact hP9, hD9, trivial⟩, hS.F ht⟩) hS.2.2 dc_L_isBelow_26
set_option linter.constructorNameAsVariable false in
set_option maxHeartbeats 4000000 in
set_option maxRecDepth 100000 in
theorem mt_L_areSame (l : Launch) (hl9 : l.stackTraces = false) (G : ky_G) (x : Nat) (cs : Nat) (sc : Nat) (pf : Nat) (u : ky_BS) (o : Nat) (nn : Int64) (sv : Value) (a1 : Int32) (a2 : Int32) (sz : Nat)  : Met l my_L_areSame (.codeWith my_L_areSame method_38_code 5 (some .int) [(0, 18, 21, 19)] :: ky_B) { frames := 9, cells := 2, slots := 12, locals := 145 } (ky_P G [.ref x, .int (a1), .int (a2), .ref o] (ky_WB G x cs sc pf u ++ ky_WO o nn sv) sz (fun _ => True)) (ky_Q (S := ky_BS × Int64) G (va_A (ky_WB G x cs sc pf u ++ ky_WO o nn sv) sz) (fun v z => v = some (.int (ky_lwb (fn_X6_areSame a1 a2 u) u nn).1) ∧ z = (ky_lwb (fn_X6_areSame a1 a2 u) u nn).2) (fun z => ky_WB G x cs sc pf z.1 ++ ky_WO o z.2 sv) (fun _ _ => True)) (2) (12) (va_A (ky_WB G x cs sc pf u ++ ky_WO o nn sv) sz) := by
  refine ky_startH (hh := [(0, 18, 21, 19)]) (by decide) (Nat.le_of_ble_eq_true rfl) (fun p e s m below meth c F hT hE A hAe hsz hA hfr hP hD hS hX ls hl => ?_)
  obtain ⟨hx, hb, hml, hown, hr, hlocks, hts⟩ := id F
  have hl : lv_has ls 5 [(0, .ref x), (1, .int (a1)), (2, .int (a2)), (3, .ref o)] := hl
  have hP : va_P G.1 kcl [(x, .inr (0, [.ref cs, .ref sc, .ref pf, .int (u.2.1), .int (u.2.2.1), .int (u.2.2.2)])), (cs, .inl (G.2.1 2, 6, .inr (.inl (u.1)))), (o, .inr (3, [.long (nn), sv]))] s.heap := hP
  have hD : va_D A [(x, .inr (0, [.ref cs, .ref sc, .ref pf, .int (u.2.1), .int (u.2.2.1), .int (u.2.2.2)])), (cs, .inl (G.2.1 2, 6, .inr (.inl (u.1)))), (o, .inr (3, [.long (nn), sv]))] := hD
  refine lv_aload_n hx hb dc_L_areSame_0 rfl (lv_at hl 3 rfl) ?_
  refine lv_aload_n hx hb dc_L_areSame_1 rfl (lv_at hl 0 rfl) ?_
  refine lv_iload_n hx hb dc_L_areSame_2 rfl (lv_at hl 1 rfl) ?_
  refine lv_iload_n hx hb dc_L_areSame_3 rfl (lv_at hl 2 rfl) ?_
  refine ky_cVx (As := [.int (a1), .int (a2)]) (wr := [(o, .inr (3, [.long (nn), sv]))]) F (hE.at hfr hS) hfr (mt_X6_areSame l hl9 G x cs sc pf u (a1) (a2) s.heap.size) kv_L_139 ⟨⟨rfl, rfl⟩, Nat.le_of_ble_eq_true rfl, Nat.le_of_ble_eq_true rfl⟩ rfl hl.1 rfl (Nat.le_of_ble_eq_true rfl) ⟨Nat.le_of_ble_eq_true rfl, Nat.le_of_ble_eq_true rfl⟩ (va_recv hE.1 hP (ci := 0) (q0 := 0) rfl rfl) trivial hP hD hS hA [0, 1] [2] rfl rfl (by decide) (by decide) (by decide) dc_L_areSame_4 ?_ ?_
  · intro E ce q9 H locs hp hP hD hS hz hk9 hc1 hc2 hc3
    have hP : va_P G.1 kcl [(o, .inr (3, [.long (nn), sv])), (x, .inr (0, [.ref cs, .ref sc, .ref pf, .int (u.2.1), .int (u.2.2.1), .int (u.2.2.2)])), (cs, .inl (G.2.1 2, 6, .inr (.inl (u.1))))] H := hP
    have hD : va_D A [(o, .inr (3, [.long (nn), sv])), (x, .inr (0, [.ref cs, .ref sc, .ref pf, .int (u.2.1), .int (u.2.2.1), .int (u.2.2.2)])), (cs, .inl (G.2.1 2, 6, .inr (.inl (u.1))))] := hD
    have he := on_X6_areSame (a1) (a2) u E hp
    subst he
    refine ky_cat1 (h1 := (0, 18, 21, 19)) (name := "java/lang/IndexOutOfBoundsException") hE hown hT (by decide) (by decide) (hts _ kw_4_82) (kc_4 _ (List.mem_of_getElem? (i := 92) rfl)) rfl hc1 hc2 hc3 ?_
    refine W.eq (g2 := F0 m 21 ls [.ref q9]) rfl ?_
    refine W.widen (k := 2) (n := 12) (by first | exact Nat.le_refl _ | omega) (by first | exact Nat.le_refl _ | omega) ?_
    refine lv_astore (lv' := [(4, .ref q9), (0, .ref x), (1, .int (a1)), (2, .int (a2)), (3, .ref o)]) hx hb dc_L_areSame_21 hl (by decide) rfl (fun ls hl => ?_)
    refine lv_iconst (v := 1) hx hb dc_L_areSame_23 (by decide) ?_
    have hP9 := hP.sub (ws' := [(x, .inr (0, [.ref cs, .ref sc, .ref pf, .int (u.2.1), .int (u.2.2.1), .int (u.2.2.2)])), (cs, .inl (G.2.1 2, 6, .inr (.inl (u.1)))), (o, .inr (3, [.long (nn), sv]))]) [1, 2, 0] rfl
    have hD9 := hD.sub (ws' := [(x, .inr (0, [.ref cs, .ref sc, .ref pf, .int (u.2.1), .int (u.2.2.1), .int (u.2.2.2)])), (cs, .inl (G.2.1 2, 6, .inr (.inl (u.1)))), (o, .inr (3, [.long (nn), sv]))]) [1, 2, 0] (by decide) rfl
    refine W.widen (k := 2) (n := 12) (Nat.le_of_ble_eq_true rfl) (Nat.le_of_ble_eq_true rfl) ?_
    exact W.iret (v := (1 : Int32)) hx hb hr (fun t ht hW => ⟨⟨_, (u, nn), rfl, ⟨by rw [hp, ky_lwb_io], by rw [hp, ky_lwb_io]⟩, by rw [ht]; exact hP9, hD9, trivial⟩, hS.F ht⟩) hS.2.2 dc_L_areSame_24
  · rintro v9 u9 H locs ⟨r_0, w_0, hf_0, rfl, hu9⟩ hP hD hS - hz hk9
    have hu9 := hu9.symm
    subst hu9
    have hP : va_P G.1 kcl [(o, .inr (3, [.long (nn), sv])), (x, .inr (0, [.ref cs, .ref sc, .ref pf, .int (w_0.2.1), .int (w_0.2.2.1), .int (w_0.2.2.2)])), (cs, .inl (G.2.1 2, 6, .inr (.inl (w_0.1))))] H := hP
    have hD : va_D A [(o, .inr (3, [.long (nn), sv])), (x, .inr (0, [.ref cs, .ref sc, .ref pf, .int (w_0.2.1), .int (w_0.2.2.1), .int (w_0.2.2.2)])), (cs, .inl (G.2.1 2, 6, .inr (.inl (w_0.1))))] := hD
    refine W.widen (k := 2) (n := 12) (by first | exact Nat.le_refl _ | omega) (by first | exact Nat.le_refl _ | omega) ?_
    refine lv_if_eq (tgt := 14) hx hb dc_L_areSame_7 (by decide) (fun c_1 => ?_) (fun c_1 => ?_)
    · skip
      refine lv_lconst (v := 0) hx hb dc_L_areSame_14 (by decide) ?_
      refine va_putN (D := G.1) (ci := 3) (v := .long ((0 : Int64))) (ty := .long) (C := RX7) (T := TX7) (N := 2) hx hb hts ki_X7 tyX7 tyX7_ok nmX7 hown hE.1 hP hD hS 0 rfl rfl 0 (by decide) (va_Nw.use (A := _) rfl (hE.nestF (kc_4 _ (List.mem_of_getElem? (i := 72) rfl)))) (fun _ h9 => h9) rfl (by decide +kernel) rfl rfl (Nat.le_of_ble_eq_true rfl) dc_L_areSame_15 (fun H locs hP hD hS => ?_)
      have hP : va_P G.1 kcl [(o, .inr (3, [.long ((0 : Int64)), sv])), (x, .inr (0, [.ref cs, .ref sc, .ref pf, .int (w_0.2.1), .int (w_0.2.2.1), .int (w_0.2.2.2)])), (cs, .inl (G.2.1 2, 6, .inr (.inl (w_0.1))))] H := hP
      have hD : va_D A [(o, .inr (3, [.long ((0 : Int64)), sv])), (x, .inr (0, [.ref cs, .ref sc, .ref pf, .int (w_0.2.1), .int (w_0.2.2.1), .int (w_0.2.2.2)])), (cs, .inl (G.2.1 2, 6, .inr (.inl (w_0.1))))] := hD
      refine lv_goto (tgt := 25) hx hb dc_L_areSame_18 (by decide) ?_
      refine lv_iconst (v := 0) hx hb dc_L_areSame_25 (by decide) ?_
      have hP9 := hP.sub (ws' := [(x, .inr (0, [.ref cs, .ref sc, .ref pf, .int (w_0.2.1), .int (w_0.2.2.1), .int (w_0.2.2.2)])), (cs, .inl (G.2.1 2, 6, .inr (.inl (w_0.1)))), (o, .inr (3, [.long ((0 : Int64)), sv]))]) [1, 2, 0] rfl
      have hD9 := hD.sub (ws' := [(x, .inr (0, [.ref cs, .ref sc, .ref pf, .int (w_0.2.1), .int (w_0.2.2.1), .int (w_0.2.2.2)])), (cs, .inl (G.2.1 2, 6, .inr (.inl (w_0.1)))), (o, .inr (3, [.long ((0 : Int64)), sv]))]) [1, 2, 0] (by decide) rfl
      refine W.widen (k := 2) (n := 12) (Nat.le_of_ble_eq_true rfl) (Nat.le_of_ble_eq_true rfl) ?_
      exact W.iret (v := (0 : Int32)) hx hb hr (fun t ht hW => ⟨⟨_, (w_0, (0 : Int64)), rfl, ⟨by rw [hf_0, ky_lwb_ok], by rw [hf_0, ky_lwb_ok, if_pos c_1]⟩, by rw [ht]; exact hP9, hD9, trivial⟩, hS.F ht⟩) hS.2.2 dc_L_areSame_26
    · skip
      refine lv_lconst (v := 1) hx hb dc_L_areSame_10 (by decide) ?_
      refine lv_goto (tgt := 15) hx hb dc_L_areSame_11 (by decide) ?_
      refine va_putN (D := G.1) (ci := 3) (v := .long ((1 : Int64))) (ty := .long) (C := RX7) (T := TX7) (N := 2) hx hb hts ki_X7 tyX7 tyX7_ok nmX7 hown hE.1 hP hD hS 0 rfl rfl 0 (by decide) (va_Nw.use (A := _) rfl (hE.nestF (kc_4 _ (List.mem_of_getElem? (i := 72) rfl)))) (fun _ h9 => h9) rfl (by decide +kernel) rfl rfl (Nat.le_of_ble_eq_true rfl) dc_L_areSame_15 (fun H locs hP hD hS => ?_)
      have hP : va_P G.1 kcl [(o, .inr (3, [.long ((1 : Int64)), sv])), (x, .inr (0, [.ref cs, .ref sc, .ref pf, .int (w_0.2.1), .int (w_0.2.2.1), .int (w_0.2.2.2)])), (cs, .inl (G.2.1 2, 6, .inr (.inl (w_0.1))))] H := hP
      have hD : va_D A [(o, .inr (3, [.long ((1 : Int64)), sv])), (x, .inr (0, [.ref cs, .ref sc, .ref pf, .int (w_0.2.1), .int (w_0.2.2.1), .int (w_0.2.2.2)])), (cs, .inl (G.2.1 2, 6, .inr (.inl (w_0.1))))] := hD
      refine lv_goto (tgt := 25) hx hb dc_L_areSame_18 (by decide) ?_
      refine lv_iconst (v := 0) hx hb dc_L_areSame_25 (by decide) ?_
      have hP9 := hP.sub (ws' := [(x, .inr (0, [.ref cs, .ref sc, .ref pf, .int (w_0.2.1), .int (w_0.2.2.1), .int (w_0.2.2.2)])), (cs, .inl (G.2.1 2, 6, .inr (.inl (w_0.1)))), (o, .inr (3, [.long ((1 : Int64)), sv]))]) [1, 2, 0] rfl
      have hD9 := hD.sub (ws' := [(x, .inr (0, [.ref cs, .ref sc, .ref pf, .int (w_0.2.1), .int (w_0.2.2.1), .int (w_0.2.2.2)])), (cs, .inl (G.2.1 2, 6, .inr (.inl (w_0.1)))), (o, .inr (3, [.long ((1 : Int64)), sv]))]) [1, 2, 0] (by decide) rfl
      refine W.widen (k := 2) (n := 12) (Nat.le_of_ble_eq_true rfl) (Nat.le_of_ble_eq_true rfl) ?_
      exact W.iret (v := (0 : Int32)) hx hb hr (fun t ht hW => ⟨⟨_, (w_0, (1 : Int64)), rfl, ⟨by rw [hf_0, ky_lwb_ok], by rw [hf_0, ky_lwb_ok, if_neg c_1]⟩, by rw [ht]; exact hP9, hD9, trivial⟩, hS.F ht⟩) hS.2.2 dc_L_areSame_26
set_option linter.constructorNameAsVariable false in
set_option maxHeartbeats 4000000 in
set_option maxRecDepth 100000 in
theorem mt_L_isNext (l : Launch) (hl9 : l.stackTraces = false) (G : ky_G) (x : Nat) (cs : Nat) (sc : Nat) (pf : Nat) (u : ky_BS) (o : Nat) (nn : Int64) (sv : Value) (a1 : Int32) (a2 : Int32) (sz : Nat)  : Met l my_L_isNext (.codeWith my_L_isNext method_39_code 5 (some .int) [(0, 18, 21, 19)] :: ky_B) { frames := 9, cells := 2, slots := 12, locals := 145 } (ky_P G [.ref x, .int (a1), .int (a2), .ref o] (ky_WB G x cs sc pf u ++ ky_WO o nn sv) sz (fun _ => True)) (ky_Q (S := ky_BS × Int64) G (va_A (ky_WB G x cs sc pf u ++ ky_WO o nn sv) sz) (fun v z => v = some (.int (ky_lwb (fn_X6_isNext a1 a2 u) u nn).1) ∧ z = (ky_lwb (fn_X6_isNext a1 a2 u) u nn).2) (fun z => ky_WB G x cs sc pf z.1 ++ ky_WO o z.2 sv) (fun _ _ => True)) (2) (12) (va_A (ky_WB G x cs sc pf u ++ ky_WO o nn sv) sz) := by
  refine ky_startH (hh := [(0, 18, 21, 19)]) (by decide) (Nat.le_of_ble_eq_true rfl) (fun p e s m below meth c F hT hE A hAe hsz hA hfr hP hD hS hX ls hl => ?_)
  obtain ⟨hx, hb, hml, hown, hr, hlocks, hts⟩ := id F
  have hl : lv_has ls 5 [(0, .ref x), (1, .int (a1)), (2, .int (a2)), (3, .ref o)] := hl
  have hP : va_P G.1 kcl [(x, .inr (0, [.ref cs, .ref sc, .ref pf, .int (u.2.1), .int (u.2.2.1), .int (u.2.2.2)])), (cs, .inl (G.2.1 2, 6, .inr (.inl (u.1)))), (o, .inr (3, [.long (nn), sv]))] s.heap := hP
  have hD : va_D A [(x, .inr (0, [.ref cs, .ref sc, .ref pf, .int (u.2.1), .int (u.2.2.1), .int (u.2.2.2)])), (cs, .inl (G.2.1 2, 6, .inr (.inl (u.1)))), (o, .inr (3, [.long (nn), sv]))] := hD
  refine lv_aload_n hx hb dc_L_isNext_0 rfl (lv_at hl 3 rfl) ?_
  refine lv_aload_n hx hb dc_L_isNext_1 rfl (lv_at hl 0 rfl) ?_
  refine lv_iload_n hx hb dc_L_isNext_2 rfl (lv_at hl 1 rfl) ?_
  refine lv_iload_n hx hb dc_L_isNext_3 rfl (lv_at hl 2 rfl) ?_
  refine ky_cVx (As := [.int (a1), .int (a2)]) (wr := [(o, .inr (3, [.long (nn), sv]))]) F (hE.at hfr hS) hfr (mt_X6_isNext l hl9 G x cs sc pf u (a1) (a2) s.heap.size) kv_L_142 ⟨⟨rfl, rfl⟩, Nat.le_of_ble_eq_true rfl, Nat.le_of_ble_eq_true rfl⟩ rfl hl.1 rfl (Nat.le_of_ble_eq_true rfl) ⟨Nat.le_of_ble_eq_true rfl, Nat.le_of_ble_eq_true rfl⟩ (va_recv hE.1 hP (ci := 0) (q0 := 0) rfl rfl) trivial hP hD hS hA [0, 1] [2] rfl rfl (by decide) (by decide) (by decide) dc_L_isNext_4 ?_ ?_
  · intro E ce q9 H locs hp hP hD hS hz hk9 hc1 hc2 hc3
    have hP : va_P G.1 kcl [(o, .inr (3, [.long (nn), sv])), (x, .inr (0, [.ref cs, .ref sc, .ref pf, .int (u.2.1), .int (u.2.2.1), .int (u.2.2.2)])), (cs, .inl (G.2.1 2, 6, .inr (.inl (u.1))))] H := hP
    have hD : va_D A [(o, .inr (3, [.long (nn), sv])), (x, .inr (0, [.ref cs, .ref sc, .ref pf, .int (u.2.1), .int (u.2.2.1), .int (u.2.2.2)])), (cs, .inl (G.2.1 2, 6, .inr (.inl (u.1))))] := hD
    have he := on_X6_isNext (a1) (a2) u E hp
    subst he
    refine ky_cat1 (h1 := (0, 18, 21, 19)) (name := "java/lang/IndexOutOfBoundsException") hE hown hT (by decide) (by decide) (hts _ kw_4_82) (kc_4 _ (List.mem_of_getElem? (i := 92) rfl)) rfl hc1 hc2 hc3 ?_
    refine W.eq (g2 := F0 m 21 ls [.ref q9]) rfl ?_
    refine W.widen (k := 2) (n := 12) (by first | exact Nat.le_refl _ | omega) (by first | exact Nat.le_refl _ | omega) ?_
    refine lv_astore (lv' := [(4, .ref q9), (0, .ref x), (1, .int (a1)), (2, .int (a2)), (3, .ref o)]) hx hb dc_L_isNext_21 hl (by decide) rfl (fun ls hl => ?_)
    refine lv_iconst (v := 1) hx hb dc_L_isNext_23 (by decide) ?_
    have hP9 := hP.sub (ws' := [(x, .inr (0, [.ref cs, .ref sc, .ref pf, .int (u.2.1), .int (u.2.2.1), .int (u.2.2.2)])), (cs, .inl (G.2.1 2, 6, .inr (.inl (u.1)))), (o, .inr (3, [.long (nn), sv]))]) [1, 2, 0] rfl
    have hD9 := hD.sub (ws' := [(x, .inr (0, [.ref cs, .ref sc, .ref pf, .int (u.2.1), .int (u.2.2.1), .int (u.2.2.2)])), (cs, .inl (G.2.1 2, 6, .inr (.inl (u.1)))), (o, .inr (3, [.long (nn), sv]))]) [1, 2, 0] (by decide) rfl
    refine W.widen (k := 2) (n := 12) (Nat.le_of_ble_eq_true rfl) (Nat.le_of_ble_eq_true rfl) ?_
    exact W.iret (v := (1 : Int32)) hx hb hr (fun t ht hW => ⟨⟨_, (u, nn), rfl, ⟨by rw [hp, ky_lwb_io], by rw [hp, ky_lwb_io]⟩, by rw [ht]; exact hP9, hD9, trivial⟩, hS.F ht⟩) hS.2.2 dc_L_isNext_24
  · rintro v9 u9 H locs ⟨r_0, w_0, hf_0, rfl, hu9⟩ hP hD hS - hz hk9
    have hu9 := hu9.symm
    subst hu9
    have hP : va_P G.1 kcl [(o, .inr (3, [.long (nn), sv])), (x, .inr (0, [.ref cs, .ref sc, .ref pf, .int (w_0.2.1), .int (w_0.2.2.1), .int (w_0.2.2.2)])), (cs, .inl (G.2.1 2, 6, .inr (.inl (w_0.1))))] H := hP
    have hD : va_D A [(o, .inr (3, [.long (nn), sv])), (x, .inr (0, [.ref cs, .ref sc, .ref pf, .int (w_0.2.1), .int (w_0.2.2.1), .int (w_0.2.2.2)])), (cs, .inl (G.2.1 2, 6, .inr (.inl (w_0.1))))] := hD
    refine W.widen (k := 2) (n := 12) (by first | exact Nat.le_refl _ | omega) (by first | exact Nat.le_refl _ | omega) ?_
    refine lv_if_eq (tgt := 14) hx hb dc_L_isNext_7 (by decide) (fun c_1 => ?_) (fun c_1 => ?_)
    · skip
      refine lv_lconst (v := 0) hx hb dc_L_isNext_14 (by decide) ?_
      refine va_putN (D := G.1) (ci := 3) (v := .long ((0 : Int64))) (ty := .long) (C := RX7) (T := TX7) (N := 2) hx hb hts ki_X7 tyX7 tyX7_ok nmX7 hown hE.1 hP hD hS 0 rfl rfl 0 (by decide) (va_Nw.use (A := _) rfl (hE.nestF (kc_4 _ (List.mem_of_getElem? (i := 72) rfl)))) (fun _ h9 => h9) rfl (by decide +kernel) rfl rfl (Nat.le_of_ble_eq_true rfl) dc_L_isNext_15 (fun H locs hP hD hS => ?_)
      have hP : va_P G.1 kcl [(o, .inr (3, [.long ((0 : Int64)), sv])), (x, .inr (0, [.ref cs, .ref sc, .ref pf, .int (w_0.2.1), .int (w_0.2.2.1), .int (w_0.2.2.2)])), (cs, .inl (G.2.1 2, 6, .inr (.inl (w_0.1))))] H := hP
      have hD : va_D A [(o, .inr (3, [.long ((0 : Int64)), sv])), (x, .inr (0, [.ref cs, .ref sc, .ref pf, .int (w_0.2.1), .int (w_0.2.2.1), .int (w_0.2.2.2)])), (cs, .inl (G.2.1 2, 6, .inr (.inl (w_0.1))))] := hD
      refine lv_goto (tgt := 25) hx hb dc_L_isNext_18 (by decide) ?_
      refine lv_iconst (v := 0) hx hb dc_L_isNext_25 (by decide) ?_
      have hP9 := hP.sub (ws' := [(x, .inr (0, [.ref cs, .ref sc, .ref pf, .int (w_0.2.1), .int (w_0.2.2.1), .int (w_0.2.2.2)])), (cs, .inl (G.2.1 2, 6, .inr (.inl (w_0.1)))), (o, .inr (3, [.long ((0 : Int64)), sv]))]) [1, 2, 0] rfl
      have hD9 := hD.sub (ws' := [(x, .inr (0, [.ref cs, .ref sc, .ref pf, .int (w_0.2.1), .int (w_0.2.2.1), .int (w_0.2.2.2)])), (cs, .inl (G.2.1 2, 6, .inr (.inl (w_0.1)))), (o, .inr (3, [.long ((0 : Int64)), sv]))]) [1, 2, 0] (by decide) rfl
      refine W.widen (k := 2) (n := 12) (Nat.le_of_ble_eq_true rfl) (Nat.le_of_ble_eq_true rfl) ?_
      exact W.iret (v := (0 : Int32)) hx hb hr (fun t ht hW => ⟨⟨_, (w_0, (0 : Int64)), rfl, ⟨by rw [hf_0, ky_lwb_ok], by rw [hf_0, ky_lwb_ok, if_pos c_1]⟩, by rw [ht]; exact hP9, hD9, trivial⟩, hS.F ht⟩) hS.2.2 dc_L_isNext_26
    · skip
      refine lv_lconst (v := 1) hx hb dc_L_isNext_10 (by decide) ?_
      refine lv_goto (tgt := 15) hx hb dc_L_isNext_11 (by decide) ?_
      refine va_putN (D := G.1) (ci := 3) (v := .long ((1 : Int64))) (ty := .long) (C := RX7) (T := TX7) (N := 2) hx hb hts ki_X7 tyX7 tyX7_ok nmX7 hown hE.1 hP hD hS 0 rfl rfl 0 (by decide) (va_Nw.use (A := _) rfl (hE.nestF (kc_4 _ (List.mem_of_getElem? (i := 72) rfl)))) (fun _ h9 => h9) rfl (by decide +kernel) rfl rfl (Nat.le_of_ble_eq_true rfl) dc_L_isNext_15 (fun H locs hP hD hS => ?_)
      have hP : va_P G.1 kcl [(o, .inr (3, [.long ((1 : Int64)), sv])), (x, .inr (0, [.ref cs, .ref sc, .ref pf, .int (w_0.2.1), .int (w_0.2.2.1), .int (w_0.2.2.2)])), (cs, .inl (G.2.1 2, 6, .inr (.inl (w_0.1))))] H := hP
      have hD : va_D A [(o, .inr (3, [.long ((1 : Int64)), sv])), (x, .inr (0, [.ref cs, .ref sc, .ref pf, .int (w_0.2.1), .int (w_0.2.2.1), .int (w_0.2.2.2)])), (cs, .inl (G.2.1 2, 6, .inr (.inl (w_0.1))))] := hD
      refine lv_goto (tgt := 25) hx hb dc_L_isNext_18 (by decide) ?_
      refine lv_iconst (v := 0) hx hb dc_L_isNext_25 (by decide) ?_
      have hP9 := hP.sub (ws' := [(x, .inr (0, [.ref cs, .ref sc, .ref pf, .int (w_0.2.1), .int (w_0.2.2.1), .int (w_0.2.2.2)])), (cs, .inl (G.2.1 2, 6, .inr (.inl (w_0.1)))), (o, .inr (3, [.long ((1 : Int64)), sv]))]) [1, 2, 0] rfl
      have hD9 := hD.sub (ws' := [(x, .inr (0, [.ref cs, .ref sc, .ref pf, .int (w_0.2.1), .int (w_0.2.2.1), .int (w_0.2.2.2)])), (cs, .inl (G.2.1 2, 6, .inr (.inl (w_0.1)))), (o, .inr (3, [.long ((1 : Int64)), sv]))]) [1, 2, 0] (by decide) rfl
      refine W.widen (k := 2) (n := 12) (Nat.le_of_ble_eq_true rfl) (Nat.le_of_ble_eq_true rfl) ?_
      exact W.iret (v := (0 : Int32)) hx hb hr (fun t ht hW => ⟨⟨_, (w_0, (1 : Int64)), rfl, ⟨by rw [hf_0, ky_lwb_ok], by rw [hf_0, ky_lwb_ok, if_neg c_1]⟩, by rw [ht]; exact hP9, hD9, trivial⟩, hS.F ht⟩) hS.2.2 dc_L_isNext_26
set_option linter.constructorNameAsVariable false in
set_option maxHeartbeats 4000000 in
set_option maxRecDepth 100000 in
theorem mt_L_apart (l : Launch) (hl9 : l.stackTraces = false) (G : ky_G) (x : Nat) (cs : Nat) (sc : Nat) (pf : Nat) (u : ky_BS) (o : Nat) (nn : Int64) (sv : Value) (a1 : Int32) (a2 : Int32) (sz : Nat)  : Met l my_L_apart (.codeWith my_L_apart method_40_code 5 (some .int) [(0, 11, 14, 19)] :: ky_B) { frames := 9, cells := 2, slots := 12, locals := 145 } (ky_P G [.ref x, .int (a1), .int (a2), .ref o] (ky_WB G x cs sc pf u ++ ky_WO o nn sv) sz (fun _ => True)) (ky_Q (S := ky_BS × Int64) G (va_A (ky_WB G x cs sc pf u ++ ky_WO o nn sv) sz) (fun v z => v = some (.int (ky_lw (fn_X6_apart a1 a2 u) u nn).1) ∧ z = (ky_lw (fn_X6_apart a1 a2 u) u nn).2) (fun z => ky_WB G x cs sc pf z.1 ++ ky_WO o z.2 sv) (fun _ _ => True)) (2) (12) (va_A (ky_WB G x cs sc pf u ++ ky_WO o nn sv) sz) := by
  refine ky_startH (hh := [(0, 11, 14, 19)]) (by decide) (Nat.le_of_ble_eq_true rfl) (fun p e s m below meth c F hT hE A hAe hsz hA hfr hP hD hS hX ls hl => ?_)
  obtain ⟨hx, hb, hml, hown, hr, hlocks, hts⟩ := id F
  have hl : lv_has ls 5 [(0, .ref x), (1, .int (a1)), (2, .int (a2)), (3, .ref o)] := hl
  have hP : va_P G.1 kcl [(x, .inr (0, [.ref cs, .ref sc, .ref pf, .int (u.2.1), .int (u.2.2.1), .int (u.2.2.2)])), (cs, .inl (G.2.1 2, 6, .inr (.inl (u.1)))), (o, .inr (3, [.long (nn), sv]))] s.heap := hP
  have hD : va_D A [(x, .inr (0, [.ref cs, .ref sc, .ref pf, .int (u.2.1), .int (u.2.2.1), .int (u.2.2.2)])), (cs, .inl (G.2.1 2, 6, .inr (.inl (u.1)))), (o, .inr (3, [.long (nn), sv]))] := hD
  refine lv_aload_n hx hb dc_L_apart_0 rfl (lv_at hl 3 rfl) ?_
  refine lv_aload_n hx hb dc_L_apart_1 rfl (lv_at hl 0 rfl) ?_
  refine lv_iload_n hx hb dc_L_apart_2 rfl (lv_at hl 1 rfl) ?_
  refine lv_iload_n hx hb dc_L_apart_3 rfl (lv_at hl 2 rfl) ?_
  refine ky_cVx (As := [.int (a1), .int (a2)]) (wr := [(o, .inr (3, [.long (nn), sv]))]) F (hE.at hfr hS) hfr (mt_X6_apart l hl9 G x cs sc pf u (a1) (a2) s.heap.size) kv_L_145 ⟨⟨rfl, rfl⟩, Nat.le_of_ble_eq_true rfl, Nat.le_of_ble_eq_true rfl⟩ rfl hl.1 rfl (Nat.le_of_ble_eq_true rfl) ⟨Nat.le_of_ble_eq_true rfl, Nat.le_of_ble_eq_true rfl⟩ (va_recv hE.1 hP (ci := 0) (q0 := 0) rfl rfl) trivial hP hD hS hA [0, 1] [2] rfl rfl (by decide) (by decide) (by decide) dc_L_apart_4 ?_ ?_
  · intro E ce q9 H locs hp hP hD hS hz hk9 hc1 hc2 hc3
    have hP : va_P G.1 kcl [(o, .inr (3, [.long (nn), sv])), (x, .inr (0, [.ref cs, .ref sc, .ref pf, .int (u.2.1), .int (u.2.2.1), .int (u.2.2.2)])), (cs, .inl (G.2.1 2, 6, .inr (.inl (u.1))))] H := hP
    have hD : va_D A [(o, .inr (3, [.long (nn), sv])), (x, .inr (0, [.ref cs, .ref sc, .ref pf, .int (u.2.1), .int (u.2.2.1), .int (u.2.2.2)])), (cs, .inl (G.2.1 2, 6, .inr (.inl (u.1))))] := hD
    have he := on_X6_apart (a1) (a2) u E hp
    subst he
    refine ky_cat1 (h1 := (0, 11, 14, 19)) (name := "java/lang/IndexOutOfBoundsException") hE hown hT (by decide) (by decide) (hts _ kw_4_82) (kc_4 _ (List.mem_of_getElem? (i := 92) rfl)) rfl hc1 hc2 hc3 ?_
    refine W.eq (g2 := F0 m 14 ls [.ref q9]) rfl ?_
    refine W.widen (k := 2) (n := 12) (by first | exact Nat.le_refl _ | omega) (by first | exact Nat.le_refl _ | omega) ?_
    refine lv_astore (lv' := [(4, .ref q9), (0, .ref x), (1, .int (a1)), (2, .int (a2)), (3, .ref o)]) hx hb dc_L_apart_14 hl (by decide) rfl (fun ls hl => ?_)
    refine lv_iconst (v := 1) hx hb dc_L_apart_16 (by decide) ?_
    have hP9 := hP.sub (ws' := [(x, .inr (0, [.ref cs, .ref sc, .ref pf, .int (u.2.1), .int (u.2.2.1), .int (u.2.2.2)])), (cs, .inl (G.2.1 2, 6, .inr (.inl (u.1)))), (o, .inr (3, [.long (nn), sv]))]) [1, 2, 0] rfl
    have hD9 := hD.sub (ws' := [(x, .inr (0, [.ref cs, .ref sc, .ref pf, .int (u.2.1), .int (u.2.2.1), .int (u.2.2.2)])), (cs, .inl (G.2.1 2, 6, .inr (.inl (u.1)))), (o, .inr (3, [.long (nn), sv]))]) [1, 2, 0] (by decide) rfl
    refine W.widen (k := 2) (n := 12) (Nat.le_of_ble_eq_true rfl) (Nat.le_of_ble_eq_true rfl) ?_
    exact W.iret (v := (1 : Int32)) hx hb hr (fun t ht hW => ⟨⟨_, (u, nn), rfl, ⟨by rw [hp, ky_lw_io], by rw [hp, ky_lw_io]⟩, by rw [ht]; exact hP9, hD9, trivial⟩, hS.F ht⟩) hS.2.2 dc_L_apart_17
  · rintro v9 u9 H locs ⟨r_0, w_0, hf_0, rfl, hu9⟩ hP hD hS - hz hk9
    have hu9 := hu9.symm
    subst hu9
    have hP : va_P G.1 kcl [(o, .inr (3, [.long (nn), sv])), (x, .inr (0, [.ref cs, .ref sc, .ref pf, .int (w_0.2.1), .int (w_0.2.2.1), .int (w_0.2.2.2)])), (cs, .inl (G.2.1 2, 6, .inr (.inl (w_0.1))))] H := hP
    have hD : va_D A [(o, .inr (3, [.long (nn), sv])), (x, .inr (0, [.ref cs, .ref sc, .ref pf, .int (w_0.2.1), .int (w_0.2.2.1), .int (w_0.2.2.2)])), (cs, .inl (G.2.1 2, 6, .inr (.inl (w_0.1))))] := hD
    refine W.widen (k := 2) (n := 12) (by first | exact Nat.le_refl _ | omega) (by first | exact Nat.le_refl _ | omega) ?_
    refine lv_i2l (v := (r_0).toInt64) hx hb dc_L_apart_7 rfl ?_
    refine va_putN (D := G.1) (ci := 3) (v := .long ((r_0).toInt64)) (ty := .long) (C := RX7) (T := TX7) (N := 2) hx hb hts ki_X7 tyX7 tyX7_ok nmX7 hown hE.1 hP hD hS 0 rfl rfl 0 (by decide) (va_Nw.use (A := _) rfl (hE.nestF (kc_4 _ (List.mem_of_getElem? (i := 72) rfl)))) (fun _ h9 => h9) rfl (by decide +kernel) rfl rfl (Nat.le_of_ble_eq_true rfl) dc_L_apart_8 (fun H locs hP hD hS => ?_)
    have hP : va_P G.1 kcl [(o, .inr (3, [.long ((r_0).toInt64), sv])), (x, .inr (0, [.ref cs, .ref sc, .ref pf, .int (w_0.2.1), .int (w_0.2.2.1), .int (w_0.2.2.2)])), (cs, .inl (G.2.1 2, 6, .inr (.inl (w_0.1))))] H := hP
    have hD : va_D A [(o, .inr (3, [.long ((r_0).toInt64), sv])), (x, .inr (0, [.ref cs, .ref sc, .ref pf, .int (w_0.2.1), .int (w_0.2.2.1), .int (w_0.2.2.2)])), (cs, .inl (G.2.1 2, 6, .inr (.inl (w_0.1))))] := hD
    refine lv_goto (tgt := 18) hx hb dc_L_apart_11 (by decide) ?_
    refine lv_iconst (v := 0) hx hb dc_L_apart_18 (by decide) ?_
    have hP9 := hP.sub (ws' := [(x, .inr (0, [.ref cs, .ref sc, .ref pf, .int (w_0.2.1), .int (w_0.2.2.1), .int (w_0.2.2.2)])), (cs, .inl (G.2.1 2, 6, .inr (.inl (w_0.1)))), (o, .inr (3, [.long ((r_0).toInt64), sv]))]) [1, 2, 0] rfl
    have hD9 := hD.sub (ws' := [(x, .inr (0, [.ref cs, .ref sc, .ref pf, .int (w_0.2.1), .int (w_0.2.2.1), .int (w_0.2.2.2)])), (cs, .inl (G.2.1 2, 6, .inr (.inl (w_0.1)))), (o, .inr (3, [.long ((r_0).toInt64), sv]))]) [1, 2, 0] (by decide) rfl
    refine W.widen (k := 2) (n := 12) (Nat.le_of_ble_eq_true rfl) (Nat.le_of_ble_eq_true rfl) ?_
    exact W.iret (v := (0 : Int32)) hx hb hr (fun t ht hW => ⟨⟨_, (w_0, (r_0).toInt64), rfl, ⟨by rw [hf_0, ky_lw_ok], by rw [hf_0, ky_lw_ok]⟩, by rw [ht]; exact hP9, hD9, trivial⟩, hS.F ht⟩) hS.2.2 dc_L_apart_19
set_option linter.constructorNameAsVariable false in
set_option maxHeartbeats 4000000 in
set_option maxRecDepth 100000 in
theorem mt_L_place (l : Launch) (hl9 : l.stackTraces = false) (G : ky_G) (x : Nat) (cs : Nat) (sc : Nat) (pf : Nat) (u : ky_BS) (o : Nat) (nn : Int64) (sv : Value) (a1 : Int32) (sz : Nat)  : Met l my_L_place (.codeWith my_L_place method_41_code 4 (some .int) [(0, 10, 13, 19)] :: ky_B) { frames := 8, cells := 1, slots := 6, locals := 123 } (ky_P G [.ref x, .int (a1), .ref o] (ky_WB G x cs sc pf u ++ ky_WO o nn sv) sz (fun _ => True)) (ky_Q (S := ky_BS × Int64) G (va_A (ky_WB G x cs sc pf u ++ ky_WO o nn sv) sz) (fun v z => v = some (.int (ky_lw (fn_X6_place a1 u) u nn).1) ∧ z = (ky_lw (fn_X6_place a1 u) u nn).2) (fun z => ky_WB G x cs sc pf z.1 ++ ky_WO o z.2 sv) (fun _ _ => True)) (1) (6) (va_A (ky_WB G x cs sc pf u ++ ky_WO o nn sv) sz) := by
  refine ky_startH (hh := [(0, 10, 13, 19)]) (by decide) (Nat.le_of_ble_eq_true rfl) (fun p e s m below meth c F hT hE A hAe hsz hA hfr hP hD hS hX ls hl => ?_)
  obtain ⟨hx, hb, hml, hown, hr, hlocks, hts⟩ := id F
  have hl : lv_has ls 4 [(0, .ref x), (1, .int (a1)), (2, .ref o)] := hl
  have hP : va_P G.1 kcl [(x, .inr (0, [.ref cs, .ref sc, .ref pf, .int (u.2.1), .int (u.2.2.1), .int (u.2.2.2)])), (cs, .inl (G.2.1 2, 6, .inr (.inl (u.1)))), (o, .inr (3, [.long (nn), sv]))] s.heap := hP
  have hD : va_D A [(x, .inr (0, [.ref cs, .ref sc, .ref pf, .int (u.2.1), .int (u.2.2.1), .int (u.2.2.2)])), (cs, .inl (G.2.1 2, 6, .inr (.inl (u.1)))), (o, .inr (3, [.long (nn), sv]))] := hD
  refine lv_aload_n hx hb dc_L_place_0 rfl (lv_at hl 2 rfl) ?_
  refine lv_aload_n hx hb dc_L_place_1 rfl (lv_at hl 0 rfl) ?_
  refine lv_iload_n hx hb dc_L_place_2 rfl (lv_at hl 1 rfl) ?_
  refine ky_cVx (As := [.int (a1)]) (wr := [(o, .inr (3, [.long (nn), sv]))]) F (hE.at hfr hS) hfr (mt_X6_place l hl9 G x cs sc pf u (a1) s.heap.size (ok_X6_place (a1) u)) kv_L_148 ⟨⟨rfl, rfl⟩, Nat.le_of_ble_eq_true rfl, Nat.le_of_ble_eq_true rfl⟩ rfl hl.1 rfl (Nat.le_of_ble_eq_true rfl) ⟨Nat.le_of_ble_eq_true rfl, Nat.le_of_ble_eq_true rfl⟩ (va_recv hE.1 hP (ci := 0) (q0 := 0) rfl rfl) trivial hP hD hS hA [0, 1] [2] rfl rfl (by decide) (by decide) (by decide) dc_L_place_3 ?_ ?_
  · intro E ce q9 H locs hp hP hD hS hz hk9 hc1 hc2 hc3
    have hP : va_P G.1 kcl [(o, .inr (3, [.long (nn), sv])), (x, .inr (0, [.ref cs, .ref sc, .ref pf, .int (u.2.1), .int (u.2.2.1), .int (u.2.2.2)])), (cs, .inl (G.2.1 2, 6, .inr (.inl (u.1))))] H := hP
    have hD : va_D A [(o, .inr (3, [.long (nn), sv])), (x, .inr (0, [.ref cs, .ref sc, .ref pf, .int (u.2.1), .int (u.2.2.1), .int (u.2.2.2)])), (cs, .inl (G.2.1 2, 6, .inr (.inl (u.1))))] := hD
    have he := on_X6_place (a1) u E hp
    subst he
    refine ky_cat1 (h1 := (0, 10, 13, 19)) (name := "java/lang/IndexOutOfBoundsException") hE hown hT (by decide) (by decide) (hts _ kw_4_82) (kc_4 _ (List.mem_of_getElem? (i := 92) rfl)) rfl hc1 hc2 hc3 ?_
    refine W.eq (g2 := F0 m 13 ls [.ref q9]) rfl ?_
    refine W.widen (k := 1) (n := 6) (by first | exact Nat.le_refl _ | omega) (by first | exact Nat.le_refl _ | omega) ?_
    refine lv_astore_n (lv' := [(3, .ref q9), (0, .ref x), (1, .int (a1)), (2, .ref o)]) hx hb dc_L_place_13 rfl hl (by decide) rfl (fun ls hl => ?_)
    refine lv_iconst (v := 1) hx hb dc_L_place_14 (by decide) ?_
    have hP9 := hP.sub (ws' := [(x, .inr (0, [.ref cs, .ref sc, .ref pf, .int (u.2.1), .int (u.2.2.1), .int (u.2.2.2)])), (cs, .inl (G.2.1 2, 6, .inr (.inl (u.1)))), (o, .inr (3, [.long (nn), sv]))]) [1, 2, 0] rfl
    have hD9 := hD.sub (ws' := [(x, .inr (0, [.ref cs, .ref sc, .ref pf, .int (u.2.1), .int (u.2.2.1), .int (u.2.2.2)])), (cs, .inl (G.2.1 2, 6, .inr (.inl (u.1)))), (o, .inr (3, [.long (nn), sv]))]) [1, 2, 0] (by decide) rfl
    refine W.widen (k := 1) (n := 6) (Nat.le_of_ble_eq_true rfl) (Nat.le_of_ble_eq_true rfl) ?_
    exact W.iret (v := (1 : Int32)) hx hb hr (fun t ht hW => ⟨⟨_, (u, nn), rfl, ⟨by rw [hp, ky_lw_io], by rw [hp, ky_lw_io]⟩, by rw [ht]; exact hP9, hD9, trivial⟩, hS.F ht⟩) hS.2.2 dc_L_place_15
  · rintro v9 u9 H locs ⟨r_0, w_0, hf_0, rfl, hu9⟩ hP hD hS - hz hk9
    have hu9 := hu9.symm
    subst hu9
    have hP : va_P G.1 kcl [(o, .inr (3, [.long (nn), sv])), (x, .inr (0, [.ref cs, .ref sc, .ref pf, .int (w_0.2.1), .int (w_0.2.2.1), .int (w_0.2.2.2)])), (cs, .inl (G.2.1 2, 6, .inr (.inl (w_0.1))))] H := hP
    have hD : va_D A [(o, .inr (3, [.long (nn), sv])), (x, .inr (0, [.ref cs, .ref sc, .ref pf, .int (w_0.2.1), .int (w_0.2.2.1), .int (w_0.2.2.2)])), (cs, .inl (G.2.1 2, 6, .inr (.inl (w_0.1))))] := hD
    refine W.widen (k := 1) (n := 6) (by first | exact Nat.le_refl _ | omega) (by first | exact Nat.le_refl _ | omega) ?_
    refine lv_i2l (v := (r_0).toInt64) hx hb dc_L_place_6 rfl ?_
    refine va_putN (D := G.1) (ci := 3) (v := .long ((r_0).toInt64)) (ty := .long) (C := RX7) (T := TX7) (N := 2) hx hb hts ki_X7 tyX7 tyX7_ok nmX7 hown hE.1 hP hD hS 0 rfl rfl 0 (by decide) (va_Nw.use (A := _) rfl (hE.nestF (kc_4 _ (List.mem_of_getElem? (i := 72) rfl)))) (fun _ h9 => h9) rfl (by decide +kernel) rfl rfl (Nat.le_of_ble_eq_true rfl) dc_L_place_7 (fun H locs hP hD hS => ?_)
    have hP : va_P G.1 kcl [(o, .inr (3, [.long ((r_0).toInt64), sv])), (x, .inr (0, [.ref cs, .ref sc, .ref pf, .int (w_0.2.1), .int (w_0.2.2.1), .int (w_0.2.2.2)])), (cs, .inl (G.2.1 2, 6, .inr (.inl (w_0.1))))] H := hP
    have hD : va_D A [(o, .inr (3, [.long ((r_0).toInt64), sv])), (x, .inr (0, [.ref cs, .ref sc, .ref pf, .int (w_0.2.1), .int (w_0.2.2.1), .int (w_0.2.2.2)])), (cs, .inl (G.2.1 2, 6, .inr (.inl (w_0.1))))] := hD
    refine lv_goto (tgt := 16) hx hb dc_L_place_10 (by decide) ?_
    refine lv_iconst (v := 0) hx hb dc_L_place_16 (by decide) ?_
    have hP9 := hP.sub (ws' := [(x, .inr (0, [.ref cs, .ref sc, .ref pf, .int (w_0.2.1), .int (w_0.2.2.1), .int (w_0.2.2.2)])), (cs, .inl (G.2.1 2, 6, .inr (.inl (w_0.1)))), (o, .inr (3, [.long ((r_0).toInt64), sv]))]) [1, 2, 0] rfl
    have hD9 := hD.sub (ws' := [(x, .inr (0, [.ref cs, .ref sc, .ref pf, .int (w_0.2.1), .int (w_0.2.2.1), .int (w_0.2.2.2)])), (cs, .inl (G.2.1 2, 6, .inr (.inl (w_0.1)))), (o, .inr (3, [.long ((r_0).toInt64), sv]))]) [1, 2, 0] (by decide) rfl
    refine W.widen (k := 1) (n := 6) (Nat.le_of_ble_eq_true rfl) (Nat.le_of_ble_eq_true rfl) ?_
    exact W.iret (v := (0 : Int32)) hx hb hr (fun t ht hW => ⟨⟨_, (w_0, (r_0).toInt64), rfl, ⟨by rw [hf_0, ky_lw_ok], by rw [hf_0, ky_lw_ok]⟩, by rw [ht]; exact hP9, hD9, trivial⟩, hS.F ht⟩) hS.2.2 dc_L_place_17
set_option linter.constructorNameAsVariable false in
set_option maxHeartbeats 4000000 in
set_option maxRecDepth 100000 in
theorem mt_L_isBack (l : Launch) (hl9 : l.stackTraces = false) (G : ky_G) (x : Nat) (cs : Nat) (sc : Nat) (pf : Nat) (u : ky_BS) (o : Nat) (nn : Int64) (sv : Value) (a1 : Int32) (a2 : Int32) (sz : Nat)  : Met l my_L_isBack (.codeWith my_L_isBack method_48_code 5 (some .int) [(0, 18, 21, 19), (0, 18, 25, 32)] :: ky_B) { frames := 8, cells := 2, slots := 12, locals := 126 } (ky_P G [.ref x, .int (a1), .int (a2), .ref o] (ky_WB G x cs sc pf u ++ ky_WO o nn sv) sz (fun _ => True)) (ky_Q (S := ky_BS × Int64) G (va_A (ky_WB G x cs sc pf u ++ ky_WO o nn sv) sz) (fun v z => v = some (.int (ky_lwb (fn_X6_isBack a1 a2 u) u nn).1) ∧ z = (ky_lwb (fn_X6_isBack a1 a2 u) u nn).2) (fun z => ky_WB G x cs sc pf z.1 ++ ky_WO o z.2 sv) (fun _ _ => True)) (2) (12) (va_A (ky_WB G x cs sc pf u ++ ky_WO o nn sv) sz) := by
  refine ky_startH (hh := [(0, 18, 21, 19), (0, 18, 25, 32)]) (by decide) (Nat.le_of_ble_eq_true rfl) (fun p e s m below meth c F hT hE A hAe hsz hA hfr hP hD hS hX ls hl => ?_)
  obtain ⟨hx, hb, hml, hown, hr, hlocks, hts⟩ := id F
  have hl : lv_has ls 5 [(0, .ref x), (1, .int (a1)), (2, .int (a2)), (3, .ref o)] := hl
  have hP : va_P G.1 kcl [(x, .inr (0, [.ref cs, .ref sc, .ref pf, .int (u.2.1), .int (u.2.2.1), .int (u.2.2.2)])), (cs, .inl (G.2.1 2, 6, .inr (.inl (u.1)))), (o, .inr (3, [.long (nn), sv]))] s.heap := hP
  have hD : va_D A [(x, .inr (0, [.ref cs, .ref sc, .ref pf, .int (u.2.1), .int (u.2.2.1), .int (u.2.2.2)])), (cs, .inl (G.2.1 2, 6, .inr (.inl (u.1)))), (o, .inr (3, [.long (nn), sv]))] := hD
  refine lv_aload_n hx hb dc_L_isBack_0 rfl (lv_at hl 3 rfl) ?_
  refine lv_aload_n hx hb dc_L_isBack_1 rfl (lv_at hl 0 rfl) ?_
  refine lv_iload_n hx hb dc_L_isBack_2 rfl (lv_at hl 1 rfl) ?_
  refine lv_iload_n hx hb dc_L_isBack_3 rfl (lv_at hl 2 rfl) ?_
  refine ky_cVx (As := [.int (a1), .int (a2)]) (wr := [(o, .inr (3, [.long (nn), sv]))]) F (hE.at hfr hS) hfr (mt_X6_isBack l hl9 G x cs sc pf u (a1) (a2) s.heap.size) kv_L_171 ⟨⟨rfl, rfl⟩, Nat.le_of_ble_eq_true rfl, Nat.le_of_ble_eq_true rfl⟩ rfl hl.1 rfl (Nat.le_of_ble_eq_true rfl) ⟨Nat.le_of_ble_eq_true rfl, Nat.le_of_ble_eq_true rfl⟩ (va_recv hE.1 hP (ci := 0) (q0 := 0) rfl rfl) trivial hP hD hS hA [0, 1] [2] rfl rfl (by decide) (by decide) (by decide) dc_L_isBack_4 ?_ ?_
  · intro E ce q9 H locs hp hP hD hS hz hk9 hc1 hc2 hc3
    have hP : va_P G.1 kcl [(o, .inr (3, [.long (nn), sv])), (x, .inr (0, [.ref cs, .ref sc, .ref pf, .int (u.2.1), .int (u.2.2.1), .int (u.2.2.2)])), (cs, .inl (G.2.1 2, 6, .inr (.inl (u.1))))] H := hP
    have hD : va_D A [(o, .inr (3, [.long (nn), sv])), (x, .inr (0, [.ref cs, .ref sc, .ref pf, .int (u.2.1), .int (u.2.2.1), .int (u.2.2.2)])), (cs, .inl (G.2.1 2, 6, .inr (.inl (u.1))))] := hD
    have he := on_X6_isBack (a1) (a2) u E hp
    rcases he with he | he
    · skip
      subst he
      refine ky_cat1 (h1 := (0, 18, 21, 19)) (name := "java/lang/IndexOutOfBoundsException") hE hown hT (by decide) (by decide) (hts _ kw_4_82) (kc_4 _ (List.mem_of_getElem? (i := 92) rfl)) rfl hc1 hc2 hc3 ?_
      refine W.eq (g2 := F0 m 21 ls [.ref q9]) rfl ?_
      refine W.widen (k := 2) (n := 12) (by first | exact Nat.le_refl _ | omega) (by first | exact Nat.le_refl _ | omega) ?_
      refine lv_astore (lv' := [(4, .ref q9), (0, .ref x), (1, .int (a1)), (2, .int (a2)), (3, .ref o)]) hx hb dc_L_isBack_21 hl (by decide) rfl (fun ls hl => ?_)
      refine lv_iconst (v := 1) hx hb dc_L_isBack_23 (by decide) ?_
      have hP9 := hP.sub (ws' := [(x, .inr (0, [.ref cs, .ref sc, .ref pf, .int (u.2.1), .int (u.2.2.1), .int (u.2.2.2)])), (cs, .inl (G.2.1 2, 6, .inr (.inl (u.1)))), (o, .inr (3, [.long (nn), sv]))]) [1, 2, 0] rfl
      have hD9 := hD.sub (ws' := [(x, .inr (0, [.ref cs, .ref sc, .ref pf, .int (u.2.1), .int (u.2.2.1), .int (u.2.2.2)])), (cs, .inl (G.2.1 2, 6, .inr (.inl (u.1)))), (o, .inr (3, [.long (nn), sv]))]) [1, 2, 0] (by decide) rfl
      refine W.widen (k := 2) (n := 12) (Nat.le_of_ble_eq_true rfl) (Nat.le_of_ble_eq_true rfl) ?_
      exact W.iret (v := (1 : Int32)) hx hb hr (fun t ht hW => ⟨⟨_, (u, nn), rfl, ⟨by rw [hp, ky_lwb_io], by rw [hp, ky_lwb_io]⟩, by rw [ht]; exact hP9, hD9, trivial⟩, hS.F ht⟩) hS.2.2 dc_L_isBack_24
    · skip
      subst he
      refine ky_cat2 (h1 := (0, 18, 21, 19)) (h2 := (0, 18, 25, 32)) (nm1 := "java/lang/IndexOutOfBoundsException") (name := "java/lang/IllegalArgumentException") hE hown hT (by decide) (by decide) (by decide) (hts _ kw_4_82) ky_noia (hts _ kw_4_132) (kc_2 _ (List.mem_of_getElem? (i := 105) rfl)) rfl hc1 hc2 hc3 ?_
      refine W.eq (g2 := F0 m 25 ls [.ref q9]) rfl ?_
      refine W.widen (k := 2) (n := 12) (by first | exact Nat.le_refl _ | omega) (by first | exact Nat.le_refl _ | omega) ?_
      refine lv_astore (lv' := [(4, .ref q9), (0, .ref x), (1, .int (a1)), (2, .int (a2)), (3, .ref o)]) hx hb dc_L_isBack_25 hl (by decide) rfl (fun ls hl => ?_)
      refine lv_iconst (v := 2) hx hb dc_L_isBack_27 (by decide) ?_
      have hP9 := hP.sub (ws' := [(x, .inr (0, [.ref cs, .ref sc, .ref pf, .int (u.2.1), .int (u.2.2.1), .int (u.2.2.2)])), (cs, .inl (G.2.1 2, 6, .inr (.inl (u.1)))), (o, .inr (3, [.long (nn), sv]))]) [1, 2, 0] rfl
      have hD9 := hD.sub (ws' := [(x, .inr (0, [.ref cs, .ref sc, .ref pf, .int (u.2.1), .int (u.2.2.1), .int (u.2.2.2)])), (cs, .inl (G.2.1 2, 6, .inr (.inl (u.1)))), (o, .inr (3, [.long (nn), sv]))]) [1, 2, 0] (by decide) rfl
      refine W.widen (k := 2) (n := 12) (Nat.le_of_ble_eq_true rfl) (Nat.le_of_ble_eq_true rfl) ?_
      exact W.iret (v := (2 : Int32)) hx hb hr (fun t ht hW => ⟨⟨_, (u, nn), rfl, ⟨by rw [hp, ky_lwb_ia], by rw [hp, ky_lwb_ia]⟩, by rw [ht]; exact hP9, hD9, trivial⟩, hS.F ht⟩) hS.2.2 dc_L_isBack_28
  · rintro v9 u9 H locs ⟨r_0, w_0, hf_0, rfl, hu9⟩ hP hD hS - hz hk9
    have hu9 := hu9.symm
    subst hu9
    have hP : va_P G.1 kcl [(o, .inr (3, [.long (nn), sv])), (x, .inr (0, [.ref cs, .ref sc, .ref pf, .int (w_0.2.1), .int (w_0.2.2.1), .int (w_0.2.2.2)])), (cs, .inl (G.2.1 2, 6, .inr (.inl (w_0.1))))] H := hP
    have hD : va_D A [(o, .inr (3, [.long (nn), sv])), (x, .inr (0, [.ref cs, .ref sc, .ref pf, .int (w_0.2.1), .int (w_0.2.2.1), .int (w_0.2.2.2)])), (cs, .inl (G.2.1 2, 6, .inr (.inl (w_0.1))))] := hD
    refine W.widen (k := 2) (n := 12) (by first | exact Nat.le_refl _ | omega) (by first | exact Nat.le_refl _ | omega) ?_
    refine lv_if_eq (tgt := 14) hx hb dc_L_isBack_7 (by decide) (fun c_1 => ?_) (fun c_1 => ?_)
    · skip
      refine lv_lconst (v := 0) hx hb dc_L_isBack_14 (by decide) ?_
      refine va_putN (D := G.1) (ci := 3) (v := .long ((0 : Int64))) (ty := .long) (C := RX7) (T := TX7) (N := 2) hx hb hts ki_X7 tyX7 tyX7_ok nmX7 hown hE.1 hP hD hS 0 rfl rfl 0 (by decide) (va_Nw.use (A := _) rfl (hE.nestF (kc_4 _ (List.mem_of_getElem? (i := 72) rfl)))) (fun _ h9 => h9) rfl (by decide +kernel) rfl rfl (Nat.le_of_ble_eq_true rfl) dc_L_isBack_15 (fun H locs hP hD hS => ?_)
      have hP : va_P G.1 kcl [(o, .inr (3, [.long ((0 : Int64)), sv])), (x, .inr (0, [.ref cs, .ref sc, .ref pf, .int (w_0.2.1), .int (w_0.2.2.1), .int (w_0.2.2.2)])), (cs, .inl (G.2.1 2, 6, .inr (.inl (w_0.1))))] H := hP
      have hD : va_D A [(o, .inr (3, [.long ((0 : Int64)), sv])), (x, .inr (0, [.ref cs, .ref sc, .ref pf, .int (w_0.2.1), .int (w_0.2.2.1), .int (w_0.2.2.2)])), (cs, .inl (G.2.1 2, 6, .inr (.inl (w_0.1))))] := hD
      refine lv_goto (tgt := 29) hx hb dc_L_isBack_18 (by decide) ?_
      refine lv_iconst (v := 0) hx hb dc_L_isBack_29 (by decide) ?_
      have hP9 := hP.sub (ws' := [(x, .inr (0, [.ref cs, .ref sc, .ref pf, .int (w_0.2.1), .int (w_0.2.2.1), .int (w_0.2.2.2)])), (cs, .inl (G.2.1 2, 6, .inr (.inl (w_0.1)))), (o, .inr (3, [.long ((0 : Int64)), sv]))]) [1, 2, 0] rfl
      have hD9 := hD.sub (ws' := [(x, .inr (0, [.ref cs, .ref sc, .ref pf, .int (w_0.2.1), .int (w_0.2.2.1), .int (w_0.2.2.2)])), (cs, .inl (G.2.1 2, 6, .inr (.inl (w_0.1)))), (o, .inr (3, [.long ((0 : Int64)), sv]))]) [1, 2, 0] (by decide) rfl
      refine W.widen (k := 2) (n := 12) (Nat.le_of_ble_eq_true rfl) (Nat.le_of_ble_eq_true rfl) ?_
      exact W.iret (v := (0 : Int32)) hx hb hr (fun t ht hW => ⟨⟨_, (w_0, (0 : Int64)), rfl, ⟨by rw [hf_0, ky_lwb_ok], by rw [hf_0, ky_lwb_ok, if_pos c_1]⟩, by rw [ht]; exact hP9, hD9, trivial⟩, hS.F ht⟩) hS.2.2 dc_L_isBack_30
    · skip
      refine lv_lconst (v := 1) hx hb dc_L_isBack_10 (by decide) ?_
      refine lv_goto (tgt := 15) hx hb dc_L_isBack_11 (by decide) ?_
      refine va_putN (D := G.1) (ci := 3) (v := .long ((1 : Int64))) (ty := .long) (C := RX7) (T := TX7) (N := 2) hx hb hts ki_X7 tyX7 tyX7_ok nmX7 hown hE.1 hP hD hS 0 rfl rfl 0 (by decide) (va_Nw.use (A := _) rfl (hE.nestF (kc_4 _ (List.mem_of_getElem? (i := 72) rfl)))) (fun _ h9 => h9) rfl (by decide +kernel) rfl rfl (Nat.le_of_ble_eq_true rfl) dc_L_isBack_15 (fun H locs hP hD hS => ?_)
      have hP : va_P G.1 kcl [(o, .inr (3, [.long ((1 : Int64)), sv])), (x, .inr (0, [.ref cs, .ref sc, .ref pf, .int (w_0.2.1), .int (w_0.2.2.1), .int (w_0.2.2.2)])), (cs, .inl (G.2.1 2, 6, .inr (.inl (w_0.1))))] H := hP
      have hD : va_D A [(o, .inr (3, [.long ((1 : Int64)), sv])), (x, .inr (0, [.ref cs, .ref sc, .ref pf, .int (w_0.2.1), .int (w_0.2.2.1), .int (w_0.2.2.2)])), (cs, .inl (G.2.1 2, 6, .inr (.inl (w_0.1))))] := hD
      refine lv_goto (tgt := 29) hx hb dc_L_isBack_18 (by decide) ?_
      refine lv_iconst (v := 0) hx hb dc_L_isBack_29 (by decide) ?_
      have hP9 := hP.sub (ws' := [(x, .inr (0, [.ref cs, .ref sc, .ref pf, .int (w_0.2.1), .int (w_0.2.2.1), .int (w_0.2.2.2)])), (cs, .inl (G.2.1 2, 6, .inr (.inl (w_0.1)))), (o, .inr (3, [.long ((1 : Int64)), sv]))]) [1, 2, 0] rfl
      have hD9 := hD.sub (ws' := [(x, .inr (0, [.ref cs, .ref sc, .ref pf, .int (w_0.2.1), .int (w_0.2.2.1), .int (w_0.2.2.2)])), (cs, .inl (G.2.1 2, 6, .inr (.inl (w_0.1)))), (o, .inr (3, [.long ((1 : Int64)), sv]))]) [1, 2, 0] (by decide) rfl
      refine W.widen (k := 2) (n := 12) (Nat.le_of_ble_eq_true rfl) (Nat.le_of_ble_eq_true rfl) ?_
      exact W.iret (v := (0 : Int32)) hx hb hr (fun t ht hW => ⟨⟨_, (w_0, (1 : Int64)), rfl, ⟨by rw [hf_0, ky_lwb_ok], by rw [hf_0, ky_lwb_ok, if_neg c_1]⟩, by rw [ht]; exact hP9, hD9, trivial⟩, hS.F ht⟩) hS.2.2 dc_L_isBack_30
set_option linter.constructorNameAsVariable false in
set_option maxHeartbeats 4000000 in
set_option maxRecDepth 100000 in
theorem mt_L_house (l : Launch) (hl9 : l.stackTraces = false) (G : ky_G) (x : Nat) (cs : Nat) (sc : Nat) (pf : Nat) (u : ky_BS) (o : Nat) (nn : Int64) (sv : Value) (a1 : Int32) (sz : Nat)  : Met l my_L_house (.codeWith my_L_house method_49_code 4 (some .int) [(0, 10, 13, 32)] :: ky_B) { frames := 8, cells := 1, slots := 6, locals := 148 } (ky_P G [.ref x, .int (a1), .ref o] (ky_WB G x cs sc pf u ++ ky_WO o nn sv) sz (fun _ => True)) (ky_Q (S := ky_BS × Int64) G (va_A (ky_WB G x cs sc pf u ++ ky_WO o nn sv) sz) (fun v z => v = some (.int (ky_lw1 (fn_X6_house a1 u) u nn).1) ∧ z = (ky_lw1 (fn_X6_house a1 u) u nn).2) (fun z => ky_WB G x cs sc pf z.1 ++ ky_WO o z.2 sv) (fun _ _ => True)) (1) (6) (va_A (ky_WB G x cs sc pf u ++ ky_WO o nn sv) sz) := by
  refine ky_startH (hh := [(0, 10, 13, 32)]) (by decide) (Nat.le_of_ble_eq_true rfl) (fun p e s m below meth c F hT hE A hAe hsz hA hfr hP hD hS hX ls hl => ?_)
  obtain ⟨hx, hb, hml, hown, hr, hlocks, hts⟩ := id F
  have hl : lv_has ls 4 [(0, .ref x), (1, .int (a1)), (2, .ref o)] := hl
  have hP : va_P G.1 kcl [(x, .inr (0, [.ref cs, .ref sc, .ref pf, .int (u.2.1), .int (u.2.2.1), .int (u.2.2.2)])), (cs, .inl (G.2.1 2, 6, .inr (.inl (u.1)))), (o, .inr (3, [.long (nn), sv]))] s.heap := hP
  have hD : va_D A [(x, .inr (0, [.ref cs, .ref sc, .ref pf, .int (u.2.1), .int (u.2.2.1), .int (u.2.2.2)])), (cs, .inl (G.2.1 2, 6, .inr (.inl (u.1)))), (o, .inr (3, [.long (nn), sv]))] := hD
  refine lv_aload_n hx hb dc_L_house_0 rfl (lv_at hl 2 rfl) ?_
  refine lv_aload_n hx hb dc_L_house_1 rfl (lv_at hl 0 rfl) ?_
  refine lv_iload_n hx hb dc_L_house_2 rfl (lv_at hl 1 rfl) ?_
  refine ky_cVx (As := [.int (a1)]) (wr := [(o, .inr (3, [.long (nn), sv]))]) F (hE.at hfr hS) hfr (mt_X6_house l hl9 G x cs sc pf u (a1) s.heap.size (ok_X6_house (a1) u)) kv_L_174 ⟨⟨rfl, rfl⟩, Nat.le_of_ble_eq_true rfl, Nat.le_of_ble_eq_true rfl⟩ rfl hl.1 rfl (Nat.le_of_ble_eq_true rfl) ⟨Nat.le_of_ble_eq_true rfl, Nat.le_of_ble_eq_true rfl⟩ (va_recv hE.1 hP (ci := 0) (q0 := 0) rfl rfl) trivial hP hD hS hA [0, 1] [2] rfl rfl (by decide) (by decide) (by decide) dc_L_house_3 ?_ ?_
  · intro E ce q9 H locs hp hP hD hS hz hk9 hc1 hc2 hc3
    have hP : va_P G.1 kcl [(o, .inr (3, [.long (nn), sv])), (x, .inr (0, [.ref cs, .ref sc, .ref pf, .int (u.2.1), .int (u.2.2.1), .int (u.2.2.2)])), (cs, .inl (G.2.1 2, 6, .inr (.inl (u.1))))] H := hP
    have hD : va_D A [(o, .inr (3, [.long (nn), sv])), (x, .inr (0, [.ref cs, .ref sc, .ref pf, .int (u.2.1), .int (u.2.2.1), .int (u.2.2.2)])), (cs, .inl (G.2.1 2, 6, .inr (.inl (u.1))))] := hD
    have he := on_X6_house (a1) u E hp
    subst he
    refine ky_cat1 (h1 := (0, 10, 13, 32)) (name := "java/lang/IllegalArgumentException") hE hown hT (by decide) (by decide) (hts _ kw_4_132) (kc_2 _ (List.mem_of_getElem? (i := 105) rfl)) rfl hc1 hc2 hc3 ?_
    refine W.eq (g2 := F0 m 13 ls [.ref q9]) rfl ?_
    refine W.widen (k := 1) (n := 6) (by first | exact Nat.le_refl _ | omega) (by first | exact Nat.le_refl _ | omega) ?_
    refine lv_astore_n (lv' := [(3, .ref q9), (0, .ref x), (1, .int (a1)), (2, .ref o)]) hx hb dc_L_house_13 rfl hl (by decide) rfl (fun ls hl => ?_)
    refine lv_iconst (v := 1) hx hb dc_L_house_14 (by decide) ?_
    have hP9 := hP.sub (ws' := [(x, .inr (0, [.ref cs, .ref sc, .ref pf, .int (u.2.1), .int (u.2.2.1), .int (u.2.2.2)])), (cs, .inl (G.2.1 2, 6, .inr (.inl (u.1)))), (o, .inr (3, [.long (nn), sv]))]) [1, 2, 0] rfl
    have hD9 := hD.sub (ws' := [(x, .inr (0, [.ref cs, .ref sc, .ref pf, .int (u.2.1), .int (u.2.2.1), .int (u.2.2.2)])), (cs, .inl (G.2.1 2, 6, .inr (.inl (u.1)))), (o, .inr (3, [.long (nn), sv]))]) [1, 2, 0] (by decide) rfl
    refine W.widen (k := 1) (n := 6) (Nat.le_of_ble_eq_true rfl) (Nat.le_of_ble_eq_true rfl) ?_
    exact W.iret (v := (1 : Int32)) hx hb hr (fun t ht hW => ⟨⟨_, (u, nn), rfl, ⟨by rw [hp, ky_lw1_ia], by rw [hp, ky_lw1_ia]⟩, by rw [ht]; exact hP9, hD9, trivial⟩, hS.F ht⟩) hS.2.2 dc_L_house_15
  · rintro v9 u9 H locs ⟨r_0, w_0, hf_0, rfl, hu9⟩ hP hD hS - hz hk9
    have hu9 := hu9.symm
    subst hu9
    have hP : va_P G.1 kcl [(o, .inr (3, [.long (nn), sv])), (x, .inr (0, [.ref cs, .ref sc, .ref pf, .int (w_0.2.1), .int (w_0.2.2.1), .int (w_0.2.2.2)])), (cs, .inl (G.2.1 2, 6, .inr (.inl (w_0.1))))] H := hP
    have hD : va_D A [(o, .inr (3, [.long (nn), sv])), (x, .inr (0, [.ref cs, .ref sc, .ref pf, .int (w_0.2.1), .int (w_0.2.2.1), .int (w_0.2.2.2)])), (cs, .inl (G.2.1 2, 6, .inr (.inl (w_0.1))))] := hD
    refine W.widen (k := 1) (n := 6) (by first | exact Nat.le_refl _ | omega) (by first | exact Nat.le_refl _ | omega) ?_
    refine lv_i2l (v := (r_0).toInt64) hx hb dc_L_house_6 rfl ?_
    refine va_putN (D := G.1) (ci := 3) (v := .long ((r_0).toInt64)) (ty := .long) (C := RX7) (T := TX7) (N := 2) hx hb hts ki_X7 tyX7 tyX7_ok nmX7 hown hE.1 hP hD hS 0 rfl rfl 0 (by decide) (va_Nw.use (A := _) rfl (hE.nestF (kc_4 _ (List.mem_of_getElem? (i := 72) rfl)))) (fun _ h9 => h9) rfl (by decide +kernel) rfl rfl (Nat.le_of_ble_eq_true rfl) dc_L_house_7 (fun H locs hP hD hS => ?_)
    have hP : va_P G.1 kcl [(o, .inr (3, [.long ((r_0).toInt64), sv])), (x, .inr (0, [.ref cs, .ref sc, .ref pf, .int (w_0.2.1), .int (w_0.2.2.1), .int (w_0.2.2.2)])), (cs, .inl (G.2.1 2, 6, .inr (.inl (w_0.1))))] H := hP
    have hD : va_D A [(o, .inr (3, [.long ((r_0).toInt64), sv])), (x, .inr (0, [.ref cs, .ref sc, .ref pf, .int (w_0.2.1), .int (w_0.2.2.1), .int (w_0.2.2.2)])), (cs, .inl (G.2.1 2, 6, .inr (.inl (w_0.1))))] := hD
    refine lv_goto (tgt := 16) hx hb dc_L_house_10 (by decide) ?_
    refine lv_iconst (v := 0) hx hb dc_L_house_16 (by decide) ?_
    have hP9 := hP.sub (ws' := [(x, .inr (0, [.ref cs, .ref sc, .ref pf, .int (w_0.2.1), .int (w_0.2.2.1), .int (w_0.2.2.2)])), (cs, .inl (G.2.1 2, 6, .inr (.inl (w_0.1)))), (o, .inr (3, [.long ((r_0).toInt64), sv]))]) [1, 2, 0] rfl
    have hD9 := hD.sub (ws' := [(x, .inr (0, [.ref cs, .ref sc, .ref pf, .int (w_0.2.1), .int (w_0.2.2.1), .int (w_0.2.2.2)])), (cs, .inl (G.2.1 2, 6, .inr (.inl (w_0.1)))), (o, .inr (3, [.long ((r_0).toInt64), sv]))]) [1, 2, 0] (by decide) rfl
    refine W.widen (k := 1) (n := 6) (Nat.le_of_ble_eq_true rfl) (Nat.le_of_ble_eq_true rfl) ?_
    exact W.iret (v := (0 : Int32)) hx hb hr (fun t ht hW => ⟨⟨_, (w_0, (r_0).toInt64), rfl, ⟨by rw [hf_0, ky_lw1_ok], by rw [hf_0, ky_lw1_ok]⟩, by rw [ht]; exact hP9, hD9, trivial⟩, hS.F ht⟩) hS.2.2 dc_L_house_17
