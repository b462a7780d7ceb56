section
set_option linter.constructorNameAsVariable false in
set_option maxHeartbeats 4000000 in
set_option maxRecDepth 100000 in
theorem mt_X1_init (l : Launch) (G : ky_G) (x : Nat) (sz : Nat)  : Met l my_X1_init (.code my_X1_init prog_3_method_1_code 1 none :: ky_B) { frames := 1, cells := 9, slots := 56, locals := 12 } (ky_P G [.ref x] ([(x, .inr (2, [.null]))]) sz (fun _ => True)) (ky_Q (S := Nat × (Nat → Nat)) G (va_A ([(x, .inr (2, [.null]))]) sz) (fun v _ => v = none) (fun u => ky_WPf G x u.1 u.2 (fun _ _ => 0)) (fun _ _ => True)) (9) (56) (va_A ([(x, .inr (2, [.null]))]) sz) := by
  refine ky_startI (by decide) (Nat.le_of_ble_eq_true rfl) (fun p e s m below meth c hin F hE A hAe hsz hA hfr hP hD hS hX ls hl => ?_)
  obtain ⟨hx, hb, hml, hown, hr, hlocks, hts⟩ := id F
  have hl : lv_has ls 1 [(0, .ref x)] := hl
  have hP : va_P G.1 kcl [(x, .inr (2, [.null]))] s.heap := hP
  have hD : va_D A [(x, .inr (2, [.null]))] := hD
  refine lv_aload_n hx hb dc_X1_init_0 rfl (lv_at hl 0 rfl) ?_
  refine W.objInit hx hb hown (hts _ kw_1_91) (hts _ kw_1_36) (hts _ kw_1_37) rfl (by rw [hml]; exact hl.1) rfl dc_X1_init_1 (Nat.le_of_ble_eq_true rfl) (Nat.le_of_ble_eq_true rfl) ?_
  refine W.eq (g2 := F0 m 4 ls []) rfl ?_
  refine lv_aload_n hx hb dc_X1_init_4 rfl (lv_at hl 0 rfl) ?_
  refine lv_bipush (v := 8) hx hb dc_X1_init_5 (by decide) ?_
  refine lv_bipush (v := 6) hx hb dc_X1_init_7 (by decide) ?_
  refine ky_mna hx hb hown (hts _ kw_1_92) (hE.ov (kc_1 _ (List.mem_of_getElem? (i := 93) rfl))) (hts _ kw_1_76) hE.1 hP hD hS hA (Nat.le_of_ble_eq_true rfl) (Nat.le_of_ble_eq_true rfl) dc_X1_init_9 (fun q_0 r_0 H locs hP hD hS => ?_)
  have hP : va_P G.1 kcl [(x, .inr (2, [.null])), (q_0, .inl (G.2.1 4, 8, .inr (.inr (.inr (.inr (fun j => if j < 8 then some (r_0 j) else none)))))), ((r_0 0), .inl (G.2.1 2, 6, .inr (.inl (fun _ => 0)))), ((r_0 1), .inl (G.2.1 2, 6, .inr (.inl (fun _ => 0)))), ((r_0 2), .inl (G.2.1 2, 6, .inr (.inl (fun _ => 0)))), ((r_0 3), .inl (G.2.1 2, 6, .inr (.inl (fun _ => 0)))), ((r_0 4), .inl (G.2.1 2, 6, .inr (.inl (fun _ => 0)))), ((r_0 5), .inl (G.2.1 2, 6, .inr (.inl (fun _ => 0)))), ((r_0 6), .inl (G.2.1 2, 6, .inr (.inl (fun _ => 0)))), ((r_0 7), .inl (G.2.1 2, 6, .inr (.inl (fun _ => 0))))] H := hP
  have hD : va_D A [(x, .inr (2, [.null])), (q_0, .inl (G.2.1 4, 8, .inr (.inr (.inr (.inr (fun j => if j < 8 then some (r_0 j) else none)))))), ((r_0 0), .inl (G.2.1 2, 6, .inr (.inl (fun _ => 0)))), ((r_0 1), .inl (G.2.1 2, 6, .inr (.inl (fun _ => 0)))), ((r_0 2), .inl (G.2.1 2, 6, .inr (.inl (fun _ => 0)))), ((r_0 3), .inl (G.2.1 2, 6, .inr (.inl (fun _ => 0)))), ((r_0 4), .inl (G.2.1 2, 6, .inr (.inl (fun _ => 0)))), ((r_0 5), .inl (G.2.1 2, 6, .inr (.inl (fun _ => 0)))), ((r_0 6), .inl (G.2.1 2, 6, .inr (.inl (fun _ => 0)))), ((r_0 7), .inl (G.2.1 2, 6, .inr (.inl (fun _ => 0))))] := hD
  refine W.widen (k := 9) (n := 56) (by first | exact Nat.le_refl _ | omega) (by first | exact Nat.le_refl _ | omega) ?_
  refine va_putF (D := G.1) (ci := 2) (v := .ref q_0) (ty := .array (.array .long)) (C := RX1) (T := TX1) (N := 1) hx hb hts ki_X1 tyX1 tyX1_ok nmX1 hown hE.1 hP hD hS 0 rfl rfl 0 (by decide) (hts _ kw_1_94) (fun _ h9 => h9) rfl hin rfl (by decide +kernel) rfl rfl (Nat.le_of_ble_eq_true rfl) dc_X1_init_13 (fun H locs hP hD hS => ?_)
  have hP : va_P G.1 kcl [(x, .inr (2, [.ref q_0])), (q_0, .inl (G.2.1 4, 8, .inr (.inr (.inr (.inr (fun j => if j < 8 then some (r_0 j) else none)))))), ((r_0 0), .inl (G.2.1 2, 6, .inr (.inl (fun _ => 0)))), ((r_0 1), .inl (G.2.1 2, 6, .inr (.inl (fun _ => 0)))), ((r_0 2), .inl (G.2.1 2, 6, .inr (.inl (fun _ => 0)))), ((r_0 3), .inl (G.2.1 2, 6, .inr (.inl (fun _ => 0)))), ((r_0 4), .inl (G.2.1 2, 6, .inr (.inl (fun _ => 0)))), ((r_0 5), .inl (G.2.1 2, 6, .inr (.inl (fun _ => 0)))), ((r_0 6), .inl (G.2.1 2, 6, .inr (.inl (fun _ => 0)))), ((r_0 7), .inl (G.2.1 2, 6, .inr (.inl (fun _ => 0))))] H := hP
  have hD : va_D A [(x, .inr (2, [.ref q_0])), (q_0, .inl (G.2.1 4, 8, .inr (.inr (.inr (.inr (fun j => if j < 8 then some (r_0 j) else none)))))), ((r_0 0), .inl (G.2.1 2, 6, .inr (.inl (fun _ => 0)))), ((r_0 1), .inl (G.2.1 2, 6, .inr (.inl (fun _ => 0)))), ((r_0 2), .inl (G.2.1 2, 6, .inr (.inl (fun _ => 0)))), ((r_0 3), .inl (G.2.1 2, 6, .inr (.inl (fun _ => 0)))), ((r_0 4), .inl (G.2.1 2, 6, .inr (.inl (fun _ => 0)))), ((r_0 5), .inl (G.2.1 2, 6, .inr (.inl (fun _ => 0)))), ((r_0 6), .inl (G.2.1 2, 6, .inr (.inl (fun _ => 0)))), ((r_0 7), .inl (G.2.1 2, 6, .inr (.inl (fun _ => 0))))] := hD
  have hP9 := hP.sub (ws' := [(x, .inr (2, [.ref q_0])), (q_0, .inl (G.2.1 4, 8, .inr (.inr (.inr (.inr (fun j => if j < 8 then some (r_0 j) else none)))))), ((r_0 0), .inl (G.2.1 2, 6, .inr (.inl (fun _ => 0)))), ((r_0 1), .inl (G.2.1 2, 6, .inr (.inl (fun _ => 0)))), ((r_0 2), .inl (G.2.1 2, 6, .inr (.inl (fun _ => 0)))), ((r_0 3), .inl (G.2.1 2, 6, .inr (.inl (fun _ => 0)))), ((r_0 4), .inl (G.2.1 2, 6, .inr (.inl (fun _ => 0)))), ((r_0 5), .inl (G.2.1 2, 6, .inr (.inl (fun _ => 0)))), ((r_0 6), .inl (G.2.1 2, 6, .inr (.inl (fun _ => 0)))), ((r_0 7), .inl (G.2.1 2, 6, .inr (.inl (fun _ => 0))))]) [0, 1, 2, 3, 4, 5, 6, 7, 8, 9] rfl
  have hD9 := hD.sub (ws' := [(x, .inr (2, [.ref q_0])), (q_0, .inl (G.2.1 4, 8, .inr (.inr (.inr (.inr (fun j => if j < 8 then some (r_0 j) else none)))))), ((r_0 0), .inl (G.2.1 2, 6, .inr (.inl (fun _ => 0)))), ((r_0 1), .inl (G.2.1 2, 6, .inr (.inl (fun _ => 0)))), ((r_0 2), .inl (G.2.1 2, 6, .inr (.inl (fun _ => 0)))), ((r_0 3), .inl (G.2.1 2, 6, .inr (.inl (fun _ => 0)))), ((r_0 4), .inl (G.2.1 2, 6, .inr (.inl (fun _ => 0)))), ((r_0 5), .inl (G.2.1 2, 6, .inr (.inl (fun _ => 0)))), ((r_0 6), .inl (G.2.1 2, 6, .inr (.inl (fun _ => 0)))), ((r_0 7), .inl (G.2.1 2, 6, .inr (.inl (fun _ => 0))))]) [0, 1, 2, 3, 4, 5, 6, 7, 8, 9] (by decide) rfl
  refine W.widen (k := 9) (n := 56) (Nat.le_of_ble_eq_true rfl) (Nat.le_of_ble_eq_true rfl) ?_
  exact W.vret hx hb hr (fun t ht hW => ⟨⟨_, (q_0, r_0), rfl, rfl, by rw [ht]; exact hP9, hD9, trivial⟩, hS.F ht⟩) hS.2.2 dc_X1_init_16
set_option linter.constructorNameAsVariable false in
set_option maxHeartbeats 4000000 in
set_option maxRecDepth 100000 in
theorem mt_X6_init (l : Launch) (G : ky_G) (x : Nat) (sz : Nat)  : Met l my_X6_init (.code my_X6_init prog_1_method_1_code 1 none :: ky_B) { frames := 4, cells := 15, slots := 104, locals := 73 } (ky_P G [.ref x] ([(x, .inr (0, [.null, .null, .null, .int 0, .int 0, .int 0]))]) sz (fun _ => True)) (ky_Q (S := Nat × Nat × Nat × Nat × Nat × Nat × Nat × (Nat → Nat)) G (va_A ([(x, .inr (0, [.null, .null, .null, .int 0, .int 0, .int 0]))]) sz) (fun v _ => v = none) (fun u => ky_WB G x u.1 u.2.1 u.2.2.2.2.2.1 (fun _ => 0, 0, 0, 0) ++ ky_WS G u.2.1 u.2.2.1 u.2.2.2.1 (u.2.2.2.2.1, 16, 0, fun _ => 0, 0, fun _ => 0) ++ ky_WPf G u.2.2.2.2.2.1 u.2.2.2.2.2.2.1 u.2.2.2.2.2.2.2 (fun _ _ => 0)) (fun _ _ => True)) (15) (104) (va_A ([(x, .inr (0, [.null, .null, .null, .int 0, .int 0, .int 0]))]) sz) := by
  refine ky_startI (by decide) (Nat.le_of_ble_eq_true rfl) (fun p e s m below meth c hin F hE A hAe hsz hA hfr hP hD hS hX ls hl => ?_)
  obtain ⟨hx, hb, hml, hown, hr, hlocks, hts⟩ := id F
  have hl : lv_has ls 1 [(0, .ref x)] := hl
  have hP : va_P G.1 kcl [(x, .inr (0, [.null, .null, .null, .int (0), .int (0), .int (0)]))] s.heap := hP
  have hD : va_D A [(x, .inr (0, [.null, .null, .null, .int (0), .int (0), .int (0)]))] := hD
  refine lv_aload_n hx hb dc_X6_init_0 rfl (lv_at hl 0 rfl) ?_
  refine W.objInit hx hb hown (hts _ kw_1_35) (hts _ kw_1_36) (hts _ kw_1_37) rfl (by rw [hml]; exact hl.1) rfl dc_X6_init_1 (Nat.le_of_ble_eq_true rfl) (Nat.le_of_ble_eq_true rfl) ?_
  refine W.eq (g2 := F0 m 4 ls []) rfl ?_
  refine lv_aload_n hx hb dc_X6_init_4 rfl (lv_at hl 0 rfl) ?_
  refine lv_bipush (v := 6) hx hb dc_X6_init_5 (by decide) ?_
  refine va_newa (atype := .long) (ty := .long) (N' := 6) (a0 := (6, .inr (.inl (fun _ => 0)))) hx hb (hts _ kw_1_76) rfl hE.1 hP hD hS hA (fun _ => rfl) (by decide) (by decide) (by decide) (Nat.le_of_ble_eq_true rfl) (Nat.le_of_ble_eq_true rfl) dc_X6_init_7 (fun q_0 cA_0 H hK_0 hP hD hS => ?_)
  have hc_0 : cA_0 = G.2.1 2 := ky_nB 2 hE.1 hK_0 rfl (fun _ h => by cases h)
  subst hc_0
  have hP : va_P G.1 kcl [(x, .inr (0, [.null, .null, .null, .int (0), .int (0), .int (0)])), (q_0, .inl (G.2.1 2, 6, .inr (.inl (fun _ => 0))))] H := hP
  have hD : va_D A [(x, .inr (0, [.null, .null, .null, .int (0), .int (0), .int (0)])), (q_0, .inl (G.2.1 2, 6, .inr (.inl (fun _ => 0))))] := hD
  refine W.widen (k := 1) (n := 6) (by first | exact Nat.le_refl _ | omega) (by first | exact Nat.le_refl _ | omega) ?_
  refine va_putF (D := G.1) (ci := 0) (v := .ref q_0) (ty := .array .long) (C := RX6) (T := TX6) (N := 6) hx hb hts ki_X6 tyX6 tyX6_ok nmX6 hown hE.1 hP hD hS 0 rfl rfl 0 (by decide) (hts _ kw_1_98) (fun _ h9 => h9) rfl hin rfl (by decide +kernel) rfl rfl (Nat.le_of_ble_eq_true rfl) dc_X6_init_9 (fun H locs hP hD hS => ?_)
  have hP : va_P G.1 kcl [(x, .inr (0, [.ref q_0, .null, .null, .int (0), .int (0), .int (0)])), (q_0, .inl (G.2.1 2, 6, .inr (.inl (fun _ => 0))))] H := hP
  have hD : va_D A [(x, .inr (0, [.ref q_0, .null, .null, .int (0), .int (0), .int (0)])), (q_0, .inl (G.2.1 2, 6, .inr (.inl (fun _ => 0))))] := hD
  refine lv_aload_n hx hb dc_X6_init_12 rfl (lv_at hl 0 rfl) ?_
  refine va_new (ci := 1) (fs := [.null, .null]) (C := RX3) (T := TX3) (N := 2) hx hb hts ki_X3 tyX3 tyX3_ok hown (hts _ kw_1_38) (hts _ kw_1_39) (hts _ kw_1_2) hE.1 hP hD hS hA rfl (fun j hj => by rcases (show j = 0 ∨ j = 1 by omega) with rfl | rfl <;> rfl) (Nat.le_of_ble_eq_true rfl) (Nat.le_of_ble_eq_true rfl) dc_X6_init_13 (fun q_1 H hP hD hS => ?_)
  have hP : va_P G.1 kcl [(x, .inr (0, [.ref q_0, .null, .null, .int (0), .int (0), .int (0)])), (q_0, .inl (G.2.1 2, 6, .inr (.inl (fun _ => 0)))), (q_1, .inr (1, [.null, .null]))] H := hP
  have hD : va_D A [(x, .inr (0, [.ref q_0, .null, .null, .int (0), .int (0), .int (0)])), (q_0, .inl (G.2.1 2, 6, .inr (.inl (fun _ => 0)))), (q_1, .inr (1, [.null, .null]))] := hD
  refine W.widen (k := 2) (n := 8) (Nat.le_refl _) (Nat.le_refl _) ?_
  refine lv_dup hx hb dc_X6_init_16 rfl ?_
  refine ky_cIh (As := []) (wr := [(x, .inr (0, [.ref q_0, .null, .null, .int (0), .int (0), .int (0)])), (q_0, .inl (G.2.1 2, 6, .inr (.inl (fun _ => 0))))]) F (hE.at hfr hS) hfr (mt_X3_init l G q_1 H.size ) kI_X6_15 ⟨⟨rfl, rfl⟩, Nat.le_of_ble_eq_true rfl, Nat.le_of_ble_eq_true rfl⟩ rfl hl.1 rfl (Nat.le_of_ble_eq_true rfl) ⟨Nat.le_of_ble_eq_true rfl, Nat.le_of_ble_eq_true rfl⟩ trivial hP hD hS hA [2] [0, 1] rfl rfl (by decide) (by decide) (by decide) dc_X6_init_17 ?_
  rintro v9 ⟨fg_2, b_2, va_2⟩ H locs rfl hP hD hS - hz hk9
  have hP : va_P G.1 kcl [(x, .inr (0, [.ref q_0, .null, .null, .int (0), .int (0), .int (0)])), (q_0, .inl (G.2.1 2, 6, .inr (.inl (fun _ => 0)))), (q_1, .inr (1, [.ref b_2, .ref fg_2])), (fg_2, .inl (G.2.1 1, 19, .inl (fun _ => 0))), (b_2, .inr (6, [.ref va_2, .int (0), .int (0), .int (nI (0))])), (va_2, .inl (G.2.1 0, 16, .inl (fun _ => 0)))] H := hP
  have hD : va_D A [(x, .inr (0, [.ref q_0, .null, .null, .int (0), .int (0), .int (0)])), (q_0, .inl (G.2.1 2, 6, .inr (.inl (fun _ => 0)))), (q_1, .inr (1, [.ref b_2, .ref fg_2])), (fg_2, .inl (G.2.1 1, 19, .inl (fun _ => 0))), (b_2, .inr (6, [.ref va_2, .int (0), .int (0), .int (nI (0))])), (va_2, .inl (G.2.1 0, 16, .inl (fun _ => 0)))] := hD
  refine W.widen (k := 5) (n := 47) (by first | exact Nat.le_refl _ | omega) (by first | exact Nat.le_refl _ | omega) ?_
  refine va_putF (D := G.1) (ci := 0) (v := .ref q_1) (ty := .object "Exactdoubles$Scribe") (C := RX6) (T := TX6) (N := 6) hx hb hts ki_X6 tyX6 tyX6_ok nmX6 hown hE.1 hP hD hS 0 rfl rfl 1 (by decide) (hts _ kw_1_99) (fun _ h9 => h9) rfl hin rfl (by decide +kernel) rfl rfl (Nat.le_of_ble_eq_true rfl) dc_X6_init_20 (fun H locs hP hD hS => ?_)
  have hP : va_P G.1 kcl [(x, .inr (0, [.ref q_0, .ref q_1, .null, .int (0), .int (0), .int (0)])), (q_0, .inl (G.2.1 2, 6, .inr (.inl (fun _ => 0)))), (q_1, .inr (1, [.ref b_2, .ref fg_2])), (fg_2, .inl (G.2.1 1, 19, .inl (fun _ => 0))), (b_2, .inr (6, [.ref va_2, .int (0), .int (0), .int (nI (0))])), (va_2, .inl (G.2.1 0, 16, .inl (fun _ => 0)))] H := hP
  have hD : va_D A [(x, .inr (0, [.ref q_0, .ref q_1, .null, .int (0), .int (0), .int (0)])), (q_0, .inl (G.2.1 2, 6, .inr (.inl (fun _ => 0)))), (q_1, .inr (1, [.ref b_2, .ref fg_2])), (fg_2, .inl (G.2.1 1, 19, .inl (fun _ => 0))), (b_2, .inr (6, [.ref va_2, .int (0), .int (0), .int (nI (0))])), (va_2, .inl (G.2.1 0, 16, .inl (fun _ => 0)))] := hD
  refine lv_aload_n hx hb dc_X6_init_23 rfl (lv_at hl 0 rfl) ?_
  refine va_new (ci := 2) (fs := [.null]) (C := RX1) (T := TX1) (N := 1) hx hb hts ki_X1 tyX1 tyX1_ok hown (hts _ kw_1_86) (hts _ kw_1_87) (hts _ kw_1_7) hE.1 hP hD hS hA rfl (fun j hj => by rcases (show j = 0 by omega) with rfl <;> rfl) (Nat.le_of_ble_eq_true rfl) (Nat.le_of_ble_eq_true rfl) dc_X6_init_24 (fun q_3 H hP hD hS => ?_)
  have hP : va_P G.1 kcl [(x, .inr (0, [.ref q_0, .ref q_1, .null, .int (0), .int (0), .int (0)])), (q_0, .inl (G.2.1 2, 6, .inr (.inl (fun _ => 0)))), (q_1, .inr (1, [.ref b_2, .ref fg_2])), (fg_2, .inl (G.2.1 1, 19, .inl (fun _ => 0))), (b_2, .inr (6, [.ref va_2, .int (0), .int (0), .int (nI (0))])), (va_2, .inl (G.2.1 0, 16, .inl (fun _ => 0))), (q_3, .inr (2, [.null]))] H := hP
  have hD : va_D A [(x, .inr (0, [.ref q_0, .ref q_1, .null, .int (0), .int (0), .int (0)])), (q_0, .inl (G.2.1 2, 6, .inr (.inl (fun _ => 0)))), (q_1, .inr (1, [.ref b_2, .ref fg_2])), (fg_2, .inl (G.2.1 1, 19, .inl (fun _ => 0))), (b_2, .inr (6, [.ref va_2, .int (0), .int (0), .int (nI (0))])), (va_2, .inl (G.2.1 0, 16, .inl (fun _ => 0))), (q_3, .inr (2, [.null]))] := hD
  refine W.widen (k := 6) (n := 48) (Nat.le_refl _) (Nat.le_refl _) ?_
  refine lv_dup hx hb dc_X6_init_27 rfl ?_
  refine ky_cIh (As := []) (wr := [(x, .inr (0, [.ref q_0, .ref q_1, .null, .int (0), .int (0), .int (0)])), (q_0, .inl (G.2.1 2, 6, .inr (.inl (fun _ => 0)))), (q_1, .inr (1, [.ref b_2, .ref fg_2])), (fg_2, .inl (G.2.1 1, 19, .inl (fun _ => 0))), (b_2, .inr (6, [.ref va_2, .int (0), .int (0), .int (nI (0))])), (va_2, .inl (G.2.1 0, 16, .inl (fun _ => 0)))]) F (hE.at hfr hS) hfr (mt_X1_init l G q_3 H.size ) kI_X6_22 ⟨⟨rfl, rfl⟩, Nat.le_of_ble_eq_true rfl, Nat.le_of_ble_eq_true rfl⟩ rfl hl.1 rfl (Nat.le_of_ble_eq_true rfl) ⟨Nat.le_of_ble_eq_true rfl, Nat.le_of_ble_eq_true rfl⟩ trivial hP hD hS hA [6] [0, 1, 2, 3, 4, 5] rfl rfl (by decide) (by decide) (by decide) dc_X6_init_28 ?_
  rintro v9 ⟨tk_4, r_4⟩ H locs rfl hP hD hS - hz hk9
  have hP : va_P G.1 kcl [(x, .inr (0, [.ref q_0, .ref q_1, .null, .int (0), .int (0), .int (0)])), (q_0, .inl (G.2.1 2, 6, .inr (.inl (fun _ => 0)))), (q_1, .inr (1, [.ref b_2, .ref fg_2])), (fg_2, .inl (G.2.1 1, 19, .inl (fun _ => 0))), (b_2, .inr (6, [.ref va_2, .int (0), .int (0), .int (nI (0))])), (va_2, .inl (G.2.1 0, 16, .inl (fun _ => 0))), (q_3, .inr (2, [.ref tk_4])), (tk_4, .inl (G.2.1 4, 8, .inr (.inr (.inr (.inr (fun j => if j < 8 then some (r_4 j) else none)))))), ((r_4 0), .inl (G.2.1 2, 6, .inr (.inl (fun _ => 0)))), ((r_4 1), .inl (G.2.1 2, 6, .inr (.inl (fun _ => 0)))), ((r_4 2), .inl (G.2.1 2, 6, .inr (.inl (fun _ => 0)))), ((r_4 3), .inl (G.2.1 2, 6, .inr (.inl (fun _ => 0)))), ((r_4 4), .inl (G.2.1 2, 6, .inr (.inl (fun _ => 0)))), ((r_4 5), .inl (G.2.1 2, 6, .inr (.inl (fun _ => 0)))), ((r_4 6), .inl (G.2.1 2, 6, .inr (.inl (fun _ => 0)))), ((r_4 7), .inl (G.2.1 2, 6, .inr (.inl (fun _ => 0))))] H := hP
  have hD : va_D A [(x, .inr (0, [.ref q_0, .ref q_1, .null, .int (0), .int (0), .int (0)])), (q_0, .inl (G.2.1 2, 6, .inr (.inl (fun _ => 0)))), (q_1, .inr (1, [.ref b_2, .ref fg_2])), (fg_2, .inl (G.2.1 1, 19, .inl (fun _ => 0))), (b_2, .inr (6, [.ref va_2, .int (0), .int (0), .int (nI (0))])), (va_2, .inl (G.2.1 0, 16, .inl (fun _ => 0))), (q_3, .inr (2, [.ref tk_4])), (tk_4, .inl (G.2.1 4, 8, .inr (.inr (.inr (.inr (fun j => if j < 8 then some (r_4 j) else none)))))), ((r_4 0), .inl (G.2.1 2, 6, .inr (.inl (fun _ => 0)))), ((r_4 1), .inl (G.2.1 2, 6, .inr (.inl (fun _ => 0)))), ((r_4 2), .inl (G.2.1 2, 6, .inr (.inl (fun _ => 0)))), ((r_4 3), .inl (G.2.1 2, 6, .inr (.inl (fun _ => 0)))), ((r_4 4), .inl (G.2.1 2, 6, .inr (.inl (fun _ => 0)))), ((r_4 5), .inl (G.2.1 2, 6, .inr (.inl (fun _ => 0)))), ((r_4 6), .inl (G.2.1 2, 6, .inr (.inl (fun _ => 0)))), ((r_4 7), .inl (G.2.1 2, 6, .inr (.inl (fun _ => 0))))] := hD
  refine W.widen (k := 15) (n := 104) (by first | exact Nat.le_refl _ | omega) (by first | exact Nat.le_refl _ | omega) ?_
  refine va_putF (D := G.1) (ci := 0) (v := .ref q_3) (ty := .object "Exactdoubles$Proof") (C := RX6) (T := TX6) (N := 6) hx hb hts ki_X6 tyX6 tyX6_ok nmX6 hown hE.1 hP hD hS 0 rfl rfl 2 (by decide) (hts _ kw_1_100) (fun _ h9 => h9) rfl hin rfl (by decide +kernel) rfl rfl (Nat.le_of_ble_eq_true rfl) dc_X6_init_31 (fun H locs hP hD hS => ?_)
  have hP : va_P G.1 kcl [(x, .inr (0, [.ref q_0, .ref q_1, .ref q_3, .int (0), .int (0), .int (0)])), (q_0, .inl (G.2.1 2, 6, .inr (.inl (fun _ => 0)))), (q_1, .inr (1, [.ref b_2, .ref fg_2])), (fg_2, .inl (G.2.1 1, 19, .inl (fun _ => 0))), (b_2, .inr (6, [.ref va_2, .int (0), .int (0), .int (nI (0))])), (va_2, .inl (G.2.1 0, 16, .inl (fun _ => 0))), (q_3, .inr (2, [.ref tk_4])), (tk_4, .inl (G.2.1 4, 8, .inr (.inr (.inr (.inr (fun j => if j < 8 then some (r_4 j) else none)))))), ((r_4 0), .inl (G.2.1 2, 6, .inr (.inl (fun _ => 0)))), ((r_4 1), .inl (G.2.1 2, 6, .inr (.inl (fun _ => 0)))), ((r_4 2), .inl (G.2.1 2, 6, .inr (.inl (fun _ => 0)))), ((r_4 3), .inl (G.2.1 2, 6, .inr (.inl (fun _ => 0)))), ((r_4 4), .inl (G.2.1 2, 6, .inr (.inl (fun _ => 0)))), ((r_4 5), .inl (G.2.1 2, 6, .inr (.inl (fun _ => 0)))), ((r_4 6), .inl (G.2.1 2, 6, .inr (.inl (fun _ => 0)))), ((r_4 7), .inl (G.2.1 2, 6, .inr (.inl (fun _ => 0))))] H := hP
  have hD : va_D A [(x, .inr (0, [.ref q_0, .ref q_1, .ref q_3, .int (0), .int (0), .int (0)])), (q_0, .inl (G.2.1 2, 6, .inr (.inl (fun _ => 0)))), (q_1, .inr (1, [.ref b_2, .ref fg_2])), (fg_2, .inl (G.2.1 1, 19, .inl (fun _ => 0))), (b_2, .inr (6, [.ref va_2, .int (0), .int (0), .int (nI (0))])), (va_2, .inl (G.2.1 0, 16, .inl (fun _ => 0))), (q_3, .inr (2, [.ref tk_4])), (tk_4, .inl (G.2.1 4, 8, .inr (.inr (.inr (.inr (fun j => if j < 8 then some (r_4 j) else none)))))), ((r_4 0), .inl (G.2.1 2, 6, .inr (.inl (fun _ => 0)))), ((r_4 1), .inl (G.2.1 2, 6, .inr (.inl (fun _ => 0)))), ((r_4 2), .inl (G.2.1 2, 6, .inr (.inl (fun _ => 0)))), ((r_4 3), .inl (G.2.1 2, 6, .inr (.inl (fun _ => 0)))), ((r_4 4), .inl (G.2.1 2, 6, .inr (.inl (fun _ => 0)))), ((r_4 5), .inl (G.2.1 2, 6, .inr (.inl (fun _ => 0)))), ((r_4 6), .inl (G.2.1 2, 6, .inr (.inl (fun _ => 0)))), ((r_4 7), .inl (G.2.1 2, 6, .inr (.inl (fun _ => 0))))] := hD
  have hP9 := hP.sub (ws' := [(x, .inr (0, [.ref q_0, .ref q_1, .ref q_3, .int (0), .int (0), .int (0)])), (q_0, .inl (G.2.1 2, 6, .inr (.inl (fun _ => 0)))), (q_1, .inr (1, [.ref b_2, .ref fg_2])), (fg_2, .inl (G.2.1 1, 19, .inl (fun _ => 0))), (b_2, .inr (6, [.ref va_2, .int (0), .int (0), .int (nI (0))])), (va_2, .inl (G.2.1 0, 16, .inl (fun _ => 0))), (q_3, .inr (2, [.ref tk_4])), (tk_4, .inl (G.2.1 4, 8, .inr (.inr (.inr (.inr (fun j => if j < 8 then some (r_4 j) else none)))))), ((r_4 0), .inl (G.2.1 2, 6, .inr (.inl (fun _ => 0)))), ((r_4 1), .inl (G.2.1 2, 6, .inr (.inl (fun _ => 0)))), ((r_4 2), .inl (G.2.1 2, 6, .inr (.inl (fun _ => 0)))), ((r_4 3), .inl (G.2.1 2, 6, .inr (.inl (fun _ => 0)))), ((r_4 4), .inl (G.2.1 2, 6, .inr (.inl (fun _ => 0)))), ((r_4 5), .inl (G.2.1 2, 6, .inr (.inl (fun _ => 0)))), ((r_4 6), .inl (G.2.1 2, 6, .inr (.inl (fun _ => 0)))), ((r_4 7), .inl (G.2.1 2, 6, .inr (.inl (fun _ => 0))))]) [0, 1, 2, 3, 4, 5, 6, 7, 8, 9, 10, 11, 12, 13, 14, 15] rfl
  have hD9 := hD.sub (ws' := [(x, .inr (0, [.ref q_0, .ref q_1, .ref q_3, .int (0), .int (0), .int (0)])), (q_0, .inl (G.2.1 2, 6, .inr (.inl (fun _ => 0)))), (q_1, .inr (1, [.ref b_2, .ref fg_2])), (fg_2, .inl (G.2.1 1, 19, .inl (fun _ => 0))), (b_2, .inr (6, [.ref va_2, .int (0), .int (0), .int (nI (0))])), (va_2, .inl (G.2.1 0, 16, .inl (fun _ => 0))), (q_3, .inr (2, [.ref tk_4])), (tk_4, .inl (G.2.1 4, 8, .inr (.inr (.inr (.inr (fun j => if j < 8 then some (r_4 j) else none)))))), ((r_4 0), .inl (G.2.1 2, 6, .inr (.inl (fun _ => 0)))), ((r_4 1), .inl (G.2.1 2, 6, .inr (.inl (fun _ => 0)))), ((r_4 2), .inl (G.2.1 2, 6, .inr (.inl (fun _ => 0)))), ((r_4 3), .inl (G.2.1 2, 6, .inr (.inl (fun _ => 0)))), ((r_4 4), .inl (G.2.1 2, 6, .inr (.inl (fun _ => 0)))), ((r_4 5), .inl (G.2.1 2, 6, .inr (.inl (fun _ => 0)))), ((r_4 6), .inl (G.2.1 2, 6, .inr (.inl (fun _ => 0)))), ((r_4 7), .inl (G.2.1 2, 6, .inr (.inl (fun _ => 0))))]) [0, 1, 2, 3, 4, 5, 6, 7, 8, 9, 10, 11, 12, 13, 14, 15] (by decide) rfl
  refine W.widen (k := 15) (n := 104) (Nat.le_of_ble_eq_true rfl) (Nat.le_of_ble_eq_true rfl) ?_
  exact W.vret hx hb hr (fun t ht hW => ⟨⟨_, (q_0, q_1, fg_2, b_2, va_2, q_3, tk_4, r_4), rfl, rfl, by rw [ht]; exact hP9, hD9, trivial⟩, hS.F ht⟩) hS.2.2 dc_X6_init_34
set_option linter.constructorNameAsVariable false in
set_option maxHeartbeats 4000000 in
set_option maxRecDepth 100000 in
theorem mt_X7_init (l : Launch) (G : ky_G) (x : Nat) (sz : Nat)  : Met l my_X7_init (.code my_X7_init prog_9_method_1_code 1 none :: ky_B) { frames := 1, cells := 0, slots := 0, locals := 12 } (ky_P G [.ref x] ([(x, .inr (3, [.long 0, .null]))]) sz (fun _ => True)) (ky_Q (S := Unit) G (va_A ([(x, .inr (3, [.long 0, .null]))]) sz) (fun v _ => v = none) (fun _ => [(x, .inr (3, [.long 0, .null]))]) (fun _ _ => True)) (0) (0) (va_A ([(x, .inr (3, [.long 0, .null]))]) sz) := by
  refine ky_startI (by decide) (Nat.le_of_ble_eq_true rfl) (fun p e s m below meth c hin F hE A hAe hsz hA hfr hP hD hS hX ls hl => ?_)
  obtain ⟨hx, hb, hml, hown, hr, hlocks, hts⟩ := id F
  have hl : lv_has ls 1 [(0, .ref x)] := hl
  have hP : va_P G.1 kcl [(x, .inr (3, [.long (0), .null]))] s.heap := hP
  have hD : va_D A [(x, .inr (3, [.long (0), .null]))] := hD
  refine lv_aload_n hx hb dc_X7_init_0 rfl (lv_at hl 0 rfl) ?_
  refine W.objInit hx hb hown (hts _ kw_4_71) (hts _ kw_1_36) (hts _ kw_1_37) rfl (by rw [hml]; exact hl.1) rfl dc_X7_init_1 (Nat.le_of_ble_eq_true rfl) (Nat.le_of_ble_eq_true rfl) ?_
  refine W.eq (g2 := F0 m 4 ls []) rfl ?_
  have hP9 := hP.sub (ws' := [(x, .inr (3, [.long (0), .null]))]) [0] rfl
  have hD9 := hD.sub (ws' := [(x, .inr (3, [.long (0), .null]))]) [0] (by decide) rfl
  refine W.widen (k := 0) (n := 0) (Nat.le_of_ble_eq_true rfl) (Nat.le_of_ble_eq_true rfl) ?_
  exact W.vret hx hb hr (fun t ht hW => ⟨⟨_, (), rfl, rfl, by rw [ht]; exact hP9, hD9, trivial⟩, hS.F ht⟩) hS.2.2 dc_X7_init_4
set_option linter.constructorNameAsVariable false in
set_option maxHeartbeats 4000000 in
set_option maxRecDepth 100000 in
theorem mt_X9_init (l : Launch) (G : ky_G) (x : Nat) (N : Nat → Prop) (sz : Nat) (hN : ∀ q, N q → q < sz) : Met l my_X9_init (.code my_X9_init prog_10_method_6_code 2 none :: ky_B) { frames := 2, cells := 7, slots := 18, locals := 35 } (ky_P G [.ref x] ([(x, .inr (5, [.int 0, .null, .int 0, .int 0, .int 0]))]) sz (fun _ => True)) (ky_Q (S := Nat × (Nat → Option Nat)) G (va_A ([(x, .inr (5, [.int 0, .null, .int 0, .int 0, .int 0]))]) sz) (fun v _ => v = none) (fun u => ky_WM G x u.1 (0, 0, 0, 0, fun _ => (0, 0)) u.2) (fun u H => ky_IT G x u.1 N u.2 (fun _ => (0, 0)) H)) (7) (18) (va_A ([(x, .inr (5, [.int 0, .null, .int 0, .int 0, .int 0]))]) sz) := by
  refine ky_startI (by decide) (Nat.le_of_ble_eq_true rfl) (fun p e s m below meth c hin F hE A hAe hsz hA hfr hP hD hS hX ls hl => ?_)
  obtain ⟨hx, hb, hml, hown, hr, hlocks, hts⟩ := id F
  have hl : lv_has ls 2 [(0, .ref x)] := hl
  have hP : va_P G.1 kcl [(x, .inr (5, [.int (0), .null, .int (0), .int (0), .int (0)]))] s.heap := hP
  have hD : va_D A [(x, .inr (5, [.int (0), .null, .int (0), .int (0), .int (0)]))] := hD
  refine lv_aload_n hx hb dc_X9_init_0 rfl (lv_at hl 0 rfl) ?_
  refine W.objInit hx hb hown (hts _ kw_6_2) (hts _ kw_1_36) (hts _ kw_1_37) rfl (by rw [hml]; exact hl.1) rfl dc_X9_init_1 (Nat.le_of_ble_eq_true rfl) (Nat.le_of_ble_eq_true rfl) ?_
  refine W.eq (g2 := F0 m 4 ls []) rfl ?_
  refine lv_aload_n hx hb dc_X9_init_4 rfl (lv_at hl 0 rfl) ?_
  refine lv_bipush (v := 6) hx hb dc_X9_init_5 (by decide) ?_
  refine va_newq (C := "ExactdoublesModel$Its") (N' := 6) hx hb hown (hts _ kw_6_3) (hE.ovI (kc_6 _ (List.mem_of_getElem? (i := 4) rfl))) hE.1 hP hD hS hA (by decide) (by decide) (by decide) (Nat.le_of_ble_eq_true rfl) (Nat.le_of_ble_eq_true rfl) dc_X9_init_7 (fun q_0 cA_0 H hK_0 hP hD hS => ?_)
  have hc_0 : cA_0 = G.2.1 3 := ky_nA 3 hE.1 hK_0 rfl
  subst hc_0
  have hP : va_P G.1 kcl [(x, .inr (5, [.int (0), .null, .int (0), .int (0), .int (0)])), (q_0, .inl (G.2.1 3, 6, .inr (.inr (.inr (.inr (fun _ => none))))))] H := hP
  have hD : va_D A [(x, .inr (5, [.int (0), .null, .int (0), .int (0), .int (0)])), (q_0, .inl (G.2.1 3, 6, .inr (.inr (.inr (.inr (fun _ => none))))))] := hD
  refine W.widen (k := 1) (n := 6) (by first | exact Nat.le_refl _ | omega) (by first | exact Nat.le_refl _ | omega) ?_
  refine va_putF (D := G.1) (ci := 5) (v := .ref q_0) (ty := .array (.object "ExactdoublesModel$Its")) (C := RX9) (T := TX9) (N := 5) hx hb hts ki_X9 tyX9 tyX9_ok nmX9 hown hE.1 hP hD hS 0 rfl rfl 1 (by decide) (hts _ kw_6_20) (fun _ h9 => h9) rfl hin rfl (by decide +kernel) rfl rfl (Nat.le_of_ble_eq_true rfl) dc_X9_init_10 (fun H locs hP hD hS => ?_)
  have hP : va_P G.1 kcl [(x, .inr (5, [.int (0), .ref q_0, .int (0), .int (0), .int (0)])), (q_0, .inl (G.2.1 3, 6, .inr (.inr (.inr (.inr (fun _ => none))))))] H := hP
  have hD : va_D A [(x, .inr (5, [.int (0), .ref q_0, .int (0), .int (0), .int (0)])), (q_0, .inl (G.2.1 3, 6, .inr (.inr (.inr (.inr (fun _ => none))))))] := hD
  refine lv_iconst (v := 0) hx hb dc_X9_init_13 (by decide) ?_
  refine lv_istore_n (lv' := [(1, .int ((0 : Int32))), (0, .ref x)]) hx hb dc_X9_init_14 rfl hl (by decide) rfl (fun ls hl => ?_)
  refine lv_iload_n hx hb dc_X9_init_15 rfl (lv_at hl 0 rfl) ?_
  refine lv_bipush (v := 6) hx hb dc_X9_init_16 (by decide) ?_
  refine lv_icmp_ge (tgt := 42) hx hb dc_X9_init_18 (by decide) (fun c_1 => absurd c_1 (by decide)) (fun _ => ?_)
  refine lv_aload_n hx hb dc_X9_init_21 rfl (lv_at hl 1 rfl) ?_
  refine va_get (D := G.1) (ci := 5) (v := .ref q_0) (C := RX9) (T := TX9) (N := 5) hx hb hts ki_X9 hown hE.1 hP 0 rfl rfl 1 (by decide) (hts _ kw_6_20) (fun _ h9 => h9) rfl dc_X9_init_22 ?_
  refine lv_iload_n hx hb dc_X9_init_25 rfl (lv_at hl 0 rfl) ?_
  refine va_new (ci := 4) (fs := [.int (0), .long (0)]) (C := RX8) (T := TX8) (N := 2) hx hb hts ki_X8 tyX8 tyX8_ok hown (hts _ kw_6_3) (hts _ kw_6_5) (hts _ kw_1_9) hE.1 hP hD hS hA rfl (fun j hj => by rcases (show j = 0 ∨ j = 1 by omega) with rfl | rfl <;> rfl) (Nat.le_of_ble_eq_true rfl) (Nat.le_of_ble_eq_true rfl) dc_X9_init_26 (fun q_2 H hP hD hS => ?_)
  have hP : va_P G.1 kcl [(x, .inr (5, [.int (0), .ref q_0, .int (0), .int (0), .int (0)])), (q_0, .inl (G.2.1 3, 6, .inr (.inr (.inr (.inr (fun _ => none)))))), (q_2, .inr (4, [.int (0), .long (0)]))] H := hP
  have hD : va_D A [(x, .inr (5, [.int (0), .ref q_0, .int (0), .int (0), .int (0)])), (q_0, .inl (G.2.1 3, 6, .inr (.inr (.inr (.inr (fun _ => none)))))), (q_2, .inr (4, [.int (0), .long (0)]))] := hD
  refine W.widen (k := 2) (n := 8) (Nat.le_refl _) (Nat.le_refl _) ?_
  refine lv_dup hx hb dc_X9_init_29 rfl ?_
  refine lv_iconst (v := 0) hx hb dc_X9_init_30 (by decide) ?_
  refine lv_lconst (v := 0) hx hb dc_X9_init_31 (by decide) ?_
  refine ky_cIh (As := [.int ((0 : Int32)), .long ((0 : Int64))]) (wr := [(x, .inr (5, [.int (0), .ref q_0, .int (0), .int (0), .int (0)])), (q_0, .inl (G.2.1 3, 6, .inr (.inr (.inr (.inr (fun _ => none))))))]) F (hE.at hfr hS) hfr (mt_X8_init l G (q_2) ((0 : Int32)) ((0 : Int64)) H.size ) kI_X9_29 ⟨⟨rfl, rfl⟩, by decide, by decide⟩ rfl hl.1 rfl (Nat.le_of_ble_eq_true rfl) ⟨Nat.le_of_ble_eq_true rfl, Nat.le_of_ble_eq_true rfl⟩ trivial hP hD hS hA [2] [0, 1] rfl rfl (by decide) (by decide) (by decide) dc_X9_init_32 ?_
  rintro v9 u9 H locs ⟨rfl, hu9⟩ hP hD hS - hz hk9
  have hu9 := hu9.symm
  subst hu9
  have hP : va_P G.1 kcl [(x, .inr (5, [.int (0), .ref q_0, .int (0), .int (0), .int (0)])), (q_0, .inl (G.2.1 3, 6, .inr (.inr (.inr (.inr (fun _ => none)))))), (q_2, .inr (4, [.int ((0 : Int32)), .long ((0 : Int64))]))] H := hP
  have hD : va_D A [(x, .inr (5, [.int (0), .ref q_0, .int (0), .int (0), .int (0)])), (q_0, .inl (G.2.1 3, 6, .inr (.inr (.inr (.inr (fun _ => none)))))), (q_2, .inr (4, [.int ((0 : Int32)), .long ((0 : Int64))]))] := hD
  refine W.widen (k := 2) (n := 8) (Nat.le_refl _) (Nat.le_refl _) ?_
  refine ky_astI hx hb hE.1 hP hD hS 1 rfl (show ky_It G q_2 ((0 : Int32), (0 : Int64)) H from hP.sub [2] rfl) (vp_in_iff.mpr (by decide)) dc_X9_init_35 (fun H locs hP hD hS => ?_)
  have hP : va_P G.1 kcl [(x, .inr (5, [.int (0), .ref q_0, .int (0), .int (0), .int (0)])), (q_0, .inl (G.2.1 3, 6, .inr (.inr (.inr (.inr (va_up (fun _ => none) 0 (some q_2))))))), (q_2, .inr (4, [.int ((0 : Int32)), .long ((0 : Int64))]))] H := hP
  have hD : va_D A [(x, .inr (5, [.int (0), .ref q_0, .int (0), .int (0), .int (0)])), (q_0, .inl (G.2.1 3, 6, .inr (.inr (.inr (.inr (va_up (fun _ => none) 0 (some q_2))))))), (q_2, .inr (4, [.int ((0 : Int32)), .long ((0 : Int64))]))] := hD
  refine lv_iinc (v := (1 : Int32)) (lv' := [(1, .int ((1 : Int32))), (0, .ref x)]) hx hb dc_X9_init_36 hl (k := 0) rfl (by decide) (by decide) rfl (fun ls hl => ?_)
  refine lv_goto (tgt := 15) hx hb dc_X9_init_39 (by decide) ?_
  refine lv_iload_n hx hb dc_X9_init_15 rfl (lv_at hl 0 rfl) ?_
  refine lv_bipush (v := 6) hx hb dc_X9_init_16 (by decide) ?_
  refine lv_icmp_ge (tgt := 42) hx hb dc_X9_init_18 (by decide) (fun c_4 => absurd c_4 (by decide)) (fun _ => ?_)
  refine lv_aload_n hx hb dc_X9_init_21 rfl (lv_at hl 1 rfl) ?_
  refine va_get (D := G.1) (ci := 5) (v := .ref q_0) (C := RX9) (T := TX9) (N := 5) hx hb hts ki_X9 hown hE.1 hP 0 rfl rfl 1 (by decide) (hts _ kw_6_20) (fun _ h9 => h9) rfl dc_X9_init_22 ?_
  refine lv_iload_n hx hb dc_X9_init_25 rfl (lv_at hl 0 rfl) ?_
  refine va_new (ci := 4) (fs := [.int (0), .long (0)]) (C := RX8) (T := TX8) (N := 2) hx hb hts ki_X8 tyX8 tyX8_ok hown (hts _ kw_6_3) (hts _ kw_6_5) (hts _ kw_1_9) hE.1 hP hD hS hA rfl (fun j hj => by rcases (show j = 0 ∨ j = 1 by omega) with rfl | rfl <;> rfl) (Nat.le_of_ble_eq_true rfl) (Nat.le_of_ble_eq_true rfl) dc_X9_init_26 (fun q_5 H hP hD hS => ?_)
  have hP : va_P G.1 kcl [(x, .inr (5, [.int (0), .ref q_0, .int (0), .int (0), .int (0)])), (q_0, .inl (G.2.1 3, 6, .inr (.inr (.inr (.inr (va_up (fun _ => none) 0 (some q_2))))))), (q_2, .inr (4, [.int ((0 : Int32)), .long ((0 : Int64))])), (q_5, .inr (4, [.int (0), .long (0)]))] H := hP
  have hD : va_D A [(x, .inr (5, [.int (0), .ref q_0, .int (0), .int (0), .int (0)])), (q_0, .inl (G.2.1 3, 6, .inr (.inr (.inr (.inr (va_up (fun _ => none) 0 (some q_2))))))), (q_2, .inr (4, [.int ((0 : Int32)), .long ((0 : Int64))])), (q_5, .inr (4, [.int (0), .long (0)]))] := hD
  refine W.widen (k := 3) (n := 10) (Nat.le_refl _) (Nat.le_refl _) ?_
  refine lv_dup hx hb dc_X9_init_29 rfl ?_
  refine lv_iconst (v := 0) hx hb dc_X9_init_30 (by decide) ?_
  refine lv_lconst (v := 0) hx hb dc_X9_init_31 (by decide) ?_
  refine ky_cIh (As := [.int ((0 : Int32)), .long ((0 : Int64))]) (wr := [(x, .inr (5, [.int (0), .ref q_0, .int (0), .int (0), .int (0)])), (q_0, .inl (G.2.1 3, 6, .inr (.inr (.inr (.inr (va_up (fun _ => none) 0 (some q_2))))))), (q_2, .inr (4, [.int ((0 : Int32)), .long ((0 : Int64))]))]) F (hE.at hfr hS) hfr (mt_X8_init l G (q_5) ((0 : Int32)) ((0 : Int64)) H.size ) kI_X9_29 ⟨⟨rfl, rfl⟩, by decide, by decide⟩ rfl hl.1 rfl (Nat.le_of_ble_eq_true rfl) ⟨Nat.le_of_ble_eq_true rfl, Nat.le_of_ble_eq_true rfl⟩ trivial hP hD hS hA [3] [0, 1, 2] rfl rfl (by decide) (by decide) (by decide) dc_X9_init_32 ?_
  rintro v9 u9 H locs ⟨rfl, hu9⟩ hP hD hS - hz hk9
  have hu9 := hu9.symm
  subst hu9
  have hP : va_P G.1 kcl [(x, .inr (5, [.int (0), .ref q_0, .int (0), .int (0), .int (0)])), (q_0, .inl (G.2.1 3, 6, .inr (.inr (.inr (.inr (va_up (fun _ => none) 0 (some q_2))))))), (q_2, .inr (4, [.int ((0 : Int32)), .long ((0 : Int64))])), (q_5, .inr (4, [.int ((0 : Int32)), .long ((0 : Int64))]))] H := hP
  have hD : va_D A [(x, .inr (5, [.int (0), .ref q_0, .int (0), .int (0), .int (0)])), (q_0, .inl (G.2.1 3, 6, .inr (.inr (.inr (.inr (va_up (fun _ => none) 0 (some q_2))))))), (q_2, .inr (4, [.int ((0 : Int32)), .long ((0 : Int64))])), (q_5, .inr (4, [.int ((0 : Int32)), .long ((0 : Int64))]))] := hD
  refine W.widen (k := 3) (n := 10) (Nat.le_refl _) (Nat.le_refl _) ?_
  refine ky_astI hx hb hE.1 hP hD hS 1 rfl (show ky_It G q_5 ((0 : Int32), (0 : Int64)) H from hP.sub [3] rfl) (vp_in_iff.mpr (by decide)) dc_X9_init_35 (fun H locs hP hD hS => ?_)
  have hP : va_P G.1 kcl [(x, .inr (5, [.int (0), .ref q_0, .int (0), .int (0), .int (0)])), (q_0, .inl (G.2.1 3, 6, .inr (.inr (.inr (.inr (va_up (va_up (fun _ => none) 0 (some q_2)) 1 (some q_5))))))), (q_2, .inr (4, [.int ((0 : Int32)), .long ((0 : Int64))])), (q_5, .inr (4, [.int ((0 : Int32)), .long ((0 : Int64))]))] H := hP
  have hD : va_D A [(x, .inr (5, [.int (0), .ref q_0, .int (0), .int (0), .int (0)])), (q_0, .inl (G.2.1 3, 6, .inr (.inr (.inr (.inr (va_up (va_up (fun _ => none) 0 (some q_2)) 1 (some q_5))))))), (q_2, .inr (4, [.int ((0 : Int32)), .long ((0 : Int64))])), (q_5, .inr (4, [.int ((0 : Int32)), .long ((0 : Int64))]))] := hD
  refine lv_iinc (v := (2 : Int32)) (lv' := [(1, .int ((2 : Int32))), (0, .ref x)]) hx hb dc_X9_init_36 hl (k := 0) rfl (by decide) (by decide) rfl (fun ls hl => ?_)
  refine lv_goto (tgt := 15) hx hb dc_X9_init_39 (by decide) ?_
  refine lv_iload_n hx hb dc_X9_init_15 rfl (lv_at hl 0 rfl) ?_
  refine lv_bipush (v := 6) hx hb dc_X9_init_16 (by decide) ?_
  refine lv_icmp_ge (tgt := 42) hx hb dc_X9_init_18 (by decide) (fun c_7 => absurd c_7 (by decide)) (fun _ => ?_)
  refine lv_aload_n hx hb dc_X9_init_21 rfl (lv_at hl 1 rfl) ?_
  refine va_get (D := G.1) (ci := 5) (v := .ref q_0) (C := RX9) (T := TX9) (N := 5) hx hb hts ki_X9 hown hE.1 hP 0 rfl rfl 1 (by decide) (hts _ kw_6_20) (fun _ h9 => h9) rfl dc_X9_init_22 ?_
  refine lv_iload_n hx hb dc_X9_init_25 rfl (lv_at hl 0 rfl) ?_
  refine va_new (ci := 4) (fs := [.int (0), .long (0)]) (C := RX8) (T := TX8) (N := 2) hx hb hts ki_X8 tyX8 tyX8_ok hown (hts _ kw_6_3) (hts _ kw_6_5) (hts _ kw_1_9) hE.1 hP hD hS hA rfl (fun j hj => by rcases (show j = 0 ∨ j = 1 by omega) with rfl | rfl <;> rfl) (Nat.le_of_ble_eq_true rfl) (Nat.le_of_ble_eq_true rfl) dc_X9_init_26 (fun q_8 H hP hD hS => ?_)
  have hP : va_P G.1 kcl [(x, .inr (5, [.int (0), .ref q_0, .int (0), .int (0), .int (0)])), (q_0, .inl (G.2.1 3, 6, .inr (.inr (.inr (.inr (va_up (va_up (fun _ => none) 0 (some q_2)) 1 (some q_5))))))), (q_2, .inr (4, [.int ((0 : Int32)), .long ((0 : Int64))])), (q_5, .inr (4, [.int ((0 : Int32)), .long ((0 : Int64))])), (q_8, .inr (4, [.int (0), .long (0)]))] H := hP
  have hD : va_D A [(x, .inr (5, [.int (0), .ref q_0, .int (0), .int (0), .int (0)])), (q_0, .inl (G.2.1 3, 6, .inr (.inr (.inr (.inr (va_up (va_up (fun _ => none) 0 (some q_2)) 1 (some q_5))))))), (q_2, .inr (4, [.int ((0 : Int32)), .long ((0 : Int64))])), (q_5, .inr (4, [.int ((0 : Int32)), .long ((0 : Int64))])), (q_8, .inr (4, [.int (0), .long (0)]))] := hD
  refine W.widen (k := 4) (n := 12) (Nat.le_refl _) (Nat.le_refl _) ?_
  refine lv_dup hx hb dc_X9_init_29 rfl ?_
  refine lv_iconst (v := 0) hx hb dc_X9_init_30 (by decide) ?_
  refine lv_lconst (v := 0) hx hb dc_X9_init_31 (by decide) ?_
  refine ky_cIh (As := [.int ((0 : Int32)), .long ((0 : Int64))]) (wr := [(x, .inr (5, [.int (0), .ref q_0, .int (0), .int (0), .int (0)])), (q_0, .inl (G.2.1 3, 6, .inr (.inr (.inr (.inr (va_up (va_up (fun _ => none) 0 (some q_2)) 1 (some q_5))))))), (q_2, .inr (4, [.int ((0 : Int32)), .long ((0 : Int64))])), (q_5, .inr (4, [.int ((0 : Int32)), .long ((0 : Int64))]))]) F (hE.at hfr hS) hfr (mt_X8_init l G (q_8) ((0 : Int32)) ((0 : Int64)) H.size ) kI_X9_29 ⟨⟨rfl, rfl⟩, by decide, by decide⟩ rfl hl.1 rfl (Nat.le_of_ble_eq_true rfl) ⟨Nat.le_of_ble_eq_true rfl, Nat.le_of_ble_eq_true rfl⟩ trivial hP hD hS hA [4] [0, 1, 2, 3] rfl rfl (by decide) (by decide) (by decide) dc_X9_init_32 ?_
  rintro v9 u9 H locs ⟨rfl, hu9⟩ hP hD hS - hz hk9
  have hu9 := hu9.symm
  subst hu9
  have hP : va_P G.1 kcl [(x, .inr (5, [.int (0), .ref q_0, .int (0), .int (0), .int (0)])), (q_0, .inl (G.2.1 3, 6, .inr (.inr (.inr (.inr (va_up (va_up (fun _ => none) 0 (some q_2)) 1 (some q_5))))))), (q_2, .inr (4, [.int ((0 : Int32)), .long ((0 : Int64))])), (q_5, .inr (4, [.int ((0 : Int32)), .long ((0 : Int64))])), (q_8, .inr (4, [.int ((0 : Int32)), .long ((0 : Int64))]))] H := hP
  have hD : va_D A [(x, .inr (5, [.int (0), .ref q_0, .int (0), .int (0), .int (0)])), (q_0, .inl (G.2.1 3, 6, .inr (.inr (.inr (.inr (va_up (va_up (fun _ => none) 0 (some q_2)) 1 (some q_5))))))), (q_2, .inr (4, [.int ((0 : Int32)), .long ((0 : Int64))])), (q_5, .inr (4, [.int ((0 : Int32)), .long ((0 : Int64))])), (q_8, .inr (4, [.int ((0 : Int32)), .long ((0 : Int64))]))] := hD
  refine W.widen (k := 4) (n := 12) (Nat.le_refl _) (Nat.le_refl _) ?_
  refine ky_astI hx hb hE.1 hP hD hS 1 rfl (show ky_It G q_8 ((0 : Int32), (0 : Int64)) H from hP.sub [4] rfl) (vp_in_iff.mpr (by decide)) dc_X9_init_35 (fun H locs hP hD hS => ?_)
  have hP : va_P G.1 kcl [(x, .inr (5, [.int (0), .ref q_0, .int (0), .int (0), .int (0)])), (q_0, .inl (G.2.1 3, 6, .inr (.inr (.inr (.inr (va_up (va_up (va_up (fun _ => none) 0 (some q_2)) 1 (some q_5)) 2 (some q_8))))))), (q_2, .inr (4, [.int ((0 : Int32)), .long ((0 : Int64))])), (q_5, .inr (4, [.int ((0 : Int32)), .long ((0 : Int64))])), (q_8, .inr (4, [.int ((0 : Int32)), .long ((0 : Int64))]))] H := hP
  have hD : va_D A [(x, .inr (5, [.int (0), .ref q_0, .int (0), .int (0), .int (0)])), (q_0, .inl (G.2.1 3, 6, .inr (.inr (.inr (.inr (va_up (va_up (va_up (fun _ => none) 0 (some q_2)) 1 (some q_5)) 2 (some q_8))))))), (q_2, .inr (4, [.int ((0 : Int32)), .long ((0 : Int64))])), (q_5, .inr (4, [.int ((0 : Int32)), .long ((0 : Int64))])), (q_8, .inr (4, [.int ((0 : Int32)), .long ((0 : Int64))]))] := hD
  refine lv_iinc (v := (3 : Int32)) (lv' := [(1, .int ((3 : Int32))), (0, .ref x)]) hx hb dc_X9_init_36 hl (k := 0) rfl (by decide) (by decide) rfl (fun ls hl => ?_)
  refine lv_goto (tgt := 15) hx hb dc_X9_init_39 (by decide) ?_
  refine lv_iload_n hx hb dc_X9_init_15 rfl (lv_at hl 0 rfl) ?_
  refine lv_bipush (v := 6) hx hb dc_X9_init_16 (by decide) ?_
  refine lv_icmp_ge (tgt := 42) hx hb dc_X9_init_18 (by decide) (fun c_10 => absurd c_10 (by decide)) (fun _ => ?_)
  refine lv_aload_n hx hb dc_X9_init_21 rfl (lv_at hl 1 rfl) ?_
  refine va_get (D := G.1) (ci := 5) (v := .ref q_0) (C := RX9) (T := TX9) (N := 5) hx hb hts ki_X9 hown hE.1 hP 0 rfl rfl 1 (by decide) (hts _ kw_6_20) (fun _ h9 => h9) rfl dc_X9_init_22 ?_
  refine lv_iload_n hx hb dc_X9_init_25 rfl (lv_at hl 0 rfl) ?_
  refine va_new (ci := 4) (fs := [.int (0), .long (0)]) (C := RX8) (T := TX8) (N := 2) hx hb hts ki_X8 tyX8 tyX8_ok hown (hts _ kw_6_3) (hts _ kw_6_5) (hts _ kw_1_9) hE.1 hP hD hS hA rfl (fun j hj => by rcases (show j = 0 ∨ j = 1 by omega) with rfl | rfl <;> rfl) (Nat.le_of_ble_eq_true rfl) (Nat.le_of_ble_eq_true rfl) dc_X9_init_26 (fun q_11 H hP hD hS => ?_)
  have hP : va_P G.1 kcl [(x, .inr (5, [.int (0), .ref q_0, .int (0), .int (0), .int (0)])), (q_0, .inl (G.2.1 3, 6, .inr (.inr (.inr (.inr (va_up (va_up (va_up (fun _ => none) 0 (some q_2)) 1 (some q_5)) 2 (some q_8))))))), (q_2, .inr (4, [.int ((0 : Int32)), .long ((0 : Int64))])), (q_5, .inr (4, [.int ((0 : Int32)), .long ((0 : Int64))])), (q_8, .inr (4, [.int ((0 : Int32)), .long ((0 : Int64))])), (q_11, .inr (4, [.int (0), .long (0)]))] H := hP
  have hD : va_D A [(x, .inr (5, [.int (0), .ref q_0, .int (0), .int (0), .int (0)])), (q_0, .inl (G.2.1 3, 6, .inr (.inr (.inr (.inr (va_up (va_up (va_up (fun _ => none) 0 (some q_2)) 1 (some q_5)) 2 (some q_8))))))), (q_2, .inr (4, [.int ((0 : Int32)), .long ((0 : Int64))])), (q_5, .inr (4, [.int ((0 : Int32)), .long ((0 : Int64))])), (q_8, .inr (4, [.int ((0 : Int32)), .long ((0 : Int64))])), (q_11, .inr (4, [.int (0), .long (0)]))] := hD
  refine W.widen (k := 5) (n := 14) (Nat.le_refl _) (Nat.le_refl _) ?_
  refine lv_dup hx hb dc_X9_init_29 rfl ?_
  refine lv_iconst (v := 0) hx hb dc_X9_init_30 (by decide) ?_
  refine lv_lconst (v := 0) hx hb dc_X9_init_31 (by decide) ?_
  refine ky_cIh (As := [.int ((0 : Int32)), .long ((0 : Int64))]) (wr := [(x, .inr (5, [.int (0), .ref q_0, .int (0), .int (0), .int (0)])), (q_0, .inl (G.2.1 3, 6, .inr (.inr (.inr (.inr (va_up (va_up (va_up (fun _ => none) 0 (some q_2)) 1 (some q_5)) 2 (some q_8))))))), (q_2, .inr (4, [.int ((0 : Int32)), .long ((0 : Int64))])), (q_5, .inr (4, [.int ((0 : Int32)), .long ((0 : Int64))])), (q_8, .inr (4, [.int ((0 : Int32)), .long ((0 : Int64))]))]) F (hE.at hfr hS) hfr (mt_X8_init l G (q_11) ((0 : Int32)) ((0 : Int64)) H.size ) kI_X9_29 ⟨⟨rfl, rfl⟩, by decide, by decide⟩ rfl hl.1 rfl (Nat.le_of_ble_eq_true rfl) ⟨Nat.le_of_ble_eq_true rfl, Nat.le_of_ble_eq_true rfl⟩ trivial hP hD hS hA [5] [0, 1, 2, 3, 4] rfl rfl (by decide) (by decide) (by decide) dc_X9_init_32 ?_
  rintro v9 u9 H locs ⟨rfl, hu9⟩ hP hD hS - hz hk9
  have hu9 := hu9.symm
  subst hu9
  have hP : va_P G.1 kcl [(x, .inr (5, [.int (0), .ref q_0, .int (0), .int (0), .int (0)])), (q_0, .inl (G.2.1 3, 6, .inr (.inr (.inr (.inr (va_up (va_up (va_up (fun _ => none) 0 (some q_2)) 1 (some q_5)) 2 (some q_8))))))), (q_2, .inr (4, [.int ((0 : Int32)), .long ((0 : Int64))])), (q_5, .inr (4, [.int ((0 : Int32)), .long ((0 : Int64))])), (q_8, .inr (4, [.int ((0 : Int32)), .long ((0 : Int64))])), (q_11, .inr (4, [.int ((0 : Int32)), .long ((0 : Int64))]))] H := hP
  have hD : va_D A [(x, .inr (5, [.int (0), .ref q_0, .int (0), .int (0), .int (0)])), (q_0, .inl (G.2.1 3, 6, .inr (.inr (.inr (.inr (va_up (va_up (va_up (fun _ => none) 0 (some q_2)) 1 (some q_5)) 2 (some q_8))))))), (q_2, .inr (4, [.int ((0 : Int32)), .long ((0 : Int64))])), (q_5, .inr (4, [.int ((0 : Int32)), .long ((0 : Int64))])), (q_8, .inr (4, [.int ((0 : Int32)), .long ((0 : Int64))])), (q_11, .inr (4, [.int ((0 : Int32)), .long ((0 : Int64))]))] := hD
  refine W.widen (k := 5) (n := 14) (Nat.le_refl _) (Nat.le_refl _) ?_
  refine ky_astI hx hb hE.1 hP hD hS 1 rfl (show ky_It G q_11 ((0 : Int32), (0 : Int64)) H from hP.sub [5] rfl) (vp_in_iff.mpr (by decide)) dc_X9_init_35 (fun H locs hP hD hS => ?_)
  have hP : va_P G.1 kcl [(x, .inr (5, [.int (0), .ref q_0, .int (0), .int (0), .int (0)])), (q_0, .inl (G.2.1 3, 6, .inr (.inr (.inr (.inr (va_up (va_up (va_up (va_up (fun _ => none) 0 (some q_2)) 1 (some q_5)) 2 (some q_8)) 3 (some q_11))))))), (q_2, .inr (4, [.int ((0 : Int32)), .long ((0 : Int64))])), (q_5, .inr (4, [.int ((0 : Int32)), .long ((0 : Int64))])), (q_8, .inr (4, [.int ((0 : Int32)), .long ((0 : Int64))])), (q_11, .inr (4, [.int ((0 : Int32)), .long ((0 : Int64))]))] H := hP
  have hD : va_D A [(x, .inr (5, [.int (0), .ref q_0, .int (0), .int (0), .int (0)])), (q_0, .inl (G.2.1 3, 6, .inr (.inr (.inr (.inr (va_up (va_up (va_up (va_up (fun _ => none) 0 (some q_2)) 1 (some q_5)) 2 (some q_8)) 3 (some q_11))))))), (q_2, .inr (4, [.int ((0 : Int32)), .long ((0 : Int64))])), (q_5, .inr (4, [.int ((0 : Int32)), .long ((0 : Int64))])), (q_8, .inr (4, [.int ((0 : Int32)), .long ((0 : Int64))])), (q_11, .inr (4, [.int ((0 : Int32)), .long ((0 : Int64))]))] := hD
  refine lv_iinc (v := (4 : Int32)) (lv' := [(1, .int ((4 : Int32))), (0, .ref x)]) hx hb dc_X9_init_36 hl (k := 0) rfl (by decide) (by decide) rfl (fun ls hl => ?_)
  refine lv_goto (tgt := 15) hx hb dc_X9_init_39 (by decide) ?_
  refine lv_iload_n hx hb dc_X9_init_15 rfl (lv_at hl 0 rfl) ?_
  refine lv_bipush (v := 6) hx hb dc_X9_init_16 (by decide) ?_
  refine lv_icmp_ge (tgt := 42) hx hb dc_X9_init_18 (by decide) (fun c_13 => absurd c_13 (by decide)) (fun _ => ?_)
  refine lv_aload_n hx hb dc_X9_init_21 rfl (lv_at hl 1 rfl) ?_
  refine va_get (D := G.1) (ci := 5) (v := .ref q_0) (C := RX9) (T := TX9) (N := 5) hx hb hts ki_X9 hown hE.1 hP 0 rfl rfl 1 (by decide) (hts _ kw_6_20) (fun _ h9 => h9) rfl dc_X9_init_22 ?_
  refine lv_iload_n hx hb dc_X9_init_25 rfl (lv_at hl 0 rfl) ?_
  refine va_new (ci := 4) (fs := [.int (0), .long (0)]) (C := RX8) (T := TX8) (N := 2) hx hb hts ki_X8 tyX8 tyX8_ok hown (hts _ kw_6_3) (hts _ kw_6_5) (hts _ kw_1_9) hE.1 hP hD hS hA rfl (fun j hj => by rcases (show j = 0 ∨ j = 1 by omega) with rfl | rfl <;> rfl) (Nat.le_of_ble_eq_true rfl) (Nat.le_of_ble_eq_true rfl) dc_X9_init_26 (fun q_14 H hP hD hS => ?_)
  have hP : va_P G.1 kcl [(x, .inr (5, [.int (0), .ref q_0, .int (0), .int (0), .int (0)])), (q_0, .inl (G.2.1 3, 6, .inr (.inr (.inr (.inr (va_up (va_up (va_up (va_up (fun _ => none) 0 (some q_2)) 1 (some q_5)) 2 (some q_8)) 3 (some q_11))))))), (q_2, .inr (4, [.int ((0 : Int32)), .long ((0 : Int64))])), (q_5, .inr (4, [.int ((0 : Int32)), .long ((0 : Int64))])), (q_8, .inr (4, [.int ((0 : Int32)), .long ((0 : Int64))])), (q_11, .inr (4, [.int ((0 : Int32)), .long ((0 : Int64))])), (q_14, .inr (4, [.int (0), .long (0)]))] H := hP
  have hD : va_D A [(x, .inr (5, [.int (0), .ref q_0, .int (0), .int (0), .int (0)])), (q_0, .inl (G.2.1 3, 6, .inr (.inr (.inr (.inr (va_up (va_up (va_up (va_up (fun _ => none) 0 (some q_2)) 1 (some q_5)) 2 (some q_8)) 3 (some q_11))))))), (q_2, .inr (4, [.int ((0 : Int32)), .long ((0 : Int64))])), (q_5, .inr (4, [.int ((0 : Int32)), .long ((0 : Int64))])), (q_8, .inr (4, [.int ((0 : Int32)), .long ((0 : Int64))])), (q_11, .inr (4, [.int ((0 : Int32)), .long ((0 : Int64))])), (q_14, .inr (4, [.int (0), .long (0)]))] := hD
  refine W.widen (k := 6) (n := 16) (Nat.le_refl _) (Nat.le_refl _) ?_
  refine lv_dup hx hb dc_X9_init_29 rfl ?_
  refine lv_iconst (v := 0) hx hb dc_X9_init_30 (by decide) ?_
  refine lv_lconst (v := 0) hx hb dc_X9_init_31 (by decide) ?_
  refine ky_cIh (As := [.int ((0 : Int32)), .long ((0 : Int64))]) (wr := [(x, .inr (5, [.int (0), .ref q_0, .int (0), .int (0), .int (0)])), (q_0, .inl (G.2.1 3, 6, .inr (.inr (.inr (.inr (va_up (va_up (va_up (va_up (fun _ => none) 0 (some q_2)) 1 (some q_5)) 2 (some q_8)) 3 (some q_11))))))), (q_2, .inr (4, [.int ((0 : Int32)), .long ((0 : Int64))])), (q_5, .inr (4, [.int ((0 : Int32)), .long ((0 : Int64))])), (q_8, .inr (4, [.int ((0 : Int32)), .long ((0 : Int64))])), (q_11, .inr (4, [.int ((0 : Int32)), .long ((0 : Int64))]))]) F (hE.at hfr hS) hfr (mt_X8_init l G (q_14) ((0 : Int32)) ((0 : Int64)) H.size ) kI_X9_29 ⟨⟨rfl, rfl⟩, by decide, by decide⟩ rfl hl.1 rfl (Nat.le_of_ble_eq_true rfl) ⟨Nat.le_of_ble_eq_true rfl, Nat.le_of_ble_eq_true rfl⟩ trivial hP hD hS hA [6] [0, 1, 2, 3, 4, 5] rfl rfl (by decide) (by decide) (by decide) dc_X9_init_32 ?_
  rintro v9 u9 H locs ⟨rfl, hu9⟩ hP hD hS - hz hk9
  have hu9 := hu9.symm
  subst hu9
  have hP : va_P G.1 kcl [(x, .inr (5, [.int (0), .ref q_0, .int (0), .int (0), .int (0)])), (q_0, .inl (G.2.1 3, 6, .inr (.inr (.inr (.inr (va_up (va_up (va_up (va_up (fun _ => none) 0 (some q_2)) 1 (some q_5)) 2 (some q_8)) 3 (some q_11))))))), (q_2, .inr (4, [.int ((0 : Int32)), .long ((0 : Int64))])), (q_5, .inr (4, [.int ((0 : Int32)), .long ((0 : Int64))])), (q_8, .inr (4, [.int ((0 : Int32)), .long ((0 : Int64))])), (q_11, .inr (4, [.int ((0 : Int32)), .long ((0 : Int64))])), (q_14, .inr (4, [.int ((0 : Int32)), .long ((0 : Int64))]))] H := hP
  have hD : va_D A [(x, .inr (5, [.int (0), .ref q_0, .int (0), .int (0), .int (0)])), (q_0, .inl (G.2.1 3, 6, .inr (.inr (.inr (.inr (va_up (va_up (va_up (va_up (fun _ => none) 0 (some q_2)) 1 (some q_5)) 2 (some q_8)) 3 (some q_11))))))), (q_2, .inr (4, [.int ((0 : Int32)), .long ((0 : Int64))])), (q_5, .inr (4, [.int ((0 : Int32)), .long ((0 : Int64))])), (q_8, .inr (4, [.int ((0 : Int32)), .long ((0 : Int64))])), (q_11, .inr (4, [.int ((0 : Int32)), .long ((0 : Int64))])), (q_14, .inr (4, [.int ((0 : Int32)), .long ((0 : Int64))]))] := hD
  refine W.widen (k := 6) (n := 16) (Nat.le_refl _) (Nat.le_refl _) ?_
  refine ky_astI hx hb hE.1 hP hD hS 1 rfl (show ky_It G q_14 ((0 : Int32), (0 : Int64)) H from hP.sub [6] rfl) (vp_in_iff.mpr (by decide)) dc_X9_init_35 (fun H locs hP hD hS => ?_)
  have hP : va_P G.1 kcl [(x, .inr (5, [.int (0), .ref q_0, .int (0), .int (0), .int (0)])), (q_0, .inl (G.2.1 3, 6, .inr (.inr (.inr (.inr (va_up (va_up (va_up (va_up (va_up (fun _ => none) 0 (some q_2)) 1 (some q_5)) 2 (some q_8)) 3 (some q_11)) 4 (some q_14))))))), (q_2, .inr (4, [.int ((0 : Int32)), .long ((0 : Int64))])), (q_5, .inr (4, [.int ((0 : Int32)), .long ((0 : Int64))])), (q_8, .inr (4, [.int ((0 : Int32)), .long ((0 : Int64))])), (q_11, .inr (4, [.int ((0 : Int32)), .long ((0 : Int64))])), (q_14, .inr (4, [.int ((0 : Int32)), .long ((0 : Int64))]))] H := hP
  have hD : va_D A [(x, .inr (5, [.int (0), .ref q_0, .int (0), .int (0), .int (0)])), (q_0, .inl (G.2.1 3, 6, .inr (.inr (.inr (.inr (va_up (va_up (va_up (va_up (va_up (fun _ => none) 0 (some q_2)) 1 (some q_5)) 2 (some q_8)) 3 (some q_11)) 4 (some q_14))))))), (q_2, .inr (4, [.int ((0 : Int32)), .long ((0 : Int64))])), (q_5, .inr (4, [.int ((0 : Int32)), .long ((0 : Int64))])), (q_8, .inr (4, [.int ((0 : Int32)), .long ((0 : Int64))])), (q_11, .inr (4, [.int ((0 : Int32)), .long ((0 : Int64))])), (q_14, .inr (4, [.int ((0 : Int32)), .long ((0 : Int64))]))] := hD
  refine lv_iinc (v := (5 : Int32)) (lv' := [(1, .int ((5 : Int32))), (0, .ref x)]) hx hb dc_X9_init_36 hl (k := 0) rfl (by decide) (by decide) rfl (fun ls hl => ?_)
  refine lv_goto (tgt := 15) hx hb dc_X9_init_39 (by decide) ?_
  refine lv_iload_n hx hb dc_X9_init_15 rfl (lv_at hl 0 rfl) ?_
  refine lv_bipush (v := 6) hx hb dc_X9_init_16 (by decide) ?_
  refine lv_icmp_ge (tgt := 42) hx hb dc_X9_init_18 (by decide) (fun c_16 => absurd c_16 (by decide)) (fun _ => ?_)
  refine lv_aload_n hx hb dc_X9_init_21 rfl (lv_at hl 1 rfl) ?_
  refine va_get (D := G.1) (ci := 5) (v := .ref q_0) (C := RX9) (T := TX9) (N := 5) hx hb hts ki_X9 hown hE.1 hP 0 rfl rfl 1 (by decide) (hts _ kw_6_20) (fun _ h9 => h9) rfl dc_X9_init_22 ?_
  refine lv_iload_n hx hb dc_X9_init_25 rfl (lv_at hl 0 rfl) ?_
  refine va_new (ci := 4) (fs := [.int (0), .long (0)]) (C := RX8) (T := TX8) (N := 2) hx hb hts ki_X8 tyX8 tyX8_ok hown (hts _ kw_6_3) (hts _ kw_6_5) (hts _ kw_1_9) hE.1 hP hD hS hA rfl (fun j hj => by rcases (show j = 0 ∨ j = 1 by omega) with rfl | rfl <;> rfl) (Nat.le_of_ble_eq_true rfl) (Nat.le_of_ble_eq_true rfl) dc_X9_init_26 (fun q_17 H hP hD hS => ?_)
  have hP : va_P G.1 kcl [(x, .inr (5, [.int (0), .ref q_0, .int (0), .int (0), .int (0)])), (q_0, .inl (G.2.1 3, 6, .inr (.inr (.inr (.inr (va_up (va_up (va_up (va_up (va_up (fun _ => none) 0 (some q_2)) 1 (some q_5)) 2 (some q_8)) 3 (some q_11)) 4 (some q_14))))))), (q_2, .inr (4, [.int ((0 : Int32)), .long ((0 : Int64))])), (q_5, .inr (4, [.int ((0 : Int32)), .long ((0 : Int64))])), (q_8, .inr (4, [.int ((0 : Int32)), .long ((0 : Int64))])), (q_11, .inr (4, [.int ((0 : Int32)), .long ((0 : Int64))])), (q_14, .inr (4, [.int ((0 : Int32)), .long ((0 : Int64))])), (q_17, .inr (4, [.int (0), .long (0)]))] H := hP
  have hD : va_D A [(x, .inr (5, [.int (0), .ref q_0, .int (0), .int (0), .int (0)])), (q_0, .inl (G.2.1 3, 6, .inr (.inr (.inr (.inr (va_up (va_up (va_up (va_up (va_up (fun _ => none) 0 (some q_2)) 1 (some q_5)) 2 (some q_8)) 3 (some q_11)) 4 (some q_14))))))), (q_2, .inr (4, [.int ((0 : Int32)), .long ((0 : Int64))])), (q_5, .inr (4, [.int ((0 : Int32)), .long ((0 : Int64))])), (q_8, .inr (4, [.int ((0 : Int32)), .long ((0 : Int64))])), (q_11, .inr (4, [.int ((0 : Int32)), .long ((0 : Int64))])), (q_14, .inr (4, [.int ((0 : Int32)), .long ((0 : Int64))])), (q_17, .inr (4, [.int (0), .long (0)]))] := hD
  refine W.widen (k := 7) (n := 18) (Nat.le_refl _) (Nat.le_refl _) ?_
  refine lv_dup hx hb dc_X9_init_29 rfl ?_
  refine lv_iconst (v := 0) hx hb dc_X9_init_30 (by decide) ?_
  refine lv_lconst (v := 0) hx hb dc_X9_init_31 (by decide) ?_
  refine ky_cIh (As := [.int ((0 : Int32)), .long ((0 : Int64))]) (wr := [(x, .inr (5, [.int (0), .ref q_0, .int (0), .int (0), .int (0)])), (q_0, .inl (G.2.1 3, 6, .inr (.inr (.inr (.inr (va_up (va_up (va_up (va_up (va_up (fun _ => none) 0 (some q_2)) 1 (some q_5)) 2 (some q_8)) 3 (some q_11)) 4 (some q_14))))))), (q_2, .inr (4, [.int ((0 : Int32)), .long ((0 : Int64))])), (q_5, .inr (4, [.int ((0 : Int32)), .long ((0 : Int64))])), (q_8, .inr (4, [.int ((0 : Int32)), .long ((0 : Int64))])), (q_11, .inr (4, [.int ((0 : Int32)), .long ((0 : Int64))])), (q_14, .inr (4, [.int ((0 : Int32)), .long ((0 : Int64))]))]) F (hE.at hfr hS) hfr (mt_X8_init l G (q_17) ((0 : Int32)) ((0 : Int64)) H.size ) kI_X9_29 ⟨⟨rfl, rfl⟩, by decide, by decide⟩ rfl hl.1 rfl (Nat.le_of_ble_eq_true rfl) ⟨Nat.le_of_ble_eq_true rfl, Nat.le_of_ble_eq_true rfl⟩ trivial hP hD hS hA [7] [0, 1, 2, 3, 4, 5, 6] rfl rfl (by decide) (by decide) (by decide) dc_X9_init_32 ?_
  rintro v9 u9 H locs ⟨rfl, hu9⟩ hP hD hS - hz hk9
  have hu9 := hu9.symm
  subst hu9
  have hP : va_P G.1 kcl [(x, .inr (5, [.int (0), .ref q_0, .int (0), .int (0), .int (0)])), (q_0, .inl (G.2.1 3, 6, .inr (.inr (.inr (.inr (va_up (va_up (va_up (va_up (va_up (fun _ => none) 0 (some q_2)) 1 (some q_5)) 2 (some q_8)) 3 (some q_11)) 4 (some q_14))))))), (q_2, .inr (4, [.int ((0 : Int32)), .long ((0 : Int64))])), (q_5, .inr (4, [.int ((0 : Int32)), .long ((0 : Int64))])), (q_8, .inr (4, [.int ((0 : Int32)), .long ((0 : Int64))])), (q_11, .inr (4, [.int ((0 : Int32)), .long ((0 : Int64))])), (q_14, .inr (4, [.int ((0 : Int32)), .long ((0 : Int64))])), (q_17, .inr (4, [.int ((0 : Int32)), .long ((0 : Int64))]))] H := hP
  have hD : va_D A [(x, .inr (5, [.int (0), .ref q_0, .int (0), .int (0), .int (0)])), (q_0, .inl (G.2.1 3, 6, .inr (.inr (.inr (.inr (va_up (va_up (va_up (va_up (va_up (fun _ => none) 0 (some q_2)) 1 (some q_5)) 2 (some q_8)) 3 (some q_11)) 4 (some q_14))))))), (q_2, .inr (4, [.int ((0 : Int32)), .long ((0 : Int64))])), (q_5, .inr (4, [.int ((0 : Int32)), .long ((0 : Int64))])), (q_8, .inr (4, [.int ((0 : Int32)), .long ((0 : Int64))])), (q_11, .inr (4, [.int ((0 : Int32)), .long ((0 : Int64))])), (q_14, .inr (4, [.int ((0 : Int32)), .long ((0 : Int64))])), (q_17, .inr (4, [.int ((0 : Int32)), .long ((0 : Int64))]))] := hD
  refine W.widen (k := 7) (n := 18) (Nat.le_refl _) (Nat.le_refl _) ?_
  refine ky_astI hx hb hE.1 hP hD hS 1 rfl (show ky_It G q_17 ((0 : Int32), (0 : Int64)) H from hP.sub [7] rfl) (vp_in_iff.mpr (by decide)) dc_X9_init_35 (fun H locs hP hD hS => ?_)
  have hP : va_P G.1 kcl [(x, .inr (5, [.int (0), .ref q_0, .int (0), .int (0), .int (0)])), (q_0, .inl (G.2.1 3, 6, .inr (.inr (.inr (.inr (va_up (va_up (va_up (va_up (va_up (va_up (fun _ => none) 0 (some q_2)) 1 (some q_5)) 2 (some q_8)) 3 (some q_11)) 4 (some q_14)) 5 (some q_17))))))), (q_2, .inr (4, [.int ((0 : Int32)), .long ((0 : Int64))])), (q_5, .inr (4, [.int ((0 : Int32)), .long ((0 : Int64))])), (q_8, .inr (4, [.int ((0 : Int32)), .long ((0 : Int64))])), (q_11, .inr (4, [.int ((0 : Int32)), .long ((0 : Int64))])), (q_14, .inr (4, [.int ((0 : Int32)), .long ((0 : Int64))])), (q_17, .inr (4, [.int ((0 : Int32)), .long ((0 : Int64))]))] H := hP
  have hD : va_D A [(x, .inr (5, [.int (0), .ref q_0, .int (0), .int (0), .int (0)])), (q_0, .inl (G.2.1 3, 6, .inr (.inr (.inr (.inr (va_up (va_up (va_up (va_up (va_up (va_up (fun _ => none) 0 (some q_2)) 1 (some q_5)) 2 (some q_8)) 3 (some q_11)) 4 (some q_14)) 5 (some q_17))))))), (q_2, .inr (4, [.int ((0 : Int32)), .long ((0 : Int64))])), (q_5, .inr (4, [.int ((0 : Int32)), .long ((0 : Int64))])), (q_8, .inr (4, [.int ((0 : Int32)), .long ((0 : Int64))])), (q_11, .inr (4, [.int ((0 : Int32)), .long ((0 : Int64))])), (q_14, .inr (4, [.int ((0 : Int32)), .long ((0 : Int64))])), (q_17, .inr (4, [.int ((0 : Int32)), .long ((0 : Int64))]))] := hD
  refine lv_iinc (v := (6 : Int32)) (lv' := [(1, .int ((6 : Int32))), (0, .ref x)]) hx hb dc_X9_init_36 hl (k := 0) rfl (by decide) (by decide) rfl (fun ls hl => ?_)
  refine lv_goto (tgt := 15) hx hb dc_X9_init_39 (by decide) ?_
  refine lv_iload_n hx hb dc_X9_init_15 rfl (lv_at hl 0 rfl) ?_
  refine lv_bipush (v := 6) hx hb dc_X9_init_16 (by decide) ?_
  refine lv_icmp_ge (tgt := 42) hx hb dc_X9_init_18 (by decide) (fun _ => ?_) (fun c_19 => absurd c_19 (by decide))
  have hIT : ky_IT G x q_0 N (va_up (va_up (va_up (va_up (va_up (va_up (fun _ => none) 0 (some q_2)) 1 (some q_5)) 2 (some q_8)) 3 (some q_11)) 4 (some q_14)) 5 (some q_17)) (fun _ => (0, 0)) H := ⟨fun r hr9 => Nat.lt_of_lt_of_le (hN r hr9) (hsz ▸ hS.1), fun j9 hj9 => match j9, hj9 with | 0, _ => ⟨q_2, rfl, hP.sub [2] rfl, ky_ok.ini hAe (fun r hr9 => Nat.lt_of_lt_of_eq (hN r hr9) hsz.symm) hD 0 1 2 rfl rfl rfl (by decide) (by decide)⟩ | 1, _ => ⟨q_5, rfl, hP.sub [3] rfl, ky_ok.ini hAe (fun r hr9 => Nat.lt_of_lt_of_eq (hN r hr9) hsz.symm) hD 0 1 3 rfl rfl rfl (by decide) (by decide)⟩ | 2, _ => ⟨q_8, rfl, hP.sub [4] rfl, ky_ok.ini hAe (fun r hr9 => Nat.lt_of_lt_of_eq (hN r hr9) hsz.symm) hD 0 1 4 rfl rfl rfl (by decide) (by decide)⟩ | 3, _ => ⟨q_11, rfl, hP.sub [5] rfl, ky_ok.ini hAe (fun r hr9 => Nat.lt_of_lt_of_eq (hN r hr9) hsz.symm) hD 0 1 5 rfl rfl rfl (by decide) (by decide)⟩ | 4, _ => ⟨q_14, rfl, hP.sub [6] rfl, ky_ok.ini hAe (fun r hr9 => Nat.lt_of_lt_of_eq (hN r hr9) hsz.symm) hD 0 1 6 rfl rfl rfl (by decide) (by decide)⟩ | 5, _ => ⟨q_17, rfl, hP.sub [7] rfl, ky_ok.ini hAe (fun r hr9 => Nat.lt_of_lt_of_eq (hN r hr9) hsz.symm) hD 0 1 7 rfl rfl rfl (by decide) (by decide)⟩ | k9 + 6, h9 => absurd h9 (by omega)⟩
  have hP9 := hP.sub (ws' := [(x, .inr (5, [.int (0), .ref q_0, .int (0), .int (0), .int (0)])), (q_0, .inl (G.2.1 3, 6, .inr (.inr (.inr (.inr (va_up (va_up (va_up (va_up (va_up (va_up (fun _ => none) 0 (some q_2)) 1 (some q_5)) 2 (some q_8)) 3 (some q_11)) 4 (some q_14)) 5 (some q_17)))))))]) [0, 1] rfl
  have hD9 := hD.sub (ws' := [(x, .inr (5, [.int (0), .ref q_0, .int (0), .int (0), .int (0)])), (q_0, .inl (G.2.1 3, 6, .inr (.inr (.inr (.inr (va_up (va_up (va_up (va_up (va_up (va_up (fun _ => none) 0 (some q_2)) 1 (some q_5)) 2 (some q_8)) 3 (some q_11)) 4 (some q_14)) 5 (some q_17)))))))]) [0, 1] (by decide) rfl
  refine W.widen (k := 7) (n := 18) (Nat.le_of_ble_eq_true rfl) (Nat.le_of_ble_eq_true rfl) ?_
  exact W.vret hx hb hr (fun t ht hW => ⟨⟨_, (q_0, va_up (va_up (va_up (va_up (va_up (va_up (fun _ => none) 0 (some q_2)) 1 (some q_5)) 2 (some q_8)) 3 (some q_11)) 4 (some q_14)) 5 (some q_17)), rfl, rfl, by rw [ht]; exact hP9, hD9, by rw [ht]; exact hIT⟩, hS.F ht⟩) hS.2.2 dc_X9_init_42
end
section
/-! methods with handlers that let nothing through -/
theorem ky_startH {S : Type} {l : Launch} {y : MethodName} {cc : ByteArray} {maxL : Nat} {ret : Option FieldType} {hh : List (Nat × Nat × Nat × Nat)} {rm : Room} {As : List Value} {G : ky_G} {wc : va_W} {sz : Nat} {EX : Heap → Prop} {mc ms : Nat} {post : Option Value → S → Prop} {w1 : S → va_W} {EX1 : S → Heap → Prop}
    (hy : plainName y.cls = true) (hlen : (lg_sl As).length ≤ maxL)
    (body : ∀ (p : Program) (e : Env) (s : State) (m : MethodId) (below : List Frame) (meth : Method) (c : Code), ky_F p s m meth c y.cls cc maxL ret As.toArray → c.exceptionTable.toList = tableOf hh → ky_E G s → ∀ A : Nat → Prop, A = va_A wc s.heap.size → s.heap.size = sz → (∀ q, s.heap.size ≤ q → A q) → (∀ q, A q → ky_fr G q) →
      va_P G.1 kcl wc s.heap → va_D A wc → va_S A s.heap s.heap [] → EX s.heap → ∀ ls : Array Slot, lv_has ls maxL (lv_args 0 As) →
      W p l e rm s m As.toArray below meth c s.heap [] 0 0 (MQ below (ky_Q G A post w1 EX1) As.toArray s mc ms A) (F0 m 0 ls [])) :
    Met l y (.codeWith y cc maxL ret hh :: ky_B) rm (ky_P G As wc sz EX) (ky_Q G (va_A wc sz) post w1 EX1) mc ms (va_A wc sz) := by
  refine MetFree.of_bodyS (code := cc) (maxLocals := maxL) (ret := ret) hy (fun args s m h hn => ?_) (fun p e s m args below meth c s₁ B hml hv _ => ?_)
  · obtain ⟨m9, meth, c, hn9, h1, h2, h3, h4, -, h5, h6, -⟩ := Cond.codeWith_spec (atoms_spec (ws := .codeWith y cc maxL ret hh :: ky_B) h _ List.mem_cons_self)
    cases hn.symm.trans hn9
    exact ⟨meth, c, h1, h2, h3, h4, h5, h6⟩
  · obtain ⟨rfl, hE, hsz, hP, hD, hX⟩ := hv
    have hts := atoms_spec (ws := .codeWith y cc maxL ret hh :: ky_B) B.pre
    have F : ky_F p s m meth c y.cls cc maxL ret As.toArray := ⟨B.exec, B.bytes, hml, findClass_of_methodNamed B.named, B.returns, B.notSynchronized, fun w hw => hts w (List.mem_cons_of_mem _ hw)⟩
    have hT := vx_table (x := y) B (hts _ List.mem_cons_self)
    have hl := lv_entry As (n := maxL) hlen
    subst hsz
    have hb := body p e s m below meth c F hT hE _ rfl rfl (fun q h => Or.inr h) (fun q h => h.elim (fun ⟨k, ee, z⟩ => hD.2 k _ z) (fun z => Nat.le_trans hE.2.1 z)) hP hD.self va_S.rf hX _ hl
    have h0 : s₁.heap = s.heap := by rw [B.state]; rfl
    rw [← lg_entry_eq] at hb
    obtain ⟨t, a1, o, b1, b2, b3⟩ := hb s₁ h0 (Stand.of_body B)
    exact ⟨t, o, a1, b1, b2, ⟨b3.1, b3.2⟩⟩
def ky_wH (own : String) (index : Nat) (y : MethodName) (bytes : ByteArray) (maxL : Nat) (ret : Option FieldType) (hh : List (Nat × Nat × Nat × Nat)) (n : Nat) : Prop :=
  Cond.methodLink own index y ∈ ky_B ∧ Cond.static y ∈ ky_B ∧ Cond.initialized y.cls ∈ ky_B ∧ Cond.codeWith y bytes maxL ret hh ∈ ky_B ∧ y.cls ≠ "java/lang/invoke/MethodHandle" ∧ y.cls ≠ "java/lang/invoke/VarHandle" ∧ (parseMethodDescriptor y.desc).map (fun d => d.parameters.length) = some n
theorem ky_wH.good {own : String} {index : Nat} {y : MethodName} {bytes : ByteArray} {maxL : Nat} {ret : Option FieldType} {hh : List (Nat × Nat × Nat × Nat)} {n : Nat} (h : ky_wH own index y bytes maxL ret hh n) : GoodIn ky_B (va_wsS own index y (.codeWith y bytes maxL ret hh :: ky_B)) := by
  obtain ⟨h1, h2, h3, h4, -⟩ := h
  refine ky_in (fun w hw => ?_)
  simp only [va_wsS, List.mem_append, List.mem_cons, List.not_mem_nil, or_false] at hw
  rcases hw with (rfl | rfl | rfl) | rfl | hw
  · exact h1
  · exact h2
  · exact h3
  · exact h4
  · exact hw
section KYH
variable {p : Program} {l : Launch} {e : Env} {R : Room} {s : State} {m : MethodId} {args : Array Value} {below : List Frame} {meth : Method} {c : Code} {H : Heap} {locs : List Loc} {cells slots : Nat} {Q : State → Prop}
variable {cc : ByteArray} {own : String} {nL : Nat} {ret9 : Option FieldType} {pc : Nat} {ls : Array Slot} {rest st : List Value} {mc ms : Nat} {A : Nat → Prop} {G : ky_G}
variable {y : MethodName} {bytes : ByteArray} {maxL n index : Nat} {ret : Option FieldType} {rm : Room} {As : List Value} {hh : List (Nat × Nat × Nat × Nat)}
theorem ky_cSH {S : Type} {EX : Heap → Prop} {post : Option Value → S → Prop} {w1 : S → va_W} {EX1 : S → Heap → Prop} {ws wc wr : va_W} (F : ky_F p s m meth c own cc nL ret9 args) (hEc : ∀ U : State, U.heap = H → s.WarmedH U.vm → ky_E G U) (hfr : ∀ q, A q → ky_fr G q)
    (hM : Met l y (.codeWith y bytes maxL ret hh :: ky_B) rm (ky_P G As wc H.size EX) (ky_Q G (va_A wc H.size) post w1 EX1) mc ms (va_A wc H.size)) (w : ky_wH own index y bytes maxL ret hh n)
    (hR : (rm.cells = mc ∧ rm.slots = ms) ∧ rm.frames + 1 ≤ R.frames ∧ 8 + (maxL + 11) + rm.locals ≤ R.locals) (hn : As.length = n) (hl : ls.size = nL) (hst : st = As.reverse ++ rest) (hcat : (rest.map fun v => v.category).sum ≤ 8) (hf : cells + mc ≤ R.cells ∧ slots + ms ≤ R.slots)
    (hEX : EX H) (hP : va_P G.1 kcl ws H) (hD : va_D A ws) (hS : va_S A s.heap H locs) (hA : ∀ q, s.heap.size ≤ q → A q)
    (isC isR : List Nat) (hC : isC.map (fun i => ws[i]?) = wc.map some) (hRr : isR.map (fun i => ws[i]?) = wr.map some) (hnC : va_nd isC = true) (hnR : va_nd isR = true) (hdis : ∀ i ∈ isR, i ∉ isC)
    (hdg : decode cc pc = .ok (.invokestatic index, 3))
    (kk : ∀ (v : Option Value) (u : S) (H1 : Heap) (locs1 : List Loc), post v u → va_P G.1 kcl (wr ++ w1 u) H1 → va_D A (wr ++ w1 u) → va_S A s.heap H1 locs1 → EX1 u H1 → H.size ≤ H1.size → (∀ q : Nat, q < H.size → ¬ va_A wc H.size q → H1[q]? = H[q]?) →
      W p l e R s m args below meth c H1 locs1 (cells + mc) (slots + ms) Q (F0 m (pc + 3) ls (v.toList ++ rest))) : W p l e R s m args below meth c H locs cells slots Q (F0 m pc ls st) := by
  obtain ⟨hx, hb, hml, hown, -, -, hts⟩ := F
  have hPc : va_P G.1 kcl wc H := hP.by (fun k => (isC[k]?).getD 0) (fun k q hk => ky_pick hC hk)
  have hDc : va_D (ky_fr G) wc := (hD.sub isC hnC hC).weaken (fun _ _ _ z => hfr _ z)
  have hr := vx_runSW (l := l) (e := e) (R := R) (below := below) (meth := meth) (H := H) (locs := locs) (cells := cells) (slots := slots) (mc := mc) (ms := ms) (g := F0 m pc ls st) (rest := rest) (As := As) ⟨hx, hb, hml, hown, hts⟩ hM
    (vx_cwSW (rm := rm) (ws' := ky_B) n hts w.good rfl hR.1.1 hR.1.2 ⟨w.2.2.2.2.1, w.2.2.2.2.2.1, w.2.2.2.2.2.2⟩ hR.2) ⟨ky_P.blind, fun U hU hW => ⟨rfl, hEc U hU hW, by rw [hU], by rw [hU]; exact hPc, hDc, by rw [hU]; exact hEX⟩⟩ rfl hn hl hst (lv_room hcat) hdg hf
  exact ky_run hr hP hD hS hA isC isR hC hRr hnR hdis kk
/-- the first handler takes it -/
theorem ky_cat1 {hh9 : List (Nat × Nat × Nat × Nat)} {h1 : Nat × Nat × Nat × Nat} {name E : String} {ce : Cell} {q : Addr} (hE : ky_E G s) (hown : s.vm.findClass own = some m.cls) (hT : c.exceptionTable.toList = tableOf (h1 :: hh9)) (hcov : covers ⟨h1.1, h1.2.1, h1.2.2.1, h1.2.2.2⟩ pc = true) (h0 : h1.2.2.2 ≠ 0)
    (hlink : (Cond.classLink own h1.2.2.2 name).before args s = true) (hcast : Cond.castable name name ∈ lw_tbl) (he : E = name) (hcell : H[q]? = some ce) (hv : ce.vm = .none) (hcl : s.vm.findClass E = some ce.cls)
    (kk : W p l e R s m args below meth c H locs cells slots Q (F0 m h1.2.2.1 ls [.ref q])) : vx_W p l e R s m args below meth c H locs cells slots Q (F0 m pc ls rest) q := by
  subst he
  exact vx_catch hown [] _ (tableOf hh9) hT (fun z hz => absurd hz List.not_mem_nil) hcov h0 hlink (hE.cast hcast args) hcell hv hcl kk
/-- the second handler takes it, and the first is for another class -/
theorem ky_cat2 {hh9 : List (Nat × Nat × Nat × Nat)} {h1 h2 : Nat × Nat × Nat × Nat} {nm1 name E : String} {ce : Cell} {q : Addr} (hE : ky_E G s) (hown : s.vm.findClass own = some m.cls) (hT : c.exceptionTable.toList = tableOf (h1 :: h2 :: hh9)) (hcov : covers ⟨h2.1, h2.2.1, h2.2.2.1, h2.2.2.2⟩ pc = true) (h01 : h1.2.2.2 ≠ 0) (h0 : h2.2.2.2 ≠ 0)
    (hl1 : (Cond.classLink own h1.2.2.2 nm1).before args s = true) (hno : Cond.not (Cond.castable name nm1) ∈ flatC (Jvm.Cond.and given_1 narrow_1)) (hlink : (Cond.classLink own h2.2.2.2 name).before args s = true) (hcast : Cond.castable name name ∈ lw_tbl) (he : E = name) (hcell : H[q]? = some ce) (hv : ce.vm = .none) (hcl : s.vm.findClass E = some ce.cls)
    (kk : W p l e R s m args below meth c H locs cells slots Q (F0 m h2.2.2.1 ls [.ref q])) : vx_W p l e R s m args below meth c H locs cells slots Q (F0 m pc ls rest) q := by
  subst he
  exact vx_catch hown [_] _ (tableOf hh9) hT (fun z hz => by rw [List.mem_singleton] at hz; subst hz; exact Or.inr ⟨h01, nm1, hl1, hE.nocast hno⟩) hcov h0 hlink (hE.cast hcast args) hcell hv hcl kk
end KYH
/-! which exceptions a method knows -/
def ky_only {α : Type} (P : String → Prop) (x : Sum String α) : Prop := ∀ E, x = .inl E → P E
theorem ky_only.ok {α : Type} {P : String → Prop} {a : α} : ky_only P (.inr a : Sum String α) := fun _ h => by cases h
theorem ky_only.no {α : Type} {P : String → Prop} {E : String} (h : P E) : ky_only P (.inl E : Sum String α) := fun _ q => by cases q; exact h
theorem ky_only.bi {α β γ : Type} {P : String → Prop} {x : Sum String (α × β)} {k : α → β → Sum String γ} (h : ky_only P x) (hk : ∀ a b, ky_only P (k a b)) : ky_only P (ky_b x k) := by
  cases x with
  | inl e => exact ky_only.no (h e rfl)
  | inr a => exact hk a.1 a.2
theorem ky_only.if {α : Type} {P : String → Prop} {b : Prop} [Decidable b] {x y : Sum String α} (hx : ky_only P x) (hy : ky_only P y) : ky_only P (if b then x else y) := by
  by_cases h : b
  · rw [if_pos h]; exact hx
  · rw [if_neg h]; exact hy
def ky_io (E : String) : Prop := E = "java/lang/IndexOutOfBoundsException"
def ky_ia (E : String) : Prop := E = "java/lang/IndexOutOfBoundsException" ∨ E = "java/lang/IllegalArgumentException"
def ky_ig (E : String) : Prop := E = "java/lang/IllegalArgumentException"
/-! what a wrapper of the law answers, and leaves -/
def ky_lw (x : Sum String (Int32 × ky_BS)) (u : ky_BS) (nn : Int64) : Int32 × ky_BS × Int64 := match x with
  | .inl E => (if E = "java/lang/IndexOutOfBoundsException" then 1 else 2, u, nn)
  | .inr a => (0, a.2, a.1.toInt64)
def ky_lwb (x : Sum String (Int32 × ky_BS)) (u : ky_BS) (nn : Int64) : Int32 × ky_BS × Int64 := match x with
  | .inl E => (if E = "java/lang/IndexOutOfBoundsException" then 1 else 2, u, nn)
  | .inr a => (0, a.2, if a.1 = 0 then 0 else 1)
abbrev ky_WO (o : Nat) (nn : Int64) (sv : Value) : va_W := [(o, .inr (3, [.long nn, sv]))]
theorem ky_lw_ok {r : Int32} {w u : ky_BS} {nn : Int64} : ky_lw (.inr (r, w)) u nn = (0, w, r.toInt64) := rfl
theorem ky_lwb_ok {r : Int32} {w u : ky_BS} {nn : Int64} : ky_lwb (.inr (r, w)) u nn = (0, w, if r = 0 then 0 else 1) := rfl
theorem ky_lw_io {u : ky_BS} {nn : Int64} : ky_lw (.inl "java/lang/IndexOutOfBoundsException") u nn = (1, u, nn) := by
  show ((if ("java/lang/IndexOutOfBoundsException" : String) = "java/lang/IndexOutOfBoundsException" then (1 : Int32) else 2), u, nn) = _
  rw [if_pos rfl]
theorem ky_lwb_io {u : ky_BS} {nn : Int64} : ky_lwb (.inl "java/lang/IndexOutOfBoundsException") u nn = (1, u, nn) := by
  show ((if ("java/lang/IndexOutOfBoundsException" : String) = "java/lang/IndexOutOfBoundsException" then (1 : Int32) else 2), u, nn) = _
  rw [if_pos rfl]
theorem ky_lw_ia {u : ky_BS} {nn : Int64} : ky_lw (.inl "java/lang/IllegalArgumentException") u nn = (2, u, nn) := by
  show ((if ("java/lang/IllegalArgumentException" : String) = "java/lang/IndexOutOfBoundsException" then (1 : Int32) else 2), u, nn) = _
  rw [if_neg (by decide)]
theorem ky_lwb_ia {u : ky_BS} {nn : Int64} : ky_lwb (.inl "java/lang/IllegalArgumentException") u nn = (2, u, nn) := by
  show ((if ("java/lang/IllegalArgumentException" : String) = "java/lang/IndexOutOfBoundsException" then (1 : Int32) else 2), u, nn) = _
  rw [if_neg (by decide)]
theorem ky_only.mono {α : Type} {P P2 : String → Prop} {x : Sum String α} (h : ky_only P x) (hp : ∀ E, P E → P2 E) : ky_only P2 x := fun E q => hp E (h E q)
theorem on_cell (a : Int32) : ky_only ky_io (fn_X6_requireCell a) := by
  unfold fn_X6_requireCell
  exact ky_only.if (ky_only.no rfl) (ky_only.if ky_only.ok (ky_only.no rfl))
theorem on_cellA (a : Int32) : ky_only ky_ia (fn_X6_requireCell a) := (on_cell a).mono (fun _ h => Or.inl h)
theorem on_both (a b : Int32) : ky_only ky_io (fn_X6_requireBoth a b) := by
  unfold fn_X6_requireBoth
  exact (on_cell a).bi (fun _ _ => (on_cell b).bi (fun _ _ => ky_only.ok))
theorem on_bothA (a b : Int32) : ky_only ky_ia (fn_X6_requireBoth a b) := (on_both a b).mono (fun _ h => Or.inl h)
theorem on_within (a b c : Int32) : ky_only ky_ig (fn_X6_requireWithin a b c) := by
  unfold fn_X6_requireWithin
  exact ky_only.if (ky_only.no rfl) (ky_only.if ky_only.ok (ky_only.no rfl))
theorem on_withinA (a b c : Int32) : ky_only ky_ia (fn_X6_requireWithin a b c) := (on_within a b c).mono (fun _ h => Or.inr h)
theorem ky_noia : Cond.not (Cond.castable "java/lang/IllegalArgumentException" "java/lang/IndexOutOfBoundsException") ∈ flatC (Jvm.Cond.and given_1 narrow_1) := by decide +kernel
def ky_lw1 (x : Sum String (Int32 × ky_BS)) (u : ky_BS) (nn : Int64) : Int32 × ky_BS × Int64 := match x with
  | .inl _ => (1, u, nn)
  | .inr a => (0, a.2, a.1.toInt64)
theorem ky_lw1_ok {r : Int32} {w u : ky_BS} {nn : Int64} : ky_lw1 (.inr (r, w)) u nn = (0, w, r.toInt64) := rfl
theorem ky_lw1_ia {u : ky_BS} {nn : Int64} {E : String} : ky_lw1 (.inl E) u nn = (1, u, nn) := rfl
end
section
theorem on_X6_zero (a1 : Int32) (a2 : Int32) (u : ky_BS) : ky_only ky_io (fn_X6_zero a1 a2 u) := by
  unfold fn_X6_zero
  repeat' first | with_reducible exact ky_only.ok | with_reducible exact on_cell _ | with_reducible exact on_both _ _ | with_reducible refine ky_only.bi ?_ (fun _ _ => ?_) | with_reducible refine ky_only.if ?_ ?_ | (with_reducible refine ky_only.no ?_; exact rfl)
theorem on_X6_endless (a1 : Int32) (a2 : Int32) (u : ky_BS) : ky_only ky_io (fn_X6_endless a1 a2 u) := by
  unfold fn_X6_endless
  repeat' first | with_reducible exact ky_only.ok | with_reducible exact on_cell _ | with_reducible exact on_both _ _ | with_reducible refine ky_only.bi ?_ (fun _ _ => ?_) | with_reducible refine ky_only.if ?_ ?_ | (with_reducible refine ky_only.no ?_; exact rfl)
theorem on_X6_quarters (a1 : Int32) (a2 : Int32) (u : ky_BS) : ky_only ky_io (fn_X6_quarters a1 a2 u) := by
  unfold fn_X6_quarters
  repeat' first | with_reducible exact ky_only.ok | with_reducible exact on_cell _ | with_reducible exact on_both _ _ | with_reducible refine ky_only.bi ?_ (fun _ _ => ?_) | with_reducible refine ky_only.if ?_ ?_ | (with_reducible refine ky_only.no ?_; exact rfl)
theorem on_X6_power (a1 : Int32) (a2 : Int32) (a3 : Int32) (u : ky_BS) : ky_only ky_ia (fn_X6_power a1 a2 a3 u) := by
  unfold fn_X6_power
  repeat' first | with_reducible exact ky_only.ok | with_reducible exact on_cellA _ | with_reducible exact on_bothA _ _ | with_reducible exact on_withinA _ _ _ | with_reducible refine ky_only.bi ?_ (fun _ _ => ?_) | with_reducible refine ky_only.if ?_ ?_ | (with_reducible refine ky_only.no ?_; exact Or.inl rfl)
theorem on_X6_bits (a1 : Int32) (a2 : Int32) (a3 : Int32) (u : ky_BS) : ky_only ky_io (fn_X6_bits a1 a2 a3 u) := by
  unfold fn_X6_bits
  repeat' first | with_reducible exact ky_only.ok | with_reducible exact on_cell _ | with_reducible exact on_both _ _ | with_reducible refine ky_only.bi ?_ (fun _ _ => ?_) | with_reducible refine ky_only.if ?_ ?_ | (with_reducible refine ky_only.no ?_; exact rfl)
theorem on_X6_sample (a1 : Int32) (a2 : Int32) (a3 : Int32) (u : ky_BS) : ky_only ky_ia (fn_X6_sample a1 a2 a3 u) := by
  unfold fn_X6_sample
  repeat' first | with_reducible exact ky_only.ok | with_reducible exact on_cellA _ | with_reducible exact on_bothA _ _ | with_reducible exact on_withinA _ _ _ | with_reducible refine ky_only.bi ?_ (fun _ _ => ?_) | with_reducible refine ky_only.if ?_ ?_ | (with_reducible refine ky_only.no ?_; exact Or.inl rfl)
theorem on_X6_copy (a1 : Int32) (a2 : Int32) (u : ky_BS) : ky_only ky_io (fn_X6_copy a1 a2 u) := by
  unfold fn_X6_copy
  repeat' first | with_reducible exact ky_only.ok | with_reducible exact on_cell _ | with_reducible exact on_both _ _ | with_reducible refine ky_only.bi ?_ (fun _ _ => ?_) | with_reducible refine ky_only.if ?_ ?_ | (with_reducible refine ky_only.no ?_; exact rfl)
theorem on_X6_swap (a1 : Int32) (a2 : Int32) (u : ky_BS) : ky_only ky_io (fn_X6_swap a1 a2 u) := by
  unfold fn_X6_swap
  repeat' first | with_reducible exact ky_only.ok | with_reducible exact on_cell _ | with_reducible exact on_both _ _ | with_reducible refine ky_only.bi ?_ (fun _ _ => ?_) | with_reducible refine ky_only.if ?_ ?_ | (with_reducible refine ky_only.no ?_; exact rfl)
theorem on_X6_floor (a1 : Int32) (a2 : Int32) (u : ky_BS) : ky_only ky_io (fn_X6_floor a1 a2 u) := by
  unfold fn_X6_floor
  repeat' first | with_reducible exact ky_only.ok | with_reducible exact on_cell _ | with_reducible exact on_both _ _ | with_reducible refine ky_only.bi ?_ (fun _ _ => ?_) | with_reducible refine ky_only.if ?_ ?_ | (with_reducible refine ky_only.no ?_; exact rfl)
theorem on_X6_ceil (a1 : Int32) (a2 : Int32) (u : ky_BS) : ky_only ky_io (fn_X6_ceil a1 a2 u) := by
  unfold fn_X6_ceil
  repeat' first | with_reducible exact ky_only.ok | with_reducible exact on_cell _ | with_reducible exact on_both _ _ | with_reducible refine ky_only.bi ?_ (fun _ _ => ?_) | with_reducible refine ky_only.if ?_ ?_ | (with_reducible refine ky_only.no ?_; exact rfl)
theorem on_X6_rint (a1 : Int32) (a2 : Int32) (u : ky_BS) : ky_only ky_io (fn_X6_rint a1 a2 u) := by
  unfold fn_X6_rint
  repeat' first | with_reducible exact ky_only.ok | with_reducible exact on_cell _ | with_reducible exact on_both _ _ | with_reducible refine ky_only.bi ?_ (fun _ _ => ?_) | with_reducible refine ky_only.if ?_ ?_ | (with_reducible refine ky_only.no ?_; exact rfl)
theorem on_X6_size (a1 : Int32) (a2 : Int32) (u : ky_BS) : ky_only ky_io (fn_X6_size a1 a2 u) := by
  unfold fn_X6_size
  repeat' first | with_reducible exact ky_only.ok | with_reducible exact on_cell _ | with_reducible exact on_both _ _ | with_reducible refine ky_only.bi ?_ (fun _ _ => ?_) | with_reducible refine ky_only.if ?_ ?_ | (with_reducible refine ky_only.no ?_; exact rfl)
theorem on_X6_turn (a1 : Int32) (a2 : Int32) (u : ky_BS) : ky_only ky_io (fn_X6_turn a1 a2 u) := by
  unfold fn_X6_turn
  repeat' first | with_reducible exact ky_only.ok | with_reducible exact on_cell _ | with_reducible exact on_both _ _ | with_reducible refine ky_only.bi ?_ (fun _ _ => ?_) | with_reducible refine ky_only.if ?_ ?_ | (with_reducible refine ky_only.no ?_; exact rfl)
theorem on_X6_sign (a1 : Int32) (a2 : Int32) (u : ky_BS) : ky_only ky_io (fn_X6_sign a1 a2 u) := by
  unfold fn_X6_sign
  repeat' first | with_reducible exact ky_only.ok | with_reducible exact on_cell _ | with_reducible exact on_both _ _ | with_reducible refine ky_only.bi ?_ (fun _ _ => ?_) | with_reducible refine ky_only.if ?_ ?_ | (with_reducible refine ky_only.no ?_; exact rfl)
theorem on_X6_up (a1 : Int32) (a2 : Int32) (u : ky_BS) : ky_only ky_io (fn_X6_up a1 a2 u) := by
  unfold fn_X6_up
  repeat' first | with_reducible exact ky_only.ok | with_reducible exact on_cell _ | with_reducible exact on_both _ _ | with_reducible refine ky_only.bi ?_ (fun _ _ => ?_) | with_reducible refine ky_only.if ?_ ?_ | (with_reducible refine ky_only.no ?_; exact rfl)
theorem on_X6_down (a1 : Int32) (a2 : Int32) (u : ky_BS) : ky_only ky_io (fn_X6_down a1 a2 u) := by
  unfold fn_X6_down
  repeat' first | with_reducible exact ky_only.ok | with_reducible exact on_cell _ | with_reducible exact on_both _ _ | with_reducible refine ky_only.bi ?_ (fun _ _ => ?_) | with_reducible refine ky_only.if ?_ ?_ | (with_reducible refine ky_only.no ?_; exact rfl)
theorem on_X6_step (a1 : Int32) (a2 : Int32) (u : ky_BS) : ky_only ky_io (fn_X6_step a1 a2 u) := by
  unfold fn_X6_step
  repeat' first | with_reducible exact ky_only.ok | with_reducible exact on_cell _ | with_reducible exact on_both _ _ | with_reducible refine ky_only.bi ?_ (fun _ _ => ?_) | with_reducible refine ky_only.if ?_ ?_ | (with_reducible refine ky_only.no ?_; exact rfl)
theorem on_X6_unit (a1 : Int32) (a2 : Int32) (u : ky_BS) : ky_only ky_io (fn_X6_unit a1 a2 u) := by
  unfold fn_X6_unit
  repeat' first | with_reducible exact ky_only.ok | with_reducible exact on_cell _ | with_reducible exact on_both _ _ | with_reducible refine ky_only.bi ?_ (fun _ _ => ?_) | with_reducible refine ky_only.if ?_ ?_ | (with_reducible refine ky_only.no ?_; exact rfl)
theorem on_X6_times (a1 : Int32) (a2 : Int32) (a3 : Int32) (u : ky_BS) : ky_only ky_io (fn_X6_times a1 a2 a3 u) := by
  unfold fn_X6_times
  repeat' first | with_reducible exact ky_only.ok | with_reducible exact on_cell _ | with_reducible exact on_both _ _ | with_reducible refine ky_only.bi ?_ (fun _ _ => ?_) | with_reducible refine ky_only.if ?_ ?_ | (with_reducible refine ky_only.no ?_; exact rfl)
theorem on_X6_side (a1 : Int32) (a2 : Int32) (a3 : Int32) (u : ky_BS) : ky_only ky_io (fn_X6_side a1 a2 a3 u) := by
  unfold fn_X6_side
  repeat' first | with_reducible exact ky_only.ok | with_reducible exact on_cell _ | with_reducible exact on_both _ _ | with_reducible refine ky_only.bi ?_ (fun _ _ => ?_) | with_reducible refine ky_only.if ?_ ?_ | (with_reducible refine ky_only.no ?_; exact rfl)
theorem on_X6_max (a1 : Int32) (a2 : Int32) (a3 : Int32) (u : ky_BS) : ky_only ky_io (fn_X6_max a1 a2 a3 u) := by
  unfold fn_X6_max
  repeat' first | with_reducible exact ky_only.ok | with_reducible exact on_cell _ | with_reducible exact on_both _ _ | with_reducible refine ky_only.bi ?_ (fun _ _ => ?_) | with_reducible refine ky_only.if ?_ ?_ | (with_reducible refine ky_only.no ?_; exact rfl)
theorem on_X6_min (a1 : Int32) (a2 : Int32) (a3 : Int32) (u : ky_BS) : ky_only ky_io (fn_X6_min a1 a2 a3 u) := by
  unfold fn_X6_min
  repeat' first | with_reducible exact ky_only.ok | with_reducible exact on_cell _ | with_reducible exact on_both _ _ | with_reducible refine ky_only.bi ?_ (fun _ _ => ?_) | with_reducible refine ky_only.if ?_ ?_ | (with_reducible refine ky_only.no ?_; exact rfl)
theorem on_X6_walk (a1 : Int32) (a2 : Int32) (u : ky_BS) : ky_only ky_ia (fn_X6_walk a1 a2 u) := by
  unfold fn_X6_walk
  repeat' first | with_reducible exact ky_only.ok | with_reducible exact on_cellA _ | with_reducible exact on_bothA _ _ | with_reducible exact on_withinA _ _ _ | with_reducible refine ky_only.bi ?_ (fun _ _ => ?_) | with_reducible refine ky_only.if ?_ ?_ | (with_reducible refine ky_only.no ?_; exact Or.inl rfl)
theorem on_X6_kind (a1 : Int32) (u : ky_BS) : ky_only ky_io (fn_X6_kind a1 u) := by
  unfold fn_X6_kind
  repeat' first | with_reducible exact ky_only.ok | with_reducible exact on_cell _ | with_reducible exact on_both _ _ | with_reducible refine ky_only.bi ?_ (fun _ _ => ?_) | with_reducible refine ky_only.if ?_ ?_ | (with_reducible refine ky_only.no ?_; exact rfl)
theorem on_X6_digits (a1 : Int32) (a2 : Int32) (u : ky_BS) : ky_only ky_ia (fn_X6_digits a1 a2 u) := by
  unfold fn_X6_digits
  repeat' first | with_reducible exact ky_only.ok | with_reducible exact on_cellA _ | with_reducible exact on_bothA _ _ | with_reducible exact on_withinA _ _ _ | with_reducible refine ky_only.bi ?_ (fun _ _ => ?_) | with_reducible refine ky_only.if ?_ ?_ | (with_reducible refine ky_only.no ?_; exact Or.inl rfl)
theorem on_X6_exponent (a1 : Int32) (u : ky_BS) : ky_only ky_io (fn_X6_exponent a1 u) := by
  unfold fn_X6_exponent
  repeat' first | with_reducible exact ky_only.ok | with_reducible exact on_cell _ | with_reducible exact on_both _ _ | with_reducible refine ky_only.bi ?_ (fun _ _ => ?_) | with_reducible refine ky_only.if ?_ ?_ | (with_reducible refine ky_only.no ?_; exact rfl)
theorem on_X6_round (a1 : Int32) (a2 : Int32) (u : ky_BS) : ky_only ky_io (fn_X6_round a1 a2 u) := by
  unfold fn_X6_round
  repeat' first | with_reducible exact ky_only.ok | with_reducible exact on_cell _ | with_reducible exact on_both _ _ | with_reducible refine ky_only.bi ?_ (fun _ _ => ?_) | with_reducible refine ky_only.if ?_ ?_ | (with_reducible refine ky_only.no ?_; exact rfl)
theorem on_X6_shortened (a1 : Int32) (u : ky_BS) : ky_only ky_io (fn_X6_shortened a1 u) := by
  unfold fn_X6_shortened
  repeat' first | with_reducible exact ky_only.ok | with_reducible exact on_cell _ | with_reducible exact on_both _ _ | with_reducible refine ky_only.bi ?_ (fun _ _ => ?_) | with_reducible refine ky_only.if ?_ ?_ | (with_reducible refine ky_only.no ?_; exact rfl)
theorem on_X6_signed (a1 : Int32) (u : ky_BS) : ky_only ky_io (fn_X6_signed a1 u) := by
  unfold fn_X6_signed
  repeat' first | with_reducible exact ky_only.ok | with_reducible exact on_cell _ | with_reducible exact on_both _ _ | with_reducible refine ky_only.bi ?_ (fun _ _ => ?_) | with_reducible refine ky_only.if ?_ ?_ | (with_reducible refine ky_only.no ?_; exact rfl)
theorem on_X6_isWhole (a1 : Int32) (u : ky_BS) : ky_only ky_io (fn_X6_isWhole a1 u) := by
  unfold fn_X6_isWhole
  repeat' first | with_reducible exact ky_only.ok | with_reducible exact on_cell _ | with_reducible exact on_both _ _ | with_reducible refine ky_only.bi ?_ (fun _ _ => ?_) | with_reducible refine ky_only.if ?_ ?_ | (with_reducible refine ky_only.no ?_; exact rfl)
theorem on_X6_compare (a1 : Int32) (a2 : Int32) (u : ky_BS) : ky_only ky_io (fn_X6_compare a1 a2 u) := by
  unfold fn_X6_compare
  repeat' first | with_reducible exact ky_only.ok | with_reducible exact on_cell _ | with_reducible exact on_both _ _ | with_reducible refine ky_only.bi ?_ (fun _ _ => ?_) | with_reducible refine ky_only.if ?_ ?_ | (with_reducible refine ky_only.no ?_; exact rfl)
theorem on_X6_areLike (a1 : Int32) (a2 : Int32) (u : ky_BS) : ky_only ky_io (fn_X6_areLike a1 a2 u) := by
  unfold fn_X6_areLike
  repeat' first | with_reducible exact ky_only.ok | with_reducible exact on_cell _ | with_reducible exact on_both _ _ | with_reducible refine ky_only.bi ?_ (fun _ _ => ?_) | with_reducible refine ky_only.if ?_ ?_ | (with_reducible refine ky_only.no ?_; exact rfl)
theorem on_X6_isBelow (a1 : Int32) (a2 : Int32) (u : ky_BS) : ky_only ky_io (fn_X6_isBelow a1 a2 u) := by
  unfold fn_X6_isBelow
  repeat' first | with_reducible exact ky_only.ok | with_reducible exact on_cell _ | with_reducible exact on_both _ _ | with_reducible refine ky_only.bi ?_ (fun _ _ => ?_) | with_reducible refine ky_only.if ?_ ?_ | (with_reducible refine ky_only.no ?_; exact rfl)
theorem on_X6_areSame (a1 : Int32) (a2 : Int32) (u : ky_BS) : ky_only ky_io (fn_X6_areSame a1 a2 u) := by
  unfold fn_X6_areSame
  repeat' first | with_reducible exact ky_only.ok | with_reducible exact on_cell _ | with_reducible exact on_both _ _ | with_reducible refine ky_only.bi ?_ (fun _ _ => ?_) | with_reducible refine ky_only.if ?_ ?_ | (with_reducible refine ky_only.no ?_; exact rfl)
theorem on_X6_isNext (a1 : Int32) (a2 : Int32) (u : ky_BS) : ky_only ky_io (fn_X6_isNext a1 a2 u) := by
  unfold fn_X6_isNext
  repeat' first | with_reducible exact ky_only.ok | with_reducible exact on_cell _ | with_reducible exact on_both _ _ | with_reducible refine ky_only.bi ?_ (fun _ _ => ?_) | with_reducible refine ky_only.if ?_ ?_ | (with_reducible refine ky_only.no ?_; exact rfl)
theorem on_X6_apart (a1 : Int32) (a2 : Int32) (u : ky_BS) : ky_only ky_io (fn_X6_apart a1 a2 u) := by
  unfold fn_X6_apart
  repeat' first | with_reducible exact ky_only.ok | with_reducible exact on_cell _ | with_reducible exact on_both _ _ | with_reducible refine ky_only.bi ?_ (fun _ _ => ?_) | with_reducible refine ky_only.if ?_ ?_ | (with_reducible refine ky_only.no ?_; exact rfl)
theorem on_X6_place (a1 : Int32) (u : ky_BS) : ky_only ky_io (fn_X6_place a1 u) := by
  unfold fn_X6_place
  repeat' first | with_reducible exact ky_only.ok | with_reducible exact on_cell _ | with_reducible exact on_both _ _ | with_reducible refine ky_only.bi ?_ (fun _ _ => ?_) | with_reducible refine ky_only.if ?_ ?_ | (with_reducible refine ky_only.no ?_; exact rfl)
theorem on_X6_isBack (a1 : Int32) (a2 : Int32) (u : ky_BS) : ky_only ky_ia (fn_X6_isBack a1 a2 u) := by
  unfold fn_X6_isBack
  repeat' first | with_reducible exact ky_only.ok | with_reducible exact on_cellA _ | with_reducible exact on_bothA _ _ | with_reducible exact on_withinA _ _ _ | with_reducible refine ky_only.bi ?_ (fun _ _ => ?_) | with_reducible refine ky_only.if ?_ ?_ | (with_reducible refine ky_only.no ?_; exact Or.inl rfl)
theorem on_X6_house (a1 : Int32) (u : ky_BS) : ky_only ky_ig (fn_X6_house a1 u) := by
  unfold fn_X6_house
  with_reducible exact ky_only.bi (on_within _ _ _) (fun _ _ => ky_only.ok)
end
