set_option linter.constructorNameAsVariable false in
set_option maxHeartbeats 4000000 in
set_option maxRecDepth 100000 in
theorem mt_X9_initW (l : Launch) (G : ky_G) (x : Nat) (sz : Nat)  : Met l my_X9_init (.code my_X9_init prog_10_method_6_code 2 none :: ky_B) { frames := 2, cells := 7, slots := 18, locals := 35 } (ky_P G [.ref x] ([(x, .inr (5, [.int 0, .null, .int 0, .int 0, .int 0]))]) sz (fun _ => True)) (ky_Q (S := Nat × Nat × Nat × Nat × Nat × Nat × Nat) G (va_A ([(x, .inr (5, [.int 0, .null, .int 0, .int 0, .int 0]))]) sz) (fun v _ => v = none) (fun u => ky_WM G x u.1 (0, 0, 0, 0, fun _ => (0, 0)) (va_up (va_up (va_up (va_up (va_up (va_up (fun _ => none) 0 (some u.2.1)) 1 (some u.2.2.1)) 2 (some u.2.2.2.1)) 3 (some u.2.2.2.2.1)) 4 (some u.2.2.2.2.2.1)) 5 (some u.2.2.2.2.2.2)) ++ [(u.2.1, .inr (4, [.int 0, .long 0])), (u.2.2.1, .inr (4, [.int 0, .long 0])), (u.2.2.2.1, .inr (4, [.int 0, .long 0])), (u.2.2.2.2.1, .inr (4, [.int 0, .long 0])), (u.2.2.2.2.2.1, .inr (4, [.int 0, .long 0])), (u.2.2.2.2.2.2, .inr (4, [.int 0, .long 0]))]) (fun _ _ => True)) (7) (18) (va_A ([(x, .inr (5, [.int 0, .null, .int 0, .int 0, .int 0]))]) sz) := by
  refine ky_startI (by decide) (Nat.le_of_ble_eq_true rfl) (fun p e s m below meth c hin F hE A hAe hsz hA hfr hP hD hS hX ls hl => ?_)
  obtain ⟨hx, hb, hml, hown, hr, hlocks, hts⟩ := id F
  have hl : lv_has ls 2 [(0, .ref x)] := hl
  have hP : va_P G.1 kcl [(x, .inr (5, [.int (0), .null, .int (0), .int (0), .int (0)]))] s.heap := hP
  have hD : va_D A [(x, .inr (5, [.int (0), .null, .int (0), .int (0), .int (0)]))] := hD
  refine lv_aload_n hx hb dc_X9_init_0 rfl (lv_at hl 0 rfl) ?_
  refine W.objInit hx hb hown (hts _ kw_6_2) (hts _ kw_1_36) (hts _ kw_1_37) rfl (by rw [hml]; exact hl.1) rfl dc_X9_init_1 (Nat.le_of_ble_eq_true rfl) (Nat.le_of_ble_eq_true rfl) ?_
  refine W.eq (g2 := F0 m 4 ls []) rfl ?_
  refine lv_aload_n hx hb dc_X9_init_4 rfl (lv_at hl 0 rfl) ?_
  refine lv_bipush (v := 6) hx hb dc_X9_init_5 (by decide) ?_
  refine va_newq (C := "ExactdoublesModel$Its") (N' := 6) hx hb hown (hts _ kw_6_3) (hE.ovI (kc_6 _ (List.mem_of_getElem? (i := 4) rfl))) hE.1 hP hD hS hA (by decide) (by decide) (by decide) (Nat.le_of_ble_eq_true rfl) (Nat.le_of_ble_eq_true rfl) dc_X9_init_7 (fun q_0 cA_0 H hK_0 hP hD hS => ?_)
  have hc_0 : cA_0 = G.2.1 3 := ky_nA 3 hE.1 hK_0 rfl
  subst hc_0
  have hP : va_P G.1 kcl [(x, .inr (5, [.int (0), .null, .int (0), .int (0), .int (0)])), (q_0, .inl (G.2.1 3, 6, .inr (.inr (.inr (.inr (fun _ => none))))))] H := hP
  have hD : va_D A [(x, .inr (5, [.int (0), .null, .int (0), .int (0), .int (0)])), (q_0, .inl (G.2.1 3, 6, .inr (.inr (.inr (.inr (fun _ => none))))))] := hD
  refine W.widen (k := 1) (n := 6) (by first | exact Nat.le_refl _ | omega) (by first | exact Nat.le_refl _ | omega) ?_
  refine va_putF (D := G.1) (ci := 5) (v := .ref q_0) (ty := .array (.object "ExactdoublesModel$Its")) (C := RX9) (T := TX9) (N := 5) hx hb hts ki_X9 tyX9 tyX9_ok nmX9 hown hE.1 hP hD hS 0 rfl rfl 1 (by decide) (hts _ kw_6_20) (fun _ h9 => h9) rfl hin rfl (by decide +kernel) rfl rfl (Nat.le_of_ble_eq_true rfl) dc_X9_init_10 (fun H locs hP hD hS => ?_)
  have hP : va_P G.1 kcl [(x, .inr (5, [.int (0), .ref q_0, .int (0), .int (0), .int (0)])), (q_0, .inl (G.2.1 3, 6, .inr (.inr (.inr (.inr (fun _ => none))))))] H := hP
  have hD : va_D A [(x, .inr (5, [.int (0), .ref q_0, .int (0), .int (0), .int (0)])), (q_0, .inl (G.2.1 3, 6, .inr (.inr (.inr (.inr (fun _ => none))))))] := hD
  refine lv_iconst (v := 0) hx hb dc_X9_init_13 (by decide) ?_
  refine lv_istore_n (lv' := [(1, .int ((0 : Int32))), (0, .ref x)]) hx hb dc_X9_init_14 rfl hl (by decide) rfl (fun ls hl => ?_)
  refine lv_iload_n hx hb dc_X9_init_15 rfl (lv_at hl 0 rfl) ?_
  refine lv_bipush (v := 6) hx hb dc_X9_init_16 (by decide) ?_
  refine lv_icmp_ge (tgt := 42) hx hb dc_X9_init_18 (by decide) (fun c_1 => absurd c_1 (by decide)) (fun _ => ?_)
  refine lv_aload_n hx hb dc_X9_init_21 rfl (lv_at hl 1 rfl) ?_
  refine va_get (D := G.1) (ci := 5) (v := .ref q_0) (C := RX9) (T := TX9) (N := 5) hx hb hts ki_X9 hown hE.1 hP 0 rfl rfl 1 (by decide) (hts _ kw_6_20) (fun _ h9 => h9) rfl dc_X9_init_22 ?_
  refine lv_iload_n hx hb dc_X9_init_25 rfl (lv_at hl 0 rfl) ?_
  refine va_new (ci := 4) (fs := [.int (0), .long (0)]) (C := RX8) (T := TX8) (N := 2) hx hb hts ki_X8 tyX8 tyX8_ok hown (hts _ kw_6_3) (hts _ kw_6_5) (hts _ kw_1_9) hE.1 hP hD hS hA rfl (fun j hj => by rcases (show j = 0 ∨ j = 1 by omega) with rfl | rfl <;> rfl) (Nat.le_of_ble_eq_true rfl) (Nat.le_of_ble_eq_true rfl) dc_X9_init_26 (fun q_2 H hP hD hS => ?_)
  have hP : va_P G.1 kcl [(x, .inr (5, [.int (0), .ref q_0, .int (0), .int (0), .int (0)])), (q_0, .inl (G.2.1 3, 6, .inr (.inr (.inr (.inr (fun _ => none)))))), (q_2, .inr (4, [.int (0), .long (0)]))] H := hP
  have hD : va_D A [(x, .inr (5, [.int (0), .ref q_0, .int (0), .int (0), .int (0)])), (q_0, .inl (G.2.1 3, 6, .inr (.inr (.inr (.inr (fun _ => none)))))), (q_2, .inr (4, [.int (0), .long (0)]))] := hD
  refine W.widen (k := 2) (n := 8) (Nat.le_refl _) (Nat.le_refl _) ?_
  refine lv_dup hx hb dc_X9_init_29 rfl ?_
  refine lv_iconst (v := 0) hx hb dc_X9_init_30 (by decide) ?_
  refine lv_lconst (v := 0) hx hb dc_X9_init_31 (by decide) ?_
  refine ky_cIh (As := [.int ((0 : Int32)), .long ((0 : Int64))]) (wr := [(x, .inr (5, [.int (0), .ref q_0, .int (0), .int (0), .int (0)])), (q_0, .inl (G.2.1 3, 6, .inr (.inr (.inr (.inr (fun _ => none))))))]) F (hE.at hfr hS) hfr (mt_X8_init l G (q_2) ((0 : Int32)) ((0 : Int64)) H.size ) kI_X9_29 ⟨⟨rfl, rfl⟩, by decide, by decide⟩ rfl hl.1 rfl (Nat.le_of_ble_eq_true rfl) ⟨Nat.le_of_ble_eq_true rfl, Nat.le_of_ble_eq_true rfl⟩ trivial hP hD hS hA [2] [0, 1] rfl rfl (by decide) (by decide) (by decide) dc_X9_init_32 ?_
  rintro v9 u9 H locs ⟨rfl, hu9⟩ hP hD hS - hz hk9
  have hu9 := hu9.symm
  subst hu9
  have hP : va_P G.1 kcl [(x, .inr (5, [.int (0), .ref q_0, .int (0), .int (0), .int (0)])), (q_0, .inl (G.2.1 3, 6, .inr (.inr (.inr (.inr (fun _ => none)))))), (q_2, .inr (4, [.int ((0 : Int32)), .long ((0 : Int64))]))] H := hP
  have hD : va_D A [(x, .inr (5, [.int (0), .ref q_0, .int (0), .int (0), .int (0)])), (q_0, .inl (G.2.1 3, 6, .inr (.inr (.inr (.inr (fun _ => none)))))), (q_2, .inr (4, [.int ((0 : Int32)), .long ((0 : Int64))]))] := hD
  refine W.widen (k := 2) (n := 8) (Nat.le_refl _) (Nat.le_refl _) ?_
  refine ky_astI hx hb hE.1 hP hD hS 1 rfl (show ky_It G q_2 ((0 : Int32), (0 : Int64)) H from hP.sub [2] rfl) (vp_in_iff.mpr (by decide)) dc_X9_init_35 (fun H locs hP hD hS => ?_)
  have hP : va_P G.1 kcl [(x, .inr (5, [.int (0), .ref q_0, .int (0), .int (0), .int (0)])), (q_0, .inl (G.2.1 3, 6, .inr (.inr (.inr (.inr (va_up (fun _ => none) 0 (some q_2))))))), (q_2, .inr (4, [.int ((0 : Int32)), .long ((0 : Int64))]))] H := hP
  have hD : va_D A [(x, .inr (5, [.int (0), .ref q_0, .int (0), .int (0), .int (0)])), (q_0, .inl (G.2.1 3, 6, .inr (.inr (.inr (.inr (va_up (fun _ => none) 0 (some q_2))))))), (q_2, .inr (4, [.int ((0 : Int32)), .long ((0 : Int64))]))] := hD
  refine lv_iinc (v := (1 : Int32)) (lv' := [(1, .int ((1 : Int32))), (0, .ref x)]) hx hb dc_X9_init_36 hl (k := 0) rfl (by decide) (by decide) rfl (fun ls hl => ?_)
  refine lv_goto (tgt := 15) hx hb dc_X9_init_39 (by decide) ?_
  refine lv_iload_n hx hb dc_X9_init_15 rfl (lv_at hl 0 rfl) ?_
  refine lv_bipush (v := 6) hx hb dc_X9_init_16 (by decide) ?_
  refine lv_icmp_ge (tgt := 42) hx hb dc_X9_init_18 (by decide) (fun c_4 => absurd c_4 (by decide)) (fun _ => ?_)
  refine lv_aload_n hx hb dc_X9_init_21 rfl (lv_at hl 1 rfl) ?_
  refine va_get (D := G.1) (ci := 5) (v := .ref q_0) (C := RX9) (T := TX9) (N := 5) hx hb hts ki_X9 hown hE.1 hP 0 rfl rfl 1 (by decide) (hts _ kw_6_20) (fun _ h9 => h9) rfl dc_X9_init_22 ?_
  refine lv_iload_n hx hb dc_X9_init_25 rfl (lv_at hl 0 rfl) ?_
  refine va_new (ci := 4) (fs := [.int (0), .long (0)]) (C := RX8) (T := TX8) (N := 2) hx hb hts ki_X8 tyX8 tyX8_ok hown (hts _ kw_6_3) (hts _ kw_6_5) (hts _ kw_1_9) hE.1 hP hD hS hA rfl (fun j hj => by rcases (show j = 0 ∨ j = 1 by omega) with rfl | rfl <;> rfl) (Nat.le_of_ble_eq_true rfl) (Nat.le_of_ble_eq_true rfl) dc_X9_init_26 (fun q_5 H hP hD hS => ?_)
  have hP : va_P G.1 kcl [(x, .inr (5, [.int (0), .ref q_0, .int (0), .int (0), .int (0)])), (q_0, .inl (G.2.1 3, 6, .inr (.inr (.inr (.inr (va_up (fun _ => none) 0 (some q_2))))))), (q_2, .inr (4, [.int ((0 : Int32)), .long ((0 : Int64))])), (q_5, .inr (4, [.int (0), .long (0)]))] H := hP
  have hD : va_D A [(x, .inr (5, [.int (0), .ref q_0, .int (0), .int (0), .int (0)])), (q_0, .inl (G.2.1 3, 6, .inr (.inr (.inr (.inr (va_up (fun _ => none) 0 (some q_2))))))), (q_2, .inr (4, [.int ((0 : Int32)), .long ((0 : Int64))])), (q_5, .inr (4, [.int (0), .long (0)]))] := hD
  refine W.widen (k := 3) (n := 10) (Nat.le_refl _) (Nat.le_refl _) ?_
  refine lv_dup hx hb dc_X9_init_29 rfl ?_
  refine lv_iconst (v := 0) hx hb dc_X9_init_30 (by decide) ?_
  refine lv_lconst (v := 0) hx hb dc_X9_init_31 (by decide) ?_
  refine ky_cIh (As := [.int ((0 : Int32)), .long ((0 : Int64))]) (wr := [(x, .inr (5, [.int (0), .ref q_0, .int (0), .int (0), .int (0)])), (q_0, .inl (G.2.1 3, 6, .inr (.inr (.inr (.inr (va_up (fun _ => none) 0 (some q_2))))))), (q_2, .inr (4, [.int ((0 : Int32)), .long ((0 : Int64))]))]) F (hE.at hfr hS) hfr (mt_X8_init l G (q_5) ((0 : Int32)) ((0 : Int64)) H.size ) kI_X9_29 ⟨⟨rfl, rfl⟩, by decide, by decide⟩ rfl hl.1 rfl (Nat.le_of_ble_eq_true rfl) ⟨Nat.le_of_ble_eq_true rfl, Nat.le_of_ble_eq_true rfl⟩ trivial hP hD hS hA [3] [0, 1, 2] rfl rfl (by decide) (by decide) (by decide) dc_X9_init_32 ?_
  rintro v9 u9 H locs ⟨rfl, hu9⟩ hP hD hS - hz hk9
  have hu9 := hu9.symm
  subst hu9
  have hP : va_P G.1 kcl [(x, .inr (5, [.int (0), .ref q_0, .int (0), .int (0), .int (0)])), (q_0, .inl (G.2.1 3, 6, .inr (.inr (.inr (.inr (va_up (fun _ => none) 0 (some q_2))))))), (q_2, .inr (4, [.int ((0 : Int32)), .long ((0 : Int64))])), (q_5, .inr (4, [.int ((0 : Int32)), .long ((0 : Int64))]))] H := hP
  have hD : va_D A [(x, .inr (5, [.int (0), .ref q_0, .int (0), .int (0), .int (0)])), (q_0, .inl (G.2.1 3, 6, .inr (.inr (.inr (.inr (va_up (fun _ => none) 0 (some q_2))))))), (q_2, .inr (4, [.int ((0 : Int32)), .long ((0 : Int64))])), (q_5, .inr (4, [.int ((0 : Int32)), .long ((0 : Int64))]))] := hD
  refine W.widen (k := 3) (n := 10) (Nat.le_refl _) (Nat.le_refl _) ?_
  refine ky_astI hx hb hE.1 hP hD hS 1 rfl (show ky_It G q_5 ((0 : Int32), (0 : Int64)) H from hP.sub [3] rfl) (vp_in_iff.mpr (by decide)) dc_X9_init_35 (fun H locs hP hD hS => ?_)
  have hP : va_P G.1 kcl [(x, .inr (5, [.int (0), .ref q_0, .int (0), .int (0), .int (0)])), (q_0, .inl (G.2.1 3, 6, .inr (.inr (.inr (.inr (va_up (va_up (fun _ => none) 0 (some q_2)) 1 (some q_5))))))), (q_2, .inr (4, [.int ((0 : Int32)), .long ((0 : Int64))])), (q_5, .inr (4, [.int ((0 : Int32)), .long ((0 : Int64))]))] H := hP
  have hD : va_D A [(x, .inr (5, [.int (0), .ref q_0, .int (0), .int (0), .int (0)])), (q_0, .inl (G.2.1 3, 6, .inr (.inr (.inr (.inr (va_up (va_up (fun _ => none) 0 (some q_2)) 1 (some q_5))))))), (q_2, .inr (4, [.int ((0 : Int32)), .long ((0 : Int64))])), (q_5, .inr (4, [.int ((0 : Int32)), .long ((0 : Int64))]))] := hD
  refine lv_iinc (v := (2 : Int32)) (lv' := [(1, .int ((2 : Int32))), (0, .ref x)]) hx hb dc_X9_init_36 hl (k := 0) rfl (by decide) (by decide) rfl (fun ls hl => ?_)
  refine lv_goto (tgt := 15) hx hb dc_X9_init_39 (by decide) ?_
  refine lv_iload_n hx hb dc_X9_init_15 rfl (lv_at hl 0 rfl) ?_
  refine lv_bipush (v := 6) hx hb dc_X9_init_16 (by decide) ?_
  refine lv_icmp_ge (tgt := 42) hx hb dc_X9_init_18 (by decide) (fun c_7 => absurd c_7 (by decide)) (fun _ => ?_)
  refine lv_aload_n hx hb dc_X9_init_21 rfl (lv_at hl 1 rfl) ?_
  refine va_get (D := G.1) (ci := 5) (v := .ref q_0) (C := RX9) (T := TX9) (N := 5) hx hb hts ki_X9 hown hE.1 hP 0 rfl rfl 1 (by decide) (hts _ kw_6_20) (fun _ h9 => h9) rfl dc_X9_init_22 ?_
  refine lv_iload_n hx hb dc_X9_init_25 rfl (lv_at hl 0 rfl) ?_
  refine va_new (ci := 4) (fs := [.int (0), .long (0)]) (C := RX8) (T := TX8) (N := 2) hx hb hts ki_X8 tyX8 tyX8_ok hown (hts _ kw_6_3) (hts _ kw_6_5) (hts _ kw_1_9) hE.1 hP hD hS hA rfl (fun j hj => by rcases (show j = 0 ∨ j = 1 by omega) with rfl | rfl <;> rfl) (Nat.le_of_ble_eq_true rfl) (Nat.le_of_ble_eq_true rfl) dc_X9_init_26 (fun q_8 H hP hD hS => ?_)
  have hP : va_P G.1 kcl [(x, .inr (5, [.int (0), .ref q_0, .int (0), .int (0), .int (0)])), (q_0, .inl (G.2.1 3, 6, .inr (.inr (.inr (.inr (va_up (va_up (fun _ => none) 0 (some q_2)) 1 (some q_5))))))), (q_2, .inr (4, [.int ((0 : Int32)), .long ((0 : Int64))])), (q_5, .inr (4, [.int ((0 : Int32)), .long ((0 : Int64))])), (q_8, .inr (4, [.int (0), .long (0)]))] H := hP
  have hD : va_D A [(x, .inr (5, [.int (0), .ref q_0, .int (0), .int (0), .int (0)])), (q_0, .inl (G.2.1 3, 6, .inr (.inr (.inr (.inr (va_up (va_up (fun _ => none) 0 (some q_2)) 1 (some q_5))))))), (q_2, .inr (4, [.int ((0 : Int32)), .long ((0 : Int64))])), (q_5, .inr (4, [.int ((0 : Int32)), .long ((0 : Int64))])), (q_8, .inr (4, [.int (0), .long (0)]))] := hD
  refine W.widen (k := 4) (n := 12) (Nat.le_refl _) (Nat.le_refl _) ?_
  refine lv_dup hx hb dc_X9_init_29 rfl ?_
  refine lv_iconst (v := 0) hx hb dc_X9_init_30 (by decide) ?_
  refine lv_lconst (v := 0) hx hb dc_X9_init_31 (by decide) ?_
  refine ky_cIh (As := [.int ((0 : Int32)), .long ((0 : Int64))]) (wr := [(x, .inr (5, [.int (0), .ref q_0, .int (0), .int (0), .int (0)])), (q_0, .inl (G.2.1 3, 6, .inr (.inr (.inr (.inr (va_up (va_up (fun _ => none) 0 (some q_2)) 1 (some q_5))))))), (q_2, .inr (4, [.int ((0 : Int32)), .long ((0 : Int64))])), (q_5, .inr (4, [.int ((0 : Int32)), .long ((0 : Int64))]))]) F (hE.at hfr hS) hfr (mt_X8_init l G (q_8) ((0 : Int32)) ((0 : Int64)) H.size ) kI_X9_29 ⟨⟨rfl, rfl⟩, by decide, by decide⟩ rfl hl.1 rfl (Nat.le_of_ble_eq_true rfl) ⟨Nat.le_of_ble_eq_true rfl, Nat.le_of_ble_eq_true rfl⟩ trivial hP hD hS hA [4] [0, 1, 2, 3] rfl rfl (by decide) (by decide) (by decide) dc_X9_init_32 ?_
  rintro v9 u9 H locs ⟨rfl, hu9⟩ hP hD hS - hz hk9
  have hu9 := hu9.symm
  subst hu9
  have hP : va_P G.1 kcl [(x, .inr (5, [.int (0), .ref q_0, .int (0), .int (0), .int (0)])), (q_0, .inl (G.2.1 3, 6, .inr (.inr (.inr (.inr (va_up (va_up (fun _ => none) 0 (some q_2)) 1 (some q_5))))))), (q_2, .inr (4, [.int ((0 : Int32)), .long ((0 : Int64))])), (q_5, .inr (4, [.int ((0 : Int32)), .long ((0 : Int64))])), (q_8, .inr (4, [.int ((0 : Int32)), .long ((0 : Int64))]))] H := hP
  have hD : va_D A [(x, .inr (5, [.int (0), .ref q_0, .int (0), .int (0), .int (0)])), (q_0, .inl (G.2.1 3, 6, .inr (.inr (.inr (.inr (va_up (va_up (fun _ => none) 0 (some q_2)) 1 (some q_5))))))), (q_2, .inr (4, [.int ((0 : Int32)), .long ((0 : Int64))])), (q_5, .inr (4, [.int ((0 : Int32)), .long ((0 : Int64))])), (q_8, .inr (4, [.int ((0 : Int32)), .long ((0 : Int64))]))] := hD
  refine W.widen (k := 4) (n := 12) (Nat.le_refl _) (Nat.le_refl _) ?_
  refine ky_astI hx hb hE.1 hP hD hS 1 rfl (show ky_It G q_8 ((0 : Int32), (0 : Int64)) H from hP.sub [4] rfl) (vp_in_iff.mpr (by decide)) dc_X9_init_35 (fun H locs hP hD hS => ?_)
  have hP : va_P G.1 kcl [(x, .inr (5, [.int (0), .ref q_0, .int (0), .int (0), .int (0)])), (q_0, .inl (G.2.1 3, 6, .inr (.inr (.inr (.inr (va_up (va_up (va_up (fun _ => none) 0 (some q_2)) 1 (some q_5)) 2 (some q_8))))))), (q_2, .inr (4, [.int ((0 : Int32)), .long ((0 : Int64))])), (q_5, .inr (4, [.int ((0 : Int32)), .long ((0 : Int64))])), (q_8, .inr (4, [.int ((0 : Int32)), .long ((0 : Int64))]))] H := hP
  have hD : va_D A [(x, .inr (5, [.int (0), .ref q_0, .int (0), .int (0), .int (0)])), (q_0, .inl (G.2.1 3, 6, .inr (.inr (.inr (.inr (va_up (va_up (va_up (fun _ => none) 0 (some q_2)) 1 (some q_5)) 2 (some q_8))))))), (q_2, .inr (4, [.int ((0 : Int32)), .long ((0 : Int64))])), (q_5, .inr (4, [.int ((0 : Int32)), .long ((0 : Int64))])), (q_8, .inr (4, [.int ((0 : Int32)), .long ((0 : Int64))]))] := hD
  refine lv_iinc (v := (3 : Int32)) (lv' := [(1, .int ((3 : Int32))), (0, .ref x)]) hx hb dc_X9_init_36 hl (k := 0) rfl (by decide) (by decide) rfl (fun ls hl => ?_)
  refine lv_goto (tgt := 15) hx hb dc_X9_init_39 (by decide) ?_
  refine lv_iload_n hx hb dc_X9_init_15 rfl (lv_at hl 0 rfl) ?_
  refine lv_bipush (v := 6) hx hb dc_X9_init_16 (by decide) ?_
  refine lv_icmp_ge (tgt := 42) hx hb dc_X9_init_18 (by decide) (fun c_10 => absurd c_10 (by decide)) (fun _ => ?_)
  refine lv_aload_n hx hb dc_X9_init_21 rfl (lv_at hl 1 rfl) ?_
  refine va_get (D := G.1) (ci := 5) (v := .ref q_0) (C := RX9) (T := TX9) (N := 5) hx hb hts ki_X9 hown hE.1 hP 0 rfl rfl 1 (by decide) (hts _ kw_6_20) (fun _ h9 => h9) rfl dc_X9_init_22 ?_
  refine lv_iload_n hx hb dc_X9_init_25 rfl (lv_at hl 0 rfl) ?_
  refine va_new (ci := 4) (fs := [.int (0), .long (0)]) (C := RX8) (T := TX8) (N := 2) hx hb hts ki_X8 tyX8 tyX8_ok hown (hts _ kw_6_3) (hts _ kw_6_5) (hts _ kw_1_9) hE.1 hP hD hS hA rfl (fun j hj => by rcases (show j = 0 ∨ j = 1 by omega) with rfl | rfl <;> rfl) (Nat.le_of_ble_eq_true rfl) (Nat.le_of_ble_eq_true rfl) dc_X9_init_26 (fun q_11 H hP hD hS => ?_)
  have hP : va_P G.1 kcl [(x, .inr (5, [.int (0), .ref q_0, .int (0), .int (0), .int (0)])), (q_0, .inl (G.2.1 3, 6, .inr (.inr (.inr (.inr (va_up (va_up (va_up (fun _ => none) 0 (some q_2)) 1 (some q_5)) 2 (some q_8))))))), (q_2, .inr (4, [.int ((0 : Int32)), .long ((0 : Int64))])), (q_5, .inr (4, [.int ((0 : Int32)), .long ((0 : Int64))])), (q_8, .inr (4, [.int ((0 : Int32)), .long ((0 : Int64))])), (q_11, .inr (4, [.int (0), .long (0)]))] H := hP
  have hD : va_D A [(x, .inr (5, [.int (0), .ref q_0, .int (0), .int (0), .int (0)])), (q_0, .inl (G.2.1 3, 6, .inr (.inr (.inr (.inr (va_up (va_up (va_up (fun _ => none) 0 (some q_2)) 1 (some q_5)) 2 (some q_8))))))), (q_2, .inr (4, [.int ((0 : Int32)), .long ((0 : Int64))])), (q_5, .inr (4, [.int ((0 : Int32)), .long ((0 : Int64))])), (q_8, .inr (4, [.int ((0 : Int32)), .long ((0 : Int64))])), (q_11, .inr (4, [.int (0), .long (0)]))] := hD
  refine W.widen (k := 5) (n := 14) (Nat.le_refl _) (Nat.le_refl _) ?_
  refine lv_dup hx hb dc_X9_init_29 rfl ?_
  refine lv_iconst (v := 0) hx hb dc_X9_init_30 (by decide) ?_
  refine lv_lconst (v := 0) hx hb dc_X9_init_31 (by decide) ?_
  refine ky_cIh (As := [.int ((0 : Int32)), .long ((0 : Int64))]) (wr := [(x, .inr (5, [.int (0), .ref q_0, .int (0), .int (0), .int (0)])), (q_0, .inl (G.2.1 3, 6, .inr (.inr (.inr (.inr (va_up (va_up (va_up (fun _ => none) 0 (some q_2)) 1 (some q_5)) 2 (some q_8))))))), (q_2, .inr (4, [.int ((0 : Int32)), .long ((0 : Int64))])), (q_5, .inr (4, [.int ((0 : Int32)), .long ((0 : Int64))])), (q_8, .inr (4, [.int ((0 : Int32)), .long ((0 : Int64))]))]) F (hE.at hfr hS) hfr (mt_X8_init l G (q_11) ((0 : Int32)) ((0 : Int64)) H.size ) kI_X9_29 ⟨⟨rfl, rfl⟩, by decide, by decide⟩ rfl hl.1 rfl (Nat.le_of_ble_eq_true rfl) ⟨Nat.le_of_ble_eq_true rfl, Nat.le_of_ble_eq_true rfl⟩ trivial hP hD hS hA [5] [0, 1, 2, 3, 4] rfl rfl (by decide) (by decide) (by decide) dc_X9_init_32 ?_
  rintro v9 u9 H locs ⟨rfl, hu9⟩ hP hD hS - hz hk9
  have hu9 := hu9.symm
  subst hu9
  have hP : va_P G.1 kcl [(x, .inr (5, [.int (0), .ref q_0, .int (0), .int (0), .int (0)])), (q_0, .inl (G.2.1 3, 6, .inr (.inr (.inr (.inr (va_up (va_up (va_up (fun _ => none) 0 (some q_2)) 1 (some q_5)) 2 (some q_8))))))), (q_2, .inr (4, [.int ((0 : Int32)), .long ((0 : Int64))])), (q_5, .inr (4, [.int ((0 : Int32)), .long ((0 : Int64))])), (q_8, .inr (4, [.int ((0 : Int32)), .long ((0 : Int64))])), (q_11, .inr (4, [.int ((0 : Int32)), .long ((0 : Int64))]))] H := hP
  have hD : va_D A [(x, .inr (5, [.int (0), .ref q_0, .int (0), .int (0), .int (0)])), (q_0, .inl (G.2.1 3, 6, .inr (.inr (.inr (.inr (va_up (va_up (va_up (fun _ => none) 0 (some q_2)) 1 (some q_5)) 2 (some q_8))))))), (q_2, .inr (4, [.int ((0 : Int32)), .long ((0 : Int64))])), (q_5, .inr (4, [.int ((0 : Int32)), .long ((0 : Int64))])), (q_8, .inr (4, [.int ((0 : Int32)), .long ((0 : Int64))])), (q_11, .inr (4, [.int ((0 : Int32)), .long ((0 : Int64))]))] := hD
  refine W.widen (k := 5) (n := 14) (Nat.le_refl _) (Nat.le_refl _) ?_
  refine ky_astI hx hb hE.1 hP hD hS 1 rfl (show ky_It G q_11 ((0 : Int32), (0 : Int64)) H from hP.sub [5] rfl) (vp_in_iff.mpr (by decide)) dc_X9_init_35 (fun H locs hP hD hS => ?_)
  have hP : va_P G.1 kcl [(x, .inr (5, [.int (0), .ref q_0, .int (0), .int (0), .int (0)])), (q_0, .inl (G.2.1 3, 6, .inr (.inr (.inr (.inr (va_up (va_up (va_up (va_up (fun _ => none) 0 (some q_2)) 1 (some q_5)) 2 (some q_8)) 3 (some q_11))))))), (q_2, .inr (4, [.int ((0 : Int32)), .long ((0 : Int64))])), (q_5, .inr (4, [.int ((0 : Int32)), .long ((0 : Int64))])), (q_8, .inr (4, [.int ((0 : Int32)), .long ((0 : Int64))])), (q_11, .inr (4, [.int ((0 : Int32)), .long ((0 : Int64))]))] H := hP
  have hD : va_D A [(x, .inr (5, [.int (0), .ref q_0, .int (0), .int (0), .int (0)])), (q_0, .inl (G.2.1 3, 6, .inr (.inr (.inr (.inr (va_up (va_up (va_up (va_up (fun _ => none) 0 (some q_2)) 1 (some q_5)) 2 (some q_8)) 3 (some q_11))))))), (q_2, .inr (4, [.int ((0 : Int32)), .long ((0 : Int64))])), (q_5, .inr (4, [.int ((0 : Int32)), .long ((0 : Int64))])), (q_8, .inr (4, [.int ((0 : Int32)), .long ((0 : Int64))])), (q_11, .inr (4, [.int ((0 : Int32)), .long ((0 : Int64))]))] := hD
  refine lv_iinc (v := (4 : Int32)) (lv' := [(1, .int ((4 : Int32))), (0, .ref x)]) hx hb dc_X9_init_36 hl (k := 0) rfl (by decide) (by decide) rfl (fun ls hl => ?_)
  refine lv_goto (tgt := 15) hx hb dc_X9_init_39 (by decide) ?_
  refine lv_iload_n hx hb dc_X9_init_15 rfl (lv_at hl 0 rfl) ?_
  refine lv_bipush (v := 6) hx hb dc_X9_init_16 (by decide) ?_
  refine lv_icmp_ge (tgt := 42) hx hb dc_X9_init_18 (by decide) (fun c_13 => absurd c_13 (by decide)) (fun _ => ?_)
  refine lv_aload_n hx hb dc_X9_init_21 rfl (lv_at hl 1 rfl) ?_
  refine va_get (D := G.1) (ci := 5) (v := .ref q_0) (C := RX9) (T := TX9) (N := 5) hx hb hts ki_X9 hown hE.1 hP 0 rfl rfl 1 (by decide) (hts _ kw_6_20) (fun _ h9 => h9) rfl dc_X9_init_22 ?_
  refine lv_iload_n hx hb dc_X9_init_25 rfl (lv_at hl 0 rfl) ?_
  refine va_new (ci := 4) (fs := [.int (0), .long (0)]) (C := RX8) (T := TX8) (N := 2) hx hb hts ki_X8 tyX8 tyX8_ok hown (hts _ kw_6_3) (hts _ kw_6_5) (hts _ kw_1_9) hE.1 hP hD hS hA rfl (fun j hj => by rcases (show j = 0 ∨ j = 1 by omega) with rfl | rfl <;> rfl) (Nat.le_of_ble_eq_true rfl) (Nat.le_of_ble_eq_true rfl) dc_X9_init_26 (fun q_14 H hP hD hS => ?_)
  have hP : va_P G.1 kcl [(x, .inr (5, [.int (0), .ref q_0, .int (0), .int (0), .int (0)])), (q_0, .inl (G.2.1 3, 6, .inr (.inr (.inr (.inr (va_up (va_up (va_up (va_up (fun _ => none) 0 (some q_2)) 1 (some q_5)) 2 (some q_8)) 3 (some q_11))))))), (q_2, .inr (4, [.int ((0 : Int32)), .long ((0 : Int64))])), (q_5, .inr (4, [.int ((0 : Int32)), .long ((0 : Int64))])), (q_8, .inr (4, [.int ((0 : Int32)), .long ((0 : Int64))])), (q_11, .inr (4, [.int ((0 : Int32)), .long ((0 : Int64))])), (q_14, .inr (4, [.int (0), .long (0)]))] H := hP
  have hD : va_D A [(x, .inr (5, [.int (0), .ref q_0, .int (0), .int (0), .int (0)])), (q_0, .inl (G.2.1 3, 6, .inr (.inr (.inr (.inr (va_up (va_up (va_up (va_up (fun _ => none) 0 (some q_2)) 1 (some q_5)) 2 (some q_8)) 3 (some q_11))))))), (q_2, .inr (4, [.int ((0 : Int32)), .long ((0 : Int64))])), (q_5, .inr (4, [.int ((0 : Int32)), .long ((0 : Int64))])), (q_8, .inr (4, [.int ((0 : Int32)), .long ((0 : Int64))])), (q_11, .inr (4, [.int ((0 : Int32)), .long ((0 : Int64))])), (q_14, .inr (4, [.int (0), .long (0)]))] := hD
  refine W.widen (k := 6) (n := 16) (Nat.le_refl _) (Nat.le_refl _) ?_
  refine lv_dup hx hb dc_X9_init_29 rfl ?_
  refine lv_iconst (v := 0) hx hb dc_X9_init_30 (by decide) ?_
  refine lv_lconst (v := 0) hx hb dc_X9_init_31 (by decide) ?_
  refine ky_cIh (As := [.int ((0 : Int32)), .long ((0 : Int64))]) (wr := [(x, .inr (5, [.int (0), .ref q_0, .int (0), .int (0), .int (0)])), (q_0, .inl (G.2.1 3, 6, .inr (.inr (.inr (.inr (va_up (va_up (va_up (va_up (fun _ => none) 0 (some q_2)) 1 (some q_5)) 2 (some q_8)) 3 (some q_11))))))), (q_2, .inr (4, [.int ((0 : Int32)), .long ((0 : Int64))])), (q_5, .inr (4, [.int ((0 : Int32)), .long ((0 : Int64))])), (q_8, .inr (4, [.int ((0 : Int32)), .long ((0 : Int64))])), (q_11, .inr (4, [.int ((0 : Int32)), .long ((0 : Int64))]))]) F (hE.at hfr hS) hfr (mt_X8_init l G (q_14) ((0 : Int32)) ((0 : Int64)) H.size ) kI_X9_29 ⟨⟨rfl, rfl⟩, by decide, by decide⟩ rfl hl.1 rfl (Nat.le_of_ble_eq_true rfl) ⟨Nat.le_of_ble_eq_true rfl, Nat.le_of_ble_eq_true rfl⟩ trivial hP hD hS hA [6] [0, 1, 2, 3, 4, 5] rfl rfl (by decide) (by decide) (by decide) dc_X9_init_32 ?_
  rintro v9 u9 H locs ⟨rfl, hu9⟩ hP hD hS - hz hk9
  have hu9 := hu9.symm
  subst hu9
  have hP : va_P G.1 kcl [(x, .inr (5, [.int (0), .ref q_0, .int (0), .int (0), .int (0)])), (q_0, .inl (G.2.1 3, 6, .inr (.inr (.inr (.inr (va_up (va_up (va_up (va_up (fun _ => none) 0 (some q_2)) 1 (some q_5)) 2 (some q_8)) 3 (some q_11))))))), (q_2, .inr (4, [.int ((0 : Int32)), .long ((0 : Int64))])), (q_5, .inr (4, [.int ((0 : Int32)), .long ((0 : Int64))])), (q_8, .inr (4, [.int ((0 : Int32)), .long ((0 : Int64))])), (q_11, .inr (4, [.int ((0 : Int32)), .long ((0 : Int64))])), (q_14, .inr (4, [.int ((0 : Int32)), .long ((0 : Int64))]))] H := hP
  have hD : va_D A [(x, .inr (5, [.int (0), .ref q_0, .int (0), .int (0), .int (0)])), (q_0, .inl (G.2.1 3, 6, .inr (.inr (.inr (.inr (va_up (va_up (va_up (va_up (fun _ => none) 0 (some q_2)) 1 (some q_5)) 2 (some q_8)) 3 (some q_11))))))), (q_2, .inr (4, [.int ((0 : Int32)), .long ((0 : Int64))])), (q_5, .inr (4, [.int ((0 : Int32)), .long ((0 : Int64))])), (q_8, .inr (4, [.int ((0 : Int32)), .long ((0 : Int64))])), (q_11, .inr (4, [.int ((0 : Int32)), .long ((0 : Int64))])), (q_14, .inr (4, [.int ((0 : Int32)), .long ((0 : Int64))]))] := hD
  refine W.widen (k := 6) (n := 16) (Nat.le_refl _) (Nat.le_refl _) ?_
  refine ky_astI hx hb hE.1 hP hD hS 1 rfl (show ky_It G q_14 ((0 : Int32), (0 : Int64)) H from hP.sub [6] rfl) (vp_in_iff.mpr (by decide)) dc_X9_init_35 (fun H locs hP hD hS => ?_)
  have hP : va_P G.1 kcl [(x, .inr (5, [.int (0), .ref q_0, .int (0), .int (0), .int (0)])), (q_0, .inl (G.2.1 3, 6, .inr (.inr (.inr (.inr (va_up (va_up (va_up (va_up (va_up (fun _ => none) 0 (some q_2)) 1 (some q_5)) 2 (some q_8)) 3 (some q_11)) 4 (some q_14))))))), (q_2, .inr (4, [.int ((0 : Int32)), .long ((0 : Int64))])), (q_5, .inr (4, [.int ((0 : Int32)), .long ((0 : Int64))])), (q_8, .inr (4, [.int ((0 : Int32)), .long ((0 : Int64))])), (q_11, .inr (4, [.int ((0 : Int32)), .long ((0 : Int64))])), (q_14, .inr (4, [.int ((0 : Int32)), .long ((0 : Int64))]))] H := hP
  have hD : va_D A [(x, .inr (5, [.int (0), .ref q_0, .int (0), .int (0), .int (0)])), (q_0, .inl (G.2.1 3, 6, .inr (.inr (.inr (.inr (va_up (va_up (va_up (va_up (va_up (fun _ => none) 0 (some q_2)) 1 (some q_5)) 2 (some q_8)) 3 (some q_11)) 4 (some q_14))))))), (q_2, .inr (4, [.int ((0 : Int32)), .long ((0 : Int64))])), (q_5, .inr (4, [.int ((0 : Int32)), .long ((0 : Int64))])), (q_8, .inr (4, [.int ((0 : Int32)), .long ((0 : Int64))])), (q_11, .inr (4, [.int ((0 : Int32)), .long ((0 : Int64))])), (q_14, .inr (4, [.int ((0 : Int32)), .long ((0 : Int64))]))] := hD
  refine lv_iinc (v := (5 : Int32)) (lv' := [(1, .int ((5 : Int32))), (0, .ref x)]) hx hb dc_X9_init_36 hl (k := 0) rfl (by decide) (by decide) rfl (fun ls hl => ?_)
  refine lv_goto (tgt := 15) hx hb dc_X9_init_39 (by decide) ?_
  refine lv_iload_n hx hb dc_X9_init_15 rfl (lv_at hl 0 rfl) ?_
  refine lv_bipush (v := 6) hx hb dc_X9_init_16 (by decide) ?_
  refine lv_icmp_ge (tgt := 42) hx hb dc_X9_init_18 (by decide) (fun c_16 => absurd c_16 (by decide)) (fun _ => ?_)
  refine lv_aload_n hx hb dc_X9_init_21 rfl (lv_at hl 1 rfl) ?_
  refine va_get (D := G.1) (ci := 5) (v := .ref q_0) (C := RX9) (T := TX9) (N := 5) hx hb hts ki_X9 hown hE.1 hP 0 rfl rfl 1 (by decide) (hts _ kw_6_20) (fun _ h9 => h9) rfl dc_X9_init_22 ?_
  refine lv_iload_n hx hb dc_X9_init_25 rfl (lv_at hl 0 rfl) ?_
  refine va_new (ci := 4) (fs := [.int (0), .long (0)]) (C := RX8) (T := TX8) (N := 2) hx hb hts ki_X8 tyX8 tyX8_ok hown (hts _ kw_6_3) (hts _ kw_6_5) (hts _ kw_1_9) hE.1 hP hD hS hA rfl (fun j hj => by rcases (show j = 0 ∨ j = 1 by omega) with rfl | rfl <;> rfl) (Nat.le_of_ble_eq_true rfl) (Nat.le_of_ble_eq_true rfl) dc_X9_init_26 (fun q_17 H hP hD hS => ?_)
  have hP : va_P G.1 kcl [(x, .inr (5, [.int (0), .ref q_0, .int (0), .int (0), .int (0)])), (q_0, .inl (G.2.1 3, 6, .inr (.inr (.inr (.inr (va_up (va_up (va_up (va_up (va_up (fun _ => none) 0 (some q_2)) 1 (some q_5)) 2 (some q_8)) 3 (some q_11)) 4 (some q_14))))))), (q_2, .inr (4, [.int ((0 : Int32)), .long ((0 : Int64))])), (q_5, .inr (4, [.int ((0 : Int32)), .long ((0 : Int64))])), (q_8, .inr (4, [.int ((0 : Int32)), .long ((0 : Int64))])), (q_11, .inr (4, [.int ((0 : Int32)), .long ((0 : Int64))])), (q_14, .inr (4, [.int ((0 : Int32)), .long ((0 : Int64))])), (q_17, .inr (4, [.int (0), .long (0)]))] H := hP
  have hD : va_D A [(x, .inr (5, [.int (0), .ref q_0, .int (0), .int (0), .int (0)])), (q_0, .inl (G.2.1 3, 6, .inr (.inr (.inr (.inr (va_up (va_up (va_up (va_up (va_up (fun _ => none) 0 (some q_2)) 1 (some q_5)) 2 (some q_8)) 3 (some q_11)) 4 (some q_14))))))), (q_2, .inr (4, [.int ((0 : Int32)), .long ((0 : Int64))])), (q_5, .inr (4, [.int ((0 : Int32)), .long ((0 : Int64))])), (q_8, .inr (4, [.int ((0 : Int32)), .long ((0 : Int64))])), (q_11, .inr (4, [.int ((0 : Int32)), .long ((0 : Int64))])), (q_14, .inr (4, [.int ((0 : Int32)), .long ((0 : Int64))])), (q_17, .inr (4, [.int (0), .long (0)]))] := hD
  refine W.widen (k := 7) (n := 18) (Nat.le_refl _) (Nat.le_refl _) ?_
  refine lv_dup hx hb dc_X9_init_29 rfl ?_
  refine lv_iconst (v := 0) hx hb dc_X9_init_30 (by decide) ?_
  refine lv_lconst (v := 0) hx hb dc_X9_init_31 (by decide) ?_
  refine ky_cIh (As := [.int ((0 : Int32)), .long ((0 : Int64))]) (wr := [(x, .inr (5, [.int (0), .ref q_0, .int (0), .int (0), .int (0)])), (q_0, .inl (G.2.1 3, 6, .inr (.inr (.inr (.inr (va_up (va_up (va_up (va_up (va_up (fun _ => none) 0 (some q_2)) 1 (some q_5)) 2 (some q_8)) 3 (some q_11)) 4 (some q_14))))))), (q_2, .inr (4, [.int ((0 : Int32)), .long ((0 : Int64))])), (q_5, .inr (4, [.int ((0 : Int32)), .long ((0 : Int64))])), (q_8, .inr (4, [.int ((0 : Int32)), .long ((0 : Int64))])), (q_11, .inr (4, [.int ((0 : Int32)), .long ((0 : Int64))])), (q_14, .inr (4, [.int ((0 : Int32)), .long ((0 : Int64))]))]) F (hE.at hfr hS) hfr (mt_X8_init l G (q_17) ((0 : Int32)) ((0 : Int64)) H.size ) kI_X9_29 ⟨⟨rfl, rfl⟩, by decide, by decide⟩ rfl hl.1 rfl (Nat.le_of_ble_eq_true rfl) ⟨Nat.le_of_ble_eq_true rfl, Nat.le_of_ble_eq_true rfl⟩ trivial hP hD hS hA [7] [0, 1, 2, 3, 4, 5, 6] rfl rfl (by decide) (by decide) (by decide) dc_X9_init_32 ?_
  rintro v9 u9 H locs ⟨rfl, hu9⟩ hP hD hS - hz hk9
  have hu9 := hu9.symm
  subst hu9
  have hP : va_P G.1 kcl [(x, .inr (5, [.int (0), .ref q_0, .int (0), .int (0), .int (0)])), (q_0, .inl (G.2.1 3, 6, .inr (.inr (.inr (.inr (va_up (va_up (va_up (va_up (va_up (fun _ => none) 0 (some q_2)) 1 (some q_5)) 2 (some q_8)) 3 (some q_11)) 4 (some q_14))))))), (q_2, .inr (4, [.int ((0 : Int32)), .long ((0 : Int64))])), (q_5, .inr (4, [.int ((0 : Int32)), .long ((0 : Int64))])), (q_8, .inr (4, [.int ((0 : Int32)), .long ((0 : Int64))])), (q_11, .inr (4, [.int ((0 : Int32)), .long ((0 : Int64))])), (q_14, .inr (4, [.int ((0 : Int32)), .long ((0 : Int64))])), (q_17, .inr (4, [.int ((0 : Int32)), .long ((0 : Int64))]))] H := hP
  have hD : va_D A [(x, .inr (5, [.int (0), .ref q_0, .int (0), .int (0), .int (0)])), (q_0, .inl (G.2.1 3, 6, .inr (.inr (.inr (.inr (va_up (va_up (va_up (va_up (va_up (fun _ => none) 0 (some q_2)) 1 (some q_5)) 2 (some q_8)) 3 (some q_11)) 4 (some q_14))))))), (q_2, .inr (4, [.int ((0 : Int32)), .long ((0 : Int64))])), (q_5, .inr (4, [.int ((0 : Int32)), .long ((0 : Int64))])), (q_8, .inr (4, [.int ((0 : Int32)), .long ((0 : Int64))])), (q_11, .inr (4, [.int ((0 : Int32)), .long ((0 : Int64))])), (q_14, .inr (4, [.int ((0 : Int32)), .long ((0 : Int64))])), (q_17, .inr (4, [.int ((0 : Int32)), .long ((0 : Int64))]))] := hD
  refine W.widen (k := 7) (n := 18) (Nat.le_refl _) (Nat.le_refl _) ?_
  refine ky_astI hx hb hE.1 hP hD hS 1 rfl (show ky_It G q_17 ((0 : Int32), (0 : Int64)) H from hP.sub [7] rfl) (vp_in_iff.mpr (by decide)) dc_X9_init_35 (fun H locs hP hD hS => ?_)
  have hP : va_P G.1 kcl [(x, .inr (5, [.int (0), .ref q_0, .int (0), .int (0), .int (0)])), (q_0, .inl (G.2.1 3, 6, .inr (.inr (.inr (.inr (va_up (va_up (va_up (va_up (va_up (va_up (fun _ => none) 0 (some q_2)) 1 (some q_5)) 2 (some q_8)) 3 (some q_11)) 4 (some q_14)) 5 (some q_17))))))), (q_2, .inr (4, [.int ((0 : Int32)), .long ((0 : Int64))])), (q_5, .inr (4, [.int ((0 : Int32)), .long ((0 : Int64))])), (q_8, .inr (4, [.int ((0 : Int32)), .long ((0 : Int64))])), (q_11, .inr (4, [.int ((0 : Int32)), .long ((0 : Int64))])), (q_14, .inr (4, [.int ((0 : Int32)), .long ((0 : Int64))])), (q_17, .inr (4, [.int ((0 : Int32)), .long ((0 : Int64))]))] H := hP
  have hD : va_D A [(x, .inr (5, [.int (0), .ref q_0, .int (0), .int (0), .int (0)])), (q_0, .inl (G.2.1 3, 6, .inr (.inr (.inr (.inr (va_up (va_up (va_up (va_up (va_up (va_up (fun _ => none) 0 (some q_2)) 1 (some q_5)) 2 (some q_8)) 3 (some q_11)) 4 (some q_14)) 5 (some q_17))))))), (q_2, .inr (4, [.int ((0 : Int32)), .long ((0 : Int64))])), (q_5, .inr (4, [.int ((0 : Int32)), .long ((0 : Int64))])), (q_8, .inr (4, [.int ((0 : Int32)), .long ((0 : Int64))])), (q_11, .inr (4, [.int ((0 : Int32)), .long ((0 : Int64))])), (q_14, .inr (4, [.int ((0 : Int32)), .long ((0 : Int64))])), (q_17, .inr (4, [.int ((0 : Int32)), .long ((0 : Int64))]))] := hD
  refine lv_iinc (v := (6 : Int32)) (lv' := [(1, .int ((6 : Int32))), (0, .ref x)]) hx hb dc_X9_init_36 hl (k := 0) rfl (by decide) (by decide) rfl (fun ls hl => ?_)
  refine lv_goto (tgt := 15) hx hb dc_X9_init_39 (by decide) ?_
  refine lv_iload_n hx hb dc_X9_init_15 rfl (lv_at hl 0 rfl) ?_
  refine lv_bipush (v := 6) hx hb dc_X9_init_16 (by decide) ?_
  refine lv_icmp_ge (tgt := 42) hx hb dc_X9_init_18 (by decide) (fun _ => ?_) (fun c_19 => absurd c_19 (by decide))
  have hP9 := hP.sub (ws' := [(x, .inr (5, [.int (0), .ref q_0, .int (0), .int (0), .int (0)])), (q_0, .inl (G.2.1 3, 6, .inr (.inr (.inr (.inr (va_up (va_up (va_up (va_up (va_up (va_up (fun _ => none) 0 (some q_2)) 1 (some q_5)) 2 (some q_8)) 3 (some q_11)) 4 (some q_14)) 5 (some q_17))))))), (q_2, .inr (4, [.int ((0 : Int32)), .long ((0 : Int64))])), (q_5, .inr (4, [.int ((0 : Int32)), .long ((0 : Int64))])), (q_8, .inr (4, [.int ((0 : Int32)), .long ((0 : Int64))])), (q_11, .inr (4, [.int ((0 : Int32)), .long ((0 : Int64))])), (q_14, .inr (4, [.int ((0 : Int32)), .long ((0 : Int64))])), (q_17, .inr (4, [.int ((0 : Int32)), .long ((0 : Int64))]))]) [0, 1, 2, 3, 4, 5, 6, 7] rfl
  have hD9 := hD.sub (ws' := [(x, .inr (5, [.int (0), .ref q_0, .int (0), .int (0), .int (0)])), (q_0, .inl (G.2.1 3, 6, .inr (.inr (.inr (.inr (va_up (va_up (va_up (va_up (va_up (va_up (fun _ => none) 0 (some q_2)) 1 (some q_5)) 2 (some q_8)) 3 (some q_11)) 4 (some q_14)) 5 (some q_17))))))), (q_2, .inr (4, [.int ((0 : Int32)), .long ((0 : Int64))])), (q_5, .inr (4, [.int ((0 : Int32)), .long ((0 : Int64))])), (q_8, .inr (4, [.int ((0 : Int32)), .long ((0 : Int64))])), (q_11, .inr (4, [.int ((0 : Int32)), .long ((0 : Int64))])), (q_14, .inr (4, [.int ((0 : Int32)), .long ((0 : Int64))])), (q_17, .inr (4, [.int ((0 : Int32)), .long ((0 : Int64))]))]) [0, 1, 2, 3, 4, 5, 6, 7] (by decide) rfl
  refine W.widen (k := 7) (n := 18) (Nat.le_of_ble_eq_true rfl) (Nat.le_of_ble_eq_true rfl) ?_
  exact W.vret hx hb hr (fun t ht hW => ⟨⟨_, (q_0, q_2, q_5, q_8, q_11, q_14, q_17), rfl, rfl, by rw [ht]; exact hP9, hD9, trivial⟩, hS.F ht⟩) hS.2.2 dc_X9_init_42
