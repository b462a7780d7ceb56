set_option linter.constructorNameAsVariable false in
set_option maxHeartbeats 4000000 in
set_option maxRecDepth 100000 in
theorem mt_J5_init_d00df (l : Launch) (G : ky_G) (b : Nat) (sz : Nat)  : Met l my_J5_init_d00df (.code my_J5_init_d00df prog_12_method_2_code 2 none :: ky_B) { frames := 1, cells := 1, slots := 16, locals := 12 } (ky_P G [.ref b, .int ((16 : Int32))] ([(b, .inr (6, [.null, .int 0, .int 0, .int 0]))]) sz (fun _ => True)) (ky_Q (S := Nat) G (va_A ([(b, .inr (6, [.null, .int 0, .int 0, .int 0]))]) sz) (fun v _ => v = none) (fun u => ky_WT G b u 16 0 (fun _ => 0) 0) (fun _ _ => True)) (1) (16) (va_A ([(b, .inr (6, [.null, .int 0, .int 0, .int 0]))]) sz) := by
  refine ky_startI (by decide) (Nat.le_of_ble_eq_true rfl) (fun p e s m below meth c hin F hE A hAe hsz hA hfr hP hD hS hX ls hl => ?_)
  obtain ⟨hx, hb, hml, hown, hr, hlocks, hts⟩ := id F
  have hl : lv_has ls 2 [(0, .ref b), (1, .int ((16 : Int32)))] := hl
  have hP : va_P G.1 kcl [(b, .inr (6, [.null, .int (0), .int (0), .int (0)]))] s.heap := hP
  have hD : va_D A [(b, .inr (6, [.null, .int (0), .int (0), .int (0)]))] := hD
  refine lv_aload_n hx hb dc_J5_init_d00df_0 rfl (lv_at hl 0 rfl) ?_
  refine W.objInit hx hb hown (hts _ kw_1_52) (hts _ kw_1_36) (hts _ kw_1_37) rfl (by rw [hml]; exact hl.1) rfl dc_J5_init_d00df_1 (Nat.le_of_ble_eq_true rfl) (Nat.le_of_ble_eq_true rfl) ?_
  refine W.eq (g2 := F0 m 4 ls []) rfl ?_
  refine va_gets hx hb (kq_compact hE hfr) hS hown (hts _ kw_1_53) (fun _ h9 => h9) dc_J5_init_d00df_4 ?_
  refine lv_if_eq (tgt := 25) hx hb dc_J5_init_d00df_7 (by decide) (fun c_0 => absurd c_0 (by decide)) (fun _ => ?_)
  refine lv_aload_n hx hb dc_J5_init_d00df_10 rfl (lv_at hl 0 rfl) ?_
  refine lv_iload_n hx hb dc_J5_init_d00df_11 rfl (lv_at hl 1 rfl) ?_
  refine va_newa (atype := .byte) (ty := .byte) (N' := 16) (a0 := (16, .inl (fun _ => 0))) hx hb (hts _ kw_1_77) rfl hE.1 hP hD hS hA (fun _ => rfl) (by decide) (by decide) (by decide) (Nat.le_of_ble_eq_true rfl) (Nat.le_of_ble_eq_true rfl) dc_J5_init_d00df_12 (fun q_1 cA_1 H hK_1 hP hD hS => ?_)
  have hc_1 : cA_1 = G.2.1 0 := ky_nB 0 hE.1 hK_1 rfl (fun _ h => by cases h)
  subst hc_1
  have hP : va_P G.1 kcl [(b, .inr (6, [.null, .int (0), .int (0), .int (0)])), (q_1, .inl (G.2.1 0, 16, .inl (fun _ => 0)))] H := hP
  have hD : va_D A [(b, .inr (6, [.null, .int (0), .int (0), .int (0)])), (q_1, .inl (G.2.1 0, 16, .inl (fun _ => 0)))] := hD
  refine W.widen (k := 1) (n := 16) (by first | exact Nat.le_refl _ | omega) (by first | exact Nat.le_refl _ | omega) ?_
  refine va_put (D := G.1) (ci := 6) (v := .ref q_1) (ty := .array .byte) (C := RJ4) (T := TJ4) (N := 4) hx hb hts ki_J4 tyJ4 tyJ4_ok nmJ4 hown hE.1 hP hD hS 0 rfl rfl 0 (by decide) (hts _ kw_1_62) (fun _ h9 => h9) rfl (by decide +kernel) rfl rfl (Nat.le_of_ble_eq_true rfl) dc_J5_init_d00df_14 (fun H locs hP hD hS => ?_)
  have hP : va_P G.1 kcl [(b, .inr (6, [.ref q_1, .int (0), .int (0), .int (0)])), (q_1, .inl (G.2.1 0, 16, .inl (fun _ => 0)))] H := hP
  have hD : va_D A [(b, .inr (6, [.ref q_1, .int (0), .int (0), .int (0)])), (q_1, .inl (G.2.1 0, 16, .inl (fun _ => 0)))] := hD
  refine lv_aload_n hx hb dc_J5_init_d00df_17 rfl (lv_at hl 0 rfl) ?_
  refine lv_iconst (v := 0) hx hb dc_J5_init_d00df_18 (by decide) ?_
  refine va_put (D := G.1) (ci := 6) (v := .int ((0 : Int32))) (ty := .byte) (C := RJ4) (T := TJ4) (N := 4) hx hb hts ki_J4 tyJ4 tyJ4_ok nmJ4 hown hE.1 hP hD hS 0 rfl rfl 1 (by decide) (hts _ kw_1_63) (fun _ h9 => h9) rfl (by decide +kernel) rfl rfl (Nat.le_of_ble_eq_true rfl) dc_J5_init_d00df_19 (fun H locs hP hD hS => ?_)
  have hP : va_P G.1 kcl [(b, .inr (6, [.ref q_1, .int ((0 : Int32)), .int (0), .int (0)])), (q_1, .inl (G.2.1 0, 16, .inl (fun _ => 0)))] H := hP
  have hD : va_D A [(b, .inr (6, [.ref q_1, .int ((0 : Int32)), .int (0), .int (0)])), (q_1, .inl (G.2.1 0, 16, .inl (fun _ => 0)))] := hD
  refine lv_goto (tgt := 38) hx hb dc_J5_init_d00df_22 (by decide) ?_
  have hP9 := hP.sub (ws' := [(b, .inr (6, [.ref q_1, .int ((0 : Int32)), .int (0), .int (0)])), (q_1, .inl (G.2.1 0, 16, .inl (fun _ => 0)))]) [0, 1] rfl
  have hD9 := hD.sub (ws' := [(b, .inr (6, [.ref q_1, .int ((0 : Int32)), .int (0), .int (0)])), (q_1, .inl (G.2.1 0, 16, .inl (fun _ => 0)))]) [0, 1] (by decide) rfl
  refine W.widen (k := 1) (n := 16) (Nat.le_of_ble_eq_true rfl) (Nat.le_of_ble_eq_true rfl) ?_
  exact W.vret hx hb hr (fun t ht hW => ⟨⟨_, q_1, rfl, rfl, by rw [ht]; exact hP9, hD9, trivial⟩, hS.F ht⟩) hS.2.2 dc_J5_init_d00df_38
set_option linter.constructorNameAsVariable false in
set_option maxHeartbeats 4000000 in
set_option maxRecDepth 100000 in
theorem mt_J4_init_da8c8 (l : Launch) (G : ky_G) (b : Nat) (sz : Nat)  : Met l my_J4_init_da8c8 (.code my_J4_init_da8c8 prog_23_method_1_code 1 none :: ky_B) { frames := 2, cells := 1, slots := 16, locals := 33 } (ky_P G [.ref b] ([(b, .inr (6, [.null, .int 0, .int 0, .int 0]))]) sz (fun _ => True)) (ky_Q (S := Nat) G (va_A ([(b, .inr (6, [.null, .int 0, .int 0, .int 0]))]) sz) (fun v _ => v = none) (fun u => ky_WT G b u 16 0 (fun _ => 0) 0) (fun _ _ => True)) (1) (16) (va_A ([(b, .inr (6, [.null, .int 0, .int 0, .int 0]))]) sz) := by
  refine ky_startI (by decide) (Nat.le_of_ble_eq_true rfl) (fun p e s m below meth c hin F hE A hAe hsz hA hfr hP hD hS hX ls hl => ?_)
  obtain ⟨hx, hb, hml, hown, hr, hlocks, hts⟩ := id F
  have hl : lv_has ls 1 [(0, .ref b)] := hl
  have hP : va_P G.1 kcl [(b, .inr (6, [.null, .int (0), .int (0), .int (0)]))] s.heap := hP
  have hD : va_D A [(b, .inr (6, [.null, .int (0), .int (0), .int (0)]))] := hD
  refine lv_aload_n hx hb dc_J4_init_da8c8_0 rfl (lv_at hl 0 rfl) ?_
  refine lv_bipush (v := 16) hx hb dc_J4_init_da8c8_1 (by decide) ?_
  refine ky_cIh (As := [.int ((16 : Int32))]) (wr := []) F (hE.at hfr hS) hfr (mt_J5_init_d00df l G b s.heap.size ) kI_J4_1 ⟨⟨rfl, rfl⟩, Nat.le_of_ble_eq_true rfl, Nat.le_of_ble_eq_true rfl⟩ rfl hl.1 rfl (Nat.le_of_ble_eq_true rfl) ⟨Nat.le_of_ble_eq_true rfl, Nat.le_of_ble_eq_true rfl⟩ trivial hP hD hS hA [0] [] rfl rfl (by decide) (by decide) (by decide) dc_J4_init_da8c8_3 ?_
  rintro v9 va_0 H locs rfl hP hD hS - hz hk9
  have hP : va_P G.1 kcl [(b, .inr (6, [.ref va_0, .int (0), .int (0), .int (nI (0))])), (va_0, .inl (G.2.1 0, 16, .inl (fun _ => 0)))] H := hP
  have hD : va_D A [(b, .inr (6, [.ref va_0, .int (0), .int (0), .int (nI (0))])), (va_0, .inl (G.2.1 0, 16, .inl (fun _ => 0)))] := hD
  refine W.widen (k := 1) (n := 16) (by first | exact Nat.le_refl _ | omega) (by first | exact Nat.le_refl _ | omega) ?_
  have hP9 := hP.sub (ws' := [(b, .inr (6, [.ref va_0, .int (0), .int (0), .int (nI (0))])), (va_0, .inl (G.2.1 0, 16, .inl (fun _ => 0)))]) [0, 1] rfl
  have hD9 := hD.sub (ws' := [(b, .inr (6, [.ref va_0, .int (0), .int (0), .int (nI (0))])), (va_0, .inl (G.2.1 0, 16, .inl (fun _ => 0)))]) [0, 1] (by decide) rfl
  refine W.widen (k := 1) (n := 16) (Nat.le_of_ble_eq_true rfl) (Nat.le_of_ble_eq_true rfl) ?_
  exact W.vret hx hb hr (fun t ht hW => ⟨⟨_, va_0, rfl, rfl, by rw [ht]; exact hP9, hD9, trivial⟩, hS.F ht⟩) hS.2.2 dc_J4_init_da8c8_6
set_option linter.constructorNameAsVariable false in
set_option maxHeartbeats 4000000 in
set_option maxRecDepth 100000 in
theorem mt_J5_isLatin1_aae02 (l : Launch) (G : ky_G) (b : Nat) (va : Nat) (ml : Int32) (nn : Int32) (sz : Nat)  : Met l my_J5_isLatin1_aae02 (.code my_J5_isLatin1_aae02 prog_12_method_68_code 1 (some .boolean) :: ky_B) { frames := 0, cells := 0, slots := 0, locals := 0 } (ky_P G [.ref b] ([(b, .inr (6, [.ref va, .int 0, .int ml, .int nn]))]) sz (fun _ => True)) (ky_Q (S := Unit) G (va_A ([(b, .inr (6, [.ref va, .int 0, .int ml, .int nn]))]) sz) (fun v _ => v = some (.int 1)) (fun _ => [(b, .inr (6, [.ref va, .int 0, .int ml, .int nn]))]) (fun _ _ => True)) (0) (0) (va_A ([(b, .inr (6, [.ref va, .int 0, .int ml, .int nn]))]) sz) := by
  refine ky_start (by decide) (Nat.le_of_ble_eq_true rfl) (fun p e s m below meth c F hE A hAe hsz hA hfr hP hD hS hX ls hl => ?_)
  obtain ⟨hx, hb, hml, hown, hr, hlocks, hts⟩ := id F
  have hl : lv_has ls 1 [(0, .ref b)] := hl
  have hP : va_P G.1 kcl [(b, .inr (6, [.ref va, .int (0), .int (ml), .int (nn)]))] s.heap := hP
  have hD : va_D A [(b, .inr (6, [.ref va, .int (0), .int (ml), .int (nn)]))] := hD
  refine va_gets hx hb (kq_compact hE hfr) hS hown (hts _ kw_1_53) (fun _ h9 => h9) dc_J5_isLatin1_aae02_0 ?_
  refine lv_if_eq (tgt := 17) hx hb dc_J5_isLatin1_aae02_3 (by decide) (fun c_0 => absurd c_0 (by decide)) (fun _ => ?_)
  refine lv_aload_n hx hb dc_J5_isLatin1_aae02_6 rfl (lv_at hl 0 rfl) ?_
  refine va_get (D := G.1) (ci := 6) (v := .int (0)) (C := RJ4) (T := TJ4) (N := 4) hx hb hts ki_J4 hown hE.1 hP 0 rfl rfl 1 (by decide) (hts _ kw_1_63) (fun _ h9 => h9) rfl dc_J5_isLatin1_aae02_7 ?_
  refine lv_if_ne (tgt := 17) hx hb dc_J5_isLatin1_aae02_10 (by decide) (fun c_1 => absurd c_1 (by decide)) (fun _ => ?_)
  refine lv_iconst (v := 1) hx hb dc_J5_isLatin1_aae02_13 (by decide) ?_
  refine lv_goto (tgt := 18) hx hb dc_J5_isLatin1_aae02_14 (by decide) ?_
  have hP9 := hP.sub (ws' := [(b, .inr (6, [.ref va, .int (0), .int (ml), .int (nn)]))]) [0] rfl
  have hD9 := hD.sub (ws' := [(b, .inr (6, [.ref va, .int (0), .int (ml), .int (nn)]))]) [0] (by decide) rfl
  refine W.widen (k := 0) (n := 0) (Nat.le_of_ble_eq_true rfl) (Nat.le_of_ble_eq_true rfl) ?_
  exact W.zret (v := (1 : Int32)) hx hb hr (by decide) (fun t ht hW => ⟨⟨_, (), rfl, rfl, by rw [ht]; exact hP9, hD9, trivial⟩, hS.F ht⟩) hS.2.2 dc_J5_isLatin1_aae02_18
set_option linter.constructorNameAsVariable false in
set_option maxHeartbeats 4000000 in
set_option maxRecDepth 100000 in
theorem mt_J5_length_8abf5 (l : Launch) (G : ky_G) (b : Nat) (va : Nat) (ml : Int32) (nn : Int32) (sz : Nat)  : Met l my_J5_length_8abf5 (.code my_J5_length_8abf5 prog_12_method_6_code 1 (some .int) :: ky_B) { frames := 0, cells := 0, slots := 0, locals := 0 } (ky_P G [.ref b] ([(b, .inr (6, [.ref va, .int 0, .int ml, .int nn]))]) sz (fun _ => True)) (ky_Q (S := Unit) G (va_A ([(b, .inr (6, [.ref va, .int 0, .int ml, .int nn]))]) sz) (fun v _ => v = some (.int nn)) (fun _ => [(b, .inr (6, [.ref va, .int 0, .int ml, .int nn]))]) (fun _ _ => True)) (0) (0) (va_A ([(b, .inr (6, [.ref va, .int 0, .int ml, .int nn]))]) sz) := by
  refine ky_start (by decide) (Nat.le_of_ble_eq_true rfl) (fun p e s m below meth c F hE A hAe hsz hA hfr hP hD hS hX ls hl => ?_)
  obtain ⟨hx, hb, hml, hown, hr, hlocks, hts⟩ := id F
  have hl : lv_has ls 1 [(0, .ref b)] := hl
  have hP : va_P G.1 kcl [(b, .inr (6, [.ref va, .int (0), .int (ml), .int (nn)]))] s.heap := hP
  have hD : va_D A [(b, .inr (6, [.ref va, .int (0), .int (ml), .int (nn)]))] := hD
  refine lv_aload_n hx hb dc_J5_length_8abf5_0 rfl (lv_at hl 0 rfl) ?_
  refine va_get (D := G.1) (ci := 6) (v := .int (nn)) (C := RJ4) (T := TJ4) (N := 4) hx hb hts ki_J4 hown hE.1 hP 0 rfl rfl 3 (by decide) (hts _ kw_1_66) (fun _ h9 => h9) rfl dc_J5_length_8abf5_1 ?_
  have hP9 := hP.sub (ws' := [(b, .inr (6, [.ref va, .int (0), .int (ml), .int (nn)]))]) [0] rfl
  have hD9 := hD.sub (ws' := [(b, .inr (6, [.ref va, .int (0), .int (ml), .int (nn)]))]) [0] (by decide) rfl
  refine W.widen (k := 0) (n := 0) (Nat.le_of_ble_eq_true rfl) (Nat.le_of_ble_eq_true rfl) ?_
  exact W.iret (v := nn) hx hb hr (fun t ht hW => ⟨⟨_, (), rfl, rfl, by rw [ht]; exact hP9, hD9, trivial⟩, hS.F ht⟩) hS.2.2 dc_J5_length_8abf5_4
set_option linter.constructorNameAsVariable false in
set_option maxHeartbeats 4000000 in
set_option maxRecDepth 100000 in
theorem mt_J5_getValue_6d5f1 (l : Launch) (G : ky_G) (b : Nat) (va : Nat) (ml : Int32) (nn : Int32) (sz : Nat)  : Met l my_J5_getValue_6d5f1 (.code my_J5_getValue_6d5f1 prog_12_method_64_code 1 (Option.some (Jvm.ClassFile.FieldType.array Jvm.ClassFile.FieldType.byte)) :: ky_B) { frames := 0, cells := 0, slots := 0, locals := 0 } (ky_P G [.ref b] ([(b, .inr (6, [.ref va, .int 0, .int ml, .int nn]))]) sz (fun _ => True)) (ky_Q (S := Unit) G (va_A ([(b, .inr (6, [.ref va, .int 0, .int ml, .int nn]))]) sz) (fun v _ => v = some (.ref va)) (fun _ => [(b, .inr (6, [.ref va, .int 0, .int ml, .int nn]))]) (fun _ _ => True)) (0) (0) (va_A ([(b, .inr (6, [.ref va, .int 0, .int ml, .int nn]))]) sz) := by
  refine ky_start (by decide) (Nat.le_of_ble_eq_true rfl) (fun p e s m below meth c F hE A hAe hsz hA hfr hP hD hS hX ls hl => ?_)
  obtain ⟨hx, hb, hml, hown, hr, hlocks, hts⟩ := id F
  have hl : lv_has ls 1 [(0, .ref b)] := hl
  have hP : va_P G.1 kcl [(b, .inr (6, [.ref va, .int (0), .int (ml), .int (nn)]))] s.heap := hP
  have hD : va_D A [(b, .inr (6, [.ref va, .int (0), .int (ml), .int (nn)]))] := hD
  refine lv_aload_n hx hb dc_J5_getValue_6d5f1_0 rfl (lv_at hl 0 rfl) ?_
  refine va_get (D := G.1) (ci := 6) (v := .ref va) (C := RJ4) (T := TJ4) (N := 4) hx hb hts ki_J4 hown hE.1 hP 0 rfl rfl 0 (by decide) (hts _ kw_1_62) (fun _ h9 => h9) rfl dc_J5_getValue_6d5f1_1 ?_
  have hP9 := hP.sub (ws' := [(b, .inr (6, [.ref va, .int (0), .int (ml), .int (nn)]))]) [0] rfl
  have hD9 := hD.sub (ws' := [(b, .inr (6, [.ref va, .int (0), .int (ml), .int (nn)]))]) [0] (by decide) rfl
  refine W.widen (k := 0) (n := 0) (Nat.le_of_ble_eq_true rfl) (Nat.le_of_ble_eq_true rfl) ?_
  exact W.aret (v := .ref va) hx hb hr (Or.inr ⟨_, rfl⟩) (Or.inr ⟨_, rfl⟩) (fun t ht hW => ⟨⟨_, (), rfl, rfl, by rw [ht]; exact hP9, hD9, trivial⟩, hS.F ht⟩) hS.2.2 dc_J5_getValue_6d5f1_4
set_option linter.constructorNameAsVariable false in
set_option maxHeartbeats 4000000 in
set_option maxRecDepth 100000 in
theorem mt_J4_length_8abf5 (l : Launch) (G : ky_G) (b : Nat) (va : Nat) (ml : Int32) (nn : Int32) (sz : Nat)  : Met l my_J4_length_8abf5 (.code my_J4_length_8abf5 prog_23_method_93_code 1 (some .int) :: ky_B) { frames := 1, cells := 0, slots := 0, locals := 20 } (ky_P G [.ref b] ([(b, .inr (6, [.ref va, .int 0, .int ml, .int nn]))]) sz (fun _ => True)) (ky_Q (S := Unit) G (va_A ([(b, .inr (6, [.ref va, .int 0, .int ml, .int nn]))]) sz) (fun v _ => v = some (.int nn)) (fun _ => [(b, .inr (6, [.ref va, .int 0, .int ml, .int nn]))]) (fun _ _ => True)) (0) (0) (va_A ([(b, .inr (6, [.ref va, .int 0, .int ml, .int nn]))]) sz) := by
  refine ky_start (by decide) (Nat.le_of_ble_eq_true rfl) (fun p e s m below meth c F hE A hAe hsz hA hfr hP hD hS hX ls hl => ?_)
  obtain ⟨hx, hb, hml, hown, hr, hlocks, hts⟩ := id F
  have hl : lv_has ls 1 [(0, .ref b)] := hl
  have hP : va_P G.1 kcl [(b, .inr (6, [.ref va, .int (0), .int (ml), .int (nn)]))] s.heap := hP
  have hD : va_D A [(b, .inr (6, [.ref va, .int (0), .int (ml), .int (nn)]))] := hD
  refine lv_aload_n hx hb dc_J4_length_8abf5_0 rfl (lv_at hl 0 rfl) ?_
  refine ky_cWh (ci := 6) (As := []) (wr := []) F (hE.at hfr hS) hfr hE.1 rfl (mt_J5_length_8abf5 l G b va ml nn s.heap.size ) ku_J4_343 ⟨⟨rfl, rfl⟩, Nat.le_of_ble_eq_true rfl, Nat.le_of_ble_eq_true rfl⟩ rfl hl.1 rfl (Nat.le_of_ble_eq_true rfl) ⟨Nat.le_of_ble_eq_true rfl, Nat.le_of_ble_eq_true rfl⟩ (va_recv hE.1 hP (ci := 6) (q0 := 0) rfl rfl) trivial hP hD hS hA [0] [] rfl rfl (by decide) (by decide) (by decide) dc_J4_length_8abf5_1 ?_
  rintro v9 u9 H locs rfl hP hD hS - hz hk9
  have hP : va_P G.1 kcl [(b, .inr (6, [.ref va, .int (0), .int (ml), .int (nn)]))] H := hP
  have hD : va_D A [(b, .inr (6, [.ref va, .int (0), .int (ml), .int (nn)]))] := hD
  refine W.widen (k := 0) (n := 0) (by first | exact Nat.le_refl _ | omega) (by first | exact Nat.le_refl _ | omega) ?_
  have hP9 := hP.sub (ws' := [(b, .inr (6, [.ref va, .int (0), .int (ml), .int (nn)]))]) [0] rfl
  have hD9 := hD.sub (ws' := [(b, .inr (6, [.ref va, .int (0), .int (ml), .int (nn)]))]) [0] (by decide) rfl
  refine W.widen (k := 0) (n := 0) (Nat.le_of_ble_eq_true rfl) (Nat.le_of_ble_eq_true rfl) ?_
  exact W.iret (v := nn) hx hb hr (fun t ht hW => ⟨⟨_, (), rfl, rfl, by rw [ht]; exact hP9, hD9, trivial⟩, hS.F ht⟩) hS.2.2 dc_J4_length_8abf5_4
set_option linter.constructorNameAsVariable false in
set_option maxHeartbeats 4000000 in
set_option maxRecDepth 100000 in
theorem mt_J8_newLength_cabcc (l : Launch) (G : ky_G) (g : Nat) (sz : Nat) (hg : g ≤ 18) : Met l my_J8_newLength_cabcc (.code my_J8_newLength_cabcc prog_30_method_27_code 4 (some .int) :: ky_B) { frames := 1, cells := 0, slots := 0, locals := 14 } (ky_P G [.int ((16 : Int32)), .int (nI g), .int ((18 : Int32))] ([]) sz (fun _ => True)) (ky_Q (S := Unit) G (va_A ([]) sz) (fun v _ => v = some (.int 34)) (fun _ => []) (fun _ _ => True)) (0) (0) (va_A ([]) sz) := by
  refine ky_start (by decide) (Nat.le_of_ble_eq_true rfl) (fun p e s m below meth c F hE A hAe hsz hA hfr hP hD hS hX ls hl => ?_)
  obtain ⟨hx, hb, hml, hown, hr, hlocks, hts⟩ := id F
  have hl : lv_has ls 4 [(0, .int ((16 : Int32))), (1, .int (nI g)), (2, .int ((18 : Int32)))] := hl
  have hP : va_P G.1 kcl [] s.heap := hP
  have hD : va_D A [] := hD
  refine lv_iload_n hx hb dc_J8_newLength_cabcc_0 rfl (lv_at hl 0 rfl) ?_
  refine lv_iload_n hx hb dc_J8_newLength_cabcc_1 rfl (lv_at hl 1 rfl) ?_
  refine lv_iload_n hx hb dc_J8_newLength_cabcc_2 rfl (lv_at hl 2 rfl) ?_
  refine ky_imax F ⟨kw_1_184, kw_1_185, kw_1_16, kw_1_186⟩ hl.1 (Nat.le_of_ble_eq_true rfl) (Nat.le_of_ble_eq_true rfl) ⟨Nat.le_of_ble_eq_true rfl, Nat.le_of_ble_eq_true rfl⟩ dc_J8_newLength_cabcc_3 ?_
  rw [show ((jimax (nI g) ((18 : Int32))) : Int32) = (18 : Int32) from ky_mx hg]
  refine lv_iadd hx hb dc_J8_newLength_cabcc_6 ?_
  rw [show ((((16 : Int32)) + ((18 : Int32))) : Int32) = (34 : Int32) from by decide]
  rw [show (((34 : Int32)) : Int32) = (34 : Int32) from by decide]
  refine lv_istore_n (lv' := [(3, .int ((34 : Int32))), (0, .int ((16 : Int32))), (1, .int (nI g)), (2, .int ((18 : Int32)))]) hx hb dc_J8_newLength_cabcc_7 rfl hl (by decide) rfl (fun ls hl => ?_)
  refine lv_iconst (v := 0) hx hb dc_J8_newLength_cabcc_8 (by decide) ?_
  refine lv_iload_n hx hb dc_J8_newLength_cabcc_9 rfl (lv_at hl 0 rfl) ?_
  refine lv_icmp_ge (tgt := 21) hx hb dc_J8_newLength_cabcc_10 (by decide) (fun c_0 => absurd c_0 (by decide)) (fun _ => ?_)
  refine lv_iload_n hx hb dc_J8_newLength_cabcc_13 rfl (lv_at hl 0 rfl) ?_
  refine lv_ldc (v := 2147483639) hx hb hown (hts _ kw_1_187) dc_J8_newLength_cabcc_14 ?_
  refine lv_icmp_gt (tgt := 21) hx hb dc_J8_newLength_cabcc_16 (by decide) (fun c_1 => absurd c_1 (by decide)) (fun _ => ?_)
  refine lv_iload_n hx hb dc_J8_newLength_cabcc_19 rfl (lv_at hl 0 rfl) ?_
  have hP9 := hP.sub (ws' := []) [] rfl
  have hD9 := hD.sub (ws' := []) [] (by decide) rfl
  refine W.widen (k := 0) (n := 0) (Nat.le_of_ble_eq_true rfl) (Nat.le_of_ble_eq_true rfl) ?_
  exact W.iret (v := (34 : Int32)) hx hb hr (fun t ht hW => ⟨⟨_, (), rfl, rfl, by rw [ht]; exact hP9, hD9, trivial⟩, hS.F ht⟩) hS.2.2 dc_J8_newLength_cabcc_20
set_option linter.constructorNameAsVariable false in
set_option maxHeartbeats 4000000 in
set_option maxRecDepth 100000 in
theorem mt_J5_newCapacity_0f7a4 (l : Launch) (G : ky_G) (b : Nat) (va : Nat) (mm : Nat) (n : Nat) (f : Nat → Int32) (ml : Int32) (q : Nat) (sz : Nat) (em : mm = 16) (hq1 : ¬ q ≤ mm) (hq : q ≤ 34) : Met l my_J5_newCapacity_0f7a4 (.code my_J5_newCapacity_0f7a4 prog_12_method_10_code 6 (some .int) :: ky_B) { frames := 2, cells := 0, slots := 0, locals := 37 } (ky_P G [.ref b, .int (nI q)] (ky_WT G b va mm n f ml) sz (fun _ => True)) (ky_Q (S := Unit) G (va_A (ky_WT G b va mm n f ml) sz) (fun v _ => v = some (.int 34)) (fun _ => ky_WT G b va mm n f ml) (fun _ _ => True)) (0) (0) (va_A (ky_WT G b va mm n f ml) sz) := by
  refine ky_start (by decide) (Nat.le_of_ble_eq_true rfl) (fun p e s m below meth c F hE A hAe hsz hA hfr hP hD hS hX ls hl => ?_)
  obtain ⟨hx, hb, hml, hown, hr, hlocks, hts⟩ := id F
  have hl : lv_has ls 6 [(0, .ref b), (1, .int (nI q))] := hl
  have hP : va_P G.1 kcl [(b, .inr (6, [.ref va, .int (0), .int (ml), .int (nI (n))])), (va, .inl (G.2.1 0, mm, .inl (f)))] s.heap := hP
  have hD : va_D A [(b, .inr (6, [.ref va, .int (0), .int (ml), .int (nI (n))])), (va, .inl (G.2.1 0, mm, .inl (f)))] := hD
  refine lv_aload_n hx hb dc_J5_newCapacity_0f7a4_0 rfl (lv_at hl 0 rfl) ?_
  refine va_get (D := G.1) (ci := 6) (v := .ref va) (C := RJ4) (T := TJ4) (N := 4) hx hb hts ki_J4 hown hE.1 hP 0 rfl rfl 0 (by decide) (hts _ kw_1_62) (fun _ h9 => h9) rfl dc_J5_newCapacity_0f7a4_1 ?_
  refine va_alen hx hb hE.1 hP 1 0 rfl rfl (v := Int32.ofNat (mm)) rfl dc_J5_newCapacity_0f7a4_4 ?_
  rw [show ((Int32.ofNat (mm)) : Int32) = (16 : Int32) from by rw [em]; rfl]
  refine lv_istore_n (lv' := [(2, .int ((16 : Int32))), (0, .ref b), (1, .int (nI q))]) hx hb dc_J5_newCapacity_0f7a4_5 rfl hl (by decide) rfl (fun ls hl => ?_)
  refine lv_iload_n hx hb dc_J5_newCapacity_0f7a4_6 rfl (lv_at hl 2 rfl) ?_
  refine lv_aload_n hx hb dc_J5_newCapacity_0f7a4_7 rfl (lv_at hl 1 rfl) ?_
  refine va_get (D := G.1) (ci := 6) (v := .int (0)) (C := RJ4) (T := TJ4) (N := 4) hx hb hts ki_J4 hown hE.1 hP 0 rfl rfl 1 (by decide) (hts _ kw_1_63) (fun _ h9 => h9) rfl dc_J5_newCapacity_0f7a4_8 ?_
  refine lv_ishl hx hb dc_J5_newCapacity_0f7a4_11 ?_
  rw [show (((nI q) <<< ((0) &&& 31)) : Int32) = nI q from sb_shl0 _]
  refine lv_istore_n (lv' := [(3, .int (nI q)), (2, .int ((16 : Int32))), (0, .ref b), (1, .int (nI q))]) hx hb dc_J5_newCapacity_0f7a4_12 rfl hl (by decide) rfl (fun ls hl => ?_)
  refine lv_iload_n hx hb dc_J5_newCapacity_0f7a4_13 rfl (lv_at hl 0 rfl) ?_
  refine lv_iload_n hx hb dc_J5_newCapacity_0f7a4_14 rfl (lv_at hl 1 rfl) ?_
  refine lv_isub hx hb dc_J5_newCapacity_0f7a4_15 ?_
  rw [show (((nI q) - ((16 : Int32))) : Int32) = nI (q - 16) from pk_sub (b := 16) (by omega)]
  refine lv_istore (lv' := [(4, .int (nI (q - 16))), (3, .int (nI q)), (2, .int ((16 : Int32))), (0, .ref b), (1, .int (nI q))]) hx hb dc_J5_newCapacity_0f7a4_16 hl (by decide) rfl (fun ls hl => ?_)
  refine lv_iload_n hx hb dc_J5_newCapacity_0f7a4_18 rfl (lv_at hl 2 rfl) ?_
  refine lv_iload hx hb dc_J5_newCapacity_0f7a4_19 (lv_at hl 0 rfl) ?_
  refine lv_iload_n hx hb dc_J5_newCapacity_0f7a4_21 rfl (lv_at hl 2 rfl) ?_
  refine lv_iconst (v := 2) hx hb dc_J5_newCapacity_0f7a4_22 (by decide) ?_
  refine lv_aload_n hx hb dc_J5_newCapacity_0f7a4_23 rfl (lv_at hl 3 rfl) ?_
  refine va_get (D := G.1) (ci := 6) (v := .int (0)) (C := RJ4) (T := TJ4) (N := 4) hx hb hts ki_J4 hown hE.1 hP 0 rfl rfl 1 (by decide) (hts _ kw_1_63) (fun _ h9 => h9) rfl dc_J5_newCapacity_0f7a4_24 ?_
  refine lv_ishl hx hb dc_J5_newCapacity_0f7a4_27 ?_
  refine lv_iadd hx hb dc_J5_newCapacity_0f7a4_28 ?_
  rw [show ((((16 : Int32)) + (((2 : Int32)) <<< ((0) &&& 31))) : Int32) = (18 : Int32) from by decide]
  refine ky_cSh (As := [.int ((16 : Int32)), .int (nI (q - 16)), .int ((18 : Int32))]) (wr := [(b, .inr (6, [.ref va, .int (0), .int (ml), .int (nI (n))])), (va, .inl (G.2.1 0, mm, .inl (f)))]) F (hE.at hfr hS) hfr (mt_J8_newLength_cabcc l G (q - 16) s.heap.size (by omega)) ks_J5_114 ⟨⟨rfl, rfl⟩, Nat.le_of_ble_eq_true rfl, Nat.le_of_ble_eq_true rfl⟩ rfl hl.1 rfl (Nat.le_of_ble_eq_true rfl) ⟨Nat.le_of_ble_eq_true rfl, Nat.le_of_ble_eq_true rfl⟩ trivial hP hD hS hA [] [0, 1] rfl rfl (by decide) (by decide) (by decide) dc_J5_newCapacity_0f7a4_29 ?_
  rintro v9 u9 H locs rfl hP hD hS - hz hk9
  have hP : va_P G.1 kcl [(b, .inr (6, [.ref va, .int (0), .int (ml), .int (nI (n))])), (va, .inl (G.2.1 0, mm, .inl (f)))] H := hP
  have hD : va_D A [(b, .inr (6, [.ref va, .int (0), .int (ml), .int (nI (n))])), (va, .inl (G.2.1 0, mm, .inl (f)))] := hD
  refine W.widen (k := 0) (n := 0) (by first | exact Nat.le_refl _ | omega) (by first | exact Nat.le_refl _ | omega) ?_
  refine lv_istore (lv' := [(5, .int ((34 : Int32))), (4, .int (nI (q - 16))), (3, .int (nI q)), (2, .int ((16 : Int32))), (0, .ref b), (1, .int (nI q))]) hx hb dc_J5_newCapacity_0f7a4_32 hl (by decide) rfl (fun ls hl => ?_)
  refine lv_iload hx hb dc_J5_newCapacity_0f7a4_34 (lv_at hl 0 rfl) ?_
  refine lv_ldc (v := 2147483647) hx hb hown (hts _ kw_1_191) dc_J5_newCapacity_0f7a4_36 ?_
  refine lv_icmp_ne (tgt := 51) hx hb dc_J5_newCapacity_0f7a4_38 (by decide) (fun _ => ?_) (fun c_1 => absurd c_1 (by decide))
  refine lv_iload hx hb dc_J5_newCapacity_0f7a4_51 (lv_at hl 0 rfl) ?_
  refine lv_aload_n hx hb dc_J5_newCapacity_0f7a4_53 rfl (lv_at hl 4 rfl) ?_
  refine va_get (D := G.1) (ci := 6) (v := .int (0)) (C := RJ4) (T := TJ4) (N := 4) hx hb hts ki_J4 hown hE.1 hP 0 rfl rfl 1 (by decide) (hts _ kw_1_63) (fun _ h9 => h9) rfl dc_J5_newCapacity_0f7a4_54 ?_
  refine lv_ishr hx hb dc_J5_newCapacity_0f7a4_57 ?_
  rw [show ((((34 : Int32)) >>> ((0) &&& 31)) : Int32) = (34 : Int32) from by decide]
  have hP9 := hP.sub (ws' := [(b, .inr (6, [.ref va, .int (0), .int (ml), .int (nI (n))])), (va, .inl (G.2.1 0, mm, .inl (f)))]) [0, 1] rfl
  have hD9 := hD.sub (ws' := [(b, .inr (6, [.ref va, .int (0), .int (ml), .int (nI (n))])), (va, .inl (G.2.1 0, mm, .inl (f)))]) [0, 1] (by decide) rfl
  refine W.widen (k := 0) (n := 0) (Nat.le_of_ble_eq_true rfl) (Nat.le_of_ble_eq_true rfl) ?_
  exact W.iret (v := (34 : Int32)) hx hb hr (fun t ht hW => ⟨⟨_, (), rfl, rfl, by rw [ht]; exact hP9, hD9, trivial⟩, hS.F ht⟩) hS.2.2 dc_J5_newCapacity_0f7a4_58
set_option linter.constructorNameAsVariable false in
set_option maxHeartbeats 4000000 in
set_option maxRecDepth 100000 in
theorem mt_J7_copyOf_9075b (l : Launch) (G : ky_G) (a : Nat) (mm : Nat) (f : Nat → Int32) (sz : Nat) (em : mm = 16) (hf : ky_fit f) : Met l my_J7_copyOf_9075b (.code my_J7_copyOf_9075b prog_29_method_121_code 3 (Option.some (Jvm.ClassFile.FieldType.array Jvm.ClassFile.FieldType.byte)) :: ky_B) { frames := 1, cells := 1, slots := 34, locals := 40 } (ky_P G [.ref a, .int ((34 : Int32))] ([(a, .inl (G.2.1 0, mm, .inl f))]) sz (fun _ => True)) (ky_Q (S := Nat × (Nat → Int32)) G (va_A ([(a, .inl (G.2.1 0, mm, .inl f))]) sz) (fun v u => v = some (.ref u.1) ∧ ky_fit u.2) (fun u => [(a, .inl (G.2.1 0, mm, .inl f)), (u.1, .inl (G.2.1 0, 34, .inl u.2))]) (fun _ _ => True)) (1) (34) (va_A ([(a, .inl (G.2.1 0, mm, .inl f))]) sz) := by
  refine ky_start (by decide) (Nat.le_of_ble_eq_true rfl) (fun p e s m below meth c F hE A hAe hsz hA hfr hP hD hS hX ls hl => ?_)
  obtain ⟨hx, hb, hml, hown, hr, hlocks, hts⟩ := id F
  have hl : lv_has ls 3 [(0, .ref a), (1, .int ((34 : Int32)))] := hl
  have hP : va_P G.1 kcl [(a, .inl (G.2.1 0, mm, .inl (f)))] s.heap := hP
  have hD : va_D A [(a, .inl (G.2.1 0, mm, .inl (f)))] := hD
  refine lv_iload_n hx hb dc_J7_copyOf_9075b_0 rfl (lv_at hl 1 rfl) ?_
  refine lv_aload_n hx hb dc_J7_copyOf_9075b_1 rfl (lv_at hl 0 rfl) ?_
  refine va_alen hx hb hE.1 hP 0 0 rfl rfl (v := Int32.ofNat (mm)) rfl dc_J7_copyOf_9075b_2 ?_
  refine lv_icmp_ne (tgt := 14) hx hb dc_J7_copyOf_9075b_3 (by decide) (fun _ => ?_) (fun c_0 => absurd c_0 (by rw [em]; decide))
  refine lv_iload_n hx hb dc_J7_copyOf_9075b_14 rfl (lv_at hl 1 rfl) ?_
  refine va_newa (atype := .byte) (ty := .byte) (N' := 34) (a0 := (34, .inl (fun _ => 0))) hx hb (hts _ kw_1_77) rfl hE.1 hP hD hS hA (fun _ => rfl) (by decide) (by decide) (by decide) (Nat.le_of_ble_eq_true rfl) (Nat.le_of_ble_eq_true rfl) dc_J7_copyOf_9075b_15 (fun q_1 cA_1 H hK_1 hP hD hS => ?_)
  have hc_1 : cA_1 = G.2.1 0 := ky_nB 0 hE.1 hK_1 rfl (fun _ h => by cases h)
  subst hc_1
  have hP : va_P G.1 kcl [(a, .inl (G.2.1 0, mm, .inl (f))), (q_1, .inl (G.2.1 0, 34, .inl (fun _ => 0)))] H := hP
  have hD : va_D A [(a, .inl (G.2.1 0, mm, .inl (f))), (q_1, .inl (G.2.1 0, 34, .inl (fun _ => 0)))] := hD
  refine W.widen (k := 1) (n := 34) (by first | exact Nat.le_refl _ | omega) (by first | exact Nat.le_refl _ | omega) ?_
  refine lv_astore_n (lv' := [(2, .ref q_1), (0, .ref a), (1, .int ((34 : Int32)))]) hx hb dc_J7_copyOf_9075b_17 rfl hl (by decide) rfl (fun ls hl => ?_)
  refine lv_aload_n hx hb dc_J7_copyOf_9075b_18 rfl (lv_at hl 1 rfl) ?_
  refine lv_iconst (v := 0) hx hb dc_J7_copyOf_9075b_19 (by decide) ?_
  refine lv_aload_n hx hb dc_J7_copyOf_9075b_20 rfl (lv_at hl 0 rfl) ?_
  refine lv_iconst (v := 0) hx hb dc_J7_copyOf_9075b_21 (by decide) ?_
  refine lv_aload_n hx hb dc_J7_copyOf_9075b_22 rfl (lv_at hl 1 rfl) ?_
  refine va_alen hx hb hE.1 hP 0 0 rfl rfl (v := Int32.ofNat (mm)) rfl dc_J7_copyOf_9075b_23 ?_
  rw [show ((Int32.ofNat (mm)) : Int32) = (16 : Int32) from by rw [em]; rfl]
  refine lv_iload_n hx hb dc_J7_copyOf_9075b_24 rfl (lv_at hl 2 rfl) ?_
  refine ky_imin F ⟨kw_1_202, kw_1_203, kw_1_16, kw_1_204⟩ hl.1 (Nat.le_of_ble_eq_true rfl) (Nat.le_of_ble_eq_true rfl) ⟨Nat.le_of_ble_eq_true rfl, Nat.le_of_ble_eq_true rfl⟩ dc_J7_copyOf_9075b_25 ?_
  rw [show ((jimin ((16 : Int32)) ((34 : Int32))) : Int32) = (16 : Int32) from by decide]
  refine va_copyi hx hb (hml.trans hl.1.symm) hown (hts _ kw_1_205) (hts _ kw_1_207) (hts _ kw_1_206) (hts _ kw_1_23) hE.1 hP hD hS 0 1 0 0 rfl rfl rfl rfl rfl (by decide) (by decide) (by decide) (by rw [em]; decide) (by decide) (fun i _ => hf _) (Nat.le_of_ble_eq_true rfl) (Nat.le_of_ble_eq_true rfl) dc_J7_copyOf_9075b_28 (fun H locs hP hD hS => ?_)
  have hP : va_P G.1 kcl [(a, .inl (G.2.1 0, mm, .inl (f))), (q_1, .inl (G.2.1 0, 34, .inl (va_cpy (f) (fun _ => 0) ((0 : Int32)).toNatClampNeg ((0 : Int32)).toNatClampNeg ((16 : Int32)).toNatClampNeg)))] H := hP
  have hD : va_D A [(a, .inl (G.2.1 0, mm, .inl (f))), (q_1, .inl (G.2.1 0, 34, .inl (va_cpy (f) (fun _ => 0) ((0 : Int32)).toNatClampNeg ((0 : Int32)).toNatClampNeg ((16 : Int32)).toNatClampNeg)))] := hD
  refine lv_aload_n hx hb dc_J7_copyOf_9075b_31 rfl (lv_at hl 0 rfl) ?_
  have hP9 := hP.sub (ws' := [(a, .inl (G.2.1 0, mm, .inl (f))), (q_1, .inl (G.2.1 0, 34, .inl (va_cpy (f) (fun _ => 0) ((0 : Int32)).toNatClampNeg ((0 : Int32)).toNatClampNeg ((16 : Int32)).toNatClampNeg)))]) [0, 1] rfl
  have hD9 := hD.sub (ws' := [(a, .inl (G.2.1 0, mm, .inl (f))), (q_1, .inl (G.2.1 0, 34, .inl (va_cpy (f) (fun _ => 0) ((0 : Int32)).toNatClampNeg ((0 : Int32)).toNatClampNeg ((16 : Int32)).toNatClampNeg)))]) [0, 1] (by decide) rfl
  refine W.widen (k := 1) (n := 34) (Nat.le_of_ble_eq_true rfl) (Nat.le_of_ble_eq_true rfl) ?_
  exact W.aret (v := .ref q_1) hx hb hr (Or.inr ⟨_, rfl⟩) (Or.inr ⟨_, rfl⟩) (fun t ht hW => ⟨⟨_, (q_1, va_cpy (f) (fun _ => 0) ((0 : Int32)).toNatClampNeg ((0 : Int32)).toNatClampNeg ((16 : Int32)).toNatClampNeg), rfl, ⟨rfl, ky_fitC hf ky_fit0 _ _ _⟩, by rw [ht]; exact hP9, hD9, trivial⟩, hS.F ht⟩) hS.2.2 dc_J7_copyOf_9075b_32
set_option linter.constructorNameAsVariable false in
set_option maxHeartbeats 4000000 in
set_option maxRecDepth 100000 in
theorem mt_J5_ensureCapacityInternal_d00df (l : Launch) (G : ky_G) (b : Nat) (va : Nat) (mm : Nat) (n : Nat) (f : Nat → Int32) (ml : Int32) (q : Nat) (sz : Nat) (hm : ky_m2 mm) (hf : ky_fit f) (hq : q ≤ 34) : Met l my_J5_ensureCapacityInternal_d00df (.code my_J5_ensureCapacityInternal_d00df prog_12_method_9_code 3 none :: ky_B) { frames := 3, cells := ky_gc mm q, slots := ky_gs mm q, locals := 62 } (ky_P G [.ref b, .int (nI q)] (ky_WT G b va mm n f ml) sz (fun _ => True)) (ky_Q (S := Nat × (Nat → Int32)) G (va_A (ky_WT G b va mm n f ml) sz) (fun v u => v = none ∧ ky_fit u.2) (fun u => ky_WT G b u.1 (ky_cap mm q) n u.2 ml) (fun _ _ => True)) (ky_gc mm q) (ky_gs mm q) (va_A (ky_WT G b va mm n f ml) sz) := by
  refine ky_start (by decide) (Nat.le_of_ble_eq_true rfl) (fun p e s m below meth c F hE A hAe hsz hA hfr hP hD hS hX ls hl => ?_)
  obtain ⟨hx, hb, hml, hown, hr, hlocks, hts⟩ := id F
  have hl : lv_has ls 3 [(0, .ref b), (1, .int (nI q))] := hl
  have hP : va_P G.1 kcl [(b, .inr (6, [.ref va, .int (0), .int (ml), .int (nI (n))])), (va, .inl (G.2.1 0, mm, .inl (f)))] s.heap := hP
  have hD : va_D A [(b, .inr (6, [.ref va, .int (0), .int (ml), .int (nI (n))])), (va, .inl (G.2.1 0, mm, .inl (f)))] := hD
  refine lv_aload_n hx hb dc_J5_ensureCapacityInternal_d00df_0 rfl (lv_at hl 0 rfl) ?_
  refine va_get (D := G.1) (ci := 6) (v := .ref va) (C := RJ4) (T := TJ4) (N := 4) hx hb hts ki_J4 hown hE.1 hP 0 rfl rfl 0 (by decide) (hts _ kw_1_62) (fun _ h9 => h9) rfl dc_J5_ensureCapacityInternal_d00df_1 ?_
  refine va_alen hx hb hE.1 hP 1 0 rfl rfl (v := Int32.ofNat (mm)) rfl dc_J5_ensureCapacityInternal_d00df_4 ?_
  refine lv_aload_n hx hb dc_J5_ensureCapacityInternal_d00df_5 rfl (lv_at hl 0 rfl) ?_
  refine va_get (D := G.1) (ci := 6) (v := .int (0)) (C := RJ4) (T := TJ4) (N := 4) hx hb hts ki_J4 hown hE.1 hP 0 rfl rfl 1 (by decide) (hts _ kw_1_63) (fun _ h9 => h9) rfl dc_J5_ensureCapacityInternal_d00df_6 ?_
  refine lv_ishr hx hb dc_J5_ensureCapacityInternal_d00df_9 ?_
  rw [show (((Int32.ofNat (mm)) >>> ((0) &&& 31)) : Int32) = nI mm from sb_shr0 _]
  refine lv_istore_n (lv' := [(2, .int (nI mm)), (0, .ref b), (1, .int (nI q))]) hx hb dc_J5_ensureCapacityInternal_d00df_10 rfl hl (by decide) rfl (fun ls hl => ?_)
  refine lv_iload_n hx hb dc_J5_ensureCapacityInternal_d00df_11 rfl (lv_at hl 2 rfl) ?_
  refine lv_iload_n hx hb dc_J5_ensureCapacityInternal_d00df_12 rfl (lv_at hl 0 rfl) ?_
  refine lv_isub hx hb dc_J5_ensureCapacityInternal_d00df_13 ?_
  refine lv_if_le (tgt := 38) hx hb dc_J5_ensureCapacityInternal_d00df_14 (by decide) (fun c_0 => ?_) (fun c_0 => ?_)
  · skip
    have hq2 : q ≤ mm := ky_sle (by omega) hm.lt c_0
    have e9 : ky_cap mm q = mm := ky_cap0 hq2
    have hP9 := hP.sub (ws' := [(b, .inr (6, [.ref va, .int (0), .int (ml), .int (nI (n))])), (va, .inl (G.2.1 0, mm, .inl (f)))]) [0, 1] rfl
    have hD9 := hD.sub (ws' := [(b, .inr (6, [.ref va, .int (0), .int (ml), .int (nI (n))])), (va, .inl (G.2.1 0, mm, .inl (f)))]) [0, 1] (by decide) rfl
    rw [show ([(b, .inr (6, [.ref va, .int (0), .int (ml), .int (nI (n))])), (va, .inl (G.2.1 0, mm, .inl (f)))] : va_W) = [(b, .inr (6, [.ref va, .int (0), .int (ml), .int (nI (n))])), (va, .inl (G.2.1 0, ky_cap mm q, .inl (f)))] by rw [e9]] at hP9 hD9
    refine W.widen (k := ky_gc mm q) (n := ky_gs mm q) (by first | omega | exact Nat.zero_le _) (by first | omega | exact Nat.zero_le _) ?_
    exact W.vret hx hb hr (fun t ht hW => ⟨⟨_, (va, f), rfl, ⟨rfl, hf⟩, by rw [ht]; exact hP9, hD9, trivial⟩, hS.F ht⟩) hS.2.2 dc_J5_ensureCapacityInternal_d00df_38
  · skip
    have hq1 : ¬ q ≤ mm := ky_nsle (by omega) hm.lt c_0
    have em : mm = 16 := hm.small hq hq1
    have e1 : ky_gc mm q = 1 := ky_gc1 hq1
    have e2 : ky_gs mm q = 34 := ky_gs1 hq1
    refine lv_aload_n hx hb dc_J5_ensureCapacityInternal_d00df_17 rfl (lv_at hl 1 rfl) ?_
    refine lv_aload_n hx hb dc_J5_ensureCapacityInternal_d00df_18 rfl (lv_at hl 1 rfl) ?_
    refine va_get (D := G.1) (ci := 6) (v := .ref va) (C := RJ4) (T := TJ4) (N := 4) hx hb hts ki_J4 hown hE.1 hP 0 rfl rfl 0 (by decide) (hts _ kw_1_62) (fun _ h9 => h9) rfl dc_J5_ensureCapacityInternal_d00df_19 ?_
    refine lv_aload_n hx hb dc_J5_ensureCapacityInternal_d00df_22 rfl (lv_at hl 1 rfl) ?_
    refine lv_iload_n hx hb dc_J5_ensureCapacityInternal_d00df_23 rfl (lv_at hl 2 rfl) ?_
    refine ky_cUh (As := [.int (nI q)]) (wr := []) F (hE.at hfr hS) hfr (mt_J5_newCapacity_0f7a4 l G b va mm n f ml q s.heap.size em hq1 hq) (ku_J5_104.cu hE hts ⟨⟨rfl, rfl⟩, Nat.le_of_ble_eq_true rfl, Nat.le_of_ble_eq_true rfl⟩) rfl hl.1 rfl (Nat.le_of_ble_eq_true rfl) ⟨by show (_ : Nat) ≤ ky_gc mm q; omega, by show (_ : Nat) ≤ ky_gs mm q; omega⟩ (va_recv hE.1 hP (ci := 6) (q0 := 0) rfl rfl) trivial hP hD hS hA [0, 1] [] rfl rfl (by decide) (by decide) (by decide) dc_J5_ensureCapacityInternal_d00df_24 ?_
    rintro v9 u9 H locs rfl hP hD hS - hz hk9
    have hP : va_P G.1 kcl [(b, .inr (6, [.ref va, .int (0), .int (ml), .int (nI (n))])), (va, .inl (G.2.1 0, mm, .inl (f)))] H := hP
    have hD : va_D A [(b, .inr (6, [.ref va, .int (0), .int (ml), .int (nI (n))])), (va, .inl (G.2.1 0, mm, .inl (f)))] := hD
    refine W.widen (k := 0) (n := 0) (by first | exact Nat.le_refl _ | omega) (by first | exact Nat.le_refl _ | omega) ?_
    refine lv_aload_n hx hb dc_J5_ensureCapacityInternal_d00df_27 rfl (lv_at hl 1 rfl) ?_
    refine va_get (D := G.1) (ci := 6) (v := .int (0)) (C := RJ4) (T := TJ4) (N := 4) hx hb hts ki_J4 hown hE.1 hP 0 rfl rfl 1 (by decide) (hts _ kw_1_63) (fun _ h9 => h9) rfl dc_J5_ensureCapacityInternal_d00df_28 ?_
    refine lv_ishl hx hb dc_J5_ensureCapacityInternal_d00df_31 ?_
    rw [show ((((34 : Int32)) <<< ((0) &&& 31)) : Int32) = (34 : Int32) from by decide]
    refine ky_cSh (As := [.ref va, .int ((34 : Int32))]) (wr := [(b, .inr (6, [.ref va, .int (0), .int (ml), .int (nI (n))]))]) F (hE.at hfr hS) hfr (mt_J7_copyOf_9075b l G va mm f H.size em hf) ks_J5_108 ⟨⟨rfl, rfl⟩, Nat.le_of_ble_eq_true rfl, Nat.le_of_ble_eq_true rfl⟩ rfl hl.1 rfl (Nat.le_of_ble_eq_true rfl) ⟨by show (_ : Nat) ≤ ky_gc mm q; omega, by show (_ : Nat) ≤ ky_gs mm q; omega⟩ trivial hP hD hS hA [1] [0] rfl rfl (by decide) (by decide) (by decide) dc_J5_ensureCapacityInternal_d00df_32 ?_
    rintro v9 ⟨va_2, f_2⟩ H locs ⟨rfl, hf_2⟩ hP hD hS - hz hk9
    have hP : va_P G.1 kcl [(b, .inr (6, [.ref va, .int (0), .int (ml), .int (nI (n))])), (va, .inl (G.2.1 0, mm, .inl (f))), (va_2, .inl (G.2.1 0, 34, .inl (f_2)))] H := hP
    have hD : va_D A [(b, .inr (6, [.ref va, .int (0), .int (ml), .int (nI (n))])), (va, .inl (G.2.1 0, mm, .inl (f))), (va_2, .inl (G.2.1 0, 34, .inl (f_2)))] := hD
    refine W.widen (k := 1) (n := 34) (by first | exact Nat.le_refl _ | omega) (by first | exact Nat.le_refl _ | omega) ?_
    refine va_put (D := G.1) (ci := 6) (v := .ref va_2) (ty := .array .byte) (C := RJ4) (T := TJ4) (N := 4) hx hb hts ki_J4 tyJ4 tyJ4_ok nmJ4 hown hE.1 hP hD hS 0 rfl rfl 0 (by decide) (hts _ kw_1_62) (fun _ h9 => h9) rfl (by decide +kernel) rfl rfl (Nat.le_of_ble_eq_true rfl) dc_J5_ensureCapacityInternal_d00df_35 (fun H locs hP hD hS => ?_)
    have hP : va_P G.1 kcl [(b, .inr (6, [.ref va_2, .int (0), .int (ml), .int (nI (n))])), (va, .inl (G.2.1 0, mm, .inl (f))), (va_2, .inl (G.2.1 0, 34, .inl (f_2)))] H := hP
    have hD : va_D A [(b, .inr (6, [.ref va_2, .int (0), .int (ml), .int (nI (n))])), (va, .inl (G.2.1 0, mm, .inl (f))), (va_2, .inl (G.2.1 0, 34, .inl (f_2)))] := hD
    have e9 : ky_cap mm q = 34 := ky_cap1 hq1
    have hP9 := hP.sub (ws' := [(b, .inr (6, [.ref va_2, .int (0), .int (ml), .int (nI (n))])), (va_2, .inl (G.2.1 0, 34, .inl (f_2)))]) [0, 2] rfl
    have hD9 := hD.sub (ws' := [(b, .inr (6, [.ref va_2, .int (0), .int (ml), .int (nI (n))])), (va_2, .inl (G.2.1 0, 34, .inl (f_2)))]) [0, 2] (by decide) rfl
    rw [show ([(b, .inr (6, [.ref va_2, .int (0), .int (ml), .int (nI (n))])), (va_2, .inl (G.2.1 0, 34, .inl (f_2)))] : va_W) = [(b, .inr (6, [.ref va_2, .int (0), .int (ml), .int (nI (n))])), (va_2, .inl (G.2.1 0, ky_cap mm q, .inl (f_2)))] by rw [e9]] at hP9 hD9
    refine W.widen (k := ky_gc mm q) (n := ky_gs mm q) (by first | omega | exact Nat.zero_le _) (by first | omega | exact Nat.zero_le _) ?_
    exact W.vret hx hb hr (fun t ht hW => ⟨⟨_, (va_2, f_2), rfl, ⟨rfl, hf_2⟩, by rw [ht]; exact hP9, hD9, trivial⟩, hS.F ht⟩) hS.2.2 dc_J5_ensureCapacityInternal_d00df_38
set_option linter.constructorNameAsVariable false in
set_option maxHeartbeats 4000000 in
set_option maxRecDepth 100000 in
theorem mt_J5_setLength_d00df (l : Launch) (G : ky_G) (b : Nat) (va : Nat) (mm : Nat) (n : Nat) (f : Nat → Int32) (ml : Int32) (sz : Nat) (hm : ky_m2 mm) (hf : ky_fit f) (hn : n ≤ 34) : Met l my_J5_setLength_d00df (.code my_J5_setLength_d00df prog_12_method_13_code 2 none :: ky_B) { frames := 4, cells := ky_gc mm 0, slots := ky_gs mm 0, locals := 84 } (ky_P G [.ref b, .int (nI 0)] (ky_WT G b va mm n f ml) sz (fun _ => True)) (ky_Q (S := Nat × (Nat → Int32) × Int32) G (va_A (ky_WT G b va mm n f ml) sz) (fun v u => v = none ∧ ky_fit u.2.1) (fun u => ky_WT G b u.1 mm 0 u.2.1 u.2.2) (fun _ _ => True)) (ky_gc mm 0) (ky_gs mm 0) (va_A (ky_WT G b va mm n f ml) sz) := by
  refine ky_start (by decide) (Nat.le_of_ble_eq_true rfl) (fun p e s m below meth c F hE A hAe hsz hA hfr hP hD hS hX ls hl => ?_)
  obtain ⟨hx, hb, hml, hown, hr, hlocks, hts⟩ := id F
  have hl : lv_has ls 2 [(0, .ref b), (1, .int (nI 0))] := hl
  have hP : va_P G.1 kcl [(b, .inr (6, [.ref va, .int (0), .int (ml), .int (nI (n))])), (va, .inl (G.2.1 0, mm, .inl (f)))] s.heap := hP
  have hD : va_D A [(b, .inr (6, [.ref va, .int (0), .int (ml), .int (nI (n))])), (va, .inl (G.2.1 0, mm, .inl (f)))] := hD
  refine lv_iload_n hx hb dc_J5_setLength_d00df_0 rfl (lv_at hl 1 rfl) ?_
  refine lv_if_ge (tgt := 13) hx hb dc_J5_setLength_d00df_1 (by decide) (fun _ => ?_) (fun c_0 => absurd (by decide) c_0)
  refine lv_aload_n hx hb dc_J5_setLength_d00df_13 rfl (lv_at hl 0 rfl) ?_
  refine lv_iload_n hx hb dc_J5_setLength_d00df_14 rfl (lv_at hl 1 rfl) ?_
  refine ky_cUh (As := [.int (nI 0)]) (wr := []) F (hE.at hfr hS) hfr (mt_J5_ensureCapacityInternal_d00df l G b va mm n f ml 0 s.heap.size hm hf (by omega)) (ku_J5_100.cu hE hts ⟨⟨rfl, rfl⟩, Nat.le_of_ble_eq_true rfl, Nat.le_of_ble_eq_true rfl⟩) rfl hl.1 rfl (Nat.le_of_ble_eq_true rfl) ⟨by show (_ : Nat) ≤ ky_gc mm 0; omega, by show (_ : Nat) ≤ ky_gs mm 0; omega⟩ (va_recv hE.1 hP (ci := 6) (q0 := 0) rfl rfl) trivial hP hD hS hA [0, 1] [] rfl rfl (by decide) (by decide) (by decide) dc_J5_setLength_d00df_15 ?_
  rintro v9 ⟨va_1, f_1⟩ H locs ⟨rfl, hf_1⟩ hP hD hS - hz hk9
  have hP : va_P G.1 kcl [(b, .inr (6, [.ref va_1, .int (0), .int (ml), .int (nI (n))])), (va_1, .inl (G.2.1 0, ky_cap mm 0, .inl (f_1)))] H := hP
  have hD : va_D A [(b, .inr (6, [.ref va_1, .int (0), .int (ml), .int (nI (n))])), (va_1, .inl (G.2.1 0, ky_cap mm 0, .inl (f_1)))] := hD
  refine W.widen (k := (ky_gc mm 0)) (n := (ky_gs mm 0)) (by first | exact Nat.le_refl _ | omega) (by first | exact Nat.le_refl _ | omega) ?_
  rw [show ([(b, .inr (6, [.ref va_1, .int (0), .int (ml), .int (nI (n))])), (va_1, .inl (G.2.1 0, ky_cap mm 0, .inl (f_1)))] : va_W) = [(b, .inr (6, [.ref va_1, .int (0), .int (ml), .int (nI (n))])), (va_1, .inl (G.2.1 0, mm, .inl (f_1)))] by rw [ky_cap0 (Nat.zero_le mm)]] at hP hD
  refine lv_aload_n hx hb dc_J5_setLength_d00df_18 rfl (lv_at hl 0 rfl) ?_
  refine va_get (D := G.1) (ci := 6) (v := .int (nI (n))) (C := RJ4) (T := TJ4) (N := 4) hx hb hts ki_J4 hown hE.1 hP 0 rfl rfl 3 (by decide) (hts _ kw_1_66) (fun _ h9 => h9) rfl dc_J5_setLength_d00df_19 ?_
  refine lv_iload_n hx hb dc_J5_setLength_d00df_22 rfl (lv_at hl 1 rfl) ?_
  refine lv_icmp_ge (tgt := 63) hx hb dc_J5_setLength_d00df_23 (by decide) (fun _ => ?_) (fun c_2 => absurd (nI_le (Nat.zero_le _) (by omega)) c_2)
  refine lv_aload_n hx hb dc_J5_setLength_d00df_63 rfl (lv_at hl 0 rfl) ?_
  refine va_get (D := G.1) (ci := 6) (v := .int (nI (n))) (C := RJ4) (T := TJ4) (N := 4) hx hb hts ki_J4 hown hE.1 hP 0 rfl rfl 3 (by decide) (hts _ kw_1_66) (fun _ h9 => h9) rfl dc_J5_setLength_d00df_64 ?_
  refine lv_iload_n hx hb dc_J5_setLength_d00df_67 rfl (lv_at hl 1 rfl) ?_
  refine lv_icmp_le (tgt := 76) hx hb dc_J5_setLength_d00df_68 (by decide) (fun c_3 => ?_) (fun c_3 => ?_)
  · skip
    refine lv_aload_n hx hb dc_J5_setLength_d00df_76 rfl (lv_at hl 0 rfl) ?_
    refine lv_iload_n hx hb dc_J5_setLength_d00df_77 rfl (lv_at hl 1 rfl) ?_
    refine va_put (D := G.1) (ci := 6) (v := .int (nI 0)) (ty := .int) (C := RJ4) (T := TJ4) (N := 4) hx hb hts ki_J4 tyJ4 tyJ4_ok nmJ4 hown hE.1 hP hD hS 0 rfl rfl 3 (by decide) (hts _ kw_1_66) (fun _ h9 => h9) rfl (by decide +kernel) rfl rfl (Nat.le_of_ble_eq_true rfl) dc_J5_setLength_d00df_78 (fun H locs hP hD hS => ?_)
    have hP : va_P G.1 kcl [(b, .inr (6, [.ref va_1, .int (0), .int (ml), .int (nI 0)])), (va_1, .inl (G.2.1 0, mm, .inl (f_1)))] H := hP
    have hD : va_D A [(b, .inr (6, [.ref va_1, .int (0), .int (ml), .int (nI 0)])), (va_1, .inl (G.2.1 0, mm, .inl (f_1)))] := hD
    have hP9 := hP.sub (ws' := [(b, .inr (6, [.ref va_1, .int (0), .int (ml), .int (nI 0)])), (va_1, .inl (G.2.1 0, mm, .inl (f_1)))]) [0, 1] rfl
    have hD9 := hD.sub (ws' := [(b, .inr (6, [.ref va_1, .int (0), .int (ml), .int (nI 0)])), (va_1, .inl (G.2.1 0, mm, .inl (f_1)))]) [0, 1] (by decide) rfl
    refine W.widen (k := ky_gc mm 0) (n := ky_gs mm 0) (by omega) (by omega) ?_
    exact W.vret hx hb hr (fun t ht hW => ⟨⟨_, (va_1, f_1, ml), rfl, ⟨rfl, hf_1⟩, by rw [ht]; exact hP9, hD9, trivial⟩, hS.F ht⟩) hS.2.2 dc_J5_setLength_d00df_81
  · skip
    refine lv_aload_n hx hb dc_J5_setLength_d00df_71 rfl (lv_at hl 0 rfl) ?_
    refine lv_iconst (v := 1) hx hb dc_J5_setLength_d00df_72 (by decide) ?_
    refine va_put (D := G.1) (ci := 6) (v := .int ((1 : Int32))) (ty := .boolean) (C := RJ4) (T := TJ4) (N := 4) hx hb hts ki_J4 tyJ4 tyJ4_ok nmJ4 hown hE.1 hP hD hS 0 rfl rfl 2 (by decide) (hts _ kw_1_64) (fun _ h9 => h9) rfl (by decide +kernel) rfl rfl (Nat.le_of_ble_eq_true rfl) dc_J5_setLength_d00df_73 (fun H locs hP hD hS => ?_)
    have hP : va_P G.1 kcl [(b, .inr (6, [.ref va_1, .int (0), .int ((1 : Int32)), .int (nI (n))])), (va_1, .inl (G.2.1 0, mm, .inl (f_1)))] H := hP
    have hD : va_D A [(b, .inr (6, [.ref va_1, .int (0), .int ((1 : Int32)), .int (nI (n))])), (va_1, .inl (G.2.1 0, mm, .inl (f_1)))] := hD
    refine lv_aload_n hx hb dc_J5_setLength_d00df_76 rfl (lv_at hl 0 rfl) ?_
    refine lv_iload_n hx hb dc_J5_setLength_d00df_77 rfl (lv_at hl 1 rfl) ?_
    refine va_put (D := G.1) (ci := 6) (v := .int (nI 0)) (ty := .int) (C := RJ4) (T := TJ4) (N := 4) hx hb hts ki_J4 tyJ4 tyJ4_ok nmJ4 hown hE.1 hP hD hS 0 rfl rfl 3 (by decide) (hts _ kw_1_66) (fun _ h9 => h9) rfl (by decide +kernel) rfl rfl (Nat.le_of_ble_eq_true rfl) dc_J5_setLength_d00df_78 (fun H locs hP hD hS => ?_)
    have hP : va_P G.1 kcl [(b, .inr (6, [.ref va_1, .int (0), .int ((1 : Int32)), .int (nI 0)])), (va_1, .inl (G.2.1 0, mm, .inl (f_1)))] H := hP
    have hD : va_D A [(b, .inr (6, [.ref va_1, .int (0), .int ((1 : Int32)), .int (nI 0)])), (va_1, .inl (G.2.1 0, mm, .inl (f_1)))] := hD
    have hP9 := hP.sub (ws' := [(b, .inr (6, [.ref va_1, .int (0), .int ((1 : Int32)), .int (nI 0)])), (va_1, .inl (G.2.1 0, mm, .inl (f_1)))]) [0, 1] rfl
    have hD9 := hD.sub (ws' := [(b, .inr (6, [.ref va_1, .int (0), .int ((1 : Int32)), .int (nI 0)])), (va_1, .inl (G.2.1 0, mm, .inl (f_1)))]) [0, 1] (by decide) rfl
    refine W.widen (k := ky_gc mm 0) (n := ky_gs mm 0) (by omega) (by omega) ?_
    exact W.vret hx hb hr (fun t ht hW => ⟨⟨_, (va_1, f_1, (1 : Int32)), rfl, ⟨rfl, hf_1⟩, by rw [ht]; exact hP9, hD9, trivial⟩, hS.F ht⟩) hS.2.2 dc_J5_setLength_d00df_81
set_option linter.constructorNameAsVariable false in
set_option maxHeartbeats 4000000 in
set_option maxRecDepth 100000 in
theorem mt_J4_setLength_d00df (l : Launch) (G : ky_G) (b : Nat) (va : Nat) (mm : Nat) (n : Nat) (f : Nat → Int32) (ml : Int32) (sz : Nat) (hm : ky_m2 mm) (hf : ky_fit f) (hn : n ≤ 34) : Met l my_J4_setLength_d00df (.code my_J4_setLength_d00df prog_23_method_89_code 2 none :: ky_B) { frames := 5, cells := ky_gc mm 0, slots := ky_gs mm 0, locals := 105 } (ky_P G [.ref b, .int (nI 0)] (ky_WT G b va mm n f ml) sz (fun _ => True)) (ky_Q (S := Nat × (Nat → Int32) × Int32) G (va_A (ky_WT G b va mm n f ml) sz) (fun v u => v = none ∧ ky_fit u.2.1) (fun u => ky_WT G b u.1 mm 0 u.2.1 u.2.2) (fun _ _ => True)) (ky_gc mm 0) (ky_gs mm 0) (va_A (ky_WT G b va mm n f ml) sz) := by
  refine ky_start (by decide) (Nat.le_of_ble_eq_true rfl) (fun p e s m below meth c F hE A hAe hsz hA hfr hP hD hS hX ls hl => ?_)
  obtain ⟨hx, hb, hml, hown, hr, hlocks, hts⟩ := id F
  have hl : lv_has ls 2 [(0, .ref b), (1, .int (nI 0))] := hl
  have hP : va_P G.1 kcl [(b, .inr (6, [.ref va, .int (0), .int (ml), .int (nI (n))])), (va, .inl (G.2.1 0, mm, .inl (f)))] s.heap := hP
  have hD : va_D A [(b, .inr (6, [.ref va, .int (0), .int (ml), .int (nI (n))])), (va, .inl (G.2.1 0, mm, .inl (f)))] := hD
  refine lv_aload_n hx hb dc_J4_setLength_d00df_0 rfl (lv_at hl 0 rfl) ?_
  refine lv_iload_n hx hb dc_J4_setLength_d00df_1 rfl (lv_at hl 1 rfl) ?_
  refine ky_cWh (ci := 6) (As := [.int (nI 0)]) (wr := []) F (hE.at hfr hS) hfr hE.1 rfl (mt_J5_setLength_d00df l G b va mm n f ml s.heap.size hm hf hn) ku_J4_333 ⟨⟨rfl, rfl⟩, Nat.le_of_ble_eq_true rfl, Nat.le_of_ble_eq_true rfl⟩ rfl hl.1 rfl (Nat.le_of_ble_eq_true rfl) ⟨by show (_ : Nat) ≤ ky_gc mm 0; omega, by show (_ : Nat) ≤ ky_gs mm 0; omega⟩ (va_recv hE.1 hP (ci := 6) (q0 := 0) rfl rfl) trivial hP hD hS hA [0, 1] [] rfl rfl (by decide) (by decide) (by decide) dc_J4_setLength_d00df_2 ?_
  rintro v9 ⟨va_0, f_0, ml_0⟩ H locs ⟨rfl, hf_0⟩ hP hD hS - hz hk9
  have hP : va_P G.1 kcl [(b, .inr (6, [.ref va_0, .int (0), .int (ml_0), .int (nI (0))])), (va_0, .inl (G.2.1 0, mm, .inl (f_0)))] H := hP
  have hD : va_D A [(b, .inr (6, [.ref va_0, .int (0), .int (ml_0), .int (nI (0))])), (va_0, .inl (G.2.1 0, mm, .inl (f_0)))] := hD
  refine W.widen (k := (ky_gc mm 0)) (n := (ky_gs mm 0)) (by first | exact Nat.le_refl _ | omega) (by first | exact Nat.le_refl _ | omega) ?_
  have hP9 := hP.sub (ws' := [(b, .inr (6, [.ref va_0, .int (0), .int (ml_0), .int (nI (0))])), (va_0, .inl (G.2.1 0, mm, .inl (f_0)))]) [0, 1] rfl
  have hD9 := hD.sub (ws' := [(b, .inr (6, [.ref va_0, .int (0), .int (ml_0), .int (nI (0))])), (va_0, .inl (G.2.1 0, mm, .inl (f_0)))]) [0, 1] (by decide) rfl
  refine W.widen (k := ky_gc mm 0) (n := ky_gs mm 0) (by omega) (by omega) ?_
  exact W.vret hx hb hr (fun t ht hW => ⟨⟨_, (va_0, f_0, ml_0), rfl, ⟨rfl, hf_0⟩, by rw [ht]; exact hP9, hD9, trivial⟩, hS.F ht⟩) hS.2.2 dc_J4_setLength_d00df_5
set_option linter.constructorNameAsVariable false in
set_option maxHeartbeats 4000000 in
set_option maxRecDepth 100000 in
theorem mt_J1_canEncode_fc78d (l : Launch) (G : ky_G) (a0 : Int32) (sz : Nat) (hc : ¬ (255 : Int32) < a0) : Met l my_J1_canEncode_fc78d (.code my_J1_canEncode_fc78d prog_25_method_3_code 1 (some .boolean) :: ky_B) { frames := 0, cells := 0, slots := 0, locals := 0 } (ky_P G [.int (a0)] ([]) sz (fun _ => True)) (ky_Q (S := Unit) G (va_A ([]) sz) (fun v _ => v = some (.int 1)) (fun _ => []) (fun _ _ => True)) (0) (0) (va_A ([]) sz) := by
  refine ky_start (by decide) (Nat.le_of_ble_eq_true rfl) (fun p e s m below meth c F hE A hAe hsz hA hfr hP hD hS hX ls hl => ?_)
  obtain ⟨hx, hb, hml, hown, hr, hlocks, hts⟩ := id F
  have hl : lv_has ls 1 [(0, .int (a0))] := hl
  have hP : va_P G.1 kcl [] s.heap := hP
  have hD : va_D A [] := hD
  refine lv_iload_n hx hb dc_J1_canEncode_fc78d_0 rfl (lv_at hl 0 rfl) ?_
  refine lv_sipush (v := 255) hx hb dc_J1_canEncode_fc78d_1 (by decide) ?_
  refine lv_icmp_gt (tgt := 11) hx hb dc_J1_canEncode_fc78d_4 (by decide) (fun c_0 => absurd c_0 (hc)) (fun _ => ?_)
  refine lv_iconst (v := 1) hx hb dc_J1_canEncode_fc78d_7 (by decide) ?_
  refine lv_goto (tgt := 12) hx hb dc_J1_canEncode_fc78d_8 (by decide) ?_
  have hP9 := hP.sub (ws' := []) [] rfl
  have hD9 := hD.sub (ws' := []) [] (by decide) rfl
  refine W.widen (k := 0) (n := 0) (Nat.le_of_ble_eq_true rfl) (Nat.le_of_ble_eq_true rfl) ?_
  exact W.zret (v := (1 : Int32)) hx hb hr (by decide) (fun t ht hW => ⟨⟨_, (), rfl, rfl, by rw [ht]; exact hP9, hD9, trivial⟩, hS.F ht⟩) hS.2.2 dc_J1_canEncode_fc78d_12
set_option linter.constructorNameAsVariable false in
set_option maxHeartbeats 4000000 in
set_option maxRecDepth 100000 in
theorem mt_J5_append_3fe6f (l : Launch) (G : ky_G) (b : Nat) (va : Nat) (mm : Nat) (n : Nat) (f : Nat → Int32) (ml : Int32) (c9 : Int32) (sz : Nat) (hm : ky_m2 mm) (hf : ky_fit f) (hc : ¬ (255 : Int32) < c9) (hq : n + 1 ≤ 34) : Met l my_J5_append_3fe6f (.code my_J5_append_3fe6f prog_12_method_31_code 2 (Option.some (Jvm.ClassFile.FieldType.object "java/lang/AbstractStringBuilder")) :: ky_B) { frames := 4, cells := ky_gc mm (n + 1), slots := ky_gs mm (n + 1), locals := 84 } (ky_P G [.ref b, .int (c9)] (ky_WT G b va mm n f ml) sz (fun _ => True)) (ky_Q (S := Nat × (Nat → Int32)) G (va_A (ky_WT G b va mm n f ml) sz) (fun v u => v = some (.ref b) ∧ ky_fit u.2) (fun u => ky_WT G b u.1 (ky_cap mm (n + 1)) (n + 1) u.2 ml) (fun _ _ => True)) (ky_gc mm (n + 1)) (ky_gs mm (n + 1)) (va_A (ky_WT G b va mm n f ml) sz) := by
  refine ky_start (by decide) (Nat.le_of_ble_eq_true rfl) (fun p e s m below meth c F hE A hAe hsz hA hfr hP hD hS hX ls hl => ?_)
  obtain ⟨hx, hb, hml, hown, hr, hlocks, hts⟩ := id F
  have hl : lv_has ls 2 [(0, .ref b), (1, .int (c9))] := hl
  have hP : va_P G.1 kcl [(b, .inr (6, [.ref va, .int (0), .int (ml), .int (nI (n))])), (va, .inl (G.2.1 0, mm, .inl (f)))] s.heap := hP
  have hD : va_D A [(b, .inr (6, [.ref va, .int (0), .int (ml), .int (nI (n))])), (va, .inl (G.2.1 0, mm, .inl (f)))] := hD
  refine lv_aload_n hx hb dc_J5_append_3fe6f_0 rfl (lv_at hl 0 rfl) ?_
  refine lv_aload_n hx hb dc_J5_append_3fe6f_1 rfl (lv_at hl 0 rfl) ?_
  refine va_get (D := G.1) (ci := 6) (v := .int (nI (n))) (C := RJ4) (T := TJ4) (N := 4) hx hb hts ki_J4 hown hE.1 hP 0 rfl rfl 3 (by decide) (hts _ kw_1_66) (fun _ h9 => h9) rfl dc_J5_append_3fe6f_2 ?_
  refine lv_iconst (v := 1) hx hb dc_J5_append_3fe6f_5 (by decide) ?_
  refine lv_iadd hx hb dc_J5_append_3fe6f_6 ?_
  rw [show (((nI (n)) + ((1 : Int32))) : Int32) = nI (n + 1) from nI_1 n]
  refine ky_cUh (As := [.int (nI (n + 1))]) (wr := []) F (hE.at hfr hS) hfr (mt_J5_ensureCapacityInternal_d00df l G b va mm n f ml (n + 1) s.heap.size hm hf (by omega)) (ku_J5_100.cu hE hts ⟨⟨rfl, rfl⟩, Nat.le_of_ble_eq_true rfl, Nat.le_of_ble_eq_true rfl⟩) rfl hl.1 rfl (Nat.le_of_ble_eq_true rfl) ⟨by show (_ : Nat) ≤ ky_gc mm (n + 1); omega, by show (_ : Nat) ≤ ky_gs mm (n + 1); omega⟩ (va_recv hE.1 hP (ci := 6) (q0 := 0) rfl rfl) trivial hP hD hS hA [0, 1] [] rfl rfl (by decide) (by decide) (by decide) dc_J5_append_3fe6f_7 ?_
  rintro v9 ⟨va_0, f_0⟩ H locs ⟨rfl, hf_0⟩ hP hD hS - hz hk9
  have hP : va_P G.1 kcl [(b, .inr (6, [.ref va_0, .int (0), .int (ml), .int (nI (n))])), (va_0, .inl (G.2.1 0, ky_cap mm (n + 1), .inl (f_0)))] H := hP
  have hD : va_D A [(b, .inr (6, [.ref va_0, .int (0), .int (ml), .int (nI (n))])), (va_0, .inl (G.2.1 0, ky_cap mm (n + 1), .inl (f_0)))] := hD
  refine W.widen (k := (ky_gc mm (n + 1))) (n := (ky_gs mm (n + 1))) (by first | exact Nat.le_refl _ | omega) (by first | exact Nat.le_refl _ | omega) ?_
  refine lv_aload_n hx hb dc_J5_append_3fe6f_10 rfl (lv_at hl 0 rfl) ?_
  refine ky_cUh (As := []) (wr := [(va_0, .inl (G.2.1 0, ky_cap mm (n + 1), .inl (f_0)))]) F (hE.at hfr hS) hfr (mt_J5_isLatin1_aae02 l G b va_0 ml (nI (n)) H.size ) (ku_J5_83.cu hts ⟨⟨rfl, rfl⟩, Nat.le_of_ble_eq_true rfl, Nat.le_of_ble_eq_true rfl⟩) rfl hl.1 rfl (Nat.le_of_ble_eq_true rfl) ⟨by show (_ : Nat) ≤ ky_gc mm (n + 1); omega, by show (_ : Nat) ≤ ky_gs mm (n + 1); omega⟩ (va_recv hE.1 hP (ci := 6) (q0 := 0) rfl rfl) trivial hP hD hS hA [0] [1] rfl rfl (by decide) (by decide) (by decide) dc_J5_append_3fe6f_11 ?_
  rintro v9 u9 H locs rfl hP hD hS - hz hk9
  have hP : va_P G.1 kcl [(va_0, .inl (G.2.1 0, ky_cap mm (n + 1), .inl (f_0))), (b, .inr (6, [.ref va_0, .int (0), .int (ml), .int (nI (n))]))] H := hP
  have hD : va_D A [(va_0, .inl (G.2.1 0, ky_cap mm (n + 1), .inl (f_0))), (b, .inr (6, [.ref va_0, .int (0), .int (ml), .int (nI (n))]))] := hD
  refine W.widen (k := (ky_gc mm (n + 1))) (n := (ky_gs mm (n + 1))) (by first | exact Nat.le_refl _ | omega) (by first | exact Nat.le_refl _ | omega) ?_
  refine lv_if_eq (tgt := 45) hx hb dc_J5_append_3fe6f_14 (by decide) (fun c_2 => absurd c_2 (by decide)) (fun _ => ?_)
  refine lv_iload_n hx hb dc_J5_append_3fe6f_17 rfl (lv_at hl 1 rfl) ?_
  refine ky_cSh (As := [.int (c9)]) (wr := [(va_0, .inl (G.2.1 0, ky_cap mm (n + 1), .inl (f_0))), (b, .inr (6, [.ref va_0, .int (0), .int (ml), .int (nI (n))]))]) F (hE.at hfr hS) hfr (mt_J1_canEncode_fc78d l G c9 H.size hc) ks_J5_191 ⟨⟨rfl, rfl⟩, Nat.le_of_ble_eq_true rfl, Nat.le_of_ble_eq_true rfl⟩ rfl hl.1 rfl (Nat.le_of_ble_eq_true rfl) ⟨by show (_ : Nat) ≤ ky_gc mm (n + 1); omega, by show (_ : Nat) ≤ ky_gs mm (n + 1); omega⟩ trivial hP hD hS hA [] [0, 1] rfl rfl (by decide) (by decide) (by decide) dc_J5_append_3fe6f_18 ?_
  rintro v9 u9 H locs rfl hP hD hS - hz hk9
  have hP : va_P G.1 kcl [(va_0, .inl (G.2.1 0, ky_cap mm (n + 1), .inl (f_0))), (b, .inr (6, [.ref va_0, .int (0), .int (ml), .int (nI (n))]))] H := hP
  have hD : va_D A [(va_0, .inl (G.2.1 0, ky_cap mm (n + 1), .inl (f_0))), (b, .inr (6, [.ref va_0, .int (0), .int (ml), .int (nI (n))]))] := hD
  refine W.widen (k := (ky_gc mm (n + 1))) (n := (ky_gs mm (n + 1))) (by first | exact Nat.le_refl _ | omega) (by first | exact Nat.le_refl _ | omega) ?_
  refine lv_if_eq (tgt := 45) hx hb dc_J5_append_3fe6f_21 (by decide) (fun c_4 => absurd c_4 (by decide)) (fun _ => ?_)
  refine lv_aload_n hx hb dc_J5_append_3fe6f_24 rfl (lv_at hl 0 rfl) ?_
  refine va_get (D := G.1) (ci := 6) (v := .ref va_0) (C := RJ4) (T := TJ4) (N := 4) hx hb hts ki_J4 hown hE.1 hP 1 rfl rfl 0 (by decide) (hts _ kw_1_62) (fun _ h9 => h9) rfl dc_J5_append_3fe6f_25 ?_
  refine lv_aload_n hx hb dc_J5_append_3fe6f_28 rfl (lv_at hl 0 rfl) ?_
  refine lv_dup hx hb dc_J5_append_3fe6f_29 rfl ?_
  refine va_get (D := G.1) (ci := 6) (v := .int (nI (n))) (C := RJ4) (T := TJ4) (N := 4) hx hb hts ki_J4 hown hE.1 hP 1 rfl rfl 3 (by decide) (hts _ kw_1_66) (fun _ h9 => h9) rfl dc_J5_append_3fe6f_30 ?_
  refine lv_dup_x1 hx hb dc_J5_append_3fe6f_33 rfl rfl ?_
  refine lv_iconst (v := 1) hx hb dc_J5_append_3fe6f_34 (by decide) ?_
  refine lv_iadd hx hb dc_J5_append_3fe6f_35 ?_
  rw [show (((nI (n)) + ((1 : Int32))) : Int32) = nI (n + 1) from nI_1 n]
  refine va_put (D := G.1) (ci := 6) (v := .int (nI (n + 1))) (ty := .int) (C := RJ4) (T := TJ4) (N := 4) hx hb hts ki_J4 tyJ4 tyJ4_ok nmJ4 hown hE.1 hP hD hS 1 rfl rfl 3 (by decide) (hts _ kw_1_66) (fun _ h9 => h9) rfl (by decide +kernel) rfl rfl (Nat.le_of_ble_eq_true rfl) dc_J5_append_3fe6f_36 (fun H locs hP hD hS => ?_)
  have hP : va_P G.1 kcl [(va_0, .inl (G.2.1 0, ky_cap mm (n + 1), .inl (f_0))), (b, .inr (6, [.ref va_0, .int (0), .int (ml), .int (nI (n + 1))]))] H := hP
  have hD : va_D A [(va_0, .inl (G.2.1 0, ky_cap mm (n + 1), .inl (f_0))), (b, .inr (6, [.ref va_0, .int (0), .int (ml), .int (nI (n + 1))]))] := hD
  refine lv_iload_n hx hb dc_J5_append_3fe6f_39 rfl (lv_at hl 1 rfl) ?_
  refine lv_i2b (v := (c9).toInt8.toInt32) hx hb dc_J5_append_3fe6f_40 rfl ?_
  have hle := hm.le hq
  have hin : vp_in (nI (n)) (ky_cap mm (n + 1)) := vp_in_nI (by omega) (by omega)
  refine va_bast hx hb hE.1 hP hD hS 0 0 rfl rfl hin dc_J5_append_3fe6f_41 (fun H locs hP hD hS => ?_)
  have hP : va_P G.1 kcl [(va_0, .inl (G.2.1 0, ky_cap mm (n + 1), .inl (upd (f_0) (nI (n)).toNatClampNeg (vp_nar .byte ((c9).toInt8.toInt32))))), (b, .inr (6, [.ref va_0, .int (0), .int (ml), .int (nI (n + 1))]))] H := hP
  have hD : va_D A [(va_0, .inl (G.2.1 0, ky_cap mm (n + 1), .inl (upd (f_0) (nI (n)).toNatClampNeg (vp_nar .byte ((c9).toInt8.toInt32))))), (b, .inr (6, [.ref va_0, .int (0), .int (ml), .int (nI (n + 1))]))] := hD
  refine lv_goto (tgt := 75) hx hb dc_J5_append_3fe6f_42 (by decide) ?_
  refine lv_aload_n hx hb dc_J5_append_3fe6f_75 rfl (lv_at hl 0 rfl) ?_
  have hP9 := hP.sub (ws' := [(b, .inr (6, [.ref va_0, .int (0), .int (ml), .int (nI (n + 1))])), (va_0, .inl (G.2.1 0, ky_cap mm (n + 1), .inl (upd (f_0) (nI (n)).toNatClampNeg (vp_nar .byte ((c9).toInt8.toInt32)))))]) [1, 0] rfl
  have hD9 := hD.sub (ws' := [(b, .inr (6, [.ref va_0, .int (0), .int (ml), .int (nI (n + 1))])), (va_0, .inl (G.2.1 0, ky_cap mm (n + 1), .inl (upd (f_0) (nI (n)).toNatClampNeg (vp_nar .byte ((c9).toInt8.toInt32)))))]) [1, 0] (by decide) rfl
  refine W.widen (k := ky_gc mm (n + 1)) (n := ky_gs mm (n + 1)) (by omega) (by omega) ?_
  exact W.aret (v := .ref b) hx hb hr (Or.inl ⟨_, rfl⟩) (Or.inr ⟨_, rfl⟩) (fun t ht hW => ⟨⟨_, (va_0, upd (f_0) (nI (n)).toNatClampNeg (vp_nar .byte ((c9).toInt8.toInt32))), rfl, ⟨rfl, (ky_fitU hf_0 _ (ky_fitN _))⟩, by rw [ht]; exact hP9, hD9, trivial⟩, hS.F ht⟩) hS.2.2 dc_J5_append_3fe6f_76
set_option linter.constructorNameAsVariable false in
set_option maxHeartbeats 4000000 in
set_option maxRecDepth 100000 in
theorem mt_J4_append_cf468 (l : Launch) (G : ky_G) (b : Nat) (va : Nat) (mm : Nat) (n : Nat) (f : Nat → Int32) (ml : Int32) (c9 : Int32) (sz : Nat) (hm : ky_m2 mm) (hf : ky_fit f) (hc : ¬ (255 : Int32) < c9) (hq : n + 1 ≤ 34) : Met l my_J4_append_cf468 (.code my_J4_append_cf468 prog_23_method_14_code 2 (Option.some (Jvm.ClassFile.FieldType.object "java/lang/StringBuilder")) :: ky_B) { frames := 5, cells := ky_gc mm (n + 1), slots := ky_gs mm (n + 1), locals := 105 } (ky_P G [.ref b, .int (c9)] (ky_WT G b va mm n f ml) sz (fun _ => True)) (ky_Q (S := Nat × (Nat → Int32)) G (va_A (ky_WT G b va mm n f ml) sz) (fun v u => v = some (.ref b) ∧ ky_fit u.2) (fun u => ky_WT G b u.1 (ky_cap mm (n + 1)) (n + 1) u.2 ml) (fun _ _ => True)) (ky_gc mm (n + 1)) (ky_gs mm (n + 1)) (va_A (ky_WT G b va mm n f ml) sz) := by
  refine ky_start (by decide) (Nat.le_of_ble_eq_true rfl) (fun p e s m below meth c F hE A hAe hsz hA hfr hP hD hS hX ls hl => ?_)
  obtain ⟨hx, hb, hml, hown, hr, hlocks, hts⟩ := id F
  have hl : lv_has ls 2 [(0, .ref b), (1, .int (c9))] := hl
  have hP : va_P G.1 kcl [(b, .inr (6, [.ref va, .int (0), .int (ml), .int (nI (n))])), (va, .inl (G.2.1 0, mm, .inl (f)))] s.heap := hP
  have hD : va_D A [(b, .inr (6, [.ref va, .int (0), .int (ml), .int (nI (n))])), (va, .inl (G.2.1 0, mm, .inl (f)))] := hD
  refine lv_aload_n hx hb dc_J4_append_cf468_0 rfl (lv_at hl 0 rfl) ?_
  refine lv_iload_n hx hb dc_J4_append_cf468_1 rfl (lv_at hl 1 rfl) ?_
  refine ky_cWh (ci := 6) (As := [.int (c9)]) (wr := []) F (hE.at hfr hS) hfr hE.1 rfl (mt_J5_append_3fe6f l G b va mm n f ml c9 s.heap.size hm hf hc hq) ku_J4_50 ⟨⟨rfl, rfl⟩, Nat.le_of_ble_eq_true rfl, Nat.le_of_ble_eq_true rfl⟩ rfl hl.1 rfl (Nat.le_of_ble_eq_true rfl) ⟨by show (_ : Nat) ≤ ky_gc mm (n + 1); omega, by show (_ : Nat) ≤ ky_gs mm (n + 1); omega⟩ (va_recv hE.1 hP (ci := 6) (q0 := 0) rfl rfl) trivial hP hD hS hA [0, 1] [] rfl rfl (by decide) (by decide) (by decide) dc_J4_append_cf468_2 ?_
  rintro v9 ⟨va_0, f_0⟩ H locs ⟨rfl, hf_0⟩ hP hD hS - hz hk9
  have hP : va_P G.1 kcl [(b, .inr (6, [.ref va_0, .int (0), .int (ml), .int (nI (n + 1))])), (va_0, .inl (G.2.1 0, ky_cap mm (n + 1), .inl (f_0)))] H := hP
  have hD : va_D A [(b, .inr (6, [.ref va_0, .int (0), .int (ml), .int (nI (n + 1))])), (va_0, .inl (G.2.1 0, ky_cap mm (n + 1), .inl (f_0)))] := hD
  refine W.widen (k := (ky_gc mm (n + 1))) (n := (ky_gs mm (n + 1))) (by first | exact Nat.le_refl _ | omega) (by first | exact Nat.le_refl _ | omega) ?_
  refine lv_pop hx hb dc_J4_append_cf468_5 rfl ?_
  refine lv_aload_n hx hb dc_J4_append_cf468_6 rfl (lv_at hl 0 rfl) ?_
  have hP9 := hP.sub (ws' := [(b, .inr (6, [.ref va_0, .int (0), .int (ml), .int (nI (n + 1))])), (va_0, .inl (G.2.1 0, ky_cap mm (n + 1), .inl (f_0)))]) [0, 1] rfl
  have hD9 := hD.sub (ws' := [(b, .inr (6, [.ref va_0, .int (0), .int (ml), .int (nI (n + 1))])), (va_0, .inl (G.2.1 0, ky_cap mm (n + 1), .inl (f_0)))]) [0, 1] (by decide) rfl
  refine W.widen (k := ky_gc mm (n + 1)) (n := ky_gs mm (n + 1)) (by omega) (by omega) ?_
  exact W.aret (v := .ref b) hx hb hr (Or.inl ⟨_, rfl⟩) (Or.inr ⟨_, rfl⟩) (fun t ht hW => ⟨⟨_, (va_0, f_0), rfl, ⟨rfl, hf_0⟩, by rw [ht]; exact hP9, hD9, trivial⟩, hS.F ht⟩) hS.2.2 dc_J4_append_cf468_7
set_option linter.constructorNameAsVariable false in
set_option maxHeartbeats 4000000 in
set_option maxRecDepth 100000 in
theorem mt_J0_coder_7d493 (l : Launch) (G : ky_G) (ks : Nat) (w : Nat) (g : Nat → Int32) (sz : Nat) (hk : ky_Str G ks w g) : Met l my_J0_coder_7d493 (.code my_J0_coder_7d493 prog_22_method_152_code 1 (Option.some Jvm.ClassFile.FieldType.byte) :: ky_B) { frames := 0, cells := 0, slots := 0, locals := 0 } (ky_P G [.ref ks] ([]) sz (fun _ => True)) (ky_Q (S := Unit) G (va_A ([]) sz) (fun v _ => v = some (.int 0)) (fun _ => []) (fun _ _ => True)) (0) (0) (va_A ([]) sz) := by
  refine ky_start (by decide) (Nat.le_of_ble_eq_true rfl) (fun p e s m below meth c F hE A hAe hsz hA hfr hP hD hS hX ls hl => ?_)
  obtain ⟨hx, hb, hml, hown, hr, hlocks, hts⟩ := id F
  have hl : lv_has ls 1 [(0, .ref ks)] := hl
  have hP : va_P G.1 kcl [] s.heap := hP
  have hD : va_D A [] := hD
  obtain ⟨v9, hO, hC, hV, hT⟩ := hk.at hE hfr
  have hw9 := hk.2.2
  refine va_gets hx hb (kq_compact hE hfr) hS hown (hts _ kw_2_7) (fun _ h9 => h9) dc_J0_coder_7d493_0 ?_
  refine lv_if_eq (tgt := 13) hx hb dc_J0_coder_7d493_3 (by decide) (fun c_0 => absurd c_0 (by decide)) (fun _ => ?_)
  refine lv_aload_n hx hb dc_J0_coder_7d493_6 rfl (lv_at hl 0 rfl) ?_
  refine vk_getf hx hb hC hS hown (hts _ kw_2_190) (fun _ h9 => h9) dc_J0_coder_7d493_7 ?_
  refine lv_goto (tgt := 14) hx hb dc_J0_coder_7d493_10 (by decide) ?_
  have hP9 := hP.sub (ws' := []) [] rfl
  have hD9 := hD.sub (ws' := []) [] (by decide) rfl
  refine W.widen (k := 0) (n := 0) (Nat.le_of_ble_eq_true rfl) (Nat.le_of_ble_eq_true rfl) ?_
  exact W.zret (v := (0 : Int32)) hx hb hr (by decide) (fun t ht hW => ⟨⟨_, (), rfl, rfl, by rw [ht]; exact hP9, hD9, trivial⟩, hS.F ht⟩) hS.2.2 dc_J0_coder_7d493_14
set_option linter.constructorNameAsVariable false in
set_option maxHeartbeats 4000000 in
set_option maxRecDepth 100000 in
theorem mt_J0_length_8abf5 (l : Launch) (G : ky_G) (ks : Nat) (w : Nat) (g : Nat → Int32) (sz : Nat) (hk : ky_Str G ks w g) : Met l my_J0_length_8abf5 (.code my_J0_length_8abf5 prog_22_method_54_code 1 (some .int) :: ky_B) { frames := 1, cells := 0, slots := 0, locals := 20 } (ky_P G [.ref ks] ([]) sz (fun _ => True)) (ky_Q (S := Unit) G (va_A ([]) sz) (fun v _ => v = some (.int (nI w))) (fun _ => []) (fun _ _ => True)) (0) (0) (va_A ([]) sz) := by
  refine ky_start (by decide) (Nat.le_of_ble_eq_true rfl) (fun p e s m below meth c F hE A hAe hsz hA hfr hP hD hS hX ls hl => ?_)
  obtain ⟨hx, hb, hml, hown, hr, hlocks, hts⟩ := id F
  have hl : lv_has ls 1 [(0, .ref ks)] := hl
  have hP : va_P G.1 kcl [] s.heap := hP
  have hD : va_D A [] := hD
  obtain ⟨v9, hO, hC, hV, hT⟩ := hk.at hE hfr
  have hw9 := hk.2.2
  refine lv_aload_n hx hb dc_J0_length_8abf5_0 rfl (lv_at hl 0 rfl) ?_
  refine vk_getf hx hb hV hS hown (hts _ kw_2_189) (fun _ h9 => h9) dc_J0_length_8abf5_1 ?_
  refine va_tlen hx hb hT hS (v := nI w) rfl dc_J0_length_8abf5_4 ?_
  refine lv_aload_n hx hb dc_J0_length_8abf5_5 rfl (lv_at hl 0 rfl) ?_
  refine ky_cVh (As := []) (wr := []) F (hE.at hfr hS) hfr (mt_J0_coder_7d493 l G ks w g s.heap.size hk) kv_J0_335 ⟨⟨rfl, rfl⟩, Nat.le_of_ble_eq_true rfl, Nat.le_of_ble_eq_true rfl⟩ rfl hl.1 rfl (Nat.le_of_ble_eq_true rfl) ⟨Nat.le_of_ble_eq_true rfl, Nat.le_of_ble_eq_true rfl⟩ (hk.recv hE hfr hS) trivial hP hD hS hA [] [] rfl rfl (by decide) (by decide) (by decide) dc_J0_length_8abf5_6 ?_
  rintro v9 u9 H locs rfl hP hD hS - hz hk9
  have hP : va_P G.1 kcl [] H := hP
  have hD : va_D A [] := hD
  refine W.widen (k := 0) (n := 0) (by first | exact Nat.le_refl _ | omega) (by first | exact Nat.le_refl _ | omega) ?_
  refine lv_ishr hx hb dc_J0_length_8abf5_9 ?_
  rw [show (((nI (w)) >>> (((0 : Int32)) &&& 31)) : Int32) = nI (w) from sb_shr0 _]
  have hP9 := hP.sub (ws' := []) [] rfl
  have hD9 := hD.sub (ws' := []) [] (by decide) rfl
  refine W.widen (k := 0) (n := 0) (Nat.le_of_ble_eq_true rfl) (Nat.le_of_ble_eq_true rfl) ?_
  exact W.iret (v := nI (w)) hx hb hr (fun t ht hW => ⟨⟨_, (), rfl, rfl, by rw [ht]; exact hP9, hD9, trivial⟩, hS.F ht⟩) hS.2.2 dc_J0_length_8abf5_10
set_option linter.constructorNameAsVariable false in
set_option maxHeartbeats 4000000 in
set_option maxRecDepth 100000 in
theorem mt_J0_getBytes_840e7 (l : Launch) (G : ky_G) (ks : Nat) (w : Nat) (g : Nat → Int32) (da : Nat) (mm : Nat) (n : Nat) (f : Nat → Int32) (sz : Nat) (hk : ky_Str G ks w g) (hf : ky_fit f) (hn : n + w ≤ mm) (hmm : mm < 2 ^ 20) : Met l my_J0_getBytes_840e7 (.code my_J0_getBytes_840e7 prog_22_method_147_code 4 none :: ky_B) { frames := 1, cells := 0, slots := 0, locals := 40 } (ky_P G [.ref ks, .ref da, .int (nI n), .int ((0 : Int32))] ([(da, .inl (G.2.1 0, mm, .inl f))]) sz (fun _ => True)) (ky_Q (S := Nat → Int32) G (va_A ([(da, .inl (G.2.1 0, mm, .inl f))]) sz) (fun v u => v = none ∧ ky_fit u) (fun u => [(da, .inl (G.2.1 0, mm, .inl u))]) (fun _ _ => True)) (0) (0) (va_A ([(da, .inl (G.2.1 0, mm, .inl f))]) sz) := by
  refine ky_start (by decide) (Nat.le_of_ble_eq_true rfl) (fun p e s m below meth c F hE A hAe hsz hA hfr hP hD hS hX ls hl => ?_)
  obtain ⟨hx, hb, hml, hown, hr, hlocks, hts⟩ := id F
  have hl : lv_has ls 4 [(0, .ref ks), (1, .ref da), (2, .int (nI n)), (3, .int ((0 : Int32)))] := hl
  have hP : va_P G.1 kcl [(da, .inl (G.2.1 0, mm, .inl (f)))] s.heap := hP
  have hD : va_D A [(da, .inl (G.2.1 0, mm, .inl (f)))] := hD
  obtain ⟨v9, hO, hC, hV, hT⟩ := hk.at hE hfr
  have hw9 := hk.2.2
  refine lv_aload_n hx hb dc_J0_getBytes_840e7_0 rfl (lv_at hl 0 rfl) ?_
  refine ky_cVh (As := []) (wr := [(da, .inl (G.2.1 0, mm, .inl (f)))]) F (hE.at hfr hS) hfr (mt_J0_coder_7d493 l G ks w g s.heap.size hk) kv_J0_335 ⟨⟨rfl, rfl⟩, Nat.le_of_ble_eq_true rfl, Nat.le_of_ble_eq_true rfl⟩ rfl hl.1 rfl (Nat.le_of_ble_eq_true rfl) ⟨Nat.le_of_ble_eq_true rfl, Nat.le_of_ble_eq_true rfl⟩ (hk.recv hE hfr hS) trivial hP hD hS hA [] [0] rfl rfl (by decide) (by decide) (by decide) dc_J0_getBytes_840e7_1 ?_
  rintro v9 u9 H locs rfl hP hD hS - hz hk9
  have hP : va_P G.1 kcl [(da, .inl (G.2.1 0, mm, .inl (f)))] H := hP
  have hD : va_D A [(da, .inl (G.2.1 0, mm, .inl (f)))] := hD
  refine W.widen (k := 0) (n := 0) (by first | exact Nat.le_refl _ | omega) (by first | exact Nat.le_refl _ | omega) ?_
  refine lv_iload_n hx hb dc_J0_getBytes_840e7_4 rfl (lv_at hl 3 rfl) ?_
  refine lv_icmp_ne (tgt := 28) hx hb dc_J0_getBytes_840e7_5 (by decide) (fun c_1 => absurd c_1 (by decide)) (fun _ => ?_)
  refine lv_aload_n hx hb dc_J0_getBytes_840e7_8 rfl (lv_at hl 0 rfl) ?_
  refine vk_getf hx hb hV hS hown (hts _ kw_2_189) (fun _ h9 => h9) dc_J0_getBytes_840e7_9 ?_
  refine lv_iconst (v := 0) hx hb dc_J0_getBytes_840e7_12 (by decide) ?_
  refine lv_aload_n hx hb dc_J0_getBytes_840e7_13 rfl (lv_at hl 1 rfl) ?_
  refine lv_iload_n hx hb dc_J0_getBytes_840e7_14 rfl (lv_at hl 2 rfl) ?_
  refine lv_iload_n hx hb dc_J0_getBytes_840e7_15 rfl (lv_at hl 3 rfl) ?_
  refine lv_ishl hx hb dc_J0_getBytes_840e7_16 ?_
  rw [show (((nI n) <<< (((0 : Int32)) &&& 31)) : Int32) = nI n from sb_shl0 _]
  refine lv_aload_n hx hb dc_J0_getBytes_840e7_17 rfl (lv_at hl 0 rfl) ?_
  refine vk_getf hx hb hV hS hown (hts _ kw_2_189) (fun _ h9 => h9) dc_J0_getBytes_840e7_18 ?_
  refine va_tlen hx hb hT hS (v := nI w) rfl dc_J0_getBytes_840e7_21 ?_
  refine vk_copyt hx hb (hml.trans hl.1.symm) hown (hts _ kw_2_40) (hts _ kw_1_207) (hts _ kw_1_206) (hts _ kw_1_23) hE.1 hP hD hS hT 0 0 rfl rfl (by decide) (nI_pos (by omega)) (nI_pos (by omega)) (ky_cl0 w w hw9 (Nat.le_refl _)) (ky_cl2 n w mm (by omega) hw9 hn) (fun i _ => hk.2.1 _) (Nat.le_of_ble_eq_true rfl) (Nat.le_of_ble_eq_true rfl) dc_J0_getBytes_840e7_22 (fun H locs hP hD hS => ?_)
  have hP : va_P G.1 kcl [(da, .inl (G.2.1 0, mm, .inl (va_cpy (g) (f) ((0 : Int32)).toNatClampNeg (nI n).toNatClampNeg (nI (w)).toNatClampNeg)))] H := hP
  have hD : va_D A [(da, .inl (G.2.1 0, mm, .inl (va_cpy (g) (f) ((0 : Int32)).toNatClampNeg (nI n).toNatClampNeg (nI (w)).toNatClampNeg)))] := hD
  refine lv_goto (tgt := 43) hx hb dc_J0_getBytes_840e7_25 (by decide) ?_
  have hP9 := hP.sub (ws' := [(da, .inl (G.2.1 0, mm, .inl (va_cpy (g) (f) ((0 : Int32)).toNatClampNeg (nI n).toNatClampNeg (nI (w)).toNatClampNeg)))]) [0] rfl
  have hD9 := hD.sub (ws' := [(da, .inl (G.2.1 0, mm, .inl (va_cpy (g) (f) ((0 : Int32)).toNatClampNeg (nI n).toNatClampNeg (nI (w)).toNatClampNeg)))]) [0] (by decide) rfl
  refine W.widen (k := 0) (n := 0) (Nat.le_of_ble_eq_true rfl) (Nat.le_of_ble_eq_true rfl) ?_
  exact W.vret hx hb hr (fun t ht hW => ⟨⟨_, va_cpy (g) (f) ((0 : Int32)).toNatClampNeg (nI n).toNatClampNeg (nI (w)).toNatClampNeg, rfl, ⟨rfl, ky_fitC hk.2.1 hf _ _ _⟩, by rw [ht]; exact hP9, hD9, trivial⟩, hS.F ht⟩) hS.2.2 dc_J0_getBytes_840e7_43
set_option linter.constructorNameAsVariable false in
set_option maxHeartbeats 4000000 in
set_option maxRecDepth 100000 in
theorem mt_J5_inflateIfNeededFor_a7421 (l : Launch) (G : ky_G) (b : Nat) (va : Nat) (mm : Nat) (n : Nat) (f : Nat → Int32) (ml : Int32) (ks : Nat) (w : Nat) (g : Nat → Int32) (sz : Nat) (hk : ky_Str G ks w g) : Met l my_J5_inflateIfNeededFor_a7421 (.code my_J5_inflateIfNeededFor_a7421 prog_12_method_71_code 2 none :: ky_B) { frames := 1, cells := 0, slots := 0, locals := 20 } (ky_P G [.ref b, .ref ks] (ky_WT G b va mm n f ml) sz (fun _ => True)) (ky_Q (S := Unit) G (va_A (ky_WT G b va mm n f ml) sz) (fun v _ => v = none) (fun _ => ky_WT G b va mm n f ml) (fun _ _ => True)) (0) (0) (va_A (ky_WT G b va mm n f ml) sz) := by
  refine ky_start (by decide) (Nat.le_of_ble_eq_true rfl) (fun p e s m below meth c F hE A hAe hsz hA hfr hP hD hS hX ls hl => ?_)
  obtain ⟨hx, hb, hml, hown, hr, hlocks, hts⟩ := id F
  have hl : lv_has ls 2 [(0, .ref b), (1, .ref ks)] := hl
  have hP : va_P G.1 kcl [(b, .inr (6, [.ref va, .int (0), .int (ml), .int (nI (n))])), (va, .inl (G.2.1 0, mm, .inl (f)))] s.heap := hP
  have hD : va_D A [(b, .inr (6, [.ref va, .int (0), .int (ml), .int (nI (n))])), (va, .inl (G.2.1 0, mm, .inl (f)))] := hD
  refine va_gets hx hb (kq_compact hE hfr) hS hown (hts _ kw_1_53) (fun _ h9 => h9) dc_J5_inflateIfNeededFor_a7421_0 ?_
  refine lv_if_eq (tgt := 21) hx hb dc_J5_inflateIfNeededFor_a7421_3 (by decide) (fun c_0 => absurd c_0 (by decide)) (fun _ => ?_)
  refine lv_aload_n hx hb dc_J5_inflateIfNeededFor_a7421_6 rfl (lv_at hl 0 rfl) ?_
  refine va_get (D := G.1) (ci := 6) (v := .int (0)) (C := RJ4) (T := TJ4) (N := 4) hx hb hts ki_J4 hown hE.1 hP 0 rfl rfl 1 (by decide) (hts _ kw_1_63) (fun _ h9 => h9) rfl dc_J5_inflateIfNeededFor_a7421_7 ?_
  refine lv_aload_n hx hb dc_J5_inflateIfNeededFor_a7421_10 rfl (lv_at hl 1 rfl) ?_
  refine ky_cVh (As := []) (wr := [(b, .inr (6, [.ref va, .int (0), .int (ml), .int (nI (n))])), (va, .inl (G.2.1 0, mm, .inl (f)))]) F (hE.at hfr hS) hfr (mt_J0_coder_7d493 l G ks w g s.heap.size hk) kv_J5_40 ⟨⟨rfl, rfl⟩, Nat.le_of_ble_eq_true rfl, Nat.le_of_ble_eq_true rfl⟩ rfl hl.1 rfl (Nat.le_of_ble_eq_true rfl) ⟨Nat.le_of_ble_eq_true rfl, Nat.le_of_ble_eq_true rfl⟩ (hk.recv hE hfr hS) trivial hP hD hS hA [] [0, 1] rfl rfl (by decide) (by decide) (by decide) dc_J5_inflateIfNeededFor_a7421_11 ?_
  rintro v9 u9 H locs rfl hP hD hS - hz hk9
  have hP : va_P G.1 kcl [(b, .inr (6, [.ref va, .int (0), .int (ml), .int (nI (n))])), (va, .inl (G.2.1 0, mm, .inl (f)))] H := hP
  have hD : va_D A [(b, .inr (6, [.ref va, .int (0), .int (ml), .int (nI (n))])), (va, .inl (G.2.1 0, mm, .inl (f)))] := hD
  refine W.widen (k := 0) (n := 0) (by first | exact Nat.le_refl _ | omega) (by first | exact Nat.le_refl _ | omega) ?_
  refine lv_icmp_eq (tgt := 21) hx hb dc_J5_inflateIfNeededFor_a7421_14 (by decide) (fun _ => ?_) (fun c_2 => absurd c_2 (by decide))
  have hP9 := hP.sub (ws' := [(b, .inr (6, [.ref va, .int (0), .int (ml), .int (nI (n))])), (va, .inl (G.2.1 0, mm, .inl (f)))]) [0, 1] rfl
  have hD9 := hD.sub (ws' := [(b, .inr (6, [.ref va, .int (0), .int (ml), .int (nI (n))])), (va, .inl (G.2.1 0, mm, .inl (f)))]) [0, 1] (by decide) rfl
  refine W.widen (k := 0) (n := 0) (Nat.le_of_ble_eq_true rfl) (Nat.le_of_ble_eq_true rfl) ?_
  exact W.vret hx hb hr (fun t ht hW => ⟨⟨_, (), rfl, rfl, by rw [ht]; exact hP9, hD9, trivial⟩, hS.F ht⟩) hS.2.2 dc_J5_inflateIfNeededFor_a7421_21
set_option linter.constructorNameAsVariable false in
set_option maxHeartbeats 4000000 in
set_option maxRecDepth 100000 in
theorem mt_J5_putStringAt_47b60 (l : Launch) (G : ky_G) (b : Nat) (va : Nat) (mm : Nat) (n : Nat) (f : Nat → Int32) (ml : Int32) (ks : Nat) (w : Nat) (g : Nat → Int32) (sz : Nat) (hk : ky_Str G ks w g) (hf : ky_fit f) (hn : n + w ≤ mm) (hmm : mm < 2 ^ 20) : Met l my_J5_putStringAt_47b60 (.code my_J5_putStringAt_47b60 prog_12_method_73_code 3 none :: ky_B) { frames := 2, cells := 0, slots := 0, locals := 63 } (ky_P G [.ref b, .int (nI n), .ref ks] (ky_WT G b va mm n f ml) sz (fun _ => True)) (ky_Q (S := Nat → Int32) G (va_A (ky_WT G b va mm n f ml) sz) (fun v u => v = none ∧ ky_fit u) (fun u => ky_WT G b va mm n u ml) (fun _ _ => True)) (0) (0) (va_A (ky_WT G b va mm n f ml) sz) := by
  refine ky_start (by decide) (Nat.le_of_ble_eq_true rfl) (fun p e s m below meth c F hE A hAe hsz hA hfr hP hD hS hX ls hl => ?_)
  obtain ⟨hx, hb, hml, hown, hr, hlocks, hts⟩ := id F
  have hl : lv_has ls 3 [(0, .ref b), (1, .int (nI n)), (2, .ref ks)] := hl
  have hP : va_P G.1 kcl [(b, .inr (6, [.ref va, .int (0), .int (ml), .int (nI (n))])), (va, .inl (G.2.1 0, mm, .inl (f)))] s.heap := hP
  have hD : va_D A [(b, .inr (6, [.ref va, .int (0), .int (ml), .int (nI (n))])), (va, .inl (G.2.1 0, mm, .inl (f)))] := hD
  refine lv_aload_n hx hb dc_J5_putStringAt_47b60_0 rfl (lv_at hl 0 rfl) ?_
  refine lv_aload_n hx hb dc_J5_putStringAt_47b60_1 rfl (lv_at hl 2 rfl) ?_
  refine ky_cUh (As := [.ref ks]) (wr := []) F (hE.at hfr hS) hfr (mt_J5_inflateIfNeededFor_a7421 l G b va mm n f ml ks w g s.heap.size hk) (ku_J5_397.cu hE hts ⟨⟨rfl, rfl⟩, Nat.le_of_ble_eq_true rfl, Nat.le_of_ble_eq_true rfl⟩) rfl hl.1 rfl (Nat.le_of_ble_eq_true rfl) ⟨Nat.le_of_ble_eq_true rfl, Nat.le_of_ble_eq_true rfl⟩ (va_recv hE.1 hP (ci := 6) (q0 := 0) rfl rfl) trivial hP hD hS hA [0, 1] [] rfl rfl (by decide) (by decide) (by decide) dc_J5_putStringAt_47b60_2 ?_
  rintro v9 u9 H locs rfl hP hD hS - hz hk9
  have hP : va_P G.1 kcl [(b, .inr (6, [.ref va, .int (0), .int (ml), .int (nI (n))])), (va, .inl (G.2.1 0, mm, .inl (f)))] H := hP
  have hD : va_D A [(b, .inr (6, [.ref va, .int (0), .int (ml), .int (nI (n))])), (va, .inl (G.2.1 0, mm, .inl (f)))] := hD
  refine W.widen (k := 0) (n := 0) (by first | exact Nat.le_refl _ | omega) (by first | exact Nat.le_refl _ | omega) ?_
  refine lv_aload_n hx hb dc_J5_putStringAt_47b60_5 rfl (lv_at hl 2 rfl) ?_
  refine lv_aload_n hx hb dc_J5_putStringAt_47b60_6 rfl (lv_at hl 0 rfl) ?_
  refine va_get (D := G.1) (ci := 6) (v := .ref va) (C := RJ4) (T := TJ4) (N := 4) hx hb hts ki_J4 hown hE.1 hP 0 rfl rfl 0 (by decide) (hts _ kw_1_62) (fun _ h9 => h9) rfl dc_J5_putStringAt_47b60_7 ?_
  refine lv_iload_n hx hb dc_J5_putStringAt_47b60_10 rfl (lv_at hl 1 rfl) ?_
  refine lv_aload_n hx hb dc_J5_putStringAt_47b60_11 rfl (lv_at hl 0 rfl) ?_
  refine va_get (D := G.1) (ci := 6) (v := .int (0)) (C := RJ4) (T := TJ4) (N := 4) hx hb hts ki_J4 hown hE.1 hP 0 rfl rfl 1 (by decide) (hts _ kw_1_63) (fun _ h9 => h9) rfl dc_J5_putStringAt_47b60_12 ?_
  refine ky_cVh (As := [.ref va, .int (nI n), .int (0)]) (wr := [(b, .inr (6, [.ref va, .int (0), .int (ml), .int (nI (n))]))]) F (hE.at hfr hS) hfr (mt_J0_getBytes_840e7 l G ks w g va mm n f H.size hk hf hn hmm) kv_J5_399 ⟨⟨rfl, rfl⟩, Nat.le_of_ble_eq_true rfl, Nat.le_of_ble_eq_true rfl⟩ rfl hl.1 rfl (Nat.le_of_ble_eq_true rfl) ⟨Nat.le_of_ble_eq_true rfl, Nat.le_of_ble_eq_true rfl⟩ (hk.recv hE hfr hS) trivial hP hD hS hA [1] [0] rfl rfl (by decide) (by decide) (by decide) dc_J5_putStringAt_47b60_15 ?_
  rintro v9 f_1 H locs ⟨rfl, hf_1⟩ hP hD hS - hz hk9
  have hP : va_P G.1 kcl [(b, .inr (6, [.ref va, .int (0), .int (ml), .int (nI (n))])), (va, .inl (G.2.1 0, mm, .inl (f_1)))] H := hP
  have hD : va_D A [(b, .inr (6, [.ref va, .int (0), .int (ml), .int (nI (n))])), (va, .inl (G.2.1 0, mm, .inl (f_1)))] := hD
  refine W.widen (k := 0) (n := 0) (by first | exact Nat.le_refl _ | omega) (by first | exact Nat.le_refl _ | omega) ?_
  have hP9 := hP.sub (ws' := [(b, .inr (6, [.ref va, .int (0), .int (ml), .int (nI (n))])), (va, .inl (G.2.1 0, mm, .inl (f_1)))]) [0, 1] rfl
  have hD9 := hD.sub (ws' := [(b, .inr (6, [.ref va, .int (0), .int (ml), .int (nI (n))])), (va, .inl (G.2.1 0, mm, .inl (f_1)))]) [0, 1] (by decide) rfl
  refine W.widen (k := 0) (n := 0) (Nat.le_of_ble_eq_true rfl) (Nat.le_of_ble_eq_true rfl) ?_
  exact W.vret hx hb hr (fun t ht hW => ⟨⟨_, f_1, rfl, ⟨rfl, hf_1⟩, by rw [ht]; exact hP9, hD9, trivial⟩, hS.F ht⟩) hS.2.2 dc_J5_putStringAt_47b60_18
set_option linter.constructorNameAsVariable false in
set_option maxHeartbeats 4000000 in
set_option maxRecDepth 100000 in
theorem mt_J5_append_cf1ce (l : Launch) (G : ky_G) (b : Nat) (va : Nat) (mm : Nat) (n : Nat) (f : Nat → Int32) (ml : Int32) (ks : Nat) (w : Nat) (g : Nat → Int32) (sz : Nat) (hm : ky_m2 mm) (hf : ky_fit f) (hk : ky_Str G ks w g) (hq : n + w ≤ 34) : Met l my_J5_append_cf1ce (.code my_J5_append_cf1ce prog_12_method_22_code 3 (Option.some (Jvm.ClassFile.FieldType.object "java/lang/AbstractStringBuilder")) :: ky_B) { frames := 4, cells := ky_gc mm (n + w), slots := ky_gs mm (n + w), locals := 85 } (ky_P G [.ref b, .ref ks] (ky_WT G b va mm n f ml) sz (fun _ => True)) (ky_Q (S := Nat × (Nat → Int32)) G (va_A (ky_WT G b va mm n f ml) sz) (fun v u => v = some (.ref b) ∧ ky_fit u.2) (fun u => ky_WT G b u.1 (ky_cap mm (n + w)) (n + w) u.2 ml) (fun _ _ => True)) (ky_gc mm (n + w)) (ky_gs mm (n + w)) (va_A (ky_WT G b va mm n f ml) sz) := by
  refine ky_start (by decide) (Nat.le_of_ble_eq_true rfl) (fun p e s m below meth c F hE A hAe hsz hA hfr hP hD hS hX ls hl => ?_)
  obtain ⟨hx, hb, hml, hown, hr, hlocks, hts⟩ := id F
  have hl : lv_has ls 3 [(0, .ref b), (1, .ref ks)] := hl
  have hP : va_P G.1 kcl [(b, .inr (6, [.ref va, .int (0), .int (ml), .int (nI (n))])), (va, .inl (G.2.1 0, mm, .inl (f)))] s.heap := hP
  have hD : va_D A [(b, .inr (6, [.ref va, .int (0), .int (ml), .int (nI (n))])), (va, .inl (G.2.1 0, mm, .inl (f)))] := hD
  refine lv_aload_n hx hb dc_J5_append_cf1ce_0 rfl (lv_at hl 1 rfl) ?_
  refine lv_ifnonnull (tgt := 9) hx hb dc_J5_append_cf1ce_1 (by decide) ?_
  refine lv_aload_n hx hb dc_J5_append_cf1ce_9 rfl (lv_at hl 1 rfl) ?_
  refine ky_cVh (As := []) (wr := [(b, .inr (6, [.ref va, .int (0), .int (ml), .int (nI (n))])), (va, .inl (G.2.1 0, mm, .inl (f)))]) F (hE.at hfr hS) hfr (mt_J0_length_8abf5 l G ks w g s.heap.size hk) kv_J5_32 ⟨⟨rfl, rfl⟩, Nat.le_of_ble_eq_true rfl, Nat.le_of_ble_eq_true rfl⟩ rfl hl.1 rfl (Nat.le_of_ble_eq_true rfl) ⟨by show (_ : Nat) ≤ ky_gc mm (n + w); omega, by show (_ : Nat) ≤ ky_gs mm (n + w); omega⟩ (hk.recv hE hfr hS) trivial hP hD hS hA [] [0, 1] rfl rfl (by decide) (by decide) (by decide) dc_J5_append_cf1ce_10 ?_
  rintro v9 u9 H locs rfl hP hD hS - hz hk9
  have hP : va_P G.1 kcl [(b, .inr (6, [.ref va, .int (0), .int (ml), .int (nI (n))])), (va, .inl (G.2.1 0, mm, .inl (f)))] H := hP
  have hD : va_D A [(b, .inr (6, [.ref va, .int (0), .int (ml), .int (nI (n))])), (va, .inl (G.2.1 0, mm, .inl (f)))] := hD
  refine W.widen (k := 0) (n := 0) (by first | exact Nat.le_refl _ | omega) (by first | exact Nat.le_refl _ | omega) ?_
  refine lv_istore_n (lv' := [(2, .int (nI (w))), (0, .ref b), (1, .ref ks)]) hx hb dc_J5_append_cf1ce_13 rfl hl (by decide) rfl (fun ls hl => ?_)
  refine lv_aload_n hx hb dc_J5_append_cf1ce_14 rfl (lv_at hl 1 rfl) ?_
  refine lv_aload_n hx hb dc_J5_append_cf1ce_15 rfl (lv_at hl 1 rfl) ?_
  refine va_get (D := G.1) (ci := 6) (v := .int (nI (n))) (C := RJ4) (T := TJ4) (N := 4) hx hb hts ki_J4 hown hE.1 hP 0 rfl rfl 3 (by decide) (hts _ kw_1_66) (fun _ h9 => h9) rfl dc_J5_append_cf1ce_16 ?_
  refine lv_iload_n hx hb dc_J5_append_cf1ce_19 rfl (lv_at hl 0 rfl) ?_
  refine lv_iadd hx hb dc_J5_append_cf1ce_20 ?_
  rw [show (((nI (n)) + (nI (w))) : Int32) = nI (n + w) from nI_add n w]
  refine ky_cUh (As := [.int (nI (n + w))]) (wr := []) F (hE.at hfr hS) hfr (mt_J5_ensureCapacityInternal_d00df l G b va mm n f ml (n + w) H.size hm hf (by omega)) (ku_J5_100.cu hE hts ⟨⟨rfl, rfl⟩, Nat.le_of_ble_eq_true rfl, Nat.le_of_ble_eq_true rfl⟩) rfl hl.1 rfl (Nat.le_of_ble_eq_true rfl) ⟨by show (_ : Nat) ≤ ky_gc mm (n + w); omega, by show (_ : Nat) ≤ ky_gs mm (n + w); omega⟩ (va_recv hE.1 hP (ci := 6) (q0 := 0) rfl rfl) trivial hP hD hS hA [0, 1] [] rfl rfl (by decide) (by decide) (by decide) dc_J5_append_cf1ce_21 ?_
  rintro v9 ⟨va_1, f_1⟩ H locs ⟨rfl, hf_1⟩ hP hD hS - hz hk9
  have hP : va_P G.1 kcl [(b, .inr (6, [.ref va_1, .int (0), .int (ml), .int (nI (n))])), (va_1, .inl (G.2.1 0, ky_cap mm (n + w), .inl (f_1)))] H := hP
  have hD : va_D A [(b, .inr (6, [.ref va_1, .int (0), .int (ml), .int (nI (n))])), (va_1, .inl (G.2.1 0, ky_cap mm (n + w), .inl (f_1)))] := hD
  refine W.widen (k := (ky_gc mm (n + w))) (n := (ky_gs mm (n + w))) (by first | exact Nat.le_refl _ | omega) (by first | exact Nat.le_refl _ | omega) ?_
  refine lv_aload_n hx hb dc_J5_append_cf1ce_24 rfl (lv_at hl 1 rfl) ?_
  refine lv_aload_n hx hb dc_J5_append_cf1ce_25 rfl (lv_at hl 1 rfl) ?_
  refine va_get (D := G.1) (ci := 6) (v := .int (nI (n))) (C := RJ4) (T := TJ4) (N := 4) hx hb hts ki_J4 hown hE.1 hP 0 rfl rfl 3 (by decide) (hts _ kw_1_66) (fun _ h9 => h9) rfl dc_J5_append_cf1ce_26 ?_
  refine lv_aload_n hx hb dc_J5_append_cf1ce_29 rfl (lv_at hl 2 rfl) ?_
  refine ky_cUh (As := [.int (nI (n)), .ref ks]) (wr := []) F (hE.at hfr hS) hfr (mt_J5_putStringAt_47b60 l G b va_1 (ky_cap mm (n + w)) n f_1 ml ks w g H.size hk hf_1 (hm.le hq).1 (by have := (hm.le hq).2.2; omega)) (ku_J5_208.cu hE hts ⟨⟨rfl, rfl⟩, Nat.le_of_ble_eq_true rfl, Nat.le_of_ble_eq_true rfl⟩) rfl hl.1 rfl (Nat.le_of_ble_eq_true rfl) ⟨by show (_ : Nat) ≤ ky_gc mm (n + w); omega, by show (_ : Nat) ≤ ky_gs mm (n + w); omega⟩ (va_recv hE.1 hP (ci := 6) (q0 := 0) rfl rfl) trivial hP hD hS hA [0, 1] [] rfl rfl (by decide) (by decide) (by decide) dc_J5_append_cf1ce_30 ?_
  rintro v9 f_2 H locs ⟨rfl, hf_2⟩ hP hD hS - hz hk9
  have hP : va_P G.1 kcl [(b, .inr (6, [.ref va_1, .int (0), .int (ml), .int (nI (n))])), (va_1, .inl (G.2.1 0, ky_cap mm (n + w), .inl (f_2)))] H := hP
  have hD : va_D A [(b, .inr (6, [.ref va_1, .int (0), .int (ml), .int (nI (n))])), (va_1, .inl (G.2.1 0, ky_cap mm (n + w), .inl (f_2)))] := hD
  refine W.widen (k := (ky_gc mm (n + w))) (n := (ky_gs mm (n + w))) (by first | exact Nat.le_refl _ | omega) (by first | exact Nat.le_refl _ | omega) ?_
  refine lv_aload_n hx hb dc_J5_append_cf1ce_33 rfl (lv_at hl 1 rfl) ?_
  refine lv_dup hx hb dc_J5_append_cf1ce_34 rfl ?_
  refine va_get (D := G.1) (ci := 6) (v := .int (nI (n))) (C := RJ4) (T := TJ4) (N := 4) hx hb hts ki_J4 hown hE.1 hP 0 rfl rfl 3 (by decide) (hts _ kw_1_66) (fun _ h9 => h9) rfl dc_J5_append_cf1ce_35 ?_
  refine lv_iload_n hx hb dc_J5_append_cf1ce_38 rfl (lv_at hl 0 rfl) ?_
  refine lv_iadd hx hb dc_J5_append_cf1ce_39 ?_
  rw [show (((nI (n)) + (nI (w))) : Int32) = nI (n + w) from nI_add n w]
  refine va_put (D := G.1) (ci := 6) (v := .int (nI (n + w))) (ty := .int) (C := RJ4) (T := TJ4) (N := 4) hx hb hts ki_J4 tyJ4 tyJ4_ok nmJ4 hown hE.1 hP hD hS 0 rfl rfl 3 (by decide) (hts _ kw_1_66) (fun _ h9 => h9) rfl (by decide +kernel) rfl rfl (Nat.le_of_ble_eq_true rfl) dc_J5_append_cf1ce_40 (fun H locs hP hD hS => ?_)
  have hP : va_P G.1 kcl [(b, .inr (6, [.ref va_1, .int (0), .int (ml), .int (nI (n + w))])), (va_1, .inl (G.2.1 0, ky_cap mm (n + w), .inl (f_2)))] H := hP
  have hD : va_D A [(b, .inr (6, [.ref va_1, .int (0), .int (ml), .int (nI (n + w))])), (va_1, .inl (G.2.1 0, ky_cap mm (n + w), .inl (f_2)))] := hD
  refine lv_aload_n hx hb dc_J5_append_cf1ce_43 rfl (lv_at hl 1 rfl) ?_
  have hP9 := hP.sub (ws' := [(b, .inr (6, [.ref va_1, .int (0), .int (ml), .int (nI (n + w))])), (va_1, .inl (G.2.1 0, ky_cap mm (n + w), .inl (f_2)))]) [0, 1] rfl
  have hD9 := hD.sub (ws' := [(b, .inr (6, [.ref va_1, .int (0), .int (ml), .int (nI (n + w))])), (va_1, .inl (G.2.1 0, ky_cap mm (n + w), .inl (f_2)))]) [0, 1] (by decide) rfl
  refine W.widen (k := ky_gc mm (n + w)) (n := ky_gs mm (n + w)) (by omega) (by omega) ?_
  exact W.aret (v := .ref b) hx hb hr (Or.inl ⟨_, rfl⟩) (Or.inr ⟨_, rfl⟩) (fun t ht hW => ⟨⟨_, (va_1, f_2), rfl, ⟨rfl, hf_2⟩, by rw [ht]; exact hP9, hD9, trivial⟩, hS.F ht⟩) hS.2.2 dc_J5_append_cf1ce_44
set_option linter.constructorNameAsVariable false in
set_option maxHeartbeats 4000000 in
set_option maxRecDepth 100000 in
theorem mt_J4_append_15ec4 (l : Launch) (G : ky_G) (b : Nat) (va : Nat) (mm : Nat) (n : Nat) (f : Nat → Int32) (ml : Int32) (ks : Nat) (w : Nat) (g : Nat → Int32) (sz : Nat) (hm : ky_m2 mm) (hf : ky_fit f) (hk : ky_Str G ks w g) (hq : n + w ≤ 34) : Met l my_J4_append_15ec4 (.code my_J4_append_15ec4 prog_23_method_7_code 2 (Option.some (Jvm.ClassFile.FieldType.object "java/lang/StringBuilder")) :: ky_B) { frames := 5, cells := ky_gc mm (n + w), slots := ky_gs mm (n + w), locals := 107 } (ky_P G [.ref b, .ref ks] (ky_WT G b va mm n f ml) sz (fun _ => True)) (ky_Q (S := Nat × (Nat → Int32)) G (va_A (ky_WT G b va mm n f ml) sz) (fun v u => v = some (.ref b) ∧ ky_fit u.2) (fun u => ky_WT G b u.1 (ky_cap mm (n + w)) (n + w) u.2 ml) (fun _ _ => True)) (ky_gc mm (n + w)) (ky_gs mm (n + w)) (va_A (ky_WT G b va mm n f ml) sz) := by
  refine ky_start (by decide) (Nat.le_of_ble_eq_true rfl) (fun p e s m below meth c F hE A hAe hsz hA hfr hP hD hS hX ls hl => ?_)
  obtain ⟨hx, hb, hml, hown, hr, hlocks, hts⟩ := id F
  have hl : lv_has ls 2 [(0, .ref b), (1, .ref ks)] := hl
  have hP : va_P G.1 kcl [(b, .inr (6, [.ref va, .int (0), .int (ml), .int (nI (n))])), (va, .inl (G.2.1 0, mm, .inl (f)))] s.heap := hP
  have hD : va_D A [(b, .inr (6, [.ref va, .int (0), .int (ml), .int (nI (n))])), (va, .inl (G.2.1 0, mm, .inl (f)))] := hD
  refine lv_aload_n hx hb dc_J4_append_15ec4_0 rfl (lv_at hl 0 rfl) ?_
  refine lv_aload_n hx hb dc_J4_append_15ec4_1 rfl (lv_at hl 1 rfl) ?_
  refine ky_cWh (ci := 6) (As := [.ref ks]) (wr := []) F (hE.at hfr hS) hfr hE.1 rfl (mt_J5_append_cf1ce l G b va mm n f ml ks w g s.heap.size hm hf hk hq) ku_J4_29 ⟨⟨rfl, rfl⟩, Nat.le_of_ble_eq_true rfl, Nat.le_of_ble_eq_true rfl⟩ rfl hl.1 rfl (Nat.le_of_ble_eq_true rfl) ⟨by show (_ : Nat) ≤ ky_gc mm (n + w); omega, by show (_ : Nat) ≤ ky_gs mm (n + w); omega⟩ (va_recv hE.1 hP (ci := 6) (q0 := 0) rfl rfl) trivial hP hD hS hA [0, 1] [] rfl rfl (by decide) (by decide) (by decide) dc_J4_append_15ec4_2 ?_
  rintro v9 ⟨va_0, f_0⟩ H locs ⟨rfl, hf_0⟩ hP hD hS - hz hk9
  have hP : va_P G.1 kcl [(b, .inr (6, [.ref va_0, .int (0), .int (ml), .int (nI (n + w))])), (va_0, .inl (G.2.1 0, ky_cap mm (n + w), .inl (f_0)))] H := hP
  have hD : va_D A [(b, .inr (6, [.ref va_0, .int (0), .int (ml), .int (nI (n + w))])), (va_0, .inl (G.2.1 0, ky_cap mm (n + w), .inl (f_0)))] := hD
  refine W.widen (k := (ky_gc mm (n + w))) (n := (ky_gs mm (n + w))) (by first | exact Nat.le_refl _ | omega) (by first | exact Nat.le_refl _ | omega) ?_
  refine lv_pop hx hb dc_J4_append_15ec4_5 rfl ?_
  refine lv_aload_n hx hb dc_J4_append_15ec4_6 rfl (lv_at hl 0 rfl) ?_
  have hP9 := hP.sub (ws' := [(b, .inr (6, [.ref va_0, .int (0), .int (ml), .int (nI (n + w))])), (va_0, .inl (G.2.1 0, ky_cap mm (n + w), .inl (f_0)))]) [0, 1] rfl
  have hD9 := hD.sub (ws' := [(b, .inr (6, [.ref va_0, .int (0), .int (ml), .int (nI (n + w))])), (va_0, .inl (G.2.1 0, ky_cap mm (n + w), .inl (f_0)))]) [0, 1] (by decide) rfl
  refine W.widen (k := ky_gc mm (n + w)) (n := ky_gs mm (n + w)) (by omega) (by omega) ?_
  exact W.aret (v := .ref b) hx hb hr (Or.inl ⟨_, rfl⟩) (Or.inr ⟨_, rfl⟩) (fun t ht hW => ⟨⟨_, (va_0, f_0), rfl, ⟨rfl, hf_0⟩, by rw [ht]; exact hP9, hD9, trivial⟩, hS.F ht⟩) hS.2.2 dc_J4_append_15ec4_7
