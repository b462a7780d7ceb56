section
set_option linter.constructorNameAsVariable false in
set_option maxHeartbeats 4000000 in
set_option maxRecDepth 100000 in
theorem mt_J5_init_d00df (l : Launch) (G : ky_G) (b : Nat) (sz : Nat)  : Met l my_J5_init_d00df (.code my_J5_init_d00df prog_12_method_2_code 2 none :: ky_B) { frames := 1, cells := 1, slots := 16, locals := 12 } (ky_P G [.ref b, .int ((16 : Int32))] ([(b, .inr (6, [.null, .int 0, .int 0, .int 0]))]) sz (fun _ => True)) (ky_Q (S := Nat) G (va_A ([(b, .inr (6, [.null, .int 0, .int 0, .int 0]))]) sz) (fun v _ => v = none) (fun u => ky_WT G b u 16 0 (fun _ => 0) 0) (fun _ _ => True)) (1) (16) (va_A ([(b, .inr (6, [.null, .int 0, .int 0, .int 0]))]) sz) := by
  refine ky_startI (by decide) (Nat.le_of_ble_eq_true rfl) (fun p e s m below meth c hin F hE A hAe hsz hA hfr hP hD hS hX ls hl => ?_)
  obtain ⟨hx, hb, hml, hown, hr, hlocks, hts⟩ := id F
  have hl : lv_has ls 2 [(0, .ref b), (1, .int ((16 : Int32)))] := hl
  have hP : va_P G.1 kcl [(b, .inr (6, [.null, .int (0), .int (0), .int (0)]))] s.heap := hP
  have hD : va_D A [(b, .inr (6, [.null, .int (0), .int (0), .int (0)]))] := hD
  refine lv_aload_n hx hb dc_J5_init_d00df_0 rfl (lv_at hl 0 rfl) ?_
  refine W.objInit hx hb hown (hts _ kw_1_52) (hts _ kw_1_36) (hts _ kw_1_37) rfl (by rw [hml]; exact hl.1) rfl dc_J5_init_d00df_1 (Nat.le_of_ble_eq_true rfl) (Nat.le_of_ble_eq_true rfl) ?_
  refine W.eq (g2 := F0 m 4 ls []) rfl ?_
  refine va_gets hx hb (kq_compact hE hfr) hS hown (hts _ kw_1_53) (fun _ h9 => h9) dc_J5_init_d00df_4 ?_
  refine lv_if_eq (tgt := 25) hx hb dc_J5_init_d00df_7 (by decide) (fun c_0 => absurd c_0 (by decide)) (fun _ => ?_)
  refine lv_aload_n hx hb dc_J5_init_d00df_10 rfl (lv_at hl 0 rfl) ?_
  refine lv_iload_n hx hb dc_J5_init_d00df_11 rfl (lv_at hl 1 rfl) ?_
  refine va_newa (atype := .byte) (ty := .byte) (N' := 16) (a0 := (16, .inl (fun _ => 0))) hx hb (hts _ kw_1_77) rfl hE.1 hP hD hS hA (fun _ => rfl) (by decide) (by decide) (by decide) (Nat.le_of_ble_eq_true rfl) (Nat.le_of_ble_eq_true rfl) dc_J5_init_d00df_12 (fun q_1 cA_1 H hK_1 hP hD hS => ?_)
  have hc_1 : cA_1 = G.2.1 0 := ky_nB 0 hE.1 hK_1 rfl (fun _ h => by cases h)
  subst hc_1
  have hP : va_P G.1 kcl [(b, .inr (6, [.null, .int (0), .int (0), .int (0)])), (q_1, .inl (G.2.1 0, 16, .inl (fun _ => 0)))] H := hP
  have hD : va_D A [(b, .inr (6, [.null, .int (0), .int (0), .int (0)])), (q_1, .inl (G.2.1 0, 16, .inl (fun _ => 0)))] := hD
  refine W.widen (k := 1) (n := 16) (by first | exact Nat.le_refl _ | omega) (by first | exact Nat.le_refl _ | omega) ?_
  refine va_put (D := G.1) (ci := 6) (v := .ref q_1) (ty := .array .byte) (C := RJ4) (T := TJ4) (N := 4) hx hb hts ki_J4 tyJ4 tyJ4_ok nmJ4 hown hE.1 hP hD hS 0 rfl rfl 0 (by decide) (hts _ kw_1_62) (fun _ h9 => h9) rfl (by decide +kernel) rfl rfl (Nat.le_of_ble_eq_true rfl) dc_J5_init_d00df_14 (fun H locs hP hD hS => ?_)
  have hP : va_P G.1 kcl [(b, .inr (6, [.ref q_1, .int (0), .int (0), .int (0)])), (q_1, .inl (G.2.1 0, 16, .inl (fun _ => 0)))] H := hP
  have hD : va_D A [(b, .inr (6, [.ref q_1, .int (0), .int (0), .int (0)])), (q_1, .inl (G.2.1 0, 16, .inl (fun _ => 0)))] := hD
  refine lv_aload_n hx hb dc_J5_init_d00df_17 rfl (lv_at hl 0 rfl) ?_
  refine lv_iconst (v := 0) hx hb dc_J5_init_d00df_18 (by decide) ?_
  refine va_put (D := G.1) (ci := 6) (v := .int ((0 : Int32))) (ty := .byte) (C := RJ4) (T := TJ4) (N := 4) hx hb hts ki_J4 tyJ4 tyJ4_ok nmJ4 hown hE.1 hP hD hS 0 rfl rfl 1 (by decide) (hts _ kw_1_63) (fun _ h9 => h9) rfl (by decide +kernel) rfl rfl (Nat.le_of_ble_eq_true rfl) dc_J5_init_d00df_19 (fun H locs hP hD hS => ?_)
  have hP : va_P G.1 kcl [(b, .inr (6, [.ref q_1, .int ((0 : Int32)), .int (0), .int (0)])), (q_1, .inl (G.2.1 0, 16, .inl (fun _ => 0)))] H := hP
  have hD : va_D A [(b, .inr (6, [.ref q_1, .int ((0 : Int32)), .int (0), .int (0)])), (q_1, .inl (G.2.1 0, 16, .inl (fun _ => 0)))] := hD
  refine lv_goto (tgt := 38) hx hb dc_J5_init_d00df_22 (by decide) ?_
  have hP9 := hP.sub (ws' := [(b, .inr (6, [.ref q_1, .int ((0 : Int32)), .int (0), .int (0)])), (q_1, .inl (G.2.1 0, 16, .inl (fun _ => 0)))]) [0, 1] rfl
  have hD9 := hD.sub (ws' := [(b, .inr (6, [.ref q_1, .int ((0 : Int32)), .int (0), .int (0)])), (q_1, .inl (G.2.1 0, 16, .inl (fun _ => 0)))]) [0, 1] (by decide) rfl
  refine W.widen (k := 1) (n := 16) (Nat.le_of_ble_eq_true rfl) (Nat.le_of_ble_eq_true rfl) ?_
  exact W.vret hx hb hr (fun t ht hW => ⟨⟨_, q_1, rfl, rfl, by rw [ht]; exact hP9, hD9, trivial⟩, hS.F ht⟩) hS.2.2 dc_J5_init_d00df_38
set_option linter.constructorNameAsVariable false in
set_option maxHeartbeats 4000000 in
set_option maxRecDepth 100000 in
theorem mt_J4_init_da8c8 (l : Launch) (G : ky_G) (b : Nat) (sz : Nat)  : Met l my_J4_init_da8c8 (.code my_J4_init_da8c8 prog_23_method_1_code 1 none :: ky_B) { frames := 2, cells := 1, slots := 16, locals := 33 } (ky_P G [.ref b] ([(b, .inr (6, [.null, .int 0, .int 0, .int 0]))]) sz (fun _ => True)) (ky_Q (S := Nat) G (va_A ([(b, .inr (6, [.null, .int 0, .int 0, .int 0]))]) sz) (fun v _ => v = none) (fun u => ky_WT G b u 16 0 (fun _ => 0) 0) (fun _ _ => True)) (1) (16) (va_A ([(b, .inr (6, [.null, .int 0, .int 0, .int 0]))]) sz) := by
  refine ky_startI (by decide) (Nat.le_of_ble_eq_true rfl) (fun p e s m below meth c hin F hE A hAe hsz hA hfr hP hD hS hX ls hl => ?_)
  obtain ⟨hx, hb, hml, hown, hr, hlocks, hts⟩ := id F
  have hl : lv_has ls 1 [(0, .ref b)] := hl
  have hP : va_P G.1 kcl [(b, .inr (6, [.null, .int (0), .int (0), .int (0)]))] s.heap := hP
  have hD : va_D A [(b, .inr (6, [.null, .int (0), .int (0), .int (0)]))] := hD
  refine lv_aload_n hx hb dc_J4_init_da8c8_0 rfl (lv_at hl 0 rfl) ?_
  refine lv_bipush (v := 16) hx hb dc_J4_init_da8c8_1 (by decide) ?_
  refine ky_cIh (As := [.int ((16 : Int32))]) (wr := []) F (hE.at hfr hS) hfr (mt_J5_init_d00df l G b s.heap.size ) kI_J4_1 ⟨⟨rfl, rfl⟩, Nat.le_of_ble_eq_true rfl, Nat.le_of_ble_eq_true rfl⟩ rfl hl.1 rfl (Nat.le_of_ble_eq_true rfl) ⟨Nat.le_of_ble_eq_true rfl, Nat.le_of_ble_eq_true rfl⟩ trivial hP hD hS hA [0] [] rfl rfl (by decide) (by decide) (by decide) dc_J4_init_da8c8_3 ?_
  rintro v9 va_0 H locs rfl hP hD hS - hz hk9
  have hP : va_P G.1 kcl [(b, .inr (6, [.ref va_0, .int (0), .int (0), .int (nI (0))])), (va_0, .inl (G.2.1 0, 16, .inl (fun _ => 0)))] H := hP
  have hD : va_D A [(b, .inr (6, [.ref va_0, .int (0), .int (0), .int (nI (0))])), (va_0, .inl (G.2.1 0, 16, .inl (fun _ => 0)))] := hD
  refine W.widen (k := 1) (n := 16) (by first | exact Nat.le_refl _ | omega) (by first | exact Nat.le_refl _ | omega) ?_
  have hP9 := hP.sub (ws' := [(b, .inr (6, [.ref va_0, .int (0), .int (0), .int (nI (0))])), (va_0, .inl (G.2.1 0, 16, .inl (fun _ => 0)))]) [0, 1] rfl
  have hD9 := hD.sub (ws' := [(b, .inr (6, [.ref va_0, .int (0), .int (0), .int (nI (0))])), (va_0, .inl (G.2.1 0, 16, .inl (fun _ => 0)))]) [0, 1] (by decide) rfl
  refine W.widen (k := 1) (n := 16) (Nat.le_of_ble_eq_true rfl) (Nat.le_of_ble_eq_true rfl) ?_
  exact W.vret hx hb hr (fun t ht hW => ⟨⟨_, va_0, rfl, rfl, by rw [ht]; exact hP9, hD9, trivial⟩, hS.F ht⟩) hS.2.2 dc_J4_init_da8c8_6
set_option linter.constructorNameAsVariable false in
set_option maxHeartbeats 4000000 in
set_option maxRecDepth 100000 in
theorem mt_J5_isLatin1_aae02 (l : Launch) (G : ky_G) (b : Nat) (va : Nat) (ml : Int32) (nn : Int32) (sz : Nat)  : Met l my_J5_isLatin1_aae02 (.code my_J5_isLatin1_aae02 prog_12_method_68_code 1 (some .boolean) :: ky_B) { frames := 0, cells := 0, slots := 0, locals := 0 } (ky_P G [.ref b] ([(b, .inr (6, [.ref va, .int 0, .int ml, .int nn]))]) sz (fun _ => True)) (ky_Q (S := Unit) G (va_A ([(b, .inr (6, [.ref va, .int 0, .int ml, .int nn]))]) sz) (fun v _ => v = some (.int 1)) (fun _ => [(b, .inr (6, [.ref va, .int 0, .int ml, .int nn]))]) (fun _ _ => True)) (0) (0) (va_A ([(b, .inr (6, [.ref va, .int 0, .int ml, .int nn]))]) sz) := by
  refine ky_start (by decide) (Nat.le_of_ble_eq_true rfl) (fun p e s m below meth c F hE A hAe hsz hA hfr hP hD hS hX ls hl => ?_)
  obtain ⟨hx, hb, hml, hown, hr, hlocks, hts⟩ := id F
  have hl : lv_has ls 1 [(0, .ref b)] := hl
  have hP : va_P G.1 kcl [(b, .inr (6, [.ref va, .int (0), .int (ml), .int (nn)]))] s.heap := hP
  have hD : va_D A [(b, .inr (6, [.ref va, .int (0), .int (ml), .int (nn)]))] := hD
  refine va_gets hx hb (kq_compact hE hfr) hS hown (hts _ kw_1_53) (fun _ h9 => h9) dc_J5_isLatin1_aae02_0 ?_
  refine lv_if_eq (tgt := 17) hx hb dc_J5_isLatin1_aae02_3 (by decide) (fun c_0 => absurd c_0 (by decide)) (fun _ => ?_)
  refine lv_aload_n hx hb dc_J5_isLatin1_aae02_6 rfl (lv_at hl 0 rfl) ?_
  refine va_get (D := G.1) (ci := 6) (v := .int (0)) (C := RJ4) (T := TJ4) (N := 4) hx hb hts ki_J4 hown hE.1 hP 0 rfl rfl 1 (by decide) (hts _ kw_1_63) (fun _ h9 => h9) rfl dc_J5_isLatin1_aae02_7 ?_
  refine lv_if_ne (tgt := 17) hx hb dc_J5_isLatin1_aae02_10 (by decide) (fun c_1 => absurd c_1 (by decide)) (fun _ => ?_)
  refine lv_iconst (v := 1) hx hb dc_J5_isLatin1_aae02_13 (by decide) ?_
  refine lv_goto (tgt := 18) hx hb dc_J5_isLatin1_aae02_14 (by decide) ?_
  have hP9 := hP.sub (ws' := [(b, .inr (6, [.ref va, .int (0), .int (ml), .int (nn)]))]) [0] rfl
  have hD9 := hD.sub (ws' := [(b, .inr (6, [.ref va, .int (0), .int (ml), .int (nn)]))]) [0] (by decide) rfl
  refine W.widen (k := 0) (n := 0) (Nat.le_of_ble_eq_true rfl) (Nat.le_of_ble_eq_true rfl) ?_
  exact W.zret (v := (1 : Int32)) hx hb hr (by decide) (fun t ht hW => ⟨⟨_, (), rfl, rfl, by rw [ht]; exact hP9, hD9, trivial⟩, hS.F ht⟩) hS.2.2 dc_J5_isLatin1_aae02_18
set_option linter.constructorNameAsVariable false in
set_option maxHeartbeats 4000000 in
set_option maxRecDepth 100000 in
theorem mt_J5_length_8abf5 (l : Launch) (G : ky_G) (b : Nat) (va : Nat) (ml : Int32) (nn : Int32) (sz : Nat)  : Met l my_J5_length_8abf5 (.code my_J5_length_8abf5 prog_12_method_6_code 1 (some .int) :: ky_B) { frames := 0, cells := 0, slots := 0, locals := 0 } (ky_P G [.ref b] ([(b, .inr (6, [.ref va, .int 0, .int ml, .int nn]))]) sz (fun _ => True)) (ky_Q (S := Unit) G (va_A ([(b, .inr (6, [.ref va, .int 0, .int ml, .int nn]))]) sz) (fun v _ => v = some (.int nn)) (fun _ => [(b, .inr (6, [.ref va, .int 0, .int ml, .int nn]))]) (fun _ _ => True)) (0) (0) (va_A ([(b, .inr (6, [.ref va, .int 0, .int ml, .int nn]))]) sz) := by
  refine ky_start (by decide) (Nat.le_of_ble_eq_true rfl) (fun p e s m below meth c F hE A hAe hsz hA hfr hP hD hS hX ls hl => ?_)
  obtain ⟨hx, hb, hml, hown, hr, hlocks, hts⟩ := id F
  have hl : lv_has ls 1 [(0, .ref b)] := hl
  have hP : va_P G.1 kcl [(b, .inr (6, [.ref va, .int (0), .int (ml), .int (nn)]))] s.heap := hP
  have hD : va_D A [(b, .inr (6, [.ref va, .int (0), .int (ml), .int (nn)]))] := hD
  refine lv_aload_n hx hb dc_J5_length_8abf5_0 rfl (lv_at hl 0 rfl) ?_
  refine va_get (D := G.1) (ci := 6) (v := .int (nn)) (C := RJ4) (T := TJ4) (N := 4) hx hb hts ki_J4 hown hE.1 hP 0 rfl rfl 3 (by decide) (hts _ kw_1_66) (fun _ h9 => h9) rfl dc_J5_length_8abf5_1 ?_
  have hP9 := hP.sub (ws' := [(b, .inr (6, [.ref va, .int (0), .int (ml), .int (nn)]))]) [0] rfl
  have hD9 := hD.sub (ws' := [(b, .inr (6, [.ref va, .int (0), .int (ml), .int (nn)]))]) [0] (by decide) rfl
  refine W.widen (k := 0) (n := 0) (Nat.le_of_ble_eq_true rfl) (Nat.le_of_ble_eq_true rfl) ?_
  exact W.iret (v := nn) hx hb hr (fun t ht hW => ⟨⟨_, (), rfl, rfl, by rw [ht]; exact hP9, hD9, trivial⟩, hS.F ht⟩) hS.2.2 dc_J5_length_8abf5_4
set_option linter.constructorNameAsVariable false in
set_option maxHeartbeats 4000000 in
set_option maxRecDepth 100000 in
theorem mt_J5_getValue_6d5f1 (l : Launch) (G : ky_G) (b : Nat) (va : Nat) (ml : Int32) (nn : Int32) (sz : Nat)  : Met l my_J5_getValue_6d5f1 (.code my_J5_getValue_6d5f1 prog_12_method_64_code 1 (Option.some (Jvm.ClassFile.FieldType.array Jvm.ClassFile.FieldType.byte)) :: ky_B) { frames := 0, cells := 0, slots := 0, locals := 0 } (ky_P G [.ref b] ([(b, .inr (6, [.ref va, .int 0, .int ml, .int nn]))]) sz (fun _ => True)) (ky_Q (S := Unit) G (va_A ([(b, .inr (6, [.ref va, .int 0, .int ml, .int nn]))]) sz) (fun v _ => v = some (.ref va)) (fun _ => [(b, .inr (6, [.ref va, .int 0, .int ml, .int nn]))]) (fun _ _ => True)) (0) (0) (va_A ([(b, .inr (6, [.ref va, .int 0, .int ml, .int nn]))]) sz) := by
  refine ky_start (by decide) (Nat.le_of_ble_eq_true rfl) (fun p e s m below meth c F hE A hAe hsz hA hfr hP hD hS hX ls hl => ?_)
  obtain ⟨hx, hb, hml, hown, hr, hlocks, hts⟩ := id F
  have hl : lv_has ls 1 [(0, .ref b)] := hl
  have hP : va_P G.1 kcl [(b, .inr (6, [.ref va, .int (0), .int (ml), .int (nn)]))] s.heap := hP
  have hD : va_D A [(b, .inr (6, [.ref va, .int (0), .int (ml), .int (nn)]))] := hD
  refine lv_aload_n hx hb dc_J5_getValue_6d5f1_0 rfl (lv_at hl 0 rfl) ?_
  refine va_get (D := G.1) (ci := 6) (v := .ref va) (C := RJ4) (T := TJ4) (N := 4) hx hb hts ki_J4 hown hE.1 hP 0 rfl rfl 0 (by decide) (hts _ kw_1_62) (fun _ h9 => h9) rfl dc_J5_getValue_6d5f1_1 ?_
  have hP9 := hP.sub (ws' := [(b, .inr (6, [.ref va, .int (0), .int (ml), .int (nn)]))]) [0] rfl
  have hD9 := hD.sub (ws' := [(b, .inr (6, [.ref va, .int (0), .int (ml), .int (nn)]))]) [0] (by decide) rfl
  refine W.widen (k := 0) (n := 0) (Nat.le_of_ble_eq_true rfl) (Nat.le_of_ble_eq_true rfl) ?_
  exact W.aret (v := .ref va) hx hb hr (Or.inr ⟨_, rfl⟩) (Or.inr ⟨_, rfl⟩) (fun t ht hW => ⟨⟨_, (), rfl, rfl, by rw [ht]; exact hP9, hD9, trivial⟩, hS.F ht⟩) hS.2.2 dc_J5_getValue_6d5f1_4
set_option linter.constructorNameAsVariable false in
set_option maxHeartbeats 4000000 in
set_option maxRecDepth 100000 in
theorem mt_J4_length_8abf5 (l : Launch) (G : ky_G) (b : Nat) (va : Nat) (ml : Int32) (nn : Int32) (sz : Nat)  : Met l my_J4_length_8abf5 (.code my_J4_length_8abf5 prog_23_method_93_code 1 (some .int) :: ky_B) { frames := 1, cells := 0, slots := 0, locals := 20 } (ky_P G [.ref b] ([(b, .inr (6, [.ref va, .int 0, .int ml, .int nn]))]) sz (fun _ => True)) (ky_Q (S := Unit) G (va_A ([(b, .inr (6, [.ref va, .int 0, .int ml, .int nn]))]) sz) (fun v _ => v = some (.int nn)) (fun _ => [(b, .inr (6, [.ref va, .int 0, .int ml, .int nn]))]) (fun _ _ => True)) (0) (0) (va_A ([(b, .inr (6, [.ref va, .int 0, .int ml, .int nn]))]) sz) := by
  refine ky_start (by decide) (Nat.le_of_ble_eq_true rfl) (fun p e s m below meth c F hE A hAe hsz hA hfr hP hD hS hX ls hl => ?_)
  obtain ⟨hx, hb, hml, hown, hr, hlocks, hts⟩ := id F
  have hl : lv_has ls 1 [(0, .ref b)] := hl
  have hP : va_P G.1 kcl [(b, .inr (6, [.ref va, .int (0), .int (ml), .int (nn)]))] s.heap := hP
  have hD : va_D A [(b, .inr (6, [.ref va, .int (0), .int (ml), .int (nn)]))] := hD
  refine lv_aload_n hx hb dc_J4_length_8abf5_0 rfl (lv_at hl 0 rfl) ?_
  refine ky_cWh (ci := 6) (As := []) (wr := []) F (hE.at hfr hS) hfr hE.1 rfl (mt_J5_length_8abf5 l G b va ml nn s.heap.size ) ku_J4_343 ⟨⟨rfl, rfl⟩, Nat.le_of_ble_eq_true rfl, Nat.le_of_ble_eq_true rfl⟩ rfl hl.1 rfl (Nat.le_of_ble_eq_true rfl) ⟨Nat.le_of_ble_eq_true rfl, Nat.le_of_ble_eq_true rfl⟩ (va_recv hE.1 hP (ci := 6) (q0 := 0) rfl rfl) trivial hP hD hS hA [0] [] rfl rfl (by decide) (by decide) (by decide) dc_J4_length_8abf5_1 ?_
  rintro v9 u9 H locs rfl hP hD hS - hz hk9
  have hP : va_P G.1 kcl [(b, .inr (6, [.ref va, .int (0), .int (ml), .int (nn)]))] H := hP
  have hD : va_D A [(b, .inr (6, [.ref va, .int (0), .int (ml), .int (nn)]))] := hD
  refine W.widen (k := 0) (n := 0) (by first | exact Nat.le_refl _ | omega) (by first | exact Nat.le_refl _ | omega) ?_
  have hP9 := hP.sub (ws' := [(b, .inr (6, [.ref va, .int (0), .int (ml), .int (nn)]))]) [0] rfl
  have hD9 := hD.sub (ws' := [(b, .inr (6, [.ref va, .int (0), .int (ml), .int (nn)]))]) [0] (by decide) rfl
  refine W.widen (k := 0) (n := 0) (Nat.le_of_ble_eq_true rfl) (Nat.le_of_ble_eq_true rfl) ?_
  exact W.iret (v := nn) hx hb hr (fun t ht hW => ⟨⟨_, (), rfl, rfl, by rw [ht]; exact hP9, hD9, trivial⟩, hS.F ht⟩) hS.2.2 dc_J4_length_8abf5_4
set_option linter.constructorNameAsVariable false in
set_option maxHeartbeats 4000000 in
set_option maxRecDepth 100000 in
theorem mt_J8_newLength_cabcc (l : Launch) (G : ky_G) (g : Nat) (sz : Nat) (hg : g ≤ 18) : Met l my_J8_newLength_cabcc (.code my_J8_newLength_cabcc prog_30_method_27_code 4 (some .int) :: ky_B) { frames := 1, cells := 0, slots := 0, locals := 14 } (ky_P G [.int ((16 : Int32)), .int (nI g), .int ((18 : Int32))] ([]) sz (fun _ => True)) (ky_Q (S := Unit) G (va_A ([]) sz) (fun v _ => v = some (.int 34)) (fun _ => []) (fun _ _ => True)) (0) (0) (va_A ([]) sz) := by
  refine ky_start (by decide) (Nat.le_of_ble_eq_true rfl) (fun p e s m below meth c F hE A hAe hsz hA hfr hP hD hS hX ls hl => ?_)
  obtain ⟨hx, hb, hml, hown, hr, hlocks, hts⟩ := id F
  have hl : lv_has ls 4 [(0, .int ((16 : Int32))), (1, .int (nI g)), (2, .int ((18 : Int32)))] := hl
  have hP : va_P G.1 kcl [] s.heap := hP
  have hD : va_D A [] := hD
  refine lv_iload_n hx hb dc_J8_newLength_cabcc_0 rfl (lv_at hl 0 rfl) ?_
  refine lv_iload_n hx hb dc_J8_newLength_cabcc_1 rfl (lv_at hl 1 rfl) ?_
  refine lv_iload_n hx hb dc_J8_newLength_cabcc_2 rfl (lv_at hl 2 rfl) ?_
  refine ky_imax F ⟨kw_1_184, kw_1_185, kw_1_16, kw_1_186⟩ hl.1 (Nat.le_of_ble_eq_true rfl) (Nat.le_of_ble_eq_true rfl) ⟨Nat.le_of_ble_eq_true rfl, Nat.le_of_ble_eq_true rfl⟩ dc_J8_newLength_cabcc_3 ?_
  rw [show ((jimax (nI g) ((18 : Int32))) : Int32) = (18 : Int32) from ky_mx hg]
  refine lv_iadd hx hb dc_J8_newLength_cabcc_6 ?_
  rw [show ((((16 : Int32)) + ((18 : Int32))) : Int32) = (34 : Int32) from by decide]
  rw [show (((34 : Int32)) : Int32) = (34 : Int32) from by decide]
  refine lv_istore_n (lv' := [(3, .int ((34 : Int32))), (0, .int ((16 : Int32))), (1, .int (nI g)), (2, .int ((18 : Int32)))]) hx hb dc_J8_newLength_cabcc_7 rfl hl (by decide) rfl (fun ls hl => ?_)
  refine lv_iconst (v := 0) hx hb dc_J8_newLength_cabcc_8 (by decide) ?_
  refine lv_iload_n hx hb dc_J8_newLength_cabcc_9 rfl (lv_at hl 0 rfl) ?_
  refine lv_icmp_ge (tgt := 21) hx hb dc_J8_newLength_cabcc_10 (by decide) (fun c_0 => absurd c_0 (by decide)) (fun _ => ?_)
  refine lv_iload_n hx hb dc_J8_newLength_cabcc_13 rfl (lv_at hl 0 rfl) ?_
  refine lv_ldc (v := 2147483639) hx hb hown (hts _ kw_1_187) dc_J8_newLength_cabcc_14 ?_
  refine lv_icmp_gt (tgt := 21) hx hb dc_J8_newLength_cabcc_16 (by decide) (fun c_1 => absurd c_1 (by decide)) (fun _ => ?_)
  refine lv_iload_n hx hb dc_J8_newLength_cabcc_19 rfl (lv_at hl 0 rfl) ?_
  have hP9 := hP.sub (ws' := []) [] rfl
  have hD9 := hD.sub (ws' := []) [] (by decide) rfl
  refine W.widen (k := 0) (n := 0) (Nat.le_of_ble_eq_true rfl) (Nat.le_of_ble_eq_true rfl) ?_
  exact W.iret (v := (34 : Int32)) hx hb hr (fun t ht hW => ⟨⟨_, (), rfl, rfl, by rw [ht]; exact hP9, hD9, trivial⟩, hS.F ht⟩) hS.2.2 dc_J8_newLength_cabcc_20
set_option linter.constructorNameAsVariable false in
set_option maxHeartbeats 4000000 in
set_option maxRecDepth 100000 in
theorem mt_J5_newCapacity_0f7a4 (l : Launch) (G : ky_G) (b : Nat) (va : Nat) (mm : Nat) (n : Nat) (f : Nat → Int32) (ml : Int32) (q : Nat) (sz : Nat) (em : mm = 16) (hq1 : ¬ q ≤ mm) (hq : q ≤ 34) : Met l my_J5_newCapacity_0f7a4 (.code my_J5_newCapacity_0f7a4 prog_12_method_10_code 6 (some .int) :: ky_B) { frames := 2, cells := 0, slots := 0, locals := 37 } (ky_P G [.ref b, .int (nI q)] (ky_WT G b va mm n f ml) sz (fun _ => True)) (ky_Q (S := Unit) G (va_A (ky_WT G b va mm n f ml) sz) (fun v _ => v = some (.int 34)) (fun _ => ky_WT G b va mm n f ml) (fun _ _ => True)) (0) (0) (va_A (ky_WT G b va mm n f ml) sz) := by
  refine ky_start (by decide) (Nat.le_of_ble_eq_true rfl) (fun p e s m below meth c F hE A hAe hsz hA hfr hP hD hS hX ls hl => ?_)
  obtain ⟨hx, hb, hml, hown, hr, hlocks, hts⟩ := id F
  have hl : lv_has ls 6 [(0, .ref b), (1, .int (nI q))] := hl
  have hP : va_P G.1 kcl [(b, .inr (6, [.ref va, .int (0), .int (ml), .int (nI (n))])), (va, .inl (G.2.1 0, mm, .inl (f)))] s.heap := hP
  have hD : va_D A [(b, .inr (6, [.ref va, .int (0), .int (ml), .int (nI (n))])), (va, .inl (G.2.1 0, mm, .inl (f)))] := hD
  refine lv_aload_n hx hb dc_J5_newCapacity_0f7a4_0 rfl (lv_at hl 0 rfl) ?_
  refine va_get (D := G.1) (ci := 6) (v := .ref va) (C := RJ4) (T := TJ4) (N := 4) hx hb hts ki_J4 hown hE.1 hP 0 rfl rfl 0 (by decide) (hts _ kw_1_62) (fun _ h9 => h9) rfl dc_J5_newCapacity_0f7a4_1 ?_
  refine va_alen hx hb hE.1 hP 1 0 rfl rfl (v := Int32.ofNat (mm)) rfl dc_J5_newCapacity_0f7a4_4 ?_
  rw [show ((Int32.ofNat (mm)) : Int32) = (16 : Int32) from by rw [em]; rfl]
  refine lv_istore_n (lv' := [(2, .int ((16 : Int32))), (0, .ref b), (1, .int (nI q))]) hx hb dc_J5_newCapacity_0f7a4_5 rfl hl (by decide) rfl (fun ls hl => ?_)
  refine lv_iload_n hx hb dc_J5_newCapacity_0f7a4_6 rfl (lv_at hl 2 rfl) ?_
  refine lv_aload_n hx hb dc_J5_newCapacity_0f7a4_7 rfl (lv_at hl 1 rfl) ?_
  refine va_get (D := G.1) (ci := 6) (v := .int (0)) (C := RJ4) (T := TJ4) (N := 4) hx hb hts ki_J4 hown hE.1 hP 0 rfl rfl 1 (by decide) (hts _ kw_1_63) (fun _ h9 => h9) rfl dc_J5_newCapacity_0f7a4_8 ?_
  refine lv_ishl hx hb dc_J5_newCapacity_0f7a4_11 ?_
  rw [show (((nI q) <<< ((0) &&& 31)) : Int32) = nI q from sb_shl0 _]
  refine lv_istore_n (lv' := [(3, .int (nI q)), (2, .int ((16 : Int32))), (0, .ref b), (1, .int (nI q))]) hx hb dc_J5_newCapacity_0f7a4_12 rfl hl (by decide) rfl (fun ls hl => ?_)
  refine lv_iload_n hx hb dc_J5_newCapacity_0f7a4_13 rfl (lv_at hl 0 rfl) ?_
  refine lv_iload_n hx hb dc_J5_newCapacity_0f7a4_14 rfl (lv_at hl 1 rfl) ?_
  refine lv_isub hx hb dc_J5_newCapacity_0f7a4_15 ?_
  rw [show (((nI q) - ((16 : Int32))) : Int32) = nI (q - 16) from pk_sub (b := 16) (by omega)]
  refine lv_istore (lv' := [(4, .int (nI (q - 16))), (3, .int (nI q)), (2, .int ((16 : Int32))), (0, .ref b), (1, .int (nI q))]) hx hb dc_J5_newCapacity_0f7a4_16 hl (by decide) rfl (fun ls hl => ?_)
  refine lv_iload_n hx hb dc_J5_newCapacity_0f7a4_18 rfl (lv_at hl 2 rfl) ?_
  refine lv_iload hx hb dc_J5_newCapacity_0f7a4_19 (lv_at hl 0 rfl) ?_
  refine lv_iload_n hx hb dc_J5_newCapacity_0f7a4_21 rfl (lv_at hl 2 rfl) ?_
  refine lv_iconst (v := 2) hx hb dc_J5_newCapacity_0f7a4_22 (by decide) ?_
  refine lv_aload_n hx hb dc_J5_newCapacity_0f7a4_23 rfl (lv_at hl 3 rfl) ?_
  refine va_get (D := G.1) (ci := 6) (v := .int (0)) (C := RJ4) (T := TJ4) (N := 4) hx hb hts ki_J4 hown hE.1 hP 0 rfl rfl 1 (by decide) (hts _ kw_1_63) (fun _ h9 => h9) rfl dc_J5_newCapacity_0f7a4_24 ?_
  refine lv_ishl hx hb dc_J5_newCapacity_0f7a4_27 ?_
  refine lv_iadd hx hb dc_J5_newCapacity_0f7a4_28 ?_
  rw [show ((((16 : Int32)) + (((2 : Int32)) <<< ((0) &&& 31))) : Int32) = (18 : Int32) from by decide]
  refine ky_cSh (As := [.int ((16 : Int32)), .int (nI (q - 16)), .int ((18 : Int32))]) (wr := [(b, .inr (6, [.ref va, .int (0), .int (ml), .int (nI (n))])), (va, .inl (G.2.1 0, mm, .inl (f)))]) F (hE.at hfr hS) hfr (mt_J8_newLength_cabcc l G (q - 16) s.heap.size (by omega)) ks_J5_114 ⟨⟨rfl, rfl⟩, Nat.le_of_ble_eq_true rfl, Nat.le_of_ble_eq_true rfl⟩ rfl hl.1 rfl (Nat.le_of_ble_eq_true rfl) ⟨Nat.le_of_ble_eq_true rfl, Nat.le_of_ble_eq_true rfl⟩ trivial hP hD hS hA [] [0, 1] rfl rfl (by decide) (by decide) (by decide) dc_J5_newCapacity_0f7a4_29 ?_
  rintro v9 u9 H locs rfl hP hD hS - hz hk9
  have hP : va_P G.1 kcl [(b, .inr (6, [.ref va, .int (0), .int (ml), .int (nI (n))])), (va, .inl (G.2.1 0, mm, .inl (f)))] H := hP
  have hD : va_D A [(b, .inr (6, [.ref va, .int (0), .int (ml), .int (nI (n))])), (va, .inl (G.2.1 0, mm, .inl (f)))] := hD
  refine W.widen (k := 0) (n := 0) (by first | exact Nat.le_refl _ | omega) (by first | exact Nat.le_refl _ | omega) ?_
  refine lv_istore (lv' := [(5, .int ((34 : Int32))), (4, .int (nI (q - 16))), (3, .int (nI q)), (2, .int ((16 : Int32))), (0, .ref b), (1, .int (nI q))]) hx hb dc_J5_newCapacity_0f7a4_32 hl (by decide) rfl (fun ls hl => ?_)
  refine lv_iload hx hb dc_J5_newCapacity_0f7a4_34 (lv_at hl 0 rfl) ?_
  refine lv_ldc (v := 2147483647) hx hb hown (hts _ kw_1_191) dc_J5_newCapacity_0f7a4_36 ?_
  refine lv_icmp_ne (tgt := 51) hx hb dc_J5_newCapacity_0f7a4_38 (by decide) (fun _ => ?_) (fun c_1 => absurd c_1 (by decide))
  refine lv_iload hx hb dc_J5_newCapacity_0f7a4_51 (lv_at hl 0 rfl) ?_
  refine lv_aload_n hx hb dc_J5_newCapacity_0f7a4_53 rfl (lv_at hl 4 rfl) ?_
  refine va_get (D := G.1) (ci := 6) (v := .int (0)) (C := RJ4) (T := TJ4) (N := 4) hx hb hts ki_J4 hown hE.1 hP 0 rfl rfl 1 (by decide) (hts _ kw_1_63) (fun _ h9 => h9) rfl dc_J5_newCapacity_0f7a4_54 ?_
  refine lv_ishr hx hb dc_J5_newCapacity_0f7a4_57 ?_
  rw [show ((((34 : Int32)) >>> ((0) &&& 31)) : Int32) = (34 : Int32) from by decide]
  have hP9 := hP.sub (ws' := [(b, .inr (6, [.ref va, .int (0), .int (ml), .int (nI (n))])), (va, .inl (G.2.1 0, mm, .inl (f)))]) [0, 1] rfl
  have hD9 := hD.sub (ws' := [(b, .inr (6, [.ref va, .int (0), .int (ml), .int (nI (n))])), (va, .inl (G.2.1 0, mm, .inl (f)))]) [0, 1] (by decide) rfl
  refine W.widen (k := 0) (n := 0) (Nat.le_of_ble_eq_true rfl) (Nat.le_of_ble_eq_true rfl) ?_
  exact W.iret (v := (34 : Int32)) hx hb hr (fun t ht hW => ⟨⟨_, (), rfl, rfl, by rw [ht]; exact hP9, hD9, trivial⟩, hS.F ht⟩) hS.2.2 dc_J5_newCapacity_0f7a4_58
set_option linter.constructorNameAsVariable false in
set_option maxHeartbeats 4000000 in
set_option maxRecDepth 100000 in
theorem mt_J7_copyOf_9075b (l : Launch) (G : ky_G) (a : Nat) (mm : Nat) (f : Nat → Int32) (sz : Nat) (em : mm = 16) (hf : ky_fit f) : Met l my_J7_copyOf_9075b (.code my_J7_copyOf_9075b prog_29_method_121_code 3 (Option.some (Jvm.ClassFile.FieldType.array Jvm.ClassFile.FieldType.byte)) :: ky_B) { frames := 1, cells := 1, slots := 34, locals := 40 } (ky_P G [.ref a, .int ((34 : Int32))] ([(a, .inl (G.2.1 0, mm, .inl f))]) sz (fun _ => True)) (ky_Q (S := Nat × (Nat → Int32)) G (va_A ([(a, .inl (G.2.1 0, mm, .inl f))]) sz) (fun v u => v = some (.ref u.1) ∧ ky_fit u.2) (fun u => [(a, .inl (G.2.1 0, mm, .inl f)), (u.1, .inl (G.2.1 0, 34, .inl u.2))]) (fun _ _ => True)) (1) (34) (va_A ([(a, .inl (G.2.1 0, mm, .inl f))]) sz) := by
  refine ky_start (by decide) (Nat.le_of_ble_eq_true rfl) (fun p e s m below meth c F hE A hAe hsz hA hfr hP hD hS hX ls hl => ?_)
  obtain ⟨hx, hb, hml, hown, hr, hlocks, hts⟩ := id F
  have hl : lv_has ls 3 [(0, .ref a), (1, .int ((34 : Int32)))] := hl
  have hP : va_P G.1 kcl [(a, .inl (G.2.1 0, mm, .inl (f)))] s.heap := hP
  have hD : va_D A [(a, .inl (G.2.1 0, mm, .inl (f)))] := hD
  refine lv_iload_n hx hb dc_J7_copyOf_9075b_0 rfl (lv_at hl 1 rfl) ?_
  refine lv_aload_n hx hb dc_J7_copyOf_9075b_1 rfl (lv_at hl 0 rfl) ?_
  refine va_alen hx hb hE.1 hP 0 0 rfl rfl (v := Int32.ofNat (mm)) rfl dc_J7_copyOf_9075b_2 ?_
  refine lv_icmp_ne (tgt := 14) hx hb dc_J7_copyOf_9075b_3 (by decide) (fun _ => ?_) (fun c_0 => absurd c_0 (by rw [em]; decide))
  refine lv_iload_n hx hb dc_J7_copyOf_9075b_14 rfl (lv_at hl 1 rfl) ?_
  refine va_newa (atype := .byte) (ty := .byte) (N' := 34) (a0 := (34, .inl (fun _ => 0))) hx hb (hts _ kw_1_77) rfl hE.1 hP hD hS hA (fun _ => rfl) (by decide) (by decide) (by decide) (Nat.le_of_ble_eq_true rfl) (Nat.le_of_ble_eq_true rfl) dc_J7_copyOf_9075b_15 (fun q_1 cA_1 H hK_1 hP hD hS => ?_)
  have hc_1 : cA_1 = G.2.1 0 := ky_nB 0 hE.1 hK_1 rfl (fun _ h => by cases h)
  subst hc_1
  have hP : va_P G.1 kcl [(a, .inl (G.2.1 0, mm, .inl (f))), (q_1, .inl (G.2.1 0, 34, .inl (fun _ => 0)))] H := hP
  have hD : va_D A [(a, .inl (G.2.1 0, mm, .inl (f))), (q_1, .inl (G.2.1 0, 34, .inl (fun _ => 0)))] := hD
  refine W.widen (k := 1) (n := 34) (by first | exact Nat.le_refl _ | omega) (by first | exact Nat.le_refl _ | omega) ?_
  refine lv_astore_n (lv' := [(2, .ref q_1), (0, .ref a), (1, .int ((34 : Int32)))]) hx hb dc_J7_copyOf_9075b_17 rfl hl (by decide) rfl (fun ls hl => ?_)
  refine lv_aload_n hx hb dc_J7_copyOf_9075b_18 rfl (lv_at hl 1 rfl) ?_
  refine lv_iconst (v := 0) hx hb dc_J7_copyOf_9075b_19 (by decide) ?_
  refine lv_aload_n hx hb dc_J7_copyOf_9075b_20 rfl (lv_at hl 0 rfl) ?_
  refine lv_iconst (v := 0) hx hb dc_J7_copyOf_9075b_21 (by decide) ?_
  refine lv_aload_n hx hb dc_J7_copyOf_9075b_22 rfl (lv_at hl 1 rfl) ?_
  refine va_alen hx hb hE.1 hP 0 0 rfl rfl (v := Int32.ofNat (mm)) rfl dc_J7_copyOf_9075b_23 ?_
  rw [show ((Int32.ofNat (mm)) : Int32) = (16 : Int32) from by rw [em]; rfl]
  refine lv_iload_n hx hb dc_J7_copyOf_9075b_24 rfl (lv_at hl 2 rfl) ?_
  refine ky_imin F ⟨kw_1_202, kw_1_203, kw_1_16, kw_1_204⟩ hl.1 (Nat.le_of_ble_eq_true rfl) (Nat.le_of_ble_eq_true rfl) ⟨Nat.le_of_ble_eq_true rfl, Nat.le_of_ble_eq_true rfl⟩ dc_J7_copyOf_9075b_25 ?_
  rw [show ((jimin ((16 : Int32)) ((34 : Int32))) : Int32) = (16 : Int32) from by decide]
  refine va_copyi hx hb (hml.trans hl.1.symm) hown (hts _ kw_1_205) (hts _ kw_1_207) (hts _ kw_1_206) (hts _ kw_1_23) hE.1 hP hD hS 0 1 0 0 rfl rfl rfl rfl rfl (by decide) (by decide) (by decide) (by rw [em]; decide) (by decide) (fun i _ => hf _) (Nat.le_of_ble_eq_true rfl) (Nat.le_of_ble_eq_true rfl) dc_J7_copyOf_9075b_28 (fun H locs hP hD hS => ?_)
  have hP : va_P G.1 kcl [(a, .inl (G.2.1 0, mm, .inl (f))), (q_1, .inl (G.2.1 0, 34, .inl (va_cpy (f) (fun _ => 0) ((0 : Int32)).toNatClampNeg ((0 : Int32)).toNatClampNeg ((16 : Int32)).toNatClampNeg)))] H := hP
  have hD : va_D A [(a, .inl (G.2.1 0, mm, .inl (f))), (q_1, .inl (G.2.1 0, 34, .inl (va_cpy (f) (fun _ => 0) ((0 : Int32)).toNatClampNeg ((0 : Int32)).toNatClampNeg ((16 : Int32)).toNatClampNeg)))] := hD
  refine lv_aload_n hx hb dc_J7_copyOf_9075b_31 rfl (lv_at hl 0 rfl) ?_
  have hP9 := hP.sub (ws' := [(a, .inl (G.2.1 0, mm, .inl (f))), (q_1, .inl (G.2.1 0, 34, .inl (va_cpy (f) (fun _ => 0) ((0 : Int32)).toNatClampNeg ((0 : Int32)).toNatClampNeg ((16 : Int32)).toNatClampNeg)))]) [0, 1] rfl
  have hD9 := hD.sub (ws' := [(a, .inl (G.2.1 0, mm, .inl (f))), (q_1, .inl (G.2.1 0, 34, .inl (va_cpy (f) (fun _ => 0) ((0 : Int32)).toNatClampNeg ((0 : Int32)).toNatClampNeg ((16 : Int32)).toNatClampNeg)))]) [0, 1] (by decide) rfl
  refine W.widen (k := 1) (n := 34) (Nat.le_of_ble_eq_true rfl) (Nat.le_of_ble_eq_true rfl) ?_
  exact W.aret (v := .ref q_1) hx hb hr (Or.inr ⟨_, rfl⟩) (Or.inr ⟨_, rfl⟩) (fun t ht hW => ⟨⟨_, (q_1, va_cpy (f) (fun _ => 0) ((0 : Int32)).toNatClampNeg ((0 : Int32)).toNatClampNeg ((16 : Int32)).toNatClampNeg), rfl, ⟨rfl, ky_fitC hf ky_fit0 _ _ _⟩, by rw [ht]; exact hP9, hD9, trivial⟩, hS.F ht⟩) hS.2.2 dc_J7_copyOf_9075b_32
set_option linter.constructorNameAsVariable false in
set_option maxHeartbeats 4000000 in
set_option maxRecDepth 100000 in
theorem mt_J5_ensureCapacityInternal_d00df (l : Launch) (G : ky_G) (b : Nat) (va : Nat) (mm : Nat) (n : Nat) (f : Nat → Int32) (ml : Int32) (q : Nat) (sz : Nat) (hm : ky_m2 mm) (hf : ky_fit f) (hq : q ≤ 34) : Met l my_J5_ensureCapacityInternal_d00df (.code my_J5_ensureCapacityInternal_d00df prog_12_method_9_code 3 none :: ky_B) { frames := 3, cells := ky_gc mm q, slots := ky_gs mm q, locals := 62 } (ky_P G [.ref b, .int (nI q)] (ky_WT G b va mm n f ml) sz (fun _ => True)) (ky_Q (S := Nat × (Nat → Int32)) G (va_A (ky_WT G b va mm n f ml) sz) (fun v u => v = none ∧ ky_fit u.2) (fun u => ky_WT G b u.1 (ky_cap mm q) n u.2 ml) (fun _ _ => True)) (ky_gc mm q) (ky_gs mm q) (va_A (ky_WT G b va mm n f ml) sz) := by
  refine ky_start (by decide) (Nat.le_of_ble_eq_true rfl) (fun p e s m below meth c F hE A hAe hsz hA hfr hP hD hS hX ls hl => ?_)
  obtain ⟨hx, hb, hml, hown, hr, hlocks, hts⟩ := id F
  have hl : lv_has ls 3 [(0, .ref b), (1, .int (nI q))] := hl
  have hP : va_P G.1 kcl [(b, .inr (6, [.ref va, .int (0), .int (ml), .int (nI (n))])), (va, .inl (G.2.1 0, mm, .inl (f)))] s.heap := hP
  have hD : va_D A [(b, .inr (6, [.ref va, .int (0), .int (ml), .int (nI (n))])), (va, .inl (G.2.1 0, mm, .inl (f)))] := hD
  refine lv_aload_n hx hb dc_J5_ensureCapacityInternal_d00df_0 rfl (lv_at hl 0 rfl) ?_
  refine va_get (D := G.1) (ci := 6) (v := .ref va) (C := RJ4) (T := TJ4) (N := 4) hx hb hts ki_J4 hown hE.1 hP 0 rfl rfl 0 (by decide) (hts _ kw_1_62) (fun _ h9 => h9) rfl dc_J5_ensureCapacityInternal_d00df_1 ?_
  refine va_alen hx hb hE.1 hP 1 0 rfl rfl (v := Int32.ofNat (mm)) rfl dc_J5_ensureCapacityInternal_d00df_4 ?_
  refine lv_aload_n hx hb dc_J5_ensureCapacityInternal_d00df_5 rfl (lv_at hl 0 rfl) ?_
  refine va_get (D := G.1) (ci := 6) (v := .int (0)) (C := RJ4) (T := TJ4) (N := 4) hx hb hts ki_J4 hown hE.1 hP 0 rfl rfl 1 (by decide) (hts _ kw_1_63) (fun _ h9 => h9) rfl dc_J5_ensureCapacityInternal_d00df_6 ?_
  refine lv_ishr hx hb dc_J5_ensureCapacityInternal_d00df_9 ?_
  rw [show (((Int32.ofNat (mm)) >>> ((0) &&& 31)) : Int32) = nI mm from sb_shr0 _]
  refine lv_istore_n (lv' := [(2, .int (nI mm)), (0, .ref b), (1, .int (nI q))]) hx hb dc_J5_ensureCapacityInternal_d00df_10 rfl hl (by decide) rfl (fun ls hl => ?_)
  refine lv_iload_n hx hb dc_J5_ensureCapacityInternal_d00df_11 rfl (lv_at hl 2 rfl) ?_
  refine lv_iload_n hx hb dc_J5_ensureCapacityInternal_d00df_12 rfl (lv_at hl 0 rfl) ?_
  refine lv_isub hx hb dc_J5_ensureCapacityInternal_d00df_13 ?_
  refine lv_if_le (tgt := 38) hx hb dc_J5_ensureCapacityInternal_d00df_14 (by decide) (fun c_0 => ?_) (fun c_0 => ?_)
  · skip
    have hq2 : q ≤ mm := ky_sle (by omega) hm.lt c_0
    have e9 : ky_cap mm q = mm := ky_cap0 hq2
    have hP9 := hP.sub (ws' := [(b, .inr (6, [.ref va, .int (0), .int (ml), .int (nI (n))])), (va, .inl (G.2.1 0, mm, .inl (f)))]) [0, 1] rfl
    have hD9 := hD.sub (ws' := [(b, .inr (6, [.ref va, .int (0), .int (ml), .int (nI (n))])), (va, .inl (G.2.1 0, mm, .inl (f)))]) [0, 1] (by decide) rfl
    rw [show ([(b, .inr (6, [.ref va, .int (0), .int (ml), .int (nI (n))])), (va, .inl (G.2.1 0, mm, .inl (f)))] : va_W) = [(b, .inr (6, [.ref va, .int (0), .int (ml), .int (nI (n))])), (va, .inl (G.2.1 0, ky_cap mm q, .inl (f)))] by rw [e9]] at hP9 hD9
    refine W.widen (k := ky_gc mm q) (n := ky_gs mm q) (by first | omega | exact Nat.zero_le _) (by first | omega | exact Nat.zero_le _) ?_
    exact W.vret hx hb hr (fun t ht hW => ⟨⟨_, (va, f), rfl, ⟨rfl, hf⟩, by rw [ht]; exact hP9, hD9, trivial⟩, hS.F ht⟩) hS.2.2 dc_J5_ensureCapacityInternal_d00df_38
  · skip
    have hq1 : ¬ q ≤ mm := ky_nsle (by omega) hm.lt c_0
    have em : mm = 16 := hm.small hq hq1
    have e1 : ky_gc mm q = 1 := ky_gc1 hq1
    have e2 : ky_gs mm q = 34 := ky_gs1 hq1
    refine lv_aload_n hx hb dc_J5_ensureCapacityInternal_d00df_17 rfl (lv_at hl 1 rfl) ?_
    refine lv_aload_n hx hb dc_J5_ensureCapacityInternal_d00df_18 rfl (lv_at hl 1 rfl) ?_
    refine va_get (D := G.1) (ci := 6) (v := .ref va) (C := RJ4) (T := TJ4) (N := 4) hx hb hts ki_J4 hown hE.1 hP 0 rfl rfl 0 (by decide) (hts _ kw_1_62) (fun _ h9 => h9) rfl dc_J5_ensureCapacityInternal_d00df_19 ?_
    refine lv_aload_n hx hb dc_J5_ensureCapacityInternal_d00df_22 rfl (lv_at hl 1 rfl) ?_
    refine lv_iload_n hx hb dc_J5_ensureCapacityInternal_d00df_23 rfl (lv_at hl 2 rfl) ?_
    refine ky_cUh (As := [.int (nI q)]) (wr := []) F (hE.at hfr hS) hfr (mt_J5_newCapacity_0f7a4 l G b va mm n f ml q s.heap.size em hq1 hq) (ku_J5_104.cu hE hts ⟨⟨rfl, rfl⟩, Nat.le_of_ble_eq_true rfl, Nat.le_of_ble_eq_true rfl⟩) rfl hl.1 rfl (Nat.le_of_ble_eq_true rfl) ⟨by show (_ : Nat) ≤ ky_gc mm q; omega, by show (_ : Nat) ≤ ky_gs mm q; omega⟩ (va_recv hE.1 hP (ci := 6) (q0 := 0) rfl rfl) trivial hP hD hS hA [0, 1] [] rfl rfl (by decide) (by decide) (by decide) dc_J5_ensureCapacityInternal_d00df_24 ?_
    rintro v9 u9 H locs rfl hP hD hS - hz hk9
    have hP : va_P G.1 kcl [(b, .inr (6, [.ref va, .int (0), .int (ml), .int (nI (n))])), (va, .inl (G.2.1 0, mm, .inl (f)))] H := hP
    have hD : va_D A [(b, .inr (6, [.ref va, .int (0), .int (ml), .int (nI (n))])), (va, .inl (G.2.1 0, mm, .inl (f)))] := hD
    refine W.widen (k := 0) (n := 0) (by first | exact Nat.le_refl _ | omega) (by first | exact Nat.le_refl _ | omega) ?_
    refine lv_aload_n hx hb dc_J5_ensureCapacityInternal_d00df_27 rfl (lv_at hl 1 rfl) ?_
    refine va_get (D := G.1) (ci := 6) (v := .int (0)) (C := RJ4) (T := TJ4) (N := 4) hx hb hts ki_J4 hown hE.1 hP 0 rfl rfl 1 (by decide) (hts _ kw_1_63) (fun _ h9 => h9) rfl dc_J5_ensureCapacityInternal_d00df_28 ?_
    refine lv_ishl hx hb dc_J5_ensureCapacityInternal_d00df_31 ?_
    rw [show ((((34 : Int32)) <<< ((0) &&& 31)) : Int32) = (34 : Int32) from by decide]
    refine ky_cSh (As := [.ref va, .int ((34 : Int32))]) (wr := [(b, .inr (6, [.ref va, .int (0), .int (ml), .int (nI (n))]))]) F (hE.at hfr hS) hfr (mt_J7_copyOf_9075b l G va mm f H.size em hf) ks_J5_108 ⟨⟨rfl, rfl⟩, Nat.le_of_ble_eq_true rfl, Nat.le_of_ble_eq_true rfl⟩ rfl hl.1 rfl (Nat.le_of_ble_eq_true rfl) ⟨by show (_ : Nat) ≤ ky_gc mm q; omega, by show (_ : Nat) ≤ ky_gs mm q; omega⟩ trivial hP hD hS hA [1] [0] rfl rfl (by decide) (by decide) (by decide) dc_J5_ensureCapacityInternal_d00df_32 ?_
    rintro v9 ⟨va_2, f_2⟩ H locs ⟨rfl, hf_2⟩ hP hD hS - hz hk9
    have hP : va_P G.1 kcl [(b, .inr (6, [.ref va, .int (0), .int (ml), .int (nI (n))])), (va, .inl (G.2.1 0, mm, .inl (f))), (va_2, .inl (G.2.1 0, 34, .inl (f_2)))] H := hP
    have hD : va_D A [(b, .inr (6, [.ref va, .int (0), .int (ml), .int (nI (n))])), (va, .inl (G.2.1 0, mm, .inl (f))), (va_2, .inl (G.2.1 0, 34, .inl (f_2)))] := hD
    refine W.widen (k := 1) (n := 34) (by first | exact Nat.le_refl _ | omega) (by first | exact Nat.le_refl _ | omega) ?_
    refine va_put (D := G.1) (ci := 6) (v := .ref va_2) (ty := .array .byte) (C := RJ4) (T := TJ4) (N := 4) hx hb hts ki_J4 tyJ4 tyJ4_ok nmJ4 hown hE.1 hP hD hS 0 rfl rfl 0 (by decide) (hts _ kw_1_62) (fun _ h9 => h9) rfl (by decide +kernel) rfl rfl (Nat.le_of_ble_eq_true rfl) dc_J5_ensureCapacityInternal_d00df_35 (fun H locs hP hD hS => ?_)
    have hP : va_P G.1 kcl [(b, .inr (6, [.ref va_2, .int (0), .int (ml), .int (nI (n))])), (va, .inl (G.2.1 0, mm, .inl (f))), (va_2, .inl (G.2.1 0, 34, .inl (f_2)))] H := hP
    have hD : va_D A [(b, .inr (6, [.ref va_2, .int (0), .int (ml), .int (nI (n))])), (va, .inl (G.2.1 0, mm, .inl (f))), (va_2, .inl (G.2.1 0, 34, .inl (f_2)))] := hD
    have e9 : ky_cap mm q = 34 := ky_cap1 hq1
    have hP9 := hP.sub (ws' := [(b, .inr (6, [.ref va_2, .int (0), .int (ml), .int (nI (n))])), (va_2, .inl (G.2.1 0, 34, .inl (f_2)))]) [0, 2] rfl
    have hD9 := hD.sub (ws' := [(b, .inr (6, [.ref va_2, .int (0), .int (ml), .int (nI (n))])), (va_2, .inl (G.2.1 0, 34, .inl (f_2)))]) [0, 2] (by decide) rfl
    rw [show ([(b, .inr (6, [.ref va_2, .int (0), .int (ml), .int (nI (n))])), (va_2, .inl (G.2.1 0, 34, .inl (f_2)))] : va_W) = [(b, .inr (6, [.ref va_2, .int (0), .int (ml), .int (nI (n))])), (va_2, .inl (G.2.1 0, ky_cap mm q, .inl (f_2)))] by rw [e9]] at hP9 hD9
    refine W.widen (k := ky_gc mm q) (n := ky_gs mm q) (by first | omega | exact Nat.zero_le _) (by first | omega | exact Nat.zero_le _) ?_
    exact W.vret hx hb hr (fun t ht hW => ⟨⟨_, (va_2, f_2), rfl, ⟨rfl, hf_2⟩, by rw [ht]; exact hP9, hD9, trivial⟩, hS.F ht⟩) hS.2.2 dc_J5_ensureCapacityInternal_d00df_38
set_option linter.constructorNameAsVariable false in
set_option maxHeartbeats 4000000 in
set_option maxRecDepth 100000 in
theorem mt_J5_setLength_d00df (l : Launch) (G : ky_G) (b : Nat) (va : Nat) (mm : Nat) (n : Nat) (f : Nat → Int32) (ml : Int32) (sz : Nat) (hm : ky_m2 mm) (hf : ky_fit f) (hn : n ≤ 34) : Met l my_J5_setLength_d00df (.code my_J5_setLength_d00df prog_12_method_13_code 2 none :: ky_B) { frames := 4, cells := ky_gc mm 0, slots := ky_gs mm 0, locals := 84 } (ky_P G [.ref b, .int (nI 0)] (ky_WT G b va mm n f ml) sz (fun _ => True)) (ky_Q (S := Nat × (Nat → Int32) × Int32) G (va_A (ky_WT G b va mm n f ml) sz) (fun v u => v = none ∧ ky_fit u.2.1) (fun u => ky_WT G b u.1 mm 0 u.2.1 u.2.2) (fun _ _ => True)) (ky_gc mm 0) (ky_gs mm 0) (va_A (ky_WT G b va mm n f ml) sz) := by
  refine ky_start (by decide) (Nat.le_of_ble_eq_true rfl) (fun p e s m below meth c F hE A hAe hsz hA hfr hP hD hS hX ls hl => ?_)
  obtain ⟨hx, hb, hml, hown, hr, hlocks, hts⟩ := id F
  have hl : lv_has ls 2 [(0, .ref b), (1, .int (nI 0))] := hl
  have hP : va_P G.1 kcl [(b, .inr (6, [.ref va, .int (0), .int (ml), .int (nI (n))])), (va, .inl (G.2.1 0, mm, .inl (f)))] s.heap := hP
  have hD : va_D A [(b, .inr (6, [.ref va, .int (0), .int (ml), .int (nI (n))])), (va, .inl (G.2.1 0, mm, .inl (f)))] := hD
  refine lv_iload_n hx hb dc_J5_setLength_d00df_0 rfl (lv_at hl 1 rfl) ?_
  refine lv_if_ge (tgt := 13) hx hb dc_J5_setLength_d00df_1 (by decide) (fun _ => ?_) (fun c_0 => absurd (by decide) c_0)
  refine lv_aload_n hx hb dc_J5_setLength_d00df_13 rfl (lv_at hl 0 rfl) ?_
  refine lv_iload_n hx hb dc_J5_setLength_d00df_14 rfl (lv_at hl 1 rfl) ?_
  refine ky_cUh (As := [.int (nI 0)]) (wr := []) F (hE.at hfr hS) hfr (mt_J5_ensureCapacityInternal_d00df l G b va mm n f ml 0 s.heap.size hm hf (by omega)) (ku_J5_100.cu hE hts ⟨⟨rfl, rfl⟩, Nat.le_of_ble_eq_true rfl, Nat.le_of_ble_eq_true rfl⟩) rfl hl.1 rfl (Nat.le_of_ble_eq_true rfl) ⟨by show (_ : Nat) ≤ ky_gc mm 0; omega, by show (_ : Nat) ≤ ky_gs mm 0; omega⟩ (va_recv hE.1 hP (ci := 6) (q0 := 0) rfl rfl) trivial hP hD hS hA [0, 1] [] rfl rfl (by decide) (by decide) (by decide) dc_J5_setLength_d00df_15 ?_
  rintro v9 ⟨va_1, f_1⟩ H locs ⟨rfl, hf_1⟩ hP hD hS - hz hk9
  have hP : va_P G.1 kcl [(b, .inr (6, [.ref va_1, .int (0), .int (ml), .int (nI (n))])), (va_1, .inl (G.2.1 0, ky_cap mm 0, .inl (f_1)))] H := hP
  have hD : va_D A [(b, .inr (6, [.ref va_1, .int (0), .int (ml), .int (nI (n))])), (va_1, .inl (G.2.1 0, ky_cap mm 0, .inl (f_1)))] := hD
  refine W.widen (k := (ky_gc mm 0)) (n := (ky_gs mm 0)) (by first | exact Nat.le_refl _ | omega) (by first | exact Nat.le_refl _ | omega) ?_
  rw [show ([(b, .inr (6, [.ref va_1, .int (0), .int (ml), .int (nI (n))])), (va_1, .inl (G.2.1 0, ky_cap mm 0, .inl (f_1)))] : va_W) = [(b, .inr (6, [.ref va_1, .int (0), .int (ml), .int (nI (n))])), (va_1, .inl (G.2.1 0, mm, .inl (f_1)))] by rw [ky_cap0 (Nat.zero_le mm)]] at hP hD
  refine lv_aload_n hx hb dc_J5_setLength_d00df_18 rfl (lv_at hl 0 rfl) ?_
  refine va_get (D := G.1) (ci := 6) (v := .int (nI (n))) (C := RJ4) (T := TJ4) (N := 4) hx hb hts ki_J4 hown hE.1 hP 0 rfl rfl 3 (by decide) (hts _ kw_1_66) (fun _ h9 => h9) rfl dc_J5_setLength_d00df_19 ?_
  refine lv_iload_n hx hb dc_J5_setLength_d00df_22 rfl (lv_at hl 1 rfl) ?_
  refine lv_icmp_ge (tgt := 63) hx hb dc_J5_setLength_d00df_23 (by decide) (fun _ => ?_) (fun c_2 => absurd (nI_le (Nat.zero_le _) (by omega)) c_2)
  refine lv_aload_n hx hb dc_J5_setLength_d00df_63 rfl (lv_at hl 0 rfl) ?_
  refine va_get (D := G.1) (ci := 6) (v := .int (nI (n))) (C := RJ4) (T := TJ4) (N := 4) hx hb hts ki_J4 hown hE.1 hP 0 rfl rfl 3 (by decide) (hts _ kw_1_66) (fun _ h9 => h9) rfl dc_J5_setLength_d00df_64 ?_
  refine lv_iload_n hx hb dc_J5_setLength_d00df_67 rfl (lv_at hl 1 rfl) ?_
  refine lv_icmp_le (tgt := 76) hx hb dc_J5_setLength_d00df_68 (by decide) (fun c_3 => ?_) (fun c_3 => ?_)
  · skip
    refine lv_aload_n hx hb dc_J5_setLength_d00df_76 rfl (lv_at hl 0 rfl) ?_
    refine lv_iload_n hx hb dc_J5_setLength_d00df_77 rfl (lv_at hl 1 rfl) ?_
    refine va_put (D := G.1) (ci := 6) (v := .int (nI 0)) (ty := .int) (C := RJ4) (T := TJ4) (N := 4) hx hb hts ki_J4 tyJ4 tyJ4_ok nmJ4 hown hE.1 hP hD hS 0 rfl rfl 3 (by decide) (hts _ kw_1_66) (fun _ h9 => h9) rfl (by decide +kernel) rfl rfl (Nat.le_of_ble_eq_true rfl) dc_J5_setLength_d00df_78 (fun H locs hP hD hS => ?_)
    have hP : va_P G.1 kcl [(b, .inr (6, [.ref va_1, .int (0), .int (ml), .int (nI 0)])), (va_1, .inl (G.2.1 0, mm, .inl (f_1)))] H := hP
    have hD : va_D A [(b, .inr (6, [.ref va_1, .int (0), .int (ml), .int (nI 0)])), (va_1, .inl (G.2.1 0, mm, .inl (f_1)))] := hD
    have hP9 := hP.sub (ws' := [(b, .inr (6, [.ref va_1, .int (0), .int (ml), .int (nI 0)])), (va_1, .inl (G.2.1 0, mm, .inl (f_1)))]) [0, 1] rfl
    have hD9 := hD.sub (ws' := [(b, .inr (6, [.ref va_1, .int (0), .int (ml), .int (nI 0)])), (va_1, .inl (G.2.1 0, mm, .inl (f_1)))]) [0, 1] (by decide) rfl
    refine W.widen (k := ky_gc mm 0) (n := ky_gs mm 0) (by omega) (by omega) ?_
    exact W.vret hx hb hr (fun t ht hW => ⟨⟨_, (va_1, f_1, ml), rfl, ⟨rfl, hf_1⟩, by rw [ht]; exact hP9, hD9, trivial⟩, hS.F ht⟩) hS.2.2 dc_J5_setLength_d00df_81
  · skip
    refine lv_aload_n hx hb dc_J5_setLength_d00df_71 rfl (lv_at hl 0 rfl) ?_
    refine lv_iconst (v := 1) hx hb dc_J5_setLength_d00df_72 (by decide) ?_
    refine va_put (D := G.1) (ci := 6) (v := .int ((1 : Int32))) (ty := .boolean) (C := RJ4) (T := TJ4) (N := 4) hx hb hts ki_J4 tyJ4 tyJ4_ok nmJ4 hown hE.1 hP hD hS 0 rfl rfl 2 (by decide) (hts _ kw_1_64) (fun _ h9 => h9) rfl (by decide +kernel) rfl rfl (Nat.le_of_ble_eq_true rfl) dc_J5_setLength_d00df_73 (fun H locs hP hD hS => ?_)
    have hP : va_P G.1 kcl [(b, .inr (6, [.ref va_1, .int (0), .int ((1 : Int32)), .int (nI (n))])), (va_1, .inl (G.2.1 0, mm, .inl (f_1)))] H := hP
    have hD : va_D A [(b, .inr (6, [.ref va_1, .int (0), .int ((1 : Int32)), .int (nI (n))])), (va_1, .inl (G.2.1 0, mm, .inl (f_1)))] := hD
    refine lv_aload_n hx hb dc_J5_setLength_d00df_76 rfl (lv_at hl 0 rfl) ?_
    refine lv_iload_n hx hb dc_J5_setLength_d00df_77 rfl (lv_at hl 1 rfl) ?_
    refine va_put (D := G.1) (ci := 6) (v := .int (nI 0)) (ty := .int) (C := RJ4) (T := TJ4) (N := 4) hx hb hts ki_J4 tyJ4 tyJ4_ok nmJ4 hown hE.1 hP hD hS 0 rfl rfl 3 (by decide) (hts _ kw_1_66) (fun _ h9 => h9) rfl (by decide +kernel) rfl rfl (Nat.le_of_ble_eq_true rfl) dc_J5_setLength_d00df_78 (fun H locs hP hD hS => ?_)
    have hP : va_P G.1 kcl [(b, .inr (6, [.ref va_1, .int (0), .int ((1 : Int32)), .int (nI 0)])), (va_1, .inl (G.2.1 0, mm, .inl (f_1)))] H := hP
    have hD : va_D A [(b, .inr (6, [.ref va_1, .int (0), .int ((1 : Int32)), .int (nI 0)])), (va_1, .inl (G.2.1 0, mm, .inl (f_1)))] := hD
    have hP9 := hP.sub (ws' := [(b, .inr (6, [.ref va_1, .int (0), .int ((1 : Int32)), .int (nI 0)])), (va_1, .inl (G.2.1 0, mm, .inl (f_1)))]) [0, 1] rfl
    have hD9 := hD.sub (ws' := [(b, .inr (6, [.ref va_1, .int (0), .int ((1 : Int32)), .int (nI 0)])), (va_1, .inl (G.2.1 0, mm, .inl (f_1)))]) [0, 1] (by decide) rfl
    refine W.widen (k := ky_gc mm 0) (n := ky_gs mm 0) (by omega) (by omega) ?_
    exact W.vret hx hb hr (fun t ht hW => ⟨⟨_, (va_1, f_1, (1 : Int32)), rfl, ⟨rfl, hf_1⟩, by rw [ht]; exact hP9, hD9, trivial⟩, hS.F ht⟩) hS.2.2 dc_J5_setLength_d00df_81
set_option linter.constructorNameAsVariable false in
set_option maxHeartbeats 4000000 in
set_option maxRecDepth 100000 in
theorem mt_J4_setLength_d00df (l : Launch) (G : ky_G) (b : Nat) (va : Nat) (mm : Nat) (n : Nat) (f : Nat → Int32) (ml : Int32) (sz : Nat) (hm : ky_m2 mm) (hf : ky_fit f) (hn : n ≤ 34) : Met l my_J4_setLength_d00df (.code my_J4_setLength_d00df prog_23_method_89_code 2 none :: ky_B) { frames := 5, cells := ky_gc mm 0, slots := ky_gs mm 0, locals := 105 } (ky_P G [.ref b, .int (nI 0)] (ky_WT G b va mm n f ml) sz (fun _ => True)) (ky_Q (S := Nat × (Nat → Int32) × Int32) G (va_A (ky_WT G b va mm n f ml) sz) (fun v u => v = none ∧ ky_fit u.2.1) (fun u => ky_WT G b u.1 mm 0 u.2.1 u.2.2) (fun _ _ => True)) (ky_gc mm 0) (ky_gs mm 0) (va_A (ky_WT G b va mm n f ml) sz) := by
  refine ky_start (by decide) (Nat.le_of_ble_eq_true rfl) (fun p e s m below meth c F hE A hAe hsz hA hfr hP hD hS hX ls hl => ?_)
  obtain ⟨hx, hb, hml, hown, hr, hlocks, hts⟩ := id F
  have hl : lv_has ls 2 [(0, .ref b), (1, .int (nI 0))] := hl
  have hP : va_P G.1 kcl [(b, .inr (6, [.ref va, .int (0), .int (ml), .int (nI (n))])), (va, .inl (G.2.1 0, mm, .inl (f)))] s.heap := hP
  have hD : va_D A [(b, .inr (6, [.ref va, .int (0), .int (ml), .int (nI (n))])), (va, .inl (G.2.1 0, mm, .inl (f)))] := hD
  refine lv_aload_n hx hb dc_J4_setLength_d00df_0 rfl (lv_at hl 0 rfl) ?_
  refine lv_iload_n hx hb dc_J4_setLength_d00df_1 rfl (lv_at hl 1 rfl) ?_
  refine ky_cWh (ci := 6) (As := [.int (nI 0)]) (wr := []) F (hE.at hfr hS) hfr hE.1 rfl (mt_J5_setLength_d00df l G b va mm n f ml s.heap.size hm hf hn) ku_J4_333 ⟨⟨rfl, rfl⟩, Nat.le_of_ble_eq_true rfl, Nat.le_of_ble_eq_true rfl⟩ rfl hl.1 rfl (Nat.le_of_ble_eq_true rfl) ⟨by show (_ : Nat) ≤ ky_gc mm 0; omega, by show (_ : Nat) ≤ ky_gs mm 0; omega⟩ (va_recv hE.1 hP (ci := 6) (q0 := 0) rfl rfl) trivial hP hD hS hA [0, 1] [] rfl rfl (by decide) (by decide) (by decide) dc_J4_setLength_d00df_2 ?_
  rintro v9 ⟨va_0, f_0, ml_0⟩ H locs ⟨rfl, hf_0⟩ hP hD hS - hz hk9
  have hP : va_P G.1 kcl [(b, .inr (6, [.ref va_0, .int (0), .int (ml_0), .int (nI (0))])), (va_0, .inl (G.2.1 0, mm, .inl (f_0)))] H := hP
  have hD : va_D A [(b, .inr (6, [.ref va_0, .int (0), .int (ml_0), .int (nI (0))])), (va_0, .inl (G.2.1 0, mm, .inl (f_0)))] := hD
  refine W.widen (k := (ky_gc mm 0)) (n := (ky_gs mm 0)) (by first | exact Nat.le_refl _ | omega) (by first | exact Nat.le_refl _ | omega) ?_
  have hP9 := hP.sub (ws' := [(b, .inr (6, [.ref va_0, .int (0), .int (ml_0), .int (nI (0))])), (va_0, .inl (G.2.1 0, mm, .inl (f_0)))]) [0, 1] rfl
  have hD9 := hD.sub (ws' := [(b, .inr (6, [.ref va_0, .int (0), .int (ml_0), .int (nI (0))])), (va_0, .inl (G.2.1 0, mm, .inl (f_0)))]) [0, 1] (by decide) rfl
  refine W.widen (k := ky_gc mm 0) (n := ky_gs mm 0) (by omega) (by omega) ?_
  exact W.vret hx hb hr (fun t ht hW => ⟨⟨_, (va_0, f_0, ml_0), rfl, ⟨rfl, hf_0⟩, by rw [ht]; exact hP9, hD9, trivial⟩, hS.F ht⟩) hS.2.2 dc_J4_setLength_d00df_5
set_option linter.constructorNameAsVariable false in
set_option maxHeartbeats 4000000 in
set_option maxRecDepth 100000 in
theorem mt_J1_canEncode_fc78d (l : Launch) (G : ky_G) (a0 : Int32) (sz : Nat) (hc : ¬ (255 : Int32) < a0) : Met l my_J1_canEncode_fc78d (.code my_J1_canEncode_fc78d prog_25_method_3_code 1 (some .boolean) :: ky_B) { frames := 0, cells := 0, slots := 0, locals := 0 } (ky_P G [.int (a0)] ([]) sz (fun _ => True)) (ky_Q (S := Unit) G (va_A ([]) sz) (fun v _ => v = some (.int 1)) (fun _ => []) (fun _ _ => True)) (0) (0) (va_A ([]) sz) := by
  refine ky_start (by decide) (Nat.le_of_ble_eq_true rfl) (fun p e s m below meth c F hE A hAe hsz hA hfr hP hD hS hX ls hl => ?_)
  obtain ⟨hx, hb, hml, hown, hr, hlocks, hts⟩ := id F
  have hl : lv_has ls 1 [(0, .int (a0))] := hl
  have hP : va_P G.1 kcl [] s.heap := hP
  have hD : va_D A [] := hD
  refine lv_iload_n hx hb dc_J1_canEncode_fc78d_0 rfl (lv_at hl 0 rfl) ?_
  refine lv_sipush (v := 255) hx hb dc_J1_canEncode_fc78d_1 (by decide) ?_
  refine lv_icmp_gt (tgt := 11) hx hb dc_J1_canEncode_fc78d_4 (by decide) (fun c_0 => absurd c_0 (hc)) (fun _ => ?_)
  refine lv_iconst (v := 1) hx hb dc_J1_canEncode_fc78d_7 (by decide) ?_
  refine lv_goto (tgt := 12) hx hb dc_J1_canEncode_fc78d_8 (by decide) ?_
  have hP9 := hP.sub (ws' := []) [] rfl
  have hD9 := hD.sub (ws' := []) [] (by decide) rfl
  refine W.widen (k := 0) (n := 0) (Nat.le_of_ble_eq_true rfl) (Nat.le_of_ble_eq_true rfl) ?_
  exact W.zret (v := (1 : Int32)) hx hb hr (by decide) (fun t ht hW => ⟨⟨_, (), rfl, rfl, by rw [ht]; exact hP9, hD9, trivial⟩, hS.F ht⟩) hS.2.2 dc_J1_canEncode_fc78d_12
set_option linter.constructorNameAsVariable false in
set_option maxHeartbeats 4000000 in
set_option maxRecDepth 100000 in
theorem mt_J5_append_3fe6f (l : Launch) (G : ky_G) (b : Nat) (va : Nat) (mm : Nat) (n : Nat) (f : Nat → Int32) (ml : Int32) (c9 : Int32) (sz : Nat) (hm : ky_m2 mm) (hf : ky_fit f) (hc : ¬ (255 : Int32) < c9) (hq : n + 1 ≤ 34) : Met l my_J5_append_3fe6f (.code my_J5_append_3fe6f prog_12_method_31_code 2 (Option.some (Jvm.ClassFile.FieldType.object "java/lang/AbstractStringBuilder")) :: ky_B) { frames := 4, cells := ky_gc mm (n + 1), slots := ky_gs mm (n + 1), locals := 84 } (ky_P G [.ref b, .int (c9)] (ky_WT G b va mm n f ml) sz (fun _ => True)) (ky_Q (S := Nat × (Nat → Int32)) G (va_A (ky_WT G b va mm n f ml) sz) (fun v u => v = some (.ref b) ∧ ky_fit u.2) (fun u => ky_WT G b u.1 (ky_cap mm (n + 1)) (n + 1) u.2 ml) (fun _ _ => True)) (ky_gc mm (n + 1)) (ky_gs mm (n + 1)) (va_A (ky_WT G b va mm n f ml) sz) := by
  refine ky_start (by decide) (Nat.le_of_ble_eq_true rfl) (fun p e s m below meth c F hE A hAe hsz hA hfr hP hD hS hX ls hl => ?_)
  obtain ⟨hx, hb, hml, hown, hr, hlocks, hts⟩ := id F
  have hl : lv_has ls 2 [(0, .ref b), (1, .int (c9))] := hl
  have hP : va_P G.1 kcl [(b, .inr (6, [.ref va, .int (0), .int (ml), .int (nI (n))])), (va, .inl (G.2.1 0, mm, .inl (f)))] s.heap := hP
  have hD : va_D A [(b, .inr (6, [.ref va, .int (0), .int (ml), .int (nI (n))])), (va, .inl (G.2.1 0, mm, .inl (f)))] := hD
  refine lv_aload_n hx hb dc_J5_append_3fe6f_0 rfl (lv_at hl 0 rfl) ?_
  refine lv_aload_n hx hb dc_J5_append_3fe6f_1 rfl (lv_at hl 0 rfl) ?_
  refine va_get (D := G.1) (ci := 6) (v := .int (nI (n))) (C := RJ4) (T := TJ4) (N := 4) hx hb hts ki_J4 hown hE.1 hP 0 rfl rfl 3 (by decide) (hts _ kw_1_66) (fun _ h9 => h9) rfl dc_J5_append_3fe6f_2 ?_
  refine lv_iconst (v := 1) hx hb dc_J5_append_3fe6f_5 (by decide) ?_
  refine lv_iadd hx hb dc_J5_append_3fe6f_6 ?_
  rw [show (((nI (n)) + ((1 : Int32))) : Int32) = nI (n + 1) from nI_1 n]
  refine ky_cUh (As := [.int (nI (n + 1))]) (wr := []) F (hE.at hfr hS) hfr (mt_J5_ensureCapacityInternal_d00df l G b va mm n f ml (n + 1) s.heap.size hm hf (by omega)) (ku_J5_100.cu hE hts ⟨⟨rfl, rfl⟩, Nat.le_of_ble_eq_true rfl, Nat.le_of_ble_eq_true rfl⟩) rfl hl.1 rfl (Nat.le_of_ble_eq_true rfl) ⟨by show (_ : Nat) ≤ ky_gc mm (n + 1); omega, by show (_ : Nat) ≤ ky_gs mm (n + 1); omega⟩ (va_recv hE.1 hP (ci := 6) (q0 := 0) rfl rfl) trivial hP hD hS hA [0, 1] [] rfl rfl (by decide) (by decide) (by decide) dc_J5_append_3fe6f_7 ?_
  rintro v9 ⟨va_0, f_0⟩ H locs ⟨rfl, hf_0⟩ hP hD hS - hz hk9
  have hP : va_P G.1 kcl [(b, .inr (6, [.ref va_0, .int (0), .int (ml), .int (nI (n))])), (va_0, .inl (G.2.1 0, ky_cap mm (n + 1), .inl (f_0)))] H := hP
  have hD : va_D A [(b, .inr (6, [.ref va_0, .int (0), .int (ml), .int (nI (n))])), (va_0, .inl (G.2.1 0, ky_cap mm (n + 1), .inl (f_0)))] := hD
  refine W.widen (k := (ky_gc mm (n + 1))) (n := (ky_gs mm (n + 1))) (by first | exact Nat.le_refl _ | omega) (by first | exact Nat.le_refl _ | omega) ?_
  refine lv_aload_n hx hb dc_J5_append_3fe6f_10 rfl (lv_at hl 0 rfl) ?_
  refine ky_cUh (As := []) (wr := [(va_0, .inl (G.2.1 0, ky_cap mm (n + 1), .inl (f_0)))]) F (hE.at hfr hS) hfr (mt_J5_isLatin1_aae02 l G b va_0 ml (nI (n)) H.size ) (ku_J5_83.cu hts ⟨⟨rfl, rfl⟩, Nat.le_of_ble_eq_true rfl, Nat.le_of_ble_eq_true rfl⟩) rfl hl.1 rfl (Nat.le_of_ble_eq_true rfl) ⟨by show (_ : Nat) ≤ ky_gc mm (n + 1); omega, by show (_ : Nat) ≤ ky_gs mm (n + 1); omega⟩ (va_recv hE.1 hP (ci := 6) (q0 := 0) rfl rfl) trivial hP hD hS hA [0] [1] rfl rfl (by decide) (by decide) (by decide) dc_J5_append_3fe6f_11 ?_
  rintro v9 u9 H locs rfl hP hD hS - hz hk9
  have hP : va_P G.1 kcl [(va_0, .inl (G.2.1 0, ky_cap mm (n + 1), .inl (f_0))), (b, .inr (6, [.ref va_0, .int (0), .int (ml), .int (nI (n))]))] H := hP
  have hD : va_D A [(va_0, .inl (G.2.1 0, ky_cap mm (n + 1), .inl (f_0))), (b, .inr (6, [.ref va_0, .int (0), .int (ml), .int (nI (n))]))] := hD
  refine W.widen (k := (ky_gc mm (n + 1))) (n := (ky_gs mm (n + 1))) (by first | exact Nat.le_refl _ | omega) (by first | exact Nat.le_refl _ | omega) ?_
  refine lv_if_eq (tgt := 45) hx hb dc_J5_append_3fe6f_14 (by decide) (fun c_2 => absurd c_2 (by decide)) (fun _ => ?_)
  refine lv_iload_n hx hb dc_J5_append_3fe6f_17 rfl (lv_at hl 1 rfl) ?_
  refine ky_cSh (As := [.int (c9)]) (wr := [(va_0, .inl (G.2.1 0, ky_cap mm (n + 1), .inl (f_0))), (b, .inr (6, [.ref va_0, .int (0), .int (ml), .int (nI (n))]))]) F (hE.at hfr hS) hfr (mt_J1_canEncode_fc78d l G c9 H.size hc) ks_J5_191 ⟨⟨rfl, rfl⟩, Nat.le_of_ble_eq_true rfl, Nat.le_of_ble_eq_true rfl⟩ rfl hl.1 rfl (Nat.le_of_ble_eq_true rfl) ⟨by show (_ : Nat) ≤ ky_gc mm (n + 1); omega, by show (_ : Nat) ≤ ky_gs mm (n + 1); omega⟩ trivial hP hD hS hA [] [0, 1] rfl rfl (by decide) (by decide) (by decide) dc_J5_append_3fe6f_18 ?_
  rintro v9 u9 H locs rfl hP hD hS - hz hk9
  have hP : va_P G.1 kcl [(va_0, .inl (G.2.1 0, ky_cap mm (n + 1), .inl (f_0))), (b, .inr (6, [.ref va_0, .int (0), .int (ml), .int (nI (n))]))] H := hP
  have hD : va_D A [(va_0, .inl (G.2.1 0, ky_cap mm (n + 1), .inl (f_0))), (b, .inr (6, [.ref va_0, .int (0), .int (ml), .int (nI (n))]))] := hD
  refine W.widen (k := (ky_gc mm (n + 1))) (n := (ky_gs mm (n + 1))) (by first | exact Nat.le_refl _ | omega) (by first | exact Nat.le_refl _ | omega) ?_
  refine lv_if_eq (tgt := 45) hx hb dc_J5_append_3fe6f_21 (by decide) (fun c_4 => absurd c_4 (by decide)) (fun _ => ?_)
  refine lv_aload_n hx hb dc_J5_append_3fe6f_24 rfl (lv_at hl 0 rfl) ?_
  refine va_get (D := G.1) (ci := 6) (v := .ref va_0) (C := RJ4) (T := TJ4) (N := 4) hx hb hts ki_J4 hown hE.1 hP 1 rfl rfl 0 (by decide) (hts _ kw_1_62) (fun _ h9 => h9) rfl dc_J5_append_3fe6f_25 ?_
  refine lv_aload_n hx hb dc_J5_append_3fe6f_28 rfl (lv_at hl 0 rfl) ?_
  refine lv_dup hx hb dc_J5_append_3fe6f_29 rfl ?_
  refine va_get (D := G.1) (ci := 6) (v := .int (nI (n))) (C := RJ4) (T := TJ4) (N := 4) hx hb hts ki_J4 hown hE.1 hP 1 rfl rfl 3 (by decide) (hts _ kw_1_66) (fun _ h9 => h9) rfl dc_J5_append_3fe6f_30 ?_
  refine lv_dup_x1 hx hb dc_J5_append_3fe6f_33 rfl rfl ?_
  refine lv_iconst (v := 1) hx hb dc_J5_append_3fe6f_34 (by decide) ?_
  refine lv_iadd hx hb dc_J5_append_3fe6f_35 ?_
  rw [show (((nI (n)) + ((1 : Int32))) : Int32) = nI (n + 1) from nI_1 n]
  refine va_put (D := G.1) (ci := 6) (v := .int (nI (n + 1))) (ty := .int) (C := RJ4) (T := TJ4) (N := 4) hx hb hts ki_J4 tyJ4 tyJ4_ok nmJ4 hown hE.1 hP hD hS 1 rfl rfl 3 (by decide) (hts _ kw_1_66) (fun _ h9 => h9) rfl (by decide +kernel) rfl rfl (Nat.le_of_ble_eq_true rfl) dc_J5_append_3fe6f_36 (fun H locs hP hD hS => ?_)
  have hP : va_P G.1 kcl [(va_0, .inl (G.2.1 0, ky_cap mm (n + 1), .inl (f_0))), (b, .inr (6, [.ref va_0, .int (0), .int (ml), .int (nI (n + 1))]))] H := hP
  have hD : va_D A [(va_0, .inl (G.2.1 0, ky_cap mm (n + 1), .inl (f_0))), (b, .inr (6, [.ref va_0, .int (0), .int (ml), .int (nI (n + 1))]))] := hD
  refine lv_iload_n hx hb dc_J5_append_3fe6f_39 rfl (lv_at hl 1 rfl) ?_
  refine lv_i2b (v := (c9).toInt8.toInt32) hx hb dc_J5_append_3fe6f_40 rfl ?_
  have hle := hm.le hq
  have hin : vp_in (nI (n)) (ky_cap mm (n + 1)) := vp_in_nI (by omega) (by omega)
  refine va_bast hx hb hE.1 hP hD hS 0 0 rfl rfl hin dc_J5_append_3fe6f_41 (fun H locs hP hD hS => ?_)
  have hP : va_P G.1 kcl [(va_0, .inl (G.2.1 0, ky_cap mm (n + 1), .inl (upd (f_0) (nI (n)).toNatClampNeg (vp_nar .byte ((c9).toInt8.toInt32))))), (b, .inr (6, [.ref va_0, .int (0), .int (ml), .int (nI (n + 1))]))] H := hP
  have hD : va_D A [(va_0, .inl (G.2.1 0, ky_cap mm (n + 1), .inl (upd (f_0) (nI (n)).toNatClampNeg (vp_nar .byte ((c9).toInt8.toInt32))))), (b, .inr (6, [.ref va_0, .int (0), .int (ml), .int (nI (n + 1))]))] := hD
  refine lv_goto (tgt := 75) hx hb dc_J5_append_3fe6f_42 (by decide) ?_
  refine lv_aload_n hx hb dc_J5_append_3fe6f_75 rfl (lv_at hl 0 rfl) ?_
  have hP9 := hP.sub (ws' := [(b, .inr (6, [.ref va_0, .int (0), .int (ml), .int (nI (n + 1))])), (va_0, .inl (G.2.1 0, ky_cap mm (n + 1), .inl (upd (f_0) (nI (n)).toNatClampNeg (vp_nar .byte ((c9).toInt8.toInt32)))))]) [1, 0] rfl
  have hD9 := hD.sub (ws' := [(b, .inr (6, [.ref va_0, .int (0), .int (ml), .int (nI (n + 1))])), (va_0, .inl (G.2.1 0, ky_cap mm (n + 1), .inl (upd (f_0) (nI (n)).toNatClampNeg (vp_nar .byte ((c9).toInt8.toInt32)))))]) [1, 0] (by decide) rfl
  refine W.widen (k := ky_gc mm (n + 1)) (n := ky_gs mm (n + 1)) (by omega) (by omega) ?_
  exact W.aret (v := .ref b) hx hb hr (Or.inl ⟨_, rfl⟩) (Or.inr ⟨_, rfl⟩) (fun t ht hW => ⟨⟨_, (va_0, upd (f_0) (nI (n)).toNatClampNeg (vp_nar .byte ((c9).toInt8.toInt32))), rfl, ⟨rfl, (ky_fitU hf_0 _ (ky_fitN _))⟩, by rw [ht]; exact hP9, hD9, trivial⟩, hS.F ht⟩) hS.2.2 dc_J5_append_3fe6f_76
set_option linter.constructorNameAsVariable false in
set_option maxHeartbeats 4000000 in
set_option maxRecDepth 100000 in
theorem mt_J4_append_cf468 (l : Launch) (G : ky_G) (b : Nat) (va : Nat) (mm : Nat) (n : Nat) (f : Nat → Int32) (ml : Int32) (c9 : Int32) (sz : Nat) (hm : ky_m2 mm) (hf : ky_fit f) (hc : ¬ (255 : Int32) < c9) (hq : n + 1 ≤ 34) : Met l my_J4_append_cf468 (.code my_J4_append_cf468 prog_23_method_14_code 2 (Option.some (Jvm.ClassFile.FieldType.object "java/lang/StringBuilder")) :: ky_B) { frames := 5, cells := ky_gc mm (n + 1), slots := ky_gs mm (n + 1), locals := 105 } (ky_P G [.ref b, .int (c9)] (ky_WT G b va mm n f ml) sz (fun _ => True)) (ky_Q (S := Nat × (Nat → Int32)) G (va_A (ky_WT G b va mm n f ml) sz) (fun v u => v = some (.ref b) ∧ ky_fit u.2) (fun u => ky_WT G b u.1 (ky_cap mm (n + 1)) (n + 1) u.2 ml) (fun _ _ => True)) (ky_gc mm (n + 1)) (ky_gs mm (n + 1)) (va_A (ky_WT G b va mm n f ml) sz) := by
  refine ky_start (by decide) (Nat.le_of_ble_eq_true rfl) (fun p e s m below meth c F hE A hAe hsz hA hfr hP hD hS hX ls hl => ?_)
  obtain ⟨hx, hb, hml, hown, hr, hlocks, hts⟩ := id F
  have hl : lv_has ls 2 [(0, .ref b), (1, .int (c9))] := hl
  have hP : va_P G.1 kcl [(b, .inr (6, [.ref va, .int (0), .int (ml), .int (nI (n))])), (va, .inl (G.2.1 0, mm, .inl (f)))] s.heap := hP
  have hD : va_D A [(b, .inr (6, [.ref va, .int (0), .int (ml), .int (nI (n))])), (va, .inl (G.2.1 0, mm, .inl (f)))] := hD
  refine lv_aload_n hx hb dc_J4_append_cf468_0 rfl (lv_at hl 0 rfl) ?_
  refine lv_iload_n hx hb dc_J4_append_cf468_1 rfl (lv_at hl 1 rfl) ?_
  refine ky_cWh (ci := 6) (As := [.int (c9)]) (wr := []) F (hE.at hfr hS) hfr hE.1 rfl (mt_J5_append_3fe6f l G b va mm n f ml c9 s.heap.size hm hf hc hq) ku_J4_50 ⟨⟨rfl, rfl⟩, Nat.le_of_ble_eq_true rfl, Nat.le_of_ble_eq_true rfl⟩ rfl hl.1 rfl (Nat.le_of_ble_eq_true rfl) ⟨by show (_ : Nat) ≤ ky_gc mm (n + 1); omega, by show (_ : Nat) ≤ ky_gs mm (n + 1); omega⟩ (va_recv hE.1 hP (ci := 6) (q0 := 0) rfl rfl) trivial hP hD hS hA [0, 1] [] rfl rfl (by decide) (by decide) (by decide) dc_J4_append_cf468_2 ?_
  rintro v9 ⟨va_0, f_0⟩ H locs ⟨rfl, hf_0⟩ hP hD hS - hz hk9
  have hP : va_P G.1 kcl [(b, .inr (6, [.ref va_0, .int (0), .int (ml), .int (nI (n + 1))])), (va_0, .inl (G.2.1 0, ky_cap mm (n + 1), .inl (f_0)))] H := hP
  have hD : va_D A [(b, .inr (6, [.ref va_0, .int (0), .int (ml), .int (nI (n + 1))])), (va_0, .inl (G.2.1 0, ky_cap mm (n + 1), .inl (f_0)))] := hD
  refine W.widen (k := (ky_gc mm (n + 1))) (n := (ky_gs mm (n + 1))) (by first | exact Nat.le_refl _ | omega) (by first | exact Nat.le_refl _ | omega) ?_
  refine lv_pop hx hb dc_J4_append_cf468_5 rfl ?_
  refine lv_aload_n hx hb dc_J4_append_cf468_6 rfl (lv_at hl 0 rfl) ?_
  have hP9 := hP.sub (ws' := [(b, .inr (6, [.ref va_0, .int (0), .int (ml), .int (nI (n + 1))])), (va_0, .inl (G.2.1 0, ky_cap mm (n + 1), .inl (f_0)))]) [0, 1] rfl
  have hD9 := hD.sub (ws' := [(b, .inr (6, [.ref va_0, .int (0), .int (ml), .int (nI (n + 1))])), (va_0, .inl (G.2.1 0, ky_cap mm (n + 1), .inl (f_0)))]) [0, 1] (by decide) rfl
  refine W.widen (k := ky_gc mm (n + 1)) (n := ky_gs mm (n + 1)) (by omega) (by omega) ?_
  exact W.aret (v := .ref b) hx hb hr (Or.inl ⟨_, rfl⟩) (Or.inr ⟨_, rfl⟩) (fun t ht hW => ⟨⟨_, (va_0, f_0), rfl, ⟨rfl, hf_0⟩, by rw [ht]; exact hP9, hD9, trivial⟩, hS.F ht⟩) hS.2.2 dc_J4_append_cf468_7
set_option linter.constructorNameAsVariable false in
set_option maxHeartbeats 4000000 in
set_option maxRecDepth 100000 in
theorem mt_J0_coder_7d493 (l : Launch) (G : ky_G) (ks : Nat) (w : Nat) (g : Nat → Int32) (sz : Nat) (hk : ky_Str G ks w g) : Met l my_J0_coder_7d493 (.code my_J0_coder_7d493 prog_22_method_152_code 1 (Option.some Jvm.ClassFile.FieldType.byte) :: ky_B) { frames := 0, cells := 0, slots := 0, locals := 0 } (ky_P G [.ref ks] ([]) sz (fun _ => True)) (ky_Q (S := Unit) G (va_A ([]) sz) (fun v _ => v = some (.int 0)) (fun _ => []) (fun _ _ => True)) (0) (0) (va_A ([]) sz) := by
  refine ky_start (by decide) (Nat.le_of_ble_eq_true rfl) (fun p e s m below meth c F hE A hAe hsz hA hfr hP hD hS hX ls hl => ?_)
  obtain ⟨hx, hb, hml, hown, hr, hlocks, hts⟩ := id F
  have hl : lv_has ls 1 [(0, .ref ks)] := hl
  have hP : va_P G.1 kcl [] s.heap := hP
  have hD : va_D A [] := hD
  obtain ⟨v9, hO, hC, hV, hT⟩ := hk.at hE hfr
  have hw9 := hk.2.2
  refine va_gets hx hb (kq_compact hE hfr) hS hown (hts _ kw_2_7) (fun _ h9 => h9) dc_J0_coder_7d493_0 ?_
  refine lv_if_eq (tgt := 13) hx hb dc_J0_coder_7d493_3 (by decide) (fun c_0 => absurd c_0 (by decide)) (fun _ => ?_)
  refine lv_aload_n hx hb dc_J0_coder_7d493_6 rfl (lv_at hl 0 rfl) ?_
  refine vk_getf hx hb hC hS hown (hts _ kw_2_190) (fun _ h9 => h9) dc_J0_coder_7d493_7 ?_
  refine lv_goto (tgt := 14) hx hb dc_J0_coder_7d493_10 (by decide) ?_
  have hP9 := hP.sub (ws' := []) [] rfl
  have hD9 := hD.sub (ws' := []) [] (by decide) rfl
  refine W.widen (k := 0) (n := 0) (Nat.le_of_ble_eq_true rfl) (Nat.le_of_ble_eq_true rfl) ?_
  exact W.zret (v := (0 : Int32)) hx hb hr (by decide) (fun t ht hW => ⟨⟨_, (), rfl, rfl, by rw [ht]; exact hP9, hD9, trivial⟩, hS.F ht⟩) hS.2.2 dc_J0_coder_7d493_14
set_option linter.constructorNameAsVariable false in
set_option maxHeartbeats 4000000 in
set_option maxRecDepth 100000 in
theorem mt_J0_length_8abf5 (l : Launch) (G : ky_G) (ks : Nat) (w : Nat) (g : Nat → Int32) (sz : Nat) (hk : ky_Str G ks w g) : Met l my_J0_length_8abf5 (.code my_J0_length_8abf5 prog_22_method_54_code 1 (some .int) :: ky_B) { frames := 1, cells := 0, slots := 0, locals := 20 } (ky_P G [.ref ks] ([]) sz (fun _ => True)) (ky_Q (S := Unit) G (va_A ([]) sz) (fun v _ => v = some (.int (nI w))) (fun _ => []) (fun _ _ => True)) (0) (0) (va_A ([]) sz) := by
  refine ky_start (by decide) (Nat.le_of_ble_eq_true rfl) (fun p e s m below meth c F hE A hAe hsz hA hfr hP hD hS hX ls hl => ?_)
  obtain ⟨hx, hb, hml, hown, hr, hlocks, hts⟩ := id F
  have hl : lv_has ls 1 [(0, .ref ks)] := hl
  have hP : va_P G.1 kcl [] s.heap := hP
  have hD : va_D A [] := hD
  obtain ⟨v9, hO, hC, hV, hT⟩ := hk.at hE hfr
  have hw9 := hk.2.2
  refine lv_aload_n hx hb dc_J0_length_8abf5_0 rfl (lv_at hl 0 rfl) ?_
  refine vk_getf hx hb hV hS hown (hts _ kw_2_189) (fun _ h9 => h9) dc_J0_length_8abf5_1 ?_
  refine va_tlen hx hb hT hS (v := nI w) rfl dc_J0_length_8abf5_4 ?_
  refine lv_aload_n hx hb dc_J0_length_8abf5_5 rfl (lv_at hl 0 rfl) ?_
  refine ky_cVh (As := []) (wr := []) F (hE.at hfr hS) hfr (mt_J0_coder_7d493 l G ks w g s.heap.size hk) kv_J0_335 ⟨⟨rfl, rfl⟩, Nat.le_of_ble_eq_true rfl, Nat.le_of_ble_eq_true rfl⟩ rfl hl.1 rfl (Nat.le_of_ble_eq_true rfl) ⟨Nat.le_of_ble_eq_true rfl, Nat.le_of_ble_eq_true rfl⟩ (hk.recv hE hfr hS) trivial hP hD hS hA [] [] rfl rfl (by decide) (by decide) (by decide) dc_J0_length_8abf5_6 ?_
  rintro v9 u9 H locs rfl hP hD hS - hz hk9
  have hP : va_P G.1 kcl [] H := hP
  have hD : va_D A [] := hD
  refine W.widen (k := 0) (n := 0) (by first | exact Nat.le_refl _ | omega) (by first | exact Nat.le_refl _ | omega) ?_
  refine lv_ishr hx hb dc_J0_length_8abf5_9 ?_
  rw [show (((nI (w)) >>> (((0 : Int32)) &&& 31)) : Int32) = nI (w) from sb_shr0 _]
  have hP9 := hP.sub (ws' := []) [] rfl
  have hD9 := hD.sub (ws' := []) [] (by decide) rfl
  refine W.widen (k := 0) (n := 0) (Nat.le_of_ble_eq_true rfl) (Nat.le_of_ble_eq_true rfl) ?_
  exact W.iret (v := nI (w)) hx hb hr (fun t ht hW => ⟨⟨_, (), rfl, rfl, by rw [ht]; exact hP9, hD9, trivial⟩, hS.F ht⟩) hS.2.2 dc_J0_length_8abf5_10
set_option linter.constructorNameAsVariable false in
set_option maxHeartbeats 4000000 in
set_option maxRecDepth 100000 in
theorem mt_J0_getBytes_840e7 (l : Launch) (G : ky_G) (ks : Nat) (w : Nat) (g : Nat → Int32) (da : Nat) (mm : Nat) (n : Nat) (f : Nat → Int32) (sz : Nat) (hk : ky_Str G ks w g) (hf : ky_fit f) (hn : n + w ≤ mm) (hmm : mm < 2 ^ 20) : Met l my_J0_getBytes_840e7 (.code my_J0_getBytes_840e7 prog_22_method_147_code 4 none :: ky_B) { frames := 1, cells := 0, slots := 0, locals := 40 } (ky_P G [.ref ks, .ref da, .int (nI n), .int ((0 : Int32))] ([(da, .inl (G.2.1 0, mm, .inl f))]) sz (fun _ => True)) (ky_Q (S := Nat → Int32) G (va_A ([(da, .inl (G.2.1 0, mm, .inl f))]) sz) (fun v u => v = none ∧ ky_fit u) (fun u => [(da, .inl (G.2.1 0, mm, .inl u))]) (fun _ _ => True)) (0) (0) (va_A ([(da, .inl (G.2.1 0, mm, .inl f))]) sz) := by
  refine ky_start (by decide) (Nat.le_of_ble_eq_true rfl) (fun p e s m below meth c F hE A hAe hsz hA hfr hP hD hS hX ls hl => ?_)
  obtain ⟨hx, hb, hml, hown, hr, hlocks, hts⟩ := id F
  have hl : lv_has ls 4 [(0, .ref ks), (1, .ref da), (2, .int (nI n)), (3, .int ((0 : Int32)))] := hl
  have hP : va_P G.1 kcl [(da, .inl (G.2.1 0, mm, .inl (f)))] s.heap := hP
  have hD : va_D A [(da, .inl (G.2.1 0, mm, .inl (f)))] := hD
  obtain ⟨v9, hO, hC, hV, hT⟩ := hk.at hE hfr
  have hw9 := hk.2.2
  refine lv_aload_n hx hb dc_J0_getBytes_840e7_0 rfl (lv_at hl 0 rfl) ?_
  refine ky_cVh (As := []) (wr := [(da, .inl (G.2.1 0, mm, .inl (f)))]) F (hE.at hfr hS) hfr (mt_J0_coder_7d493 l G ks w g s.heap.size hk) kv_J0_335 ⟨⟨rfl, rfl⟩, Nat.le_of_ble_eq_true rfl, Nat.le_of_ble_eq_true rfl⟩ rfl hl.1 rfl (Nat.le_of_ble_eq_true rfl) ⟨Nat.le_of_ble_eq_true rfl, Nat.le_of_ble_eq_true rfl⟩ (hk.recv hE hfr hS) trivial hP hD hS hA [] [0] rfl rfl (by decide) (by decide) (by decide) dc_J0_getBytes_840e7_1 ?_
  rintro v9 u9 H locs rfl hP hD hS - hz hk9
  have hP : va_P G.1 kcl [(da, .inl (G.2.1 0, mm, .inl (f)))] H := hP
  have hD : va_D A [(da, .inl (G.2.1 0, mm, .inl (f)))] := hD
  refine W.widen (k := 0) (n := 0) (by first | exact Nat.le_refl _ | omega) (by first | exact Nat.le_refl _ | omega) ?_
  refine lv_iload_n hx hb dc_J0_getBytes_840e7_4 rfl (lv_at hl 3 rfl) ?_
  refine lv_icmp_ne (tgt := 28) hx hb dc_J0_getBytes_840e7_5 (by decide) (fun c_1 => absurd c_1 (by decide)) (fun _ => ?_)
  refine lv_aload_n hx hb dc_J0_getBytes_840e7_8 rfl (lv_at hl 0 rfl) ?_
  refine vk_getf hx hb hV hS hown (hts _ kw_2_189) (fun _ h9 => h9) dc_J0_getBytes_840e7_9 ?_
  refine lv_iconst (v := 0) hx hb dc_J0_getBytes_840e7_12 (by decide) ?_
  refine lv_aload_n hx hb dc_J0_getBytes_840e7_13 rfl (lv_at hl 1 rfl) ?_
  refine lv_iload_n hx hb dc_J0_getBytes_840e7_14 rfl (lv_at hl 2 rfl) ?_
  refine lv_iload_n hx hb dc_J0_getBytes_840e7_15 rfl (lv_at hl 3 rfl) ?_
  refine lv_ishl hx hb dc_J0_getBytes_840e7_16 ?_
  rw [show (((nI n) <<< (((0 : Int32)) &&& 31)) : Int32) = nI n from sb_shl0 _]
  refine lv_aload_n hx hb dc_J0_getBytes_840e7_17 rfl (lv_at hl 0 rfl) ?_
  refine vk_getf hx hb hV hS hown (hts _ kw_2_189) (fun _ h9 => h9) dc_J0_getBytes_840e7_18 ?_
  refine va_tlen hx hb hT hS (v := nI w) rfl dc_J0_getBytes_840e7_21 ?_
  refine vk_copyt hx hb (hml.trans hl.1.symm) hown (hts _ kw_2_40) (hts _ kw_1_207) (hts _ kw_1_206) (hts _ kw_1_23) hE.1 hP hD hS hT 0 0 rfl rfl (by decide) (nI_pos (by omega)) (nI_pos (by omega)) (ky_cl0 w w hw9 (Nat.le_refl _)) (ky_cl2 n w mm (by omega) hw9 hn) (fun i _ => hk.2.1 _) (Nat.le_of_ble_eq_true rfl) (Nat.le_of_ble_eq_true rfl) dc_J0_getBytes_840e7_22 (fun H locs hP hD hS => ?_)
  have hP : va_P G.1 kcl [(da, .inl (G.2.1 0, mm, .inl (va_cpy (g) (f) ((0 : Int32)).toNatClampNeg (nI n).toNatClampNeg (nI (w)).toNatClampNeg)))] H := hP
  have hD : va_D A [(da, .inl (G.2.1 0, mm, .inl (va_cpy (g) (f) ((0 : Int32)).toNatClampNeg (nI n).toNatClampNeg (nI (w)).toNatClampNeg)))] := hD
  refine lv_goto (tgt := 43) hx hb dc_J0_getBytes_840e7_25 (by decide) ?_
  have hP9 := hP.sub (ws' := [(da, .inl (G.2.1 0, mm, .inl (va_cpy (g) (f) ((0 : Int32)).toNatClampNeg (nI n).toNatClampNeg (nI (w)).toNatClampNeg)))]) [0] rfl
  have hD9 := hD.sub (ws' := [(da, .inl (G.2.1 0, mm, .inl (va_cpy (g) (f) ((0 : Int32)).toNatClampNeg (nI n).toNatClampNeg (nI (w)).toNatClampNeg)))]) [0] (by decide) rfl
  refine W.widen (k := 0) (n := 0) (Nat.le_of_ble_eq_true rfl) (Nat.le_of_ble_eq_true rfl) ?_
  exact W.vret hx hb hr (fun t ht hW => ⟨⟨_, va_cpy (g) (f) ((0 : Int32)).toNatClampNeg (nI n).toNatClampNeg (nI (w)).toNatClampNeg, rfl, ⟨rfl, ky_fitC hk.2.1 hf _ _ _⟩, by rw [ht]; exact hP9, hD9, trivial⟩, hS.F ht⟩) hS.2.2 dc_J0_getBytes_840e7_43
set_option linter.constructorNameAsVariable false in
set_option maxHeartbeats 4000000 in
set_option maxRecDepth 100000 in
theorem mt_J5_inflateIfNeededFor_a7421 (l : Launch) (G : ky_G) (b : Nat) (va : Nat) (mm : Nat) (n : Nat) (f : Nat → Int32) (ml : Int32) (ks : Nat) (w : Nat) (g : Nat → Int32) (sz : Nat) (hk : ky_Str G ks w g) : Met l my_J5_inflateIfNeededFor_a7421 (.code my_J5_inflateIfNeededFor_a7421 prog_12_method_71_code 2 none :: ky_B) { frames := 1, cells := 0, slots := 0, locals := 20 } (ky_P G [.ref b, .ref ks] (ky_WT G b va mm n f ml) sz (fun _ => True)) (ky_Q (S := Unit) G (va_A (ky_WT G b va mm n f ml) sz) (fun v _ => v = none) (fun _ => ky_WT G b va mm n f ml) (fun _ _ => True)) (0) (0) (va_A (ky_WT G b va mm n f ml) sz) := by
  refine ky_start (by decide) (Nat.le_of_ble_eq_true rfl) (fun p e s m below meth c F hE A hAe hsz hA hfr hP hD hS hX ls hl => ?_)
  obtain ⟨hx, hb, hml, hown, hr, hlocks, hts⟩ := id F
  have hl : lv_has ls 2 [(0, .ref b), (1, .ref ks)] := hl
  have hP : va_P G.1 kcl [(b, .inr (6, [.ref va, .int (0), .int (ml), .int (nI (n))])), (va, .inl (G.2.1 0, mm, .inl (f)))] s.heap := hP
  have hD : va_D A [(b, .inr (6, [.ref va, .int (0), .int (ml), .int (nI (n))])), (va, .inl (G.2.1 0, mm, .inl (f)))] := hD
  refine va_gets hx hb (kq_compact hE hfr) hS hown (hts _ kw_1_53) (fun _ h9 => h9) dc_J5_inflateIfNeededFor_a7421_0 ?_
  refine lv_if_eq (tgt := 21) hx hb dc_J5_inflateIfNeededFor_a7421_3 (by decide) (fun c_0 => absurd c_0 (by decide)) (fun _ => ?_)
  refine lv_aload_n hx hb dc_J5_inflateIfNeededFor_a7421_6 rfl (lv_at hl 0 rfl) ?_
  refine va_get (D := G.1) (ci := 6) (v := .int (0)) (C := RJ4) (T := TJ4) (N := 4) hx hb hts ki_J4 hown hE.1 hP 0 rfl rfl 1 (by decide) (hts _ kw_1_63) (fun _ h9 => h9) rfl dc_J5_inflateIfNeededFor_a7421_7 ?_
  refine lv_aload_n hx hb dc_J5_inflateIfNeededFor_a7421_10 rfl (lv_at hl 1 rfl) ?_
  refine ky_cVh (As := []) (wr := [(b, .inr (6, [.ref va, .int (0), .int (ml), .int (nI (n))])), (va, .inl (G.2.1 0, mm, .inl (f)))]) F (hE.at hfr hS) hfr (mt_J0_coder_7d493 l G ks w g s.heap.size hk) kv_J5_40 ⟨⟨rfl, rfl⟩, Nat.le_of_ble_eq_true rfl, Nat.le_of_ble_eq_true rfl⟩ rfl hl.1 rfl (Nat.le_of_ble_eq_true rfl) ⟨Nat.le_of_ble_eq_true rfl, Nat.le_of_ble_eq_true rfl⟩ (hk.recv hE hfr hS) trivial hP hD hS hA [] [0, 1] rfl rfl (by decide) (by decide) (by decide) dc_J5_inflateIfNeededFor_a7421_11 ?_
  rintro v9 u9 H locs rfl hP hD hS - hz hk9
  have hP : va_P G.1 kcl [(b, .inr (6, [.ref va, .int (0), .int (ml), .int (nI (n))])), (va, .inl (G.2.1 0, mm, .inl (f)))] H := hP
  have hD : va_D A [(b, .inr (6, [.ref va, .int (0), .int (ml), .int (nI (n))])), (va, .inl (G.2.1 0, mm, .inl (f)))] := hD
  refine W.widen (k := 0) (n := 0) (by first | exact Nat.le_refl _ | omega) (by first | exact Nat.le_refl _ | omega) ?_
  refine lv_icmp_eq (tgt := 21) hx hb dc_J5_inflateIfNeededFor_a7421_14 (by decide) (fun _ => ?_) (fun c_2 => absurd c_2 (by decide))
  have hP9 := hP.sub (ws' := [(b, .inr (6, [.ref va, .int (0), .int (ml), .int (nI (n))])), (va, .inl (G.2.1 0, mm, .inl (f)))]) [0, 1] rfl
  have hD9 := hD.sub (ws' := [(b, .inr (6, [.ref va, .int (0), .int (ml), .int (nI (n))])), (va, .inl (G.2.1 0, mm, .inl (f)))]) [0, 1] (by decide) rfl
  refine W.widen (k := 0) (n := 0) (Nat.le_of_ble_eq_true rfl) (Nat.le_of_ble_eq_true rfl) ?_
  exact W.vret hx hb hr (fun t ht hW => ⟨⟨_, (), rfl, rfl, by rw [ht]; exact hP9, hD9, trivial⟩, hS.F ht⟩) hS.2.2 dc_J5_inflateIfNeededFor_a7421_21
set_option linter.constructorNameAsVariable false in
set_option maxHeartbeats 4000000 in
set_option maxRecDepth 100000 in
theorem mt_J5_putStringAt_47b60 (l : Launch) (G : ky_G) (b : Nat) (va : Nat) (mm : Nat) (n : Nat) (f : Nat → Int32) (ml : Int32) (ks : Nat) (w : Nat) (g : Nat → Int32) (sz : Nat) (hk : ky_Str G ks w g) (hf : ky_fit f) (hn : n + w ≤ mm) (hmm : mm < 2 ^ 20) : Met l my_J5_putStringAt_47b60 (.code my_J5_putStringAt_47b60 prog_12_method_73_code 3 none :: ky_B) { frames := 2, cells := 0, slots := 0, locals := 63 } (ky_P G [.ref b, .int (nI n), .ref ks] (ky_WT G b va mm n f ml) sz (fun _ => True)) (ky_Q (S := Nat → Int32) G (va_A (ky_WT G b va mm n f ml) sz) (fun v u => v = none ∧ ky_fit u) (fun u => ky_WT G b va mm n u ml) (fun _ _ => True)) (0) (0) (va_A (ky_WT G b va mm n f ml) sz) := by
  refine ky_start (by decide) (Nat.le_of_ble_eq_true rfl) (fun p e s m below meth c F hE A hAe hsz hA hfr hP hD hS hX ls hl => ?_)
  obtain ⟨hx, hb, hml, hown, hr, hlocks, hts⟩ := id F
  have hl : lv_has ls 3 [(0, .ref b), (1, .int (nI n)), (2, .ref ks)] := hl
  have hP : va_P G.1 kcl [(b, .inr (6, [.ref va, .int (0), .int (ml), .int (nI (n))])), (va, .inl (G.2.1 0, mm, .inl (f)))] s.heap := hP
  have hD : va_D A [(b, .inr (6, [.ref va, .int (0), .int (ml), .int (nI (n))])), (va, .inl (G.2.1 0, mm, .inl (f)))] := hD
  refine lv_aload_n hx hb dc_J5_putStringAt_47b60_0 rfl (lv_at hl 0 rfl) ?_
  refine lv_aload_n hx hb dc_J5_putStringAt_47b60_1 rfl (lv_at hl 2 rfl) ?_
  refine ky_cUh (As := [.ref ks]) (wr := []) F (hE.at hfr hS) hfr (mt_J5_inflateIfNeededFor_a7421 l G b va mm n f ml ks w g s.heap.size hk) (ku_J5_397.cu hE hts ⟨⟨rfl, rfl⟩, Nat.le_of_ble_eq_true rfl, Nat.le_of_ble_eq_true rfl⟩) rfl hl.1 rfl (Nat.le_of_ble_eq_true rfl) ⟨Nat.le_of_ble_eq_true rfl, Nat.le_of_ble_eq_true rfl⟩ (va_recv hE.1 hP (ci := 6) (q0 := 0) rfl rfl) trivial hP hD hS hA [0, 1] [] rfl rfl (by decide) (by decide) (by decide) dc_J5_putStringAt_47b60_2 ?_
  rintro v9 u9 H locs rfl hP hD hS - hz hk9
  have hP : va_P G.1 kcl [(b, .inr (6, [.ref va, .int (0), .int (ml), .int (nI (n))])), (va, .inl (G.2.1 0, mm, .inl (f)))] H := hP
  have hD : va_D A [(b, .inr (6, [.ref va, .int (0), .int (ml), .int (nI (n))])), (va, .inl (G.2.1 0, mm, .inl (f)))] := hD
  refine W.widen (k := 0) (n := 0) (by first | exact Nat.le_refl _ | omega) (by first | exact Nat.le_refl _ | omega) ?_
  refine lv_aload_n hx hb dc_J5_putStringAt_47b60_5 rfl (lv_at hl 2 rfl) ?_
  refine lv_aload_n hx hb dc_J5_putStringAt_47b60_6 rfl (lv_at hl 0 rfl) ?_
  refine va_get (D := G.1) (ci := 6) (v := .ref va) (C := RJ4) (T := TJ4) (N := 4) hx hb hts ki_J4 hown hE.1 hP 0 rfl rfl 0 (by decide) (hts _ kw_1_62) (fun _ h9 => h9) rfl dc_J5_putStringAt_47b60_7 ?_
  refine lv_iload_n hx hb dc_J5_putStringAt_47b60_10 rfl (lv_at hl 1 rfl) ?_
  refine lv_aload_n hx hb dc_J5_putStringAt_47b60_11 rfl (lv_at hl 0 rfl) ?_
  refine va_get (D := G.1) (ci := 6) (v := .int (0)) (C := RJ4) (T := TJ4) (N := 4) hx hb hts ki_J4 hown hE.1 hP 0 rfl rfl 1 (by decide) (hts _ kw_1_63) (fun _ h9 => h9) rfl dc_J5_putStringAt_47b60_12 ?_
  refine ky_cVh (As := [.ref va, .int (nI n), .int (0)]) (wr := [(b, .inr (6, [.ref va, .int (0), .int (ml), .int (nI (n))]))]) F (hE.at hfr hS) hfr (mt_J0_getBytes_840e7 l G ks w g va mm n f H.size hk hf hn hmm) kv_J5_399 ⟨⟨rfl, rfl⟩, Nat.le_of_ble_eq_true rfl, Nat.le_of_ble_eq_true rfl⟩ rfl hl.1 rfl (Nat.le_of_ble_eq_true rfl) ⟨Nat.le_of_ble_eq_true rfl, Nat.le_of_ble_eq_true rfl⟩ (hk.recv hE hfr hS) trivial hP hD hS hA [1] [0] rfl rfl (by decide) (by decide) (by decide) dc_J5_putStringAt_47b60_15 ?_
  rintro v9 f_1 H locs ⟨rfl, hf_1⟩ hP hD hS - hz hk9
  have hP : va_P G.1 kcl [(b, .inr (6, [.ref va, .int (0), .int (ml), .int (nI (n))])), (va, .inl (G.2.1 0, mm, .inl (f_1)))] H := hP
  have hD : va_D A [(b, .inr (6, [.ref va, .int (0), .int (ml), .int (nI (n))])), (va, .inl (G.2.1 0, mm, .inl (f_1)))] := hD
  refine W.widen (k := 0) (n := 0) (by first | exact Nat.le_refl _ | omega) (by first | exact Nat.le_refl _ | omega) ?_
  have hP9 := hP.sub (ws' := [(b, .inr (6, [.ref va, .int (0), .int (ml), .int (nI (n))])), (va, .inl (G.2.1 0, mm, .inl (f_1)))]) [0, 1] rfl
  have hD9 := hD.sub (ws' := [(b, .inr (6, [.ref va, .int (0), .int (ml), .int (nI (n))])), (va, .inl (G.2.1 0, mm, .inl (f_1)))]) [0, 1] (by decide) rfl
  refine W.widen (k := 0) (n := 0) (Nat.le_of_ble_eq_true rfl) (Nat.le_of_ble_eq_true rfl) ?_
  exact W.vret hx hb hr (fun t ht hW => ⟨⟨_, f_1, rfl, ⟨rfl, hf_1⟩, by rw [ht]; exact hP9, hD9, trivial⟩, hS.F ht⟩) hS.2.2 dc_J5_putStringAt_47b60_18
set_option linter.constructorNameAsVariable false in
set_option maxHeartbeats 4000000 in
set_option maxRecDepth 100000 in
theorem mt_J5_append_cf1ce (l : Launch) (G : ky_G) (b : Nat) (va : Nat) (mm : Nat) (n : Nat) (f : Nat → Int32) (ml : Int32) (ks : Nat) (w : Nat) (g : Nat → Int32) (sz : Nat) (hm : ky_m2 mm) (hf : ky_fit f) (hk : ky_Str G ks w g) (hq : n + w ≤ 34) : Met l my_J5_append_cf1ce (.code my_J5_append_cf1ce prog_12_method_22_code 3 (Option.some (Jvm.ClassFile.FieldType.object "java/lang/AbstractStringBuilder")) :: ky_B) { frames := 4, cells := ky_gc mm (n + w), slots := ky_gs mm (n + w), locals := 85 } (ky_P G [.ref b, .ref ks] (ky_WT G b va mm n f ml) sz (fun _ => True)) (ky_Q (S := Nat × (Nat → Int32)) G (va_A (ky_WT G b va mm n f ml) sz) (fun v u => v = some (.ref b) ∧ ky_fit u.2) (fun u => ky_WT G b u.1 (ky_cap mm (n + w)) (n + w) u.2 ml) (fun _ _ => True)) (ky_gc mm (n + w)) (ky_gs mm (n + w)) (va_A (ky_WT G b va mm n f ml) sz) := by
  refine ky_start (by decide) (Nat.le_of_ble_eq_true rfl) (fun p e s m below meth c F hE A hAe hsz hA hfr hP hD hS hX ls hl => ?_)
  obtain ⟨hx, hb, hml, hown, hr, hlocks, hts⟩ := id F
  have hl : lv_has ls 3 [(0, .ref b), (1, .ref ks)] := hl
  have hP : va_P G.1 kcl [(b, .inr (6, [.ref va, .int (0), .int (ml), .int (nI (n))])), (va, .inl (G.2.1 0, mm, .inl (f)))] s.heap := hP
  have hD : va_D A [(b, .inr (6, [.ref va, .int (0), .int (ml), .int (nI (n))])), (va, .inl (G.2.1 0, mm, .inl (f)))] := hD
  refine lv_aload_n hx hb dc_J5_append_cf1ce_0 rfl (lv_at hl 1 rfl) ?_
  refine lv_ifnonnull (tgt := 9) hx hb dc_J5_append_cf1ce_1 (by decide) ?_
  refine lv_aload_n hx hb dc_J5_append_cf1ce_9 rfl (lv_at hl 1 rfl) ?_
  refine ky_cVh (As := []) (wr := [(b, .inr (6, [.ref va, .int (0), .int (ml), .int (nI (n))])), (va, .inl (G.2.1 0, mm, .inl (f)))]) F (hE.at hfr hS) hfr (mt_J0_length_8abf5 l G ks w g s.heap.size hk) kv_J5_32 ⟨⟨rfl, rfl⟩, Nat.le_of_ble_eq_true rfl, Nat.le_of_ble_eq_true rfl⟩ rfl hl.1 rfl (Nat.le_of_ble_eq_true rfl) ⟨by show (_ : Nat) ≤ ky_gc mm (n + w); omega, by show (_ : Nat) ≤ ky_gs mm (n + w); omega⟩ (hk.recv hE hfr hS) trivial hP hD hS hA [] [0, 1] rfl rfl (by decide) (by decide) (by decide) dc_J5_append_cf1ce_10 ?_
  rintro v9 u9 H locs rfl hP hD hS - hz hk9
  have hP : va_P G.1 kcl [(b, .inr (6, [.ref va, .int (0), .int (ml), .int (nI (n))])), (va, .inl (G.2.1 0, mm, .inl (f)))] H := hP
  have hD : va_D A [(b, .inr (6, [.ref va, .int (0), .int (ml), .int (nI (n))])), (va, .inl (G.2.1 0, mm, .inl (f)))] := hD
  refine W.widen (k := 0) (n := 0) (by first | exact Nat.le_refl _ | omega) (by first | exact Nat.le_refl _ | omega) ?_
  refine lv_istore_n (lv' := [(2, .int (nI (w))), (0, .ref b), (1, .ref ks)]) hx hb dc_J5_append_cf1ce_13 rfl hl (by decide) rfl (fun ls hl => ?_)
  refine lv_aload_n hx hb dc_J5_append_cf1ce_14 rfl (lv_at hl 1 rfl) ?_
  refine lv_aload_n hx hb dc_J5_append_cf1ce_15 rfl (lv_at hl 1 rfl) ?_
  refine va_get (D := G.1) (ci := 6) (v := .int (nI (n))) (C := RJ4) (T := TJ4) (N := 4) hx hb hts ki_J4 hown hE.1 hP 0 rfl rfl 3 (by decide) (hts _ kw_1_66) (fun _ h9 => h9) rfl dc_J5_append_cf1ce_16 ?_
  refine lv_iload_n hx hb dc_J5_append_cf1ce_19 rfl (lv_at hl 0 rfl) ?_
  refine lv_iadd hx hb dc_J5_append_cf1ce_20 ?_
  rw [show (((nI (n)) + (nI (w))) : Int32) = nI (n + w) from nI_add n w]
  refine ky_cUh (As := [.int (nI (n + w))]) (wr := []) F (hE.at hfr hS) hfr (mt_J5_ensureCapacityInternal_d00df l G b va mm n f ml (n + w) H.size hm hf (by omega)) (ku_J5_100.cu hE hts ⟨⟨rfl, rfl⟩, Nat.le_of_ble_eq_true rfl, Nat.le_of_ble_eq_true rfl⟩) rfl hl.1 rfl (Nat.le_of_ble_eq_true rfl) ⟨by show (_ : Nat) ≤ ky_gc mm (n + w); omega, by show (_ : Nat) ≤ ky_gs mm (n + w); omega⟩ (va_recv hE.1 hP (ci := 6) (q0 := 0) rfl rfl) trivial hP hD hS hA [0, 1] [] rfl rfl (by decide) (by decide) (by decide) dc_J5_append_cf1ce_21 ?_
  rintro v9 ⟨va_1, f_1⟩ H locs ⟨rfl, hf_1⟩ hP hD hS - hz hk9
  have hP : va_P G.1 kcl [(b, .inr (6, [.ref va_1, .int (0), .int (ml), .int (nI (n))])), (va_1, .inl (G.2.1 0, ky_cap mm (n + w), .inl (f_1)))] H := hP
  have hD : va_D A [(b, .inr (6, [.ref va_1, .int (0), .int (ml), .int (nI (n))])), (va_1, .inl (G.2.1 0, ky_cap mm (n + w), .inl (f_1)))] := hD
  refine W.widen (k := (ky_gc mm (n + w))) (n := (ky_gs mm (n + w))) (by first | exact Nat.le_refl _ | omega) (by first | exact Nat.le_refl _ | omega) ?_
  refine lv_aload_n hx hb dc_J5_append_cf1ce_24 rfl (lv_at hl 1 rfl) ?_
  refine lv_aload_n hx hb dc_J5_append_cf1ce_25 rfl (lv_at hl 1 rfl) ?_
  refine va_get (D := G.1) (ci := 6) (v := .int (nI (n))) (C := RJ4) (T := TJ4) (N := 4) hx hb hts ki_J4 hown hE.1 hP 0 rfl rfl 3 (by decide) (hts _ kw_1_66) (fun _ h9 => h9) rfl dc_J5_append_cf1ce_26 ?_
  refine lv_aload_n hx hb dc_J5_append_cf1ce_29 rfl (lv_at hl 2 rfl) ?_
  refine ky_cUh (As := [.int (nI (n)), .ref ks]) (wr := []) F (hE.at hfr hS) hfr (mt_J5_putStringAt_47b60 l G b va_1 (ky_cap mm (n + w)) n f_1 ml ks w g H.size hk hf_1 (hm.le hq).1 (by have := (hm.le hq).2.2; omega)) (ku_J5_208.cu hE hts ⟨⟨rfl, rfl⟩, Nat.le_of_ble_eq_true rfl, Nat.le_of_ble_eq_true rfl⟩) rfl hl.1 rfl (Nat.le_of_ble_eq_true rfl) ⟨by show (_ : Nat) ≤ ky_gc mm (n + w); omega, by show (_ : Nat) ≤ ky_gs mm (n + w); omega⟩ (va_recv hE.1 hP (ci := 6) (q0 := 0) rfl rfl) trivial hP hD hS hA [0, 1] [] rfl rfl (by decide) (by decide) (by decide) dc_J5_append_cf1ce_30 ?_
  rintro v9 f_2 H locs ⟨rfl, hf_2⟩ hP hD hS - hz hk9
  have hP : va_P G.1 kcl [(b, .inr (6, [.ref va_1, .int (0), .int (ml), .int (nI (n))])), (va_1, .inl (G.2.1 0, ky_cap mm (n + w), .inl (f_2)))] H := hP
  have hD : va_D A [(b, .inr (6, [.ref va_1, .int (0), .int (ml), .int (nI (n))])), (va_1, .inl (G.2.1 0, ky_cap mm (n + w), .inl (f_2)))] := hD
  refine W.widen (k := (ky_gc mm (n + w))) (n := (ky_gs mm (n + w))) (by first | exact Nat.le_refl _ | omega) (by first | exact Nat.le_refl _ | omega) ?_
  refine lv_aload_n hx hb dc_J5_append_cf1ce_33 rfl (lv_at hl 1 rfl) ?_
  refine lv_dup hx hb dc_J5_append_cf1ce_34 rfl ?_
  refine va_get (D := G.1) (ci := 6) (v := .int (nI (n))) (C := RJ4) (T := TJ4) (N := 4) hx hb hts ki_J4 hown hE.1 hP 0 rfl rfl 3 (by decide) (hts _ kw_1_66) (fun _ h9 => h9) rfl dc_J5_append_cf1ce_35 ?_
  refine lv_iload_n hx hb dc_J5_append_cf1ce_38 rfl (lv_at hl 0 rfl) ?_
  refine lv_iadd hx hb dc_J5_append_cf1ce_39 ?_
  rw [show (((nI (n)) + (nI (w))) : Int32) = nI (n + w) from nI_add n w]
  refine va_put (D := G.1) (ci := 6) (v := .int (nI (n + w))) (ty := .int) (C := RJ4) (T := TJ4) (N := 4) hx hb hts ki_J4 tyJ4 tyJ4_ok nmJ4 hown hE.1 hP hD hS 0 rfl rfl 3 (by decide) (hts _ kw_1_66) (fun _ h9 => h9) rfl (by decide +kernel) rfl rfl (Nat.le_of_ble_eq_true rfl) dc_J5_append_cf1ce_40 (fun H locs hP hD hS => ?_)
  have hP : va_P G.1 kcl [(b, .inr (6, [.ref va_1, .int (0), .int (ml), .int (nI (n + w))])), (va_1, .inl (G.2.1 0, ky_cap mm (n + w), .inl (f_2)))] H := hP
  have hD : va_D A [(b, .inr (6, [.ref va_1, .int (0), .int (ml), .int (nI (n + w))])), (va_1, .inl (G.2.1 0, ky_cap mm (n + w), .inl (f_2)))] := hD
  refine lv_aload_n hx hb dc_J5_append_cf1ce_43 rfl (lv_at hl 1 rfl) ?_
  have hP9 := hP.sub (ws' := [(b, .inr (6, [.ref va_1, .int (0), .int (ml), .int (nI (n + w))])), (va_1, .inl (G.2.1 0, ky_cap mm (n + w), .inl (f_2)))]) [0, 1] rfl
  have hD9 := hD.sub (ws' := [(b, .inr (6, [.ref va_1, .int (0), .int (ml), .int (nI (n + w))])), (va_1, .inl (G.2.1 0, ky_cap mm (n + w), .inl (f_2)))]) [0, 1] (by decide) rfl
  refine W.widen (k := ky_gc mm (n + w)) (n := ky_gs mm (n + w)) (by omega) (by omega) ?_
  exact W.aret (v := .ref b) hx hb hr (Or.inl ⟨_, rfl⟩) (Or.inr ⟨_, rfl⟩) (fun t ht hW => ⟨⟨_, (va_1, f_2), rfl, ⟨rfl, hf_2⟩, by rw [ht]; exact hP9, hD9, trivial⟩, hS.F ht⟩) hS.2.2 dc_J5_append_cf1ce_44
set_option linter.constructorNameAsVariable false in
set_option maxHeartbeats 4000000 in
set_option maxRecDepth 100000 in
theorem mt_J4_append_15ec4 (l : Launch) (G : ky_G) (b : Nat) (va : Nat) (mm : Nat) (n : Nat) (f : Nat → Int32) (ml : Int32) (ks : Nat) (w : Nat) (g : Nat → Int32) (sz : Nat) (hm : ky_m2 mm) (hf : ky_fit f) (hk : ky_Str G ks w g) (hq : n + w ≤ 34) : Met l my_J4_append_15ec4 (.code my_J4_append_15ec4 prog_23_method_7_code 2 (Option.some (Jvm.ClassFile.FieldType.object "java/lang/StringBuilder")) :: ky_B) { frames := 5, cells := ky_gc mm (n + w), slots := ky_gs mm (n + w), locals := 107 } (ky_P G [.ref b, .ref ks] (ky_WT G b va mm n f ml) sz (fun _ => True)) (ky_Q (S := Nat × (Nat → Int32)) G (va_A (ky_WT G b va mm n f ml) sz) (fun v u => v = some (.ref b) ∧ ky_fit u.2) (fun u => ky_WT G b u.1 (ky_cap mm (n + w)) (n + w) u.2 ml) (fun _ _ => True)) (ky_gc mm (n + w)) (ky_gs mm (n + w)) (va_A (ky_WT G b va mm n f ml) sz) := by
  refine ky_start (by decide) (Nat.le_of_ble_eq_true rfl) (fun p e s m below meth c F hE A hAe hsz hA hfr hP hD hS hX ls hl => ?_)
  obtain ⟨hx, hb, hml, hown, hr, hlocks, hts⟩ := id F
  have hl : lv_has ls 2 [(0, .ref b), (1, .ref ks)] := hl
  have hP : va_P G.1 kcl [(b, .inr (6, [.ref va, .int (0), .int (ml), .int (nI (n))])), (va, .inl (G.2.1 0, mm, .inl (f)))] s.heap := hP
  have hD : va_D A [(b, .inr (6, [.ref va, .int (0), .int (ml), .int (nI (n))])), (va, .inl (G.2.1 0, mm, .inl (f)))] := hD
  refine lv_aload_n hx hb dc_J4_append_15ec4_0 rfl (lv_at hl 0 rfl) ?_
  refine lv_aload_n hx hb dc_J4_append_15ec4_1 rfl (lv_at hl 1 rfl) ?_
  refine ky_cWh (ci := 6) (As := [.ref ks]) (wr := []) F (hE.at hfr hS) hfr hE.1 rfl (mt_J5_append_cf1ce l G b va mm n f ml ks w g s.heap.size hm hf hk hq) ku_J4_29 ⟨⟨rfl, rfl⟩, Nat.le_of_ble_eq_true rfl, Nat.le_of_ble_eq_true rfl⟩ rfl hl.1 rfl (Nat.le_of_ble_eq_true rfl) ⟨by show (_ : Nat) ≤ ky_gc mm (n + w); omega, by show (_ : Nat) ≤ ky_gs mm (n + w); omega⟩ (va_recv hE.1 hP (ci := 6) (q0 := 0) rfl rfl) trivial hP hD hS hA [0, 1] [] rfl rfl (by decide) (by decide) (by decide) dc_J4_append_15ec4_2 ?_
  rintro v9 ⟨va_0, f_0⟩ H locs ⟨rfl, hf_0⟩ hP hD hS - hz hk9
  have hP : va_P G.1 kcl [(b, .inr (6, [.ref va_0, .int (0), .int (ml), .int (nI (n + w))])), (va_0, .inl (G.2.1 0, ky_cap mm (n + w), .inl (f_0)))] H := hP
  have hD : va_D A [(b, .inr (6, [.ref va_0, .int (0), .int (ml), .int (nI (n + w))])), (va_0, .inl (G.2.1 0, ky_cap mm (n + w), .inl (f_0)))] := hD
  refine W.widen (k := (ky_gc mm (n + w))) (n := (ky_gs mm (n + w))) (by first | exact Nat.le_refl _ | omega) (by first | exact Nat.le_refl _ | omega) ?_
  refine lv_pop hx hb dc_J4_append_15ec4_5 rfl ?_
  refine lv_aload_n hx hb dc_J4_append_15ec4_6 rfl (lv_at hl 0 rfl) ?_
  have hP9 := hP.sub (ws' := [(b, .inr (6, [.ref va_0, .int (0), .int (ml), .int (nI (n + w))])), (va_0, .inl (G.2.1 0, ky_cap mm (n + w), .inl (f_0)))]) [0, 1] rfl
  have hD9 := hD.sub (ws' := [(b, .inr (6, [.ref va_0, .int (0), .int (ml), .int (nI (n + w))])), (va_0, .inl (G.2.1 0, ky_cap mm (n + w), .inl (f_0)))]) [0, 1] (by decide) rfl
  refine W.widen (k := ky_gc mm (n + w)) (n := ky_gs mm (n + w)) (by omega) (by omega) ?_
  exact W.aret (v := .ref b) hx hb hr (Or.inl ⟨_, rfl⟩) (Or.inr ⟨_, rfl⟩) (fun t ht hW => ⟨⟨_, (va_0, f_0), rfl, ⟨rfl, hf_0⟩, by rw [ht]; exact hP9, hD9, trivial⟩, hS.F ht⟩) hS.2.2 dc_J4_append_15ec4_7
end
section
/-! how many decimal digits -/
def ky_dg : Nat → Nat → Nat
  | 0, _ => 1
  | n + 1, v => if v < 10 then 1 else ky_dg n (v / 10) + 1
def ky_d (v : Nat) : Nat := ky_dg 30 v
theorem ky_dgA : ∀ (n k v : Nat), 10 ^ k ≤ v → v < 10 ^ (k + 1) → k ≤ n → ky_dg n v = k + 1 := by
  intro n
  induction n with
  | zero => intro k v h1 h2 h3; obtain rfl : k = 0 := by omega
            rfl
  | succ n ih =>
    intro k v h1 h2 h3
    rw [ky_dg]
    cases k with
    | zero => rw [if_pos (by simpa using h2)]
    | succ k =>
      have e1 : 10 ^ (k + 1) = 10 * 10 ^ k := by rw [Nat.pow_succ, Nat.mul_comm]
      have e2 : 10 ^ (k + 1 + 1) = 10 * 10 ^ (k + 1) := by rw [Nat.pow_succ, Nat.mul_comm]
      have e3 : 0 < 10 ^ k := Nat.pow_pos (by decide)
      rw [if_neg (by omega), ih k (v / 10) (by omega) (by omega) (by omega)]
theorem ky_dg1 (n v : Nat) : 1 ≤ ky_dg n v := by
  cases n with
  | zero => exact Nat.le_refl _
  | succ n => rw [ky_dg]; split <;> omega
theorem ky_dgL : ∀ (n k v : Nat), v < 10 ^ (k + 1) → ky_dg n v ≤ k + 1 := by
  intro n
  induction n with
  | zero => intro k v h; show 1 ≤ k + 1; omega
  | succ n ih =>
    intro k v h
    rw [ky_dg]
    split
    · omega
    · rename_i hv
      cases k with
      | zero => exact absurd h (by simpa using hv)
      | succ k =>
        have e2 : 10 ^ (k + 1 + 1) = 10 * 10 ^ (k + 1) := by rw [Nat.pow_succ, Nat.mul_comm]
        have := ih k (v / 10) (by omega)
        omega
theorem ky_dgC : ∀ (n v : Nat), v < 10 ^ (n + 1) → ky_dg (n + 1) v = ky_dg n v := by
  intro n
  induction n with
  | zero =>
    intro v h
    show (if v < 10 then 1 else ky_dg 0 (v / 10) + 1) = 1
    rw [if_pos (by simpa using h)]
  | succ n ih =>
    intro v h
    rw [ky_dg]
    conv => rhs; rw [ky_dg]
    have e2 : 10 ^ (n + 1 + 1) = 10 * 10 ^ (n + 1) := by rw [Nat.pow_succ, Nat.mul_comm]
    split
    · rfl
    · rw [ih (v / 10) (by omega)]
theorem ky_dge : (10 : Nat) ^ 20 = 100000000000000000000 := by decide
theorem ky_d100 {v : Nat} (h : 100 ≤ v) (hv : v < 10 ^ 20) : ky_d v = ky_d (v / 100) + 2 := by
  have h2 : v / 100 < 10 ^ 29 := Nat.lt_of_le_of_lt (Nat.div_le_self _ _) (Nat.lt_trans hv (by decide))
  have h3 : v / 100 < 10 ^ 30 := Nat.lt_trans h2 (by decide)
  unfold ky_d
  rw [ky_dgC 29 (v / 100) h3, ky_dgC 28 (v / 100) h2]
  rw [show (30 : Nat) = 29 + 1 from rfl, ky_dg, if_neg (by omega), show (29 : Nat) = 28 + 1 from rfl, ky_dg, if_neg (by omega), Nat.div_div_eq_div_mul]
theorem ky_d10 {v : Nat} (h : v < 10) : ky_d v = 1 := by
  unfold ky_d
  rw [show (30 : Nat) = 29 + 1 from rfl, ky_dg, if_pos h]
theorem ky_d99 {v : Nat} (h : ¬ v < 10) (h2 : v < 100) : ky_d v = 2 := ky_dgA 30 1 v (by omega) (by simpa using h2) (by decide)
def ky_szI (x : Int32) : Nat := ky_d x.toInt.natAbs + (if x < 0 then 1 else 0)
def ky_szJ (x : Int64) : Nat := ky_d x.toInt.natAbs + (if x < 0 then 1 else 0)
theorem ky_lo {a lo hi k : Nat} (h1 : lo ≤ a) (h2 : a < hi) (hlo : lo = 10 ^ k) (hhi : hi = 10 ^ (k + 1)) (hk : k ≤ 30) : ky_d a = k + 1 := ky_dgA 30 k a (hlo ▸ h1) (hhi ▸ h2) hk
theorem ky_szI_of {x e : Int32} {a k d : Nat} (ha : x.toInt.natAbs = a) (hk : ky_d a = k) (hd : (if x < 0 then 1 else 0) = d) (he : e = nI (k + d)) : some (Value.int e) = some (Value.int (nI (ky_szI x))) := by
  unfold ky_szI
  rw [ha, hk, hd, he]
theorem ky_szJ_of {x : Int64} {e : Int32} {a k d : Nat} (ha : x.toInt.natAbs = a) (hk : ky_d a = k) (hd : (if x < 0 then 1 else 0) = d) (he : e = nI (k + d)) : some (Value.int e) = some (Value.int (nI (ky_szJ x))) := by
  unfold ky_szJ
  rw [ha, hk, hd, he]
theorem ky_szI_le (x : Int32) : 1 ≤ ky_szI x ∧ ky_szI x ≤ 11 := by
  have h1 := Int32.le_toInt x
  have h2 := Int32.toInt_lt x
  have h3 := ky_dg1 30 x.toInt.natAbs
  have h4 := ky_dgL 30 9 x.toInt.natAbs (by omega)
  unfold ky_szI ky_d
  split <;> omega
theorem ky_szJ_le (x : Int64) : 1 ≤ ky_szJ x ∧ ky_szJ x ≤ 20 := by
  have h1 := Int64.le_toInt x
  have h2 := Int64.toInt_lt x
  have h3 := ky_dg1 30 x.toInt.natAbs
  have h4 := ky_dgL 30 18 x.toInt.natAbs (by omega)
  unfold ky_szJ ky_d
  split <;> omega
theorem ky_posI {x : Int32} (h : ¬ x < 0) : 0 ≤ x.toInt ∧ (-(x)).toInt = -x.toInt := by
  have h0 : 0 ≤ x.toInt := by
    have := Int32.not_lt.mp h
    simpa using Int32.le_iff_toInt_le.mp this
  have h2 := Int32.toInt_lt x
  refine ⟨h0, ?_⟩
  rw [Int32.toInt_neg]
  apply Int.bmod_eq_of_le <;> omega
theorem ky_negI {x : Int32} (h : x < 0) : x.toInt < 0 := by simpa using Int32.lt_iff_toInt_lt.mp h
theorem ky_posJ {x : Int64} (h : ¬ x < 0) : 0 ≤ x.toInt ∧ (-(x)).toInt = -x.toInt := by
  have h0 : 0 ≤ x.toInt := by
    have := Int64.not_lt.mp h
    simpa using Int64.le_iff_toInt_le.mp this
  have h2 := Int64.toInt_lt x
  refine ⟨h0, ?_⟩
  rw [Int64.toInt_neg]
  apply Int.bmod_eq_of_le <;> omega
theorem ky_negJ {x : Int64} (h : x < 0) : x.toInt < 0 := by simpa using Int64.lt_iff_toInt_lt.mp h
end
section
abbrev my_J6_stringSize_0f7a4 : MethodName := ⟨"java/lang/Integer", "stringSize", "(I)I"⟩
abbrev my_J13_stringSize_95d88 : MethodName := ⟨"java/lang/Long", "stringSize", "(J)I"⟩
theorem kw_7_71 : (Jvm.Cond.constantLong "java/lang/Long" (140 : Nat) (-10 : Int64)) ∈ ky_B := ky_mem (kc_7 _ (List.mem_of_getElem? (i := 71) rfl)) (by decide +kernel)
theorem kw_7_72 : (Jvm.Cond.constantLong "java/lang/Long" (53 : Nat) (10 : Int64)) ∈ ky_B := ky_mem (kc_7 _ (List.mem_of_getElem? (i := 72) rfl)) (by decide +kernel)
def dw_C_prog_18_method_13_code_0 : List UInt8 := [4, 60, 26, 155, 0, 8, 3, 60, 26, 116, 59, 16, 246, 61, 4, 62, 29, 16, 10, 162, 0, 23, 26, 28, 164, 0, 7, 29, 27, 96, 172, 16, 10, 28, 104, 61, 132, 3, 1, 167, 255, 233, 16, 10, 27, 96, 172]
theorem dw_h_prog_18_method_13_code_0 : (prog_18_method_13_code.data.toList.drop 0).take 72 = dw_C_prog_18_method_13_code_0 := by decide +kernel
theorem dw_b_J6_stringSize_0f7a4_0 : dw_chk dw_C_prog_18_method_13_code_0 0 0 (.iconst 1) 1 = true ∧ dw_chk dw_C_prog_18_method_13_code_0 1 1 (.istore_n 1) 1 = true ∧ dw_chk dw_C_prog_18_method_13_code_0 2 2 (.iload_n 0) 1 = true ∧ dw_chk dw_C_prog_18_method_13_code_0 3 3 (.ifCond .lt 8) 3 = true ∧ dw_chk dw_C_prog_18_method_13_code_0 11 11 (.bipush (-10)) 2 = true ∧ dw_chk dw_C_prog_18_method_13_code_0 13 13 (.istore_n 2) 1 = true ∧ dw_chk dw_C_prog_18_method_13_code_0 14 14 (.iconst 1) 1 = true ∧ dw_chk dw_C_prog_18_method_13_code_0 15 15 (.istore_n 3) 1 = true ∧ dw_chk dw_C_prog_18_method_13_code_0 16 16 (.iload_n 3) 1 = true ∧ dw_chk dw_C_prog_18_method_13_code_0 17 17 (.bipush 10) 2 = true ∧ dw_chk dw_C_prog_18_method_13_code_0 19 19 (.if_icmp .ge 23) 3 = true ∧ dw_chk dw_C_prog_18_method_13_code_0 22 22 (.iload_n 0) 1 = true ∧ dw_chk dw_C_prog_18_method_13_code_0 23 23 (.iload_n 2) 1 = true ∧ dw_chk dw_C_prog_18_method_13_code_0 24 24 (.if_icmp .le 7) 3 = true ∧ dw_chk dw_C_prog_18_method_13_code_0 31 31 (.bipush 10) 2 = true ∧ dw_chk dw_C_prog_18_method_13_code_0 33 33 (.iload_n 2) 1 = true ∧ dw_chk dw_C_prog_18_method_13_code_0 34 34 (.imul) 1 = true ∧ dw_chk dw_C_prog_18_method_13_code_0 35 35 (.istore_n 2) 1 = true ∧ dw_chk dw_C_prog_18_method_13_code_0 36 36 (.iinc 3 1) 3 = true ∧ dw_chk dw_C_prog_18_method_13_code_0 39 39 (.goto (-23)) 3 = true ∧ dw_chk dw_C_prog_18_method_13_code_0 42 42 (.bipush 10) 2 = true ∧ dw_chk dw_C_prog_18_method_13_code_0 44 44 (.iload_n 1) 1 = true ∧ dw_chk dw_C_prog_18_method_13_code_0 45 45 (.iadd) 1 = true ∧ dw_chk dw_C_prog_18_method_13_code_0 46 46 (.ireturn) 1 = true ∧ dw_chk dw_C_prog_18_method_13_code_0 27 27 (.iload_n 3) 1 = true ∧ dw_chk dw_C_prog_18_method_13_code_0 28 28 (.iload_n 1) 1 = true ∧ dw_chk dw_C_prog_18_method_13_code_0 29 29 (.iadd) 1 = true ∧ dw_chk dw_C_prog_18_method_13_code_0 30 30 (.ireturn) 1 = true ∧ dw_chk dw_C_prog_18_method_13_code_0 6 6 (.iconst 0) 1 = true ∧ dw_chk dw_C_prog_18_method_13_code_0 7 7 (.istore_n 1) 1 = true ∧ dw_chk dw_C_prog_18_method_13_code_0 8 8 (.iload_n 0) 1 = true ∧ dw_chk dw_C_prog_18_method_13_code_0 9 9 (.ineg) 1 = true ∧ dw_chk dw_C_prog_18_method_13_code_0 10 10 (.istore_n 0) 1 = true := by decide +kernel
theorem dc_J6_stringSize_0f7a4_0 : decode prog_18_method_13_code 0 = .ok (.iconst 1, 1) := dw_row (j := 0) dw_h_prog_18_method_13_code_0 rfl dw_b_J6_stringSize_0f7a4_0.1
theorem dc_J6_stringSize_0f7a4_1 : decode prog_18_method_13_code 1 = .ok (.istore_n 1, 1) := dw_row (j := 1) dw_h_prog_18_method_13_code_0 rfl dw_b_J6_stringSize_0f7a4_0.2.1
theorem dc_J6_stringSize_0f7a4_2 : decode prog_18_method_13_code 2 = .ok (.iload_n 0, 1) := dw_row (j := 2) dw_h_prog_18_method_13_code_0 rfl dw_b_J6_stringSize_0f7a4_0.2.2.1
theorem dc_J6_stringSize_0f7a4_3 : decode prog_18_method_13_code 3 = .ok (.ifCond .lt 8, 3) := dw_row (j := 3) dw_h_prog_18_method_13_code_0 rfl dw_b_J6_stringSize_0f7a4_0.2.2.2.1
theorem dc_J6_stringSize_0f7a4_11 : decode prog_18_method_13_code 11 = .ok (.bipush (-10), 2) := dw_row (j := 11) dw_h_prog_18_method_13_code_0 rfl dw_b_J6_stringSize_0f7a4_0.2.2.2.2.1
theorem dc_J6_stringSize_0f7a4_13 : decode prog_18_method_13_code 13 = .ok (.istore_n 2, 1) := dw_row (j := 13) dw_h_prog_18_method_13_code_0 rfl dw_b_J6_stringSize_0f7a4_0.2.2.2.2.2.1
theorem dc_J6_stringSize_0f7a4_14 : decode prog_18_method_13_code 14 = .ok (.iconst 1, 1) := dw_row (j := 14) dw_h_prog_18_method_13_code_0 rfl dw_b_J6_stringSize_0f7a4_0.2.2.2.2.2.2.1
theorem dc_J6_stringSize_0f7a4_15 : decode prog_18_method_13_code 15 = .ok (.istore_n 3, 1) := dw_row (j := 15) dw_h_prog_18_method_13_code_0 rfl dw_b_J6_stringSize_0f7a4_0.2.2.2.2.2.2.2.1
theorem dc_J6_stringSize_0f7a4_16 : decode prog_18_method_13_code 16 = .ok (.iload_n 3, 1) := dw_row (j := 16) dw_h_prog_18_method_13_code_0 rfl dw_b_J6_stringSize_0f7a4_0.2.2.2.2.2.2.2.2.1
theorem dc_J6_stringSize_0f7a4_17 : decode prog_18_method_13_code 17 = .ok (.bipush 10, 2) := dw_row (j := 17) dw_h_prog_18_method_13_code_0 rfl dw_b_J6_stringSize_0f7a4_0.2.2.2.2.2.2.2.2.2.1
theorem dc_J6_stringSize_0f7a4_19 : decode prog_18_method_13_code 19 = .ok (.if_icmp .ge 23, 3) := dw_row (j := 19) dw_h_prog_18_method_13_code_0 rfl dw_b_J6_stringSize_0f7a4_0.2.2.2.2.2.2.2.2.2.2.1
theorem dc_J6_stringSize_0f7a4_22 : decode prog_18_method_13_code 22 = .ok (.iload_n 0, 1) := dw_row (j := 22) dw_h_prog_18_method_13_code_0 rfl dw_b_J6_stringSize_0f7a4_0.2.2.2.2.2.2.2.2.2.2.2.1
theorem dc_J6_stringSize_0f7a4_23 : decode prog_18_method_13_code 23 = .ok (.iload_n 2, 1) := dw_row (j := 23) dw_h_prog_18_method_13_code_0 rfl dw_b_J6_stringSize_0f7a4_0.2.2.2.2.2.2.2.2.2.2.2.2.1
theorem dc_J6_stringSize_0f7a4_24 : decode prog_18_method_13_code 24 = .ok (.if_icmp .le 7, 3) := dw_row (j := 24) dw_h_prog_18_method_13_code_0 rfl dw_b_J6_stringSize_0f7a4_0.2.2.2.2.2.2.2.2.2.2.2.2.2.1
theorem dc_J6_stringSize_0f7a4_31 : decode prog_18_method_13_code 31 = .ok (.bipush 10, 2) := dw_row (j := 31) dw_h_prog_18_method_13_code_0 rfl dw_b_J6_stringSize_0f7a4_0.2.2.2.2.2.2.2.2.2.2.2.2.2.2.1
theorem dc_J6_stringSize_0f7a4_33 : decode prog_18_method_13_code 33 = .ok (.iload_n 2, 1) := dw_row (j := 33) dw_h_prog_18_method_13_code_0 rfl dw_b_J6_stringSize_0f7a4_0.2.2.2.2.2.2.2.2.2.2.2.2.2.2.2.1
theorem dc_J6_stringSize_0f7a4_34 : decode prog_18_method_13_code 34 = .ok (.imul, 1) := dw_row (j := 34) dw_h_prog_18_method_13_code_0 rfl dw_b_J6_stringSize_0f7a4_0.2.2.2.2.2.2.2.2.2.2.2.2.2.2.2.2.1
theorem dc_J6_stringSize_0f7a4_35 : decode prog_18_method_13_code 35 = .ok (.istore_n 2, 1) := dw_row (j := 35) dw_h_prog_18_method_13_code_0 rfl dw_b_J6_stringSize_0f7a4_0.2.2.2.2.2.2.2.2.2.2.2.2.2.2.2.2.2.1
theorem dc_J6_stringSize_0f7a4_36 : decode prog_18_method_13_code 36 = .ok (.iinc 3 1, 3) := dw_row (j := 36) dw_h_prog_18_method_13_code_0 rfl dw_b_J6_stringSize_0f7a4_0.2.2.2.2.2.2.2.2.2.2.2.2.2.2.2.2.2.2.1
theorem dc_J6_stringSize_0f7a4_39 : decode prog_18_method_13_code 39 = .ok (.goto (-23), 3) := dw_row (j := 39) dw_h_prog_18_method_13_code_0 rfl dw_b_J6_stringSize_0f7a4_0.2.2.2.2.2.2.2.2.2.2.2.2.2.2.2.2.2.2.2.1
theorem dc_J6_stringSize_0f7a4_42 : decode prog_18_method_13_code 42 = .ok (.bipush 10, 2) := dw_row (j := 42) dw_h_prog_18_method_13_code_0 rfl dw_b_J6_stringSize_0f7a4_0.2.2.2.2.2.2.2.2.2.2.2.2.2.2.2.2.2.2.2.2.1
theorem dc_J6_stringSize_0f7a4_44 : decode prog_18_method_13_code 44 = .ok (.iload_n 1, 1) := dw_row (j := 44) dw_h_prog_18_method_13_code_0 rfl dw_b_J6_stringSize_0f7a4_0.2.2.2.2.2.2.2.2.2.2.2.2.2.2.2.2.2.2.2.2.2.1
theorem dc_J6_stringSize_0f7a4_45 : decode prog_18_method_13_code 45 = .ok (.iadd, 1) := dw_row (j := 45) dw_h_prog_18_method_13_code_0 rfl dw_b_J6_stringSize_0f7a4_0.2.2.2.2.2.2.2.2.2.2.2.2.2.2.2.2.2.2.2.2.2.2.1
theorem dc_J6_stringSize_0f7a4_46 : decode prog_18_method_13_code 46 = .ok (.ireturn, 1) := dw_row (j := 46) dw_h_prog_18_method_13_code_0 rfl dw_b_J6_stringSize_0f7a4_0.2.2.2.2.2.2.2.2.2.2.2.2.2.2.2.2.2.2.2.2.2.2.2.1
theorem dc_J6_stringSize_0f7a4_27 : decode prog_18_method_13_code 27 = .ok (.iload_n 3, 1) := dw_row (j := 27) dw_h_prog_18_method_13_code_0 rfl dw_b_J6_stringSize_0f7a4_0.2.2.2.2.2.2.2.2.2.2.2.2.2.2.2.2.2.2.2.2.2.2.2.2.1
theorem dc_J6_stringSize_0f7a4_28 : decode prog_18_method_13_code 28 = .ok (.iload_n 1, 1) := dw_row (j := 28) dw_h_prog_18_method_13_code_0 rfl dw_b_J6_stringSize_0f7a4_0.2.2.2.2.2.2.2.2.2.2.2.2.2.2.2.2.2.2.2.2.2.2.2.2.2.1
theorem dc_J6_stringSize_0f7a4_29 : decode prog_18_method_13_code 29 = .ok (.iadd, 1) := dw_row (j := 29) dw_h_prog_18_method_13_code_0 rfl dw_b_J6_stringSize_0f7a4_0.2.2.2.2.2.2.2.2.2.2.2.2.2.2.2.2.2.2.2.2.2.2.2.2.2.2.1
theorem dc_J6_stringSize_0f7a4_30 : decode prog_18_method_13_code 30 = .ok (.ireturn, 1) := dw_row (j := 30) dw_h_prog_18_method_13_code_0 rfl dw_b_J6_stringSize_0f7a4_0.2.2.2.2.2.2.2.2.2.2.2.2.2.2.2.2.2.2.2.2.2.2.2.2.2.2.2.1
theorem dc_J6_stringSize_0f7a4_6 : decode prog_18_method_13_code 6 = .ok (.iconst 0, 1) := dw_row (j := 6) dw_h_prog_18_method_13_code_0 rfl dw_b_J6_stringSize_0f7a4_0.2.2.2.2.2.2.2.2.2.2.2.2.2.2.2.2.2.2.2.2.2.2.2.2.2.2.2.2.1
theorem dc_J6_stringSize_0f7a4_7 : decode prog_18_method_13_code 7 = .ok (.istore_n 1, 1) := dw_row (j := 7) dw_h_prog_18_method_13_code_0 rfl dw_b_J6_stringSize_0f7a4_0.2.2.2.2.2.2.2.2.2.2.2.2.2.2.2.2.2.2.2.2.2.2.2.2.2.2.2.2.2.1
theorem dc_J6_stringSize_0f7a4_8 : decode prog_18_method_13_code 8 = .ok (.iload_n 0, 1) := dw_row (j := 8) dw_h_prog_18_method_13_code_0 rfl dw_b_J6_stringSize_0f7a4_0.2.2.2.2.2.2.2.2.2.2.2.2.2.2.2.2.2.2.2.2.2.2.2.2.2.2.2.2.2.2.1
theorem dc_J6_stringSize_0f7a4_9 : decode prog_18_method_13_code 9 = .ok (.ineg, 1) := dw_row (j := 9) dw_h_prog_18_method_13_code_0 rfl dw_b_J6_stringSize_0f7a4_0.2.2.2.2.2.2.2.2.2.2.2.2.2.2.2.2.2.2.2.2.2.2.2.2.2.2.2.2.2.2.2.1
theorem dc_J6_stringSize_0f7a4_10 : decode prog_18_method_13_code 10 = .ok (.istore_n 0, 1) := dw_row (j := 10) dw_h_prog_18_method_13_code_0 rfl dw_b_J6_stringSize_0f7a4_0.2.2.2.2.2.2.2.2.2.2.2.2.2.2.2.2.2.2.2.2.2.2.2.2.2.2.2.2.2.2.2.2
def dw_C_prog_19_method_15_code_0 : List UInt8 := [4, 61, 30, 9, 148, 155, 0, 8, 3, 61, 30, 117, 63, 20, 0, 140, 66, 4, 54, 5, 21, 5, 16, 19, 162, 0, 26, 30, 33, 148, 158, 0, 8, 21, 5, 28, 96, 172, 20, 0, 53, 33, 105, 66, 132, 5, 1, 167, 255, 229, 16, 19, 28, 96, 172]
theorem dw_h_prog_19_method_15_code_0 : (prog_19_method_15_code.data.toList.drop 0).take 72 = dw_C_prog_19_method_15_code_0 := by decide +kernel
theorem dw_b_J13_stringSize_95d88_0 : dw_chk dw_C_prog_19_method_15_code_0 0 0 (.iconst 1) 1 = true ∧ dw_chk dw_C_prog_19_method_15_code_0 1 1 (.istore_n 2) 1 = true ∧ dw_chk dw_C_prog_19_method_15_code_0 2 2 (.lload_n 0) 1 = true ∧ dw_chk dw_C_prog_19_method_15_code_0 3 3 (.lconst 0) 1 = true ∧ dw_chk dw_C_prog_19_method_15_code_0 4 4 (.lcmp) 1 = true ∧ dw_chk dw_C_prog_19_method_15_code_0 5 5 (.ifCond .lt 8) 3 = true ∧ dw_chk dw_C_prog_19_method_15_code_0 13 13 (.ldc2_w 140) 3 = true ∧ dw_chk dw_C_prog_19_method_15_code_0 16 16 (.lstore_n 3) 1 = true ∧ dw_chk dw_C_prog_19_method_15_code_0 17 17 (.iconst 1) 1 = true ∧ dw_chk dw_C_prog_19_method_15_code_0 18 18 (.istore 5) 2 = true ∧ dw_chk dw_C_prog_19_method_15_code_0 20 20 (.iload 5) 2 = true ∧ dw_chk dw_C_prog_19_method_15_code_0 22 22 (.bipush 19) 2 = true ∧ dw_chk dw_C_prog_19_method_15_code_0 24 24 (.if_icmp .ge 26) 3 = true ∧ dw_chk dw_C_prog_19_method_15_code_0 27 27 (.lload_n 0) 1 = true ∧ dw_chk dw_C_prog_19_method_15_code_0 28 28 (.lload_n 3) 1 = true ∧ dw_chk dw_C_prog_19_method_15_code_0 29 29 (.lcmp) 1 = true ∧ dw_chk dw_C_prog_19_method_15_code_0 30 30 (.ifCond .le 8) 3 = true ∧ dw_chk dw_C_prog_19_method_15_code_0 38 38 (.ldc2_w 53) 3 = true ∧ dw_chk dw_C_prog_19_method_15_code_0 41 41 (.lload_n 3) 1 = true ∧ dw_chk dw_C_prog_19_method_15_code_0 42 42 (.lmul) 1 = true ∧ dw_chk dw_C_prog_19_method_15_code_0 43 43 (.lstore_n 3) 1 = true ∧ dw_chk dw_C_prog_19_method_15_code_0 44 44 (.iinc 5 1) 3 = true ∧ dw_chk dw_C_prog_19_method_15_code_0 47 47 (.goto (-27)) 3 = true ∧ dw_chk dw_C_prog_19_method_15_code_0 50 50 (.bipush 19) 2 = true ∧ dw_chk dw_C_prog_19_method_15_code_0 52 52 (.iload_n 2) 1 = true ∧ dw_chk dw_C_prog_19_method_15_code_0 53 53 (.iadd) 1 = true ∧ dw_chk dw_C_prog_19_method_15_code_0 54 54 (.ireturn) 1 = true ∧ dw_chk dw_C_prog_19_method_15_code_0 33 33 (.iload 5) 2 = true ∧ dw_chk dw_C_prog_19_method_15_code_0 35 35 (.iload_n 2) 1 = true ∧ dw_chk dw_C_prog_19_method_15_code_0 36 36 (.iadd) 1 = true ∧ dw_chk dw_C_prog_19_method_15_code_0 37 37 (.ireturn) 1 = true ∧ dw_chk dw_C_prog_19_method_15_code_0 8 8 (.iconst 0) 1 = true ∧ dw_chk dw_C_prog_19_method_15_code_0 9 9 (.istore_n 2) 1 = true ∧ dw_chk dw_C_prog_19_method_15_code_0 10 10 (.lload_n 0) 1 = true ∧ dw_chk dw_C_prog_19_method_15_code_0 11 11 (.lneg) 1 = true ∧ dw_chk dw_C_prog_19_method_15_code_0 12 12 (.lstore_n 0) 1 = true := by decide +kernel
theorem dc_J13_stringSize_95d88_0 : decode prog_19_method_15_code 0 = .ok (.iconst 1, 1) := dw_row (j := 0) dw_h_prog_19_method_15_code_0 rfl dw_b_J13_stringSize_95d88_0.1
theorem dc_J13_stringSize_95d88_1 : decode prog_19_method_15_code 1 = .ok (.istore_n 2, 1) := dw_row (j := 1) dw_h_prog_19_method_15_code_0 rfl dw_b_J13_stringSize_95d88_0.2.1
theorem dc_J13_stringSize_95d88_2 : decode prog_19_method_15_code 2 = .ok (.lload_n 0, 1) := dw_row (j := 2) dw_h_prog_19_method_15_code_0 rfl dw_b_J13_stringSize_95d88_0.2.2.1
theorem dc_J13_stringSize_95d88_3 : decode prog_19_method_15_code 3 = .ok (.lconst 0, 1) := dw_row (j := 3) dw_h_prog_19_method_15_code_0 rfl dw_b_J13_stringSize_95d88_0.2.2.2.1
theorem dc_J13_stringSize_95d88_4 : decode prog_19_method_15_code 4 = .ok (.lcmp, 1) := dw_row (j := 4) dw_h_prog_19_method_15_code_0 rfl dw_b_J13_stringSize_95d88_0.2.2.2.2.1
theorem dc_J13_stringSize_95d88_5 : decode prog_19_method_15_code 5 = .ok (.ifCond .lt 8, 3) := dw_row (j := 5) dw_h_prog_19_method_15_code_0 rfl dw_b_J13_stringSize_95d88_0.2.2.2.2.2.1
theorem dc_J13_stringSize_95d88_13 : decode prog_19_method_15_code 13 = .ok (.ldc2_w 140, 3) := dw_row (j := 13) dw_h_prog_19_method_15_code_0 rfl dw_b_J13_stringSize_95d88_0.2.2.2.2.2.2.1
theorem dc_J13_stringSize_95d88_16 : decode prog_19_method_15_code 16 = .ok (.lstore_n 3, 1) := dw_row (j := 16) dw_h_prog_19_method_15_code_0 rfl dw_b_J13_stringSize_95d88_0.2.2.2.2.2.2.2.1
theorem dc_J13_stringSize_95d88_17 : decode prog_19_method_15_code 17 = .ok (.iconst 1, 1) := dw_row (j := 17) dw_h_prog_19_method_15_code_0 rfl dw_b_J13_stringSize_95d88_0.2.2.2.2.2.2.2.2.1
theorem dc_J13_stringSize_95d88_18 : decode prog_19_method_15_code 18 = .ok (.istore 5, 2) := dw_row (j := 18) dw_h_prog_19_method_15_code_0 rfl dw_b_J13_stringSize_95d88_0.2.2.2.2.2.2.2.2.2.1
theorem dc_J13_stringSize_95d88_20 : decode prog_19_method_15_code 20 = .ok (.iload 5, 2) := dw_row (j := 20) dw_h_prog_19_method_15_code_0 rfl dw_b_J13_stringSize_95d88_0.2.2.2.2.2.2.2.2.2.2.1
theorem dc_J13_stringSize_95d88_22 : decode prog_19_method_15_code 22 = .ok (.bipush 19, 2) := dw_row (j := 22) dw_h_prog_19_method_15_code_0 rfl dw_b_J13_stringSize_95d88_0.2.2.2.2.2.2.2.2.2.2.2.1
theorem dc_J13_stringSize_95d88_24 : decode prog_19_method_15_code 24 = .ok (.if_icmp .ge 26, 3) := dw_row (j := 24) dw_h_prog_19_method_15_code_0 rfl dw_b_J13_stringSize_95d88_0.2.2.2.2.2.2.2.2.2.2.2.2.1
theorem dc_J13_stringSize_95d88_27 : decode prog_19_method_15_code 27 = .ok (.lload_n 0, 1) := dw_row (j := 27) dw_h_prog_19_method_15_code_0 rfl dw_b_J13_stringSize_95d88_0.2.2.2.2.2.2.2.2.2.2.2.2.2.1
theorem dc_J13_stringSize_95d88_28 : decode prog_19_method_15_code 28 = .ok (.lload_n 3, 1) := dw_row (j := 28) dw_h_prog_19_method_15_code_0 rfl dw_b_J13_stringSize_95d88_0.2.2.2.2.2.2.2.2.2.2.2.2.2.2.1
theorem dc_J13_stringSize_95d88_29 : decode prog_19_method_15_code 29 = .ok (.lcmp, 1) := dw_row (j := 29) dw_h_prog_19_method_15_code_0 rfl dw_b_J13_stringSize_95d88_0.2.2.2.2.2.2.2.2.2.2.2.2.2.2.2.1
theorem dc_J13_stringSize_95d88_30 : decode prog_19_method_15_code 30 = .ok (.ifCond .le 8, 3) := dw_row (j := 30) dw_h_prog_19_method_15_code_0 rfl dw_b_J13_stringSize_95d88_0.2.2.2.2.2.2.2.2.2.2.2.2.2.2.2.2.1
theorem dc_J13_stringSize_95d88_38 : decode prog_19_method_15_code 38 = .ok (.ldc2_w 53, 3) := dw_row (j := 38) dw_h_prog_19_method_15_code_0 rfl dw_b_J13_stringSize_95d88_0.2.2.2.2.2.2.2.2.2.2.2.2.2.2.2.2.2.1
theorem dc_J13_stringSize_95d88_41 : decode prog_19_method_15_code 41 = .ok (.lload_n 3, 1) := dw_row (j := 41) dw_h_prog_19_method_15_code_0 rfl dw_b_J13_stringSize_95d88_0.2.2.2.2.2.2.2.2.2.2.2.2.2.2.2.2.2.2.1
theorem dc_J13_stringSize_95d88_42 : decode prog_19_method_15_code 42 = .ok (.lmul, 1) := dw_row (j := 42) dw_h_prog_19_method_15_code_0 rfl dw_b_J13_stringSize_95d88_0.2.2.2.2.2.2.2.2.2.2.2.2.2.2.2.2.2.2.2.1
theorem dc_J13_stringSize_95d88_43 : decode prog_19_method_15_code 43 = .ok (.lstore_n 3, 1) := dw_row (j := 43) dw_h_prog_19_method_15_code_0 rfl dw_b_J13_stringSize_95d88_0.2.2.2.2.2.2.2.2.2.2.2.2.2.2.2.2.2.2.2.2.1
theorem dc_J13_stringSize_95d88_44 : decode prog_19_method_15_code 44 = .ok (.iinc 5 1, 3) := dw_row (j := 44) dw_h_prog_19_method_15_code_0 rfl dw_b_J13_stringSize_95d88_0.2.2.2.2.2.2.2.2.2.2.2.2.2.2.2.2.2.2.2.2.2.1
theorem dc_J13_stringSize_95d88_47 : decode prog_19_method_15_code 47 = .ok (.goto (-27), 3) := dw_row (j := 47) dw_h_prog_19_method_15_code_0 rfl dw_b_J13_stringSize_95d88_0.2.2.2.2.2.2.2.2.2.2.2.2.2.2.2.2.2.2.2.2.2.2.1
theorem dc_J13_stringSize_95d88_50 : decode prog_19_method_15_code 50 = .ok (.bipush 19, 2) := dw_row (j := 50) dw_h_prog_19_method_15_code_0 rfl dw_b_J13_stringSize_95d88_0.2.2.2.2.2.2.2.2.2.2.2.2.2.2.2.2.2.2.2.2.2.2.2.1
theorem dc_J13_stringSize_95d88_52 : decode prog_19_method_15_code 52 = .ok (.iload_n 2, 1) := dw_row (j := 52) dw_h_prog_19_method_15_code_0 rfl dw_b_J13_stringSize_95d88_0.2.2.2.2.2.2.2.2.2.2.2.2.2.2.2.2.2.2.2.2.2.2.2.2.1
theorem dc_J13_stringSize_95d88_53 : decode prog_19_method_15_code 53 = .ok (.iadd, 1) := dw_row (j := 53) dw_h_prog_19_method_15_code_0 rfl dw_b_J13_stringSize_95d88_0.2.2.2.2.2.2.2.2.2.2.2.2.2.2.2.2.2.2.2.2.2.2.2.2.2.1
theorem dc_J13_stringSize_95d88_54 : decode prog_19_method_15_code 54 = .ok (.ireturn, 1) := dw_row (j := 54) dw_h_prog_19_method_15_code_0 rfl dw_b_J13_stringSize_95d88_0.2.2.2.2.2.2.2.2.2.2.2.2.2.2.2.2.2.2.2.2.2.2.2.2.2.2.1
theorem dc_J13_stringSize_95d88_33 : decode prog_19_method_15_code 33 = .ok (.iload 5, 2) := dw_row (j := 33) dw_h_prog_19_method_15_code_0 rfl dw_b_J13_stringSize_95d88_0.2.2.2.2.2.2.2.2.2.2.2.2.2.2.2.2.2.2.2.2.2.2.2.2.2.2.2.1
theorem dc_J13_stringSize_95d88_35 : decode prog_19_method_15_code 35 = .ok (.iload_n 2, 1) := dw_row (j := 35) dw_h_prog_19_method_15_code_0 rfl dw_b_J13_stringSize_95d88_0.2.2.2.2.2.2.2.2.2.2.2.2.2.2.2.2.2.2.2.2.2.2.2.2.2.2.2.2.1
theorem dc_J13_stringSize_95d88_36 : decode prog_19_method_15_code 36 = .ok (.iadd, 1) := dw_row (j := 36) dw_h_prog_19_method_15_code_0 rfl dw_b_J13_stringSize_95d88_0.2.2.2.2.2.2.2.2.2.2.2.2.2.2.2.2.2.2.2.2.2.2.2.2.2.2.2.2.2.1
theorem dc_J13_stringSize_95d88_37 : decode prog_19_method_15_code 37 = .ok (.ireturn, 1) := dw_row (j := 37) dw_h_prog_19_method_15_code_0 rfl dw_b_J13_stringSize_95d88_0.2.2.2.2.2.2.2.2.2.2.2.2.2.2.2.2.2.2.2.2.2.2.2.2.2.2.2.2.2.2.1
theorem dc_J13_stringSize_95d88_8 : decode prog_19_method_15_code 8 = .ok (.iconst 0, 1) := dw_row (j := 8) dw_h_prog_19_method_15_code_0 rfl dw_b_J13_stringSize_95d88_0.2.2.2.2.2.2.2.2.2.2.2.2.2.2.2.2.2.2.2.2.2.2.2.2.2.2.2.2.2.2.2.1
theorem dc_J13_stringSize_95d88_9 : decode prog_19_method_15_code 9 = .ok (.istore_n 2, 1) := dw_row (j := 9) dw_h_prog_19_method_15_code_0 rfl dw_b_J13_stringSize_95d88_0.2.2.2.2.2.2.2.2.2.2.2.2.2.2.2.2.2.2.2.2.2.2.2.2.2.2.2.2.2.2.2.2.1
theorem dc_J13_stringSize_95d88_10 : decode prog_19_method_15_code 10 = .ok (.lload_n 0, 1) := dw_row (j := 10) dw_h_prog_19_method_15_code_0 rfl dw_b_J13_stringSize_95d88_0.2.2.2.2.2.2.2.2.2.2.2.2.2.2.2.2.2.2.2.2.2.2.2.2.2.2.2.2.2.2.2.2.2.1
theorem dc_J13_stringSize_95d88_11 : decode prog_19_method_15_code 11 = .ok (.lneg, 1) := dw_row (j := 11) dw_h_prog_19_method_15_code_0 rfl dw_b_J13_stringSize_95d88_0.2.2.2.2.2.2.2.2.2.2.2.2.2.2.2.2.2.2.2.2.2.2.2.2.2.2.2.2.2.2.2.2.2.2.1
theorem dc_J13_stringSize_95d88_12 : decode prog_19_method_15_code 12 = .ok (.lstore_n 0, 1) := dw_row (j := 12) dw_h_prog_19_method_15_code_0 rfl dw_b_J13_stringSize_95d88_0.2.2.2.2.2.2.2.2.2.2.2.2.2.2.2.2.2.2.2.2.2.2.2.2.2.2.2.2.2.2.2.2.2.2.2
end
