section
def fn_X8_init (a1 : Int32) (a2 : Int64) : Unit × Unit :=
  ((), ())
set_option linter.constructorNameAsVariable false in
set_option maxHeartbeats 4000000 in
set_option maxRecDepth 100000 in
theorem mt_X8_init (l : Launch) (G : ky_G) (x : Nat) (a1 : Int32) (a2 : Int64) (sz : Nat)  : Met l my_X8_init (.code my_X8_init prog_11_method_1_code 4 none :: ky_B) { frames := 1, cells := 0, slots := 0, locals := 12 } (ky_P G [.ref x, .int (a1), .long (a2)] ([(x, .inr (4, [.int 0, .long 0]))]) sz (fun _ => True)) (ky_Q (S := Unit) G (va_A ([(x, .inr (4, [.int 0, .long 0]))]) sz) (fun v u9 => v = none ∧ u9 = (fn_X8_init a1 a2).2) (fun _ => [(x, .inr (4, [.int a1, .long a2]))]) (fun _ _ => True)) 0 0 (va_A ([(x, .inr (4, [.int 0, .long 0]))]) sz) := by
  refine ky_startI (by decide) (Nat.le_of_ble_eq_true rfl) (fun p e s m below meth c hin F hE A hAe hsz hA hfr hP hD hS hX ls hl => ?_)
  obtain ⟨hx, hb, hml, hown, hr, hlocks, hts⟩ := id F
  have hl : lv_has ls 4 [(0, .ref x), (1, .int (a1)), (2, .long (a2))] := hl
  have hP : va_P G.1 kcl [(x, .inr (4, [.int (0), .long (0)]))] s.heap := hP
  have hD : va_D A [(x, .inr (4, [.int (0), .long (0)]))] := hD
  have hw : fn_X8_init a1 a2 = _ := fn_X8_init.eq_1 a1 a2
  refine lv_aload_n hx hb dc_X8_init_0 rfl (lv_at hl 0 rfl) ?_
  refine W.objInit hx hb hown (hts _ kw_6_9) (hts _ kw_1_36) (hts _ kw_1_37) rfl (by rw [hml]; exact hl.1) rfl dc_X8_init_1 (Nat.le_of_ble_eq_true rfl) (Nat.le_of_ble_eq_true rfl) ?_
  refine W.eq (g2 := F0 m 4 ls []) rfl ?_
  refine lv_aload_n hx hb dc_X8_init_4 rfl (lv_at hl 0 rfl) ?_
  refine lv_iload_n hx hb dc_X8_init_5 rfl (lv_at hl 1 rfl) ?_
  refine va_putF (D := G.1) (ci := 4) (v := .int (a1)) (ty := .int) (C := RX8) (T := TX8) (N := 2) hx hb hts ki_X8 tyX8 tyX8_ok nmX8 hown hE.1 hP hD hS 0 rfl rfl 0 (by decide) (hts _ kw_6_10) (fun _ h9 => h9) rfl hin rfl (by decide +kernel) rfl rfl (Nat.le_of_ble_eq_true rfl) dc_X8_init_6 (fun H locs hP hD hS => ?_)
  have hP : va_P G.1 kcl [(x, .inr (4, [.int (a1), .long (0)]))] H := hP
  have hD : va_D A [(x, .inr (4, [.int (a1), .long (0)]))] := hD
  refine lv_aload_n hx hb dc_X8_init_9 rfl (lv_at hl 0 rfl) ?_
  refine lv_lload_n hx hb dc_X8_init_10 rfl (lv_at hl 2 rfl) ?_
  refine va_putF (D := G.1) (ci := 4) (v := .long (a2)) (ty := .long) (C := RX8) (T := TX8) (N := 2) hx hb hts ki_X8 tyX8 tyX8_ok nmX8 hown hE.1 hP hD hS 0 rfl rfl 1 (by decide) (hts _ kw_6_12) (fun _ h9 => h9) rfl hin rfl (by decide +kernel) rfl rfl (Nat.le_of_ble_eq_true rfl) dc_X8_init_11 (fun H locs hP hD hS => ?_)
  have hP : va_P G.1 kcl [(x, .inr (4, [.int (a1), .long (a2)]))] H := hP
  have hD : va_D A [(x, .inr (4, [.int (a1), .long (a2)]))] := hD
  have hP9 := hP.sub (ws' := [(x, .inr (4, [.int (a1), .long (a2)]))]) [0] rfl
  have hD9 := hD.sub (ws' := [(x, .inr (4, [.int (a1), .long (a2)]))]) [0] (by decide) rfl
  refine W.widen (k := 0) (n := 0) (Nat.le_of_ble_eq_true rfl) (Nat.le_of_ble_eq_true rfl) ?_
  exact W.vret hx hb hr (fun t ht hW => ⟨⟨_, (), rfl, ky_pv hw, by rw [ht]; exact hP9, hD9, trivial⟩, hS.F ht⟩) hS.2.2 dc_X8_init_14
def fn_X8_turned  (v0 : Int32 × Int64) : Int32 × Int64 :=
  (((1 : Int32)) - (v0.1), v0.2)
set_option linter.constructorNameAsVariable false in
set_option maxHeartbeats 4000000 in
set_option maxRecDepth 100000 in
theorem mt_X8_turned (l : Launch) (G : ky_G) (b0 : Nat) (v0 : Int32 × Int64)  (sz : Nat) : Met l my_X8_turned (.code my_X8_turned prog_11_method_10_code 1 (some (.object "ExactdoublesModel$Its")) :: ky_B) { frames := 2, cells := 1, slots := 2, locals := 35 } (ky_P G [.ref b0] [] sz (fun H => ky_It G b0 v0 H)) (ky_Q (S := Nat) G (va_A [] sz) (fun v u => v = some (.ref u)) (fun _ => []) (fun u H => ky_It G u (fn_X8_turned v0) H ∧ (u = b0 ∨ sz ≤ u))) 1 2 (va_A [] sz) := by
  refine ky_start (by decide) (Nat.le_of_ble_eq_true rfl) (fun p e s m below meth c F hE A hAe hsz hA hfr hP hD hS hX ls hl => ?_)
  obtain ⟨hx, hb, hml, hown, hr, hlocks, hts⟩ := id F
  have hna : ¬ A b0 := by rw [hAe]; exact ky_nfresh hX.low
  have hI0 := hX
  have hl : lv_has ls 1 [(0, .ref b0)] := hl
  have hw : fn_X8_turned v0 = _ := fn_X8_turned.eq_1 v0
  refine va_new (ci := 4) (fs := [.int (0), .long (0)]) (C := RX8) (T := TX8) (N := 2) hx hb hts ki_X8 tyX8 tyX8_ok hown (hts _ kw_6_169) (hts _ kw_6_5) (hts _ kw_1_9) hE.1 hP hD hS hA rfl (fun j hj => by rcases (show j = 0 ∨ j = 1 by omega) with rfl | rfl <;> rfl) (Nat.le_of_ble_eq_true rfl) (Nat.le_of_ble_eq_true rfl) dc_X8_turned_0 (fun q_0 H hP hD hS => ?_)
  have hP : va_P G.1 kcl [(q_0, .inr (4, [.int (0), .long (0)]))] H := hP
  have hD : va_D A [(q_0, .inr (4, [.int (0), .long (0)]))] := hD
  have hI0 := ky_ro hX hna hS
  refine W.widen (k := 1) (n := 2) (Nat.le_refl _) (Nat.le_refl _) ?_
  refine lv_dup hx hb dc_X8_turned_3 rfl ?_
  refine lv_iconst (v := 1) hx hb dc_X8_turned_4 (by decide) ?_
  refine lv_aload_n hx hb dc_X8_turned_5 rfl (lv_at hl 0 rfl) ?_
  refine va_get (D := G.1) (ci := 4) (v := .int (v0.1)) (C := RX8) (T := TX8) (N := 2) hx hb hts ki_X8 hown hE.1 hI0 0 rfl rfl 0 (by decide) (hts _ kw_6_10) (fun _ h9 => h9) rfl dc_X8_turned_6 ?_
  refine lv_isub hx hb dc_X8_turned_9 ?_
  refine lv_aload_n hx hb dc_X8_turned_10 rfl (lv_at hl 0 rfl) ?_
  refine va_get (D := G.1) (ci := 4) (v := .long (v0.2)) (C := RX8) (T := TX8) (N := 2) hx hb hts ki_X8 hown hE.1 hI0 0 rfl rfl 1 (by decide) (hts _ kw_6_12) (fun _ h9 => h9) rfl dc_X8_turned_11 ?_
  refine ky_cIh (As := [.int (((1 : Int32)) - (v0.1)), .long (v0.2)]) (wr := []) F (hE.at hfr hS) hfr (mt_X8_init l G (q_0) (((1 : Int32)) - (v0.1)) (v0.2) H.size ) kI_X8_33 ⟨⟨rfl, rfl⟩, by decide, by decide⟩ rfl hl.1 rfl (Nat.le_of_ble_eq_true rfl) ⟨Nat.le_of_ble_eq_true rfl, Nat.le_of_ble_eq_true rfl⟩ trivial hP hD hS hA [0] [] rfl rfl (by decide) (by decide) (by decide) dc_X8_turned_14 ?_
  rintro v9 u9 H locs ⟨rfl, rfl⟩ hP hD hS - hz hk9
  have hP : va_P G.1 kcl [(q_0, .inr (4, [.int (((1 : Int32)) - (v0.1)), .long (v0.2)]))] H := hP
  have hD : va_D A [(q_0, .inr (4, [.int (((1 : Int32)) - (v0.1)), .long (v0.2)]))] := hD
  have hI0 := ky_ro hX hna hS
  refine W.widen (k := 1) (n := 2) (Nat.le_refl _) (Nat.le_refl _) ?_
  have hP9 := hP.sub (ws' := []) [] rfl
  have hD9 := hD.sub (ws' := []) [] (by decide) rfl
  have hI9 := hP.sub (ws' := [(q_0, .inr (4, [.int (((1 : Int32)) - (v0.1)), .long (v0.2)]))]) [0] rfl
  have ho9 : q_0 = b0 ∨ sz ≤ q_0 := Or.inr (by have z := hD.2 0 _ rfl; rw [hAe] at z; rw [← hsz]; exact ky_fresh z)
  refine W.widen (k := 1) (n := 2) (Nat.le_of_ble_eq_true rfl) (Nat.le_of_ble_eq_true rfl) ?_
  exact W.aret (v := .ref q_0) hx hb hr (Or.inl ⟨_, rfl⟩) (Or.inr ⟨_, rfl⟩) (fun t ht hW => ⟨⟨_, q_0, rfl, rfl, by rw [ht]; exact hP9, hD9, by rw [hw, ht]; exact ky_itp hI9, ho9⟩, hS.F ht⟩) hS.2.2 dc_X8_turned_17
def fn_X8_up  (v0 : Int32 × Int64) : Int32 × Int64 :=
  if (v0.1) = (0 : Int32) then (if (fn_X8_isEndless v0) = (0 : Int32) then (((0 : Int32), (v0.2) + ((1 : Int64)))) else (v0)) else (if (lg_cmp (v0.2) ((0 : Int64))) = (0 : Int32) then (((0 : Int32), (1 : Int64))) else (((1 : Int32), (v0.2) - ((1 : Int64)))))
set_option linter.constructorNameAsVariable false in
set_option maxHeartbeats 4000000 in
set_option maxRecDepth 100000 in
theorem mt_X8_up (l : Launch) (G : ky_G) (b0 : Nat) (v0 : Int32 × Int64)  (sz : Nat) : Met l my_X8_up (.code my_X8_up prog_11_method_17_code 1 (some (.object "ExactdoublesModel$Its")) :: ky_B) { frames := 2, cells := 1, slots := 2, locals := 35 } (ky_P G [.ref b0] [] sz (fun H => ky_It G b0 v0 H)) (ky_Q (S := Nat) G (va_A [] sz) (fun v u => v = some (.ref u)) (fun _ => []) (fun u H => ky_It G u (fn_X8_up v0) H ∧ (u = b0 ∨ sz ≤ u))) 1 2 (va_A [] sz) := by
  refine ky_start (by decide) (Nat.le_of_ble_eq_true rfl) (fun p e s m below meth c F hE A hAe hsz hA hfr hP hD hS hX ls hl => ?_)
  obtain ⟨hx, hb, hml, hown, hr, hlocks, hts⟩ := id F
  have hna : ¬ A b0 := by rw [hAe]; exact ky_nfresh hX.low
  have hI0 := hX
  have hl : lv_has ls 1 [(0, .ref b0)] := hl
  have hw : fn_X8_up v0 = _ := fn_X8_up.eq_1 v0
  refine lv_aload_n hx hb dc_X8_up_0 rfl (lv_at hl 0 rfl) ?_
  refine va_get (D := G.1) (ci := 4) (v := .int (v0.1)) (C := RX8) (T := TX8) (N := 2) hx hb hts ki_X8 hown hE.1 hI0 0 rfl rfl 0 (by decide) (hts _ kw_6_10) (fun _ h9 => h9) rfl dc_X8_up_1 ?_
  refine lv_if_ne (tgt := 33) hx hb dc_X8_up_4 (by decide) (fun c_0 => ?_) (fun c_0 => ?_)
  · have hw := hw.trans (if_neg c_0)
    refine lv_aload_n hx hb dc_X8_up_33 rfl (lv_at hl 0 rfl) ?_
    refine va_get (D := G.1) (ci := 4) (v := .long (v0.2)) (C := RX8) (T := TX8) (N := 2) hx hb hts ki_X8 hown hE.1 hI0 0 rfl rfl 1 (by decide) (hts _ kw_6_12) (fun _ h9 => h9) rfl dc_X8_up_34 ?_
    refine lv_lconst (v := 0) hx hb dc_X8_up_37 (by decide) ?_
    refine W.lcmp hx hb dc_X8_up_38 ?_
    refine lv_if_ne (tgt := 54) hx hb dc_X8_up_39 (by decide) (fun c_1 => ?_) (fun c_1 => ?_)
    · have hw := hw.trans (if_neg c_1)
      refine va_new (ci := 4) (fs := [.int (0), .long (0)]) (C := RX8) (T := TX8) (N := 2) hx hb hts ki_X8 tyX8 tyX8_ok hown (hts _ kw_6_169) (hts _ kw_6_5) (hts _ kw_1_9) hE.1 hP hD hS hA rfl (fun j hj => by rcases (show j = 0 ∨ j = 1 by omega) with rfl | rfl <;> rfl) (Nat.le_of_ble_eq_true rfl) (Nat.le_of_ble_eq_true rfl) dc_X8_up_54 (fun q_2 H hP hD hS => ?_)
      have hP : va_P G.1 kcl [(q_2, .inr (4, [.int (0), .long (0)]))] H := hP
      have hD : va_D A [(q_2, .inr (4, [.int (0), .long (0)]))] := hD
      have hI0 := ky_ro hX hna hS
      refine W.widen (k := 1) (n := 2) (Nat.le_refl _) (Nat.le_refl _) ?_
      refine lv_dup hx hb dc_X8_up_57 rfl ?_
      refine lv_iconst (v := 1) hx hb dc_X8_up_58 (by decide) ?_
      refine lv_aload_n hx hb dc_X8_up_59 rfl (lv_at hl 0 rfl) ?_
      refine va_get (D := G.1) (ci := 4) (v := .long (v0.2)) (C := RX8) (T := TX8) (N := 2) hx hb hts ki_X8 hown hE.1 hI0 0 rfl rfl 1 (by decide) (hts _ kw_6_12) (fun _ h9 => h9) rfl dc_X8_up_60 ?_
      refine lv_lconst (v := 1) hx hb dc_X8_up_63 (by decide) ?_
      refine lv_lsub hx hb dc_X8_up_64 ?_
      refine ky_cIh (As := [.int ((1 : Int32)), .long ((v0.2) - ((1 : Int64)))]) (wr := []) F (hE.at hfr hS) hfr (mt_X8_init l G (q_2) ((1 : Int32)) ((v0.2) - ((1 : Int64))) H.size ) kI_X8_33 ⟨⟨rfl, rfl⟩, by decide, by decide⟩ rfl hl.1 rfl (Nat.le_of_ble_eq_true rfl) ⟨Nat.le_of_ble_eq_true rfl, Nat.le_of_ble_eq_true rfl⟩ trivial hP hD hS hA [0] [] rfl rfl (by decide) (by decide) (by decide) dc_X8_up_65 ?_
      rintro v9 u9 H locs ⟨rfl, rfl⟩ hP hD hS - hz hk9
      have hP : va_P G.1 kcl [(q_2, .inr (4, [.int ((1 : Int32)), .long ((v0.2) - ((1 : Int64)))]))] H := hP
      have hD : va_D A [(q_2, .inr (4, [.int ((1 : Int32)), .long ((v0.2) - ((1 : Int64)))]))] := hD
      have hI0 := ky_ro hX hna hS
      refine W.widen (k := 1) (n := 2) (Nat.le_refl _) (Nat.le_refl _) ?_
      have hP9 := hP.sub (ws' := []) [] rfl
      have hD9 := hD.sub (ws' := []) [] (by decide) rfl
      have hI9 := hP.sub (ws' := [(q_2, .inr (4, [.int ((1 : Int32)), .long ((v0.2) - ((1 : Int64)))]))]) [0] rfl
      have ho9 : q_2 = b0 ∨ sz ≤ q_2 := Or.inr (by have z := hD.2 0 _ rfl; rw [hAe] at z; rw [← hsz]; exact ky_fresh z)
      refine W.widen (k := 1) (n := 2) (Nat.le_of_ble_eq_true rfl) (Nat.le_of_ble_eq_true rfl) ?_
      exact W.aret (v := .ref q_2) hx hb hr (Or.inl ⟨_, rfl⟩) (Or.inr ⟨_, rfl⟩) (fun t ht hW => ⟨⟨_, q_2, rfl, rfl, by rw [ht]; exact hP9, hD9, by rw [hw, ht]; exact ky_itp hI9, ho9⟩, hS.F ht⟩) hS.2.2 dc_X8_up_68
    · have hw := hw.trans (if_pos c_1)
      refine va_new (ci := 4) (fs := [.int (0), .long (0)]) (C := RX8) (T := TX8) (N := 2) hx hb hts ki_X8 tyX8 tyX8_ok hown (hts _ kw_6_169) (hts _ kw_6_5) (hts _ kw_1_9) hE.1 hP hD hS hA rfl (fun j hj => by rcases (show j = 0 ∨ j = 1 by omega) with rfl | rfl <;> rfl) (Nat.le_of_ble_eq_true rfl) (Nat.le_of_ble_eq_true rfl) dc_X8_up_42 (fun q_2 H hP hD hS => ?_)
      have hP : va_P G.1 kcl [(q_2, .inr (4, [.int (0), .long (0)]))] H := hP
      have hD : va_D A [(q_2, .inr (4, [.int (0), .long (0)]))] := hD
      have hI0 := ky_ro hX hna hS
      refine W.widen (k := 1) (n := 2) (Nat.le_refl _) (Nat.le_refl _) ?_
      refine lv_dup hx hb dc_X8_up_45 rfl ?_
      refine lv_iconst (v := 0) hx hb dc_X8_up_46 (by decide) ?_
      refine lv_lconst (v := 1) hx hb dc_X8_up_47 (by decide) ?_
      refine ky_cIh (As := [.int ((0 : Int32)), .long ((1 : Int64))]) (wr := []) F (hE.at hfr hS) hfr (mt_X8_init l G (q_2) ((0 : Int32)) ((1 : Int64)) H.size ) kI_X8_33 ⟨⟨rfl, rfl⟩, by decide, by decide⟩ rfl hl.1 rfl (Nat.le_of_ble_eq_true rfl) ⟨Nat.le_of_ble_eq_true rfl, Nat.le_of_ble_eq_true rfl⟩ trivial hP hD hS hA [0] [] rfl rfl (by decide) (by decide) (by decide) dc_X8_up_48 ?_
      rintro v9 u9 H locs ⟨rfl, rfl⟩ hP hD hS - hz hk9
      have hP : va_P G.1 kcl [(q_2, .inr (4, [.int ((0 : Int32)), .long ((1 : Int64))]))] H := hP
      have hD : va_D A [(q_2, .inr (4, [.int ((0 : Int32)), .long ((1 : Int64))]))] := hD
      have hI0 := ky_ro hX hna hS
      refine W.widen (k := 1) (n := 2) (Nat.le_refl _) (Nat.le_refl _) ?_
      refine lv_goto (tgt := 68) hx hb dc_X8_up_51 (by decide) ?_
      have hP9 := hP.sub (ws' := []) [] rfl
      have hD9 := hD.sub (ws' := []) [] (by decide) rfl
      have hI9 := hP.sub (ws' := [(q_2, .inr (4, [.int ((0 : Int32)), .long ((1 : Int64))]))]) [0] rfl
      have ho9 : q_2 = b0 ∨ sz ≤ q_2 := Or.inr (by have z := hD.2 0 _ rfl; rw [hAe] at z; rw [← hsz]; exact ky_fresh z)
      refine W.widen (k := 1) (n := 2) (Nat.le_of_ble_eq_true rfl) (Nat.le_of_ble_eq_true rfl) ?_
      exact W.aret (v := .ref q_2) hx hb hr (Or.inl ⟨_, rfl⟩) (Or.inr ⟨_, rfl⟩) (fun t ht hW => ⟨⟨_, q_2, rfl, rfl, by rw [ht]; exact hP9, hD9, by rw [hw, ht]; exact ky_itp hI9, ho9⟩, hS.F ht⟩) hS.2.2 dc_X8_up_68
  · have hw := hw.trans (if_pos c_0)
    refine lv_aload_n hx hb dc_X8_up_7 rfl (lv_at hl 0 rfl) ?_
    refine ky_cV1 (As := []) F (hE.at hfr hS) (mt_X8_isEndless l G (b0) (v0) ) kv_X8_45 ⟨⟨rfl, rfl⟩, by decide, by decide⟩ rfl hl.1 rfl (Nat.le_of_ble_eq_true rfl) ⟨Nat.le_of_ble_eq_true rfl, Nat.le_of_ble_eq_true rfl⟩ (va_recv hE.1 hI0 (ci := 4) (q0 := 0) rfl rfl) hI0 dc_X8_up_8 ?_
    refine lv_if_eq (tgt := 18) hx hb dc_X8_up_11 (by decide) (fun c_1 => ?_) (fun c_1 => ?_)
    · have hw := hw.trans (if_pos c_1)
      refine va_new (ci := 4) (fs := [.int (0), .long (0)]) (C := RX8) (T := TX8) (N := 2) hx hb hts ki_X8 tyX8 tyX8_ok hown (hts _ kw_6_169) (hts _ kw_6_5) (hts _ kw_1_9) hE.1 hP hD hS hA rfl (fun j hj => by rcases (show j = 0 ∨ j = 1 by omega) with rfl | rfl <;> rfl) (Nat.le_of_ble_eq_true rfl) (Nat.le_of_ble_eq_true rfl) dc_X8_up_18 (fun q_2 H hP hD hS => ?_)
      have hP : va_P G.1 kcl [(q_2, .inr (4, [.int (0), .long (0)]))] H := hP
      have hD : va_D A [(q_2, .inr (4, [.int (0), .long (0)]))] := hD
      have hI0 := ky_ro hX hna hS
      refine W.widen (k := 1) (n := 2) (Nat.le_refl _) (Nat.le_refl _) ?_
      refine lv_dup hx hb dc_X8_up_21 rfl ?_
      refine lv_iconst (v := 0) hx hb dc_X8_up_22 (by decide) ?_
      refine lv_aload_n hx hb dc_X8_up_23 rfl (lv_at hl 0 rfl) ?_
      refine va_get (D := G.1) (ci := 4) (v := .long (v0.2)) (C := RX8) (T := TX8) (N := 2) hx hb hts ki_X8 hown hE.1 hI0 0 rfl rfl 1 (by decide) (hts _ kw_6_12) (fun _ h9 => h9) rfl dc_X8_up_24 ?_
      refine lv_lconst (v := 1) hx hb dc_X8_up_27 (by decide) ?_
      refine lv_ladd hx hb dc_X8_up_28 ?_
      refine ky_cIh (As := [.int ((0 : Int32)), .long ((v0.2) + ((1 : Int64)))]) (wr := []) F (hE.at hfr hS) hfr (mt_X8_init l G (q_2) ((0 : Int32)) ((v0.2) + ((1 : Int64))) H.size ) kI_X8_33 ⟨⟨rfl, rfl⟩, by decide, by decide⟩ rfl hl.1 rfl (Nat.le_of_ble_eq_true rfl) ⟨Nat.le_of_ble_eq_true rfl, Nat.le_of_ble_eq_true rfl⟩ trivial hP hD hS hA [0] [] rfl rfl (by decide) (by decide) (by decide) dc_X8_up_29 ?_
      rintro v9 u9 H locs ⟨rfl, rfl⟩ hP hD hS - hz hk9
      have hP : va_P G.1 kcl [(q_2, .inr (4, [.int ((0 : Int32)), .long ((v0.2) + ((1 : Int64)))]))] H := hP
      have hD : va_D A [(q_2, .inr (4, [.int ((0 : Int32)), .long ((v0.2) + ((1 : Int64)))]))] := hD
      have hI0 := ky_ro hX hna hS
      refine W.widen (k := 1) (n := 2) (Nat.le_refl _) (Nat.le_refl _) ?_
      have hP9 := hP.sub (ws' := []) [] rfl
      have hD9 := hD.sub (ws' := []) [] (by decide) rfl
      have hI9 := hP.sub (ws' := [(q_2, .inr (4, [.int ((0 : Int32)), .long ((v0.2) + ((1 : Int64)))]))]) [0] rfl
      have ho9 : q_2 = b0 ∨ sz ≤ q_2 := Or.inr (by have z := hD.2 0 _ rfl; rw [hAe] at z; rw [← hsz]; exact ky_fresh z)
      refine W.widen (k := 1) (n := 2) (Nat.le_of_ble_eq_true rfl) (Nat.le_of_ble_eq_true rfl) ?_
      exact W.aret (v := .ref q_2) hx hb hr (Or.inl ⟨_, rfl⟩) (Or.inr ⟨_, rfl⟩) (fun t ht hW => ⟨⟨_, q_2, rfl, rfl, by rw [ht]; exact hP9, hD9, by rw [hw, ht]; exact ky_itp hI9, ho9⟩, hS.F ht⟩) hS.2.2 dc_X8_up_32
    · have hw := hw.trans (if_neg c_1)
      refine lv_aload_n hx hb dc_X8_up_14 rfl (lv_at hl 0 rfl) ?_
      refine lv_goto (tgt := 32) hx hb dc_X8_up_15 (by decide) ?_
      have hP9 := hP.sub (ws' := []) [] rfl
      have hD9 := hD.sub (ws' := []) [] (by decide) rfl
      refine W.widen (k := 1) (n := 2) (Nat.le_of_ble_eq_true rfl) (Nat.le_of_ble_eq_true rfl) ?_
      exact W.aret (v := .ref b0) hx hb hr (Or.inl ⟨_, rfl⟩) (Or.inr ⟨_, rfl⟩) (fun t ht hW => ⟨⟨_, b0, rfl, rfl, by rw [ht]; exact hP9, hD9, by rw [hw, ht]; exact hI0, (Or.inl rfl)⟩, hS.F ht⟩) hS.2.2 dc_X8_up_32
def fn_X8_next (a1 : Int32) (v0 : Int32 × Int64) : Int32 × Int64 :=
  if (a1) = (0 : Int32) then ((fn_X8_up v0)) else ((fn_X8_turned (fn_X8_up (fn_X8_turned v0))))
set_option linter.constructorNameAsVariable false in
set_option maxHeartbeats 4000000 in
set_option maxRecDepth 100000 in
theorem mt_X8_next (l : Launch) (G : ky_G) (b0 : Nat) (v0 : Int32 × Int64) (a1 : Int32) (sz : Nat) : Met l my_X8_next (.code my_X8_next prog_11_method_18_code 2 (some (.object "ExactdoublesModel$Its")) :: ky_B) { frames := 3, cells := 3, slots := 6, locals := 55 } (ky_P G [.ref b0, .int (a1)] [] sz (fun H => ky_It G b0 v0 H)) (ky_Q (S := Nat) G (va_A [] sz) (fun v u => v = some (.ref u)) (fun _ => []) (fun u H => ky_It G u (fn_X8_next a1 v0) H ∧ (u = b0 ∨ sz ≤ u))) 3 6 (va_A [] sz) := by
  refine ky_start (by decide) (Nat.le_of_ble_eq_true rfl) (fun p e s m below meth c F hE A hAe hsz hA hfr hP hD hS hX ls hl => ?_)
  obtain ⟨hx, hb, hml, hown, hr, hlocks, hts⟩ := id F
  have hna : ¬ A b0 := by rw [hAe]; exact ky_nfresh hX.low
  have hI0 := hX
  have hl : lv_has ls 2 [(0, .ref b0), (1, .int (a1))] := hl
  have hw : fn_X8_next a1 v0 = _ := fn_X8_next.eq_1 a1 v0
  refine lv_iload_n hx hb dc_X8_next_0 rfl (lv_at hl 1 rfl) ?_
  refine lv_if_eq (tgt := 17) hx hb dc_X8_next_1 (by decide) (fun c_0 => ?_) (fun c_0 => ?_)
  · have hw := hw.trans (if_pos c_0)
    refine lv_aload_n hx hb dc_X8_next_17 rfl (lv_at hl 0 rfl) ?_
    have hs_1 := hS.1
    refine ky_cVh (As := []) (wr := []) F (hE.at hfr hS) hfr (mt_X8_up l G (b0) v0  s.heap.size) kv_X8_92 ⟨⟨rfl, rfl⟩, by decide, by decide⟩ rfl hl.1 rfl (Nat.le_of_ble_eq_true rfl) ⟨Nat.le_of_ble_eq_true rfl, Nat.le_of_ble_eq_true rfl⟩ (va_recv hE.1 hI0 (ci := 4) (q0 := 0) rfl rfl) hI0 hP hD hS hA [] [] rfl rfl (by decide) (by decide) (by decide) dc_X8_next_18 ?_
    rintro v9 q_1 H locs rfl hP hD hS ⟨hI_1, hd_1⟩ hz hk9
    have hP : va_P G.1 kcl [] H := hP
    have hD : va_D A [] := hD
    have hI0 := hI0.fr hk9
    have ho_1 := ky_or (sz := sz) (Or.inl rfl) (by rw [← hsz]; exact hs_1) hd_1
    refine W.widen (k := 1) (n := 2) (Nat.le_refl _) (Nat.le_refl _) ?_
    have hP9 := hP.sub (ws' := []) [] rfl
    have hD9 := hD.sub (ws' := []) [] (by decide) rfl
    refine W.widen (k := 3) (n := 6) (Nat.le_of_ble_eq_true rfl) (Nat.le_of_ble_eq_true rfl) ?_
    exact W.aret (v := .ref q_1) hx hb hr (Or.inl ⟨_, rfl⟩) (Or.inr ⟨_, rfl⟩) (fun t ht hW => ⟨⟨_, q_1, rfl, rfl, by rw [ht]; exact hP9, hD9, by rw [hw, ht]; exact hI_1, ho_1⟩, hS.F ht⟩) hS.2.2 dc_X8_next_21
  · have hw := hw.trans (if_neg c_0)
    refine lv_aload_n hx hb dc_X8_next_4 rfl (lv_at hl 0 rfl) ?_
    have hs_1 := hS.1
    refine ky_cVh (As := []) (wr := []) F (hE.at hfr hS) hfr (mt_X8_turned l G (b0) v0  s.heap.size) kv_X8_88 ⟨⟨rfl, rfl⟩, by decide, by decide⟩ rfl hl.1 rfl (Nat.le_of_ble_eq_true rfl) ⟨Nat.le_of_ble_eq_true rfl, Nat.le_of_ble_eq_true rfl⟩ (va_recv hE.1 hI0 (ci := 4) (q0 := 0) rfl rfl) hI0 hP hD hS hA [] [] rfl rfl (by decide) (by decide) (by decide) dc_X8_next_5 ?_
    rintro v9 q_1 H locs rfl hP hD hS ⟨hI_1, hd_1⟩ hz hk9
    have hP : va_P G.1 kcl [] H := hP
    have hD : va_D A [] := hD
    have hI0 := hI0.fr hk9
    have ho_1 := ky_or (sz := sz) (Or.inl rfl) (by rw [← hsz]; exact hs_1) hd_1
    refine W.widen (k := 1) (n := 2) (Nat.le_refl _) (Nat.le_refl _) ?_
    have hs_2 := hS.1
    refine ky_cVh (As := []) (wr := []) F (hE.at hfr hS) hfr (mt_X8_up l G (q_1) (fn_X8_turned v0)  H.size) kv_X8_92 ⟨⟨rfl, rfl⟩, by decide, by decide⟩ rfl hl.1 rfl (Nat.le_of_ble_eq_true rfl) ⟨Nat.le_of_ble_eq_true rfl, Nat.le_of_ble_eq_true rfl⟩ (va_recv hE.1 hI_1 (ci := 4) (q0 := 0) rfl rfl) hI_1 hP hD hS hA [] [] rfl rfl (by decide) (by decide) (by decide) dc_X8_next_8 ?_
    rintro v9 q_2 H locs rfl hP hD hS ⟨hI_2, hd_2⟩ hz hk9
    have hP : va_P G.1 kcl [] H := hP
    have hD : va_D A [] := hD
    have hI0 := hI0.fr hk9
    have hI_1 := hI_1.fr hk9
    have ho_2 := ky_or (sz := sz) ho_1 (by rw [← hsz]; exact hs_2) hd_2
    refine W.widen (k := 2) (n := 4) (Nat.le_refl _) (Nat.le_refl _) ?_
    have hs_3 := hS.1
    refine ky_cVh (As := []) (wr := []) F (hE.at hfr hS) hfr (mt_X8_turned l G (q_2) (fn_X8_up (fn_X8_turned v0))  H.size) kv_X8_88 ⟨⟨rfl, rfl⟩, by decide, by decide⟩ rfl hl.1 rfl (Nat.le_of_ble_eq_true rfl) ⟨Nat.le_of_ble_eq_true rfl, Nat.le_of_ble_eq_true rfl⟩ (va_recv hE.1 hI_2 (ci := 4) (q0 := 0) rfl rfl) hI_2 hP hD hS hA [] [] rfl rfl (by decide) (by decide) (by decide) dc_X8_next_11 ?_
    rintro v9 q_3 H locs rfl hP hD hS ⟨hI_3, hd_3⟩ hz hk9
    have hP : va_P G.1 kcl [] H := hP
    have hD : va_D A [] := hD
    have hI0 := hI0.fr hk9
    have hI_1 := hI_1.fr hk9
    have hI_2 := hI_2.fr hk9
    have ho_3 := ky_or (sz := sz) ho_2 (by rw [← hsz]; exact hs_3) hd_3
    refine W.widen (k := 3) (n := 6) (Nat.le_refl _) (Nat.le_refl _) ?_
    refine lv_goto (tgt := 21) hx hb dc_X8_next_14 (by decide) ?_
    have hP9 := hP.sub (ws' := []) [] rfl
    have hD9 := hD.sub (ws' := []) [] (by decide) rfl
    refine W.widen (k := 3) (n := 6) (Nat.le_of_ble_eq_true rfl) (Nat.le_of_ble_eq_true rfl) ?_
    exact W.aret (v := .ref q_3) hx hb hr (Or.inl ⟨_, rfl⟩) (Or.inr ⟨_, rfl⟩) (fun t ht hW => ⟨⟨_, q_3, rfl, rfl, by rw [ht]; exact hP9, hD9, by rw [hw, ht]; exact hI_3, ho_3⟩, hS.F ht⟩) hS.2.2 dc_X8_next_21
def fn_X8_step  (v0 : Int32 × Int64) : Int32 × Int64 :=
  if (fn_X8_isEndless v0) = (0 : Int32) then (((0 : Int32), fn_X9_nearest ((1 : Int64)) (((jimax ((1 : Int32)) (fn_X8_high v0)) - ((1075 : Int32))).toInt64))) else (((0 : Int32), (9218868437227405312 : Int64)))
def fk_X8_step  (v0 : Int32 × Int64) : Prop :=
  ((((fn_X8_isEndless v0) = (0 : Int32)) → ((fk_X9_nearest ((1 : Int64)) (((jimax ((1 : Int32)) (fn_X8_high v0)) - ((1075 : Int32))).toInt64)) ∧ (True))) ∧ (¬ ((fn_X8_isEndless v0) = (0 : Int32)) → (True))) ∧ True
set_option linter.constructorNameAsVariable false in
set_option maxHeartbeats 4000000 in
set_option maxRecDepth 100000 in
theorem mt_X8_step (l : Launch) (G : ky_G) (b0 : Nat) (v0 : Int32 × Int64)  (sz : Nat) (hk : fk_X8_step v0) : Met l my_X8_step (.code my_X8_step prog_11_method_19_code 1 (some (.object "ExactdoublesModel$Its")) :: ky_B) { frames := 2, cells := 1, slots := 2, locals := 35 } (ky_P G [.ref b0] [] sz (fun H => ky_It G b0 v0 H)) (ky_Q (S := Nat) G (va_A [] sz) (fun v u => v = some (.ref u)) (fun _ => []) (fun u H => ky_It G u (fn_X8_step v0) H ∧ (u = b0 ∨ sz ≤ u))) 1 2 (va_A [] sz) := by
  refine ky_start (by decide) (Nat.le_of_ble_eq_true rfl) (fun p e s m below meth c F hE A hAe hsz hA hfr hP hD hS hX ls hl => ?_)
  obtain ⟨hx, hb, hml, hown, hr, hlocks, hts⟩ := id F
  have hna : ¬ A b0 := by rw [hAe]; exact ky_nfresh hX.low
  have hI0 := hX
  have hl : lv_has ls 1 [(0, .ref b0)] := hl
  have hw : fn_X8_step v0 = _ := fn_X8_step.eq_1 v0
  have hk : (((fn_X8_isEndless v0) = (0 : Int32)) → ((fk_X9_nearest ((1 : Int64)) (((jimax ((1 : Int32)) (fn_X8_high v0)) - ((1075 : Int32))).toInt64)) ∧ (True))) ∧ (¬ ((fn_X8_isEndless v0) = (0 : Int32)) → (True)) := hk.1
  refine lv_aload_n hx hb dc_X8_step_0 rfl (lv_at hl 0 rfl) ?_
  refine ky_cV1 (As := []) F (hE.at hfr hS) (mt_X8_isEndless l G (b0) (v0) ) kv_X8_45 ⟨⟨rfl, rfl⟩, by decide, by decide⟩ rfl hl.1 rfl (Nat.le_of_ble_eq_true rfl) ⟨Nat.le_of_ble_eq_true rfl, Nat.le_of_ble_eq_true rfl⟩ (va_recv hE.1 hI0 (ci := 4) (q0 := 0) rfl rfl) hI0 dc_X8_step_1 ?_
  refine lv_if_eq (tgt := 21) hx hb dc_X8_step_4 (by decide) (fun c_0 => ?_) (fun c_0 => ?_)
  · have hw := hw.trans (if_pos c_0)
    have hk := hk.1 c_0
    refine va_new (ci := 4) (fs := [.int (0), .long (0)]) (C := RX8) (T := TX8) (N := 2) hx hb hts ki_X8 tyX8 tyX8_ok hown (hts _ kw_6_169) (hts _ kw_6_5) (hts _ kw_1_9) hE.1 hP hD hS hA rfl (fun j hj => by rcases (show j = 0 ∨ j = 1 by omega) with rfl | rfl <;> rfl) (Nat.le_of_ble_eq_true rfl) (Nat.le_of_ble_eq_true rfl) dc_X8_step_21 (fun q_1 H hP hD hS => ?_)
    have hP : va_P G.1 kcl [(q_1, .inr (4, [.int (0), .long (0)]))] H := hP
    have hD : va_D A [(q_1, .inr (4, [.int (0), .long (0)]))] := hD
    have hI0 := ky_ro hX hna hS
    refine W.widen (k := 1) (n := 2) (Nat.le_refl _) (Nat.le_refl _) ?_
    refine lv_dup hx hb dc_X8_step_24 rfl ?_
    refine lv_iconst (v := 0) hx hb dc_X8_step_25 (by decide) ?_
    refine lv_lconst (v := 1) hx hb dc_X8_step_26 (by decide) ?_
    refine lv_iconst (v := 1) hx hb dc_X8_step_27 (by decide) ?_
    refine lv_aload_n hx hb dc_X8_step_28 rfl (lv_at hl 0 rfl) ?_
    refine ky_cV1 (As := []) F (hE.at hfr hS) (mt_X8_high l G (b0) (v0) ) kv_X8_21 ⟨⟨rfl, rfl⟩, by decide, by decide⟩ rfl hl.1 rfl (Nat.le_of_ble_eq_true rfl) ⟨Nat.le_of_ble_eq_true rfl, Nat.le_of_ble_eq_true rfl⟩ (va_recv hE.1 hI0 (ci := 4) (q0 := 0) rfl rfl) hI0 dc_X8_step_29 ?_
    refine ky_imax F ⟨kw_6_226, kw_1_185, kw_1_16, kw_1_186⟩ hl.1 (Nat.le_of_ble_eq_true rfl) (Nat.le_of_ble_eq_true rfl) ⟨Nat.le_of_ble_eq_true rfl, Nat.le_of_ble_eq_true rfl⟩ dc_X8_step_32 ?_
    refine lv_sipush (v := 1075) hx hb dc_X8_step_35 (by decide) ?_
    refine lv_isub hx hb dc_X8_step_38 ?_
    refine lv_i2l (v := ((jimax ((1 : Int32)) (fn_X8_high v0)) - ((1075 : Int32))).toInt64) hx hb dc_X8_step_39 rfl ?_
    obtain ⟨hq_2, hk⟩ := hk
    refine ky_cN0 (As := [.long ((1 : Int64)), .long (((jimax ((1 : Int32)) (fn_X8_high v0)) - ((1075 : Int32))).toInt64)]) F hE (mt_X9_nearest l ((1 : Int64)) (((jimax ((1 : Int32)) (fn_X8_high v0)) - ((1075 : Int32))).toInt64) hq_2) kn_X8_84 ⟨⟨rfl, rfl⟩, by decide, by decide⟩ rfl hl.1 rfl (Nat.le_of_ble_eq_true rfl) ⟨Nat.le_of_ble_eq_true rfl, Nat.le_of_ble_eq_true rfl⟩ dc_X8_step_40 ?_
    refine ky_cIh (As := [.int ((0 : Int32)), .long (fn_X9_nearest ((1 : Int64)) (((jimax ((1 : Int32)) (fn_X8_high v0)) - ((1075 : Int32))).toInt64))]) (wr := []) F (hE.at hfr hS) hfr (mt_X8_init l G (q_1) ((0 : Int32)) (fn_X9_nearest ((1 : Int64)) (((jimax ((1 : Int32)) (fn_X8_high v0)) - ((1075 : Int32))).toInt64)) H.size ) kI_X8_33 ⟨⟨rfl, rfl⟩, by decide, by decide⟩ rfl hl.1 rfl (Nat.le_of_ble_eq_true rfl) ⟨Nat.le_of_ble_eq_true rfl, Nat.le_of_ble_eq_true rfl⟩ trivial hP hD hS hA [0] [] rfl rfl (by decide) (by decide) (by decide) dc_X8_step_43 ?_
    rintro v9 u9 H locs ⟨rfl, rfl⟩ hP hD hS - hz hk9
    have hP : va_P G.1 kcl [(q_1, .inr (4, [.int ((0 : Int32)), .long (fn_X9_nearest ((1 : Int64)) (((jimax ((1 : Int32)) (fn_X8_high v0)) - ((1075 : Int32))).toInt64))]))] H := hP
    have hD : va_D A [(q_1, .inr (4, [.int ((0 : Int32)), .long (fn_X9_nearest ((1 : Int64)) (((jimax ((1 : Int32)) (fn_X8_high v0)) - ((1075 : Int32))).toInt64))]))] := hD
    have hI0 := ky_ro hX hna hS
    refine W.widen (k := 1) (n := 2) (Nat.le_refl _) (Nat.le_refl _) ?_
    have hP9 := hP.sub (ws' := []) [] rfl
    have hD9 := hD.sub (ws' := []) [] (by decide) rfl
    have hI9 := hP.sub (ws' := [(q_1, .inr (4, [.int ((0 : Int32)), .long (fn_X9_nearest ((1 : Int64)) (((jimax ((1 : Int32)) (fn_X8_high v0)) - ((1075 : Int32))).toInt64))]))]) [0] rfl
    have ho9 : q_1 = b0 ∨ sz ≤ q_1 := Or.inr (by have z := hD.2 0 _ rfl; rw [hAe] at z; rw [← hsz]; exact ky_fresh z)
    refine W.widen (k := 1) (n := 2) (Nat.le_of_ble_eq_true rfl) (Nat.le_of_ble_eq_true rfl) ?_
    exact W.aret (v := .ref q_1) hx hb hr (Or.inl ⟨_, rfl⟩) (Or.inr ⟨_, rfl⟩) (fun t ht hW => ⟨⟨_, q_1, rfl, rfl, by rw [ht]; exact hP9, hD9, by rw [hw, ht]; exact ky_itp hI9, ho9⟩, hS.F ht⟩) hS.2.2 dc_X8_step_46
  · have hw := hw.trans (if_neg c_0)
    have hk := hk.2 c_0
    refine va_new (ci := 4) (fs := [.int (0), .long (0)]) (C := RX8) (T := TX8) (N := 2) hx hb hts ki_X8 tyX8 tyX8_ok hown (hts _ kw_6_169) (hts _ kw_6_5) (hts _ kw_1_9) hE.1 hP hD hS hA rfl (fun j hj => by rcases (show j = 0 ∨ j = 1 by omega) with rfl | rfl <;> rfl) (Nat.le_of_ble_eq_true rfl) (Nat.le_of_ble_eq_true rfl) dc_X8_step_7 (fun q_1 H hP hD hS => ?_)
    have hP : va_P G.1 kcl [(q_1, .inr (4, [.int (0), .long (0)]))] H := hP
    have hD : va_D A [(q_1, .inr (4, [.int (0), .long (0)]))] := hD
    have hI0 := ky_ro hX hna hS
    refine W.widen (k := 1) (n := 2) (Nat.le_refl _) (Nat.le_refl _) ?_
    refine lv_dup hx hb dc_X8_step_10 rfl ?_
    refine lv_iconst (v := 0) hx hb dc_X8_step_11 (by decide) ?_
    refine lv_ldc2 (v := 9218868437227405312) hx hb hown (hts _ kw_6_72) dc_X8_step_12 ?_
    refine ky_cIh (As := [.int ((0 : Int32)), .long ((9218868437227405312 : Int64))]) (wr := []) F (hE.at hfr hS) hfr (mt_X8_init l G (q_1) ((0 : Int32)) ((9218868437227405312 : Int64)) H.size ) kI_X8_33 ⟨⟨rfl, rfl⟩, by decide, by decide⟩ rfl hl.1 rfl (Nat.le_of_ble_eq_true rfl) ⟨Nat.le_of_ble_eq_true rfl, Nat.le_of_ble_eq_true rfl⟩ trivial hP hD hS hA [0] [] rfl rfl (by decide) (by decide) (by decide) dc_X8_step_15 ?_
    rintro v9 u9 H locs ⟨rfl, rfl⟩ hP hD hS - hz hk9
    have hP : va_P G.1 kcl [(q_1, .inr (4, [.int ((0 : Int32)), .long ((9218868437227405312 : Int64))]))] H := hP
    have hD : va_D A [(q_1, .inr (4, [.int ((0 : Int32)), .long ((9218868437227405312 : Int64))]))] := hD
    have hI0 := ky_ro hX hna hS
    refine W.widen (k := 1) (n := 2) (Nat.le_refl _) (Nat.le_refl _) ?_
    refine lv_goto (tgt := 46) hx hb dc_X8_step_18 (by decide) ?_
    have hP9 := hP.sub (ws' := []) [] rfl
    have hD9 := hD.sub (ws' := []) [] (by decide) rfl
    have hI9 := hP.sub (ws' := [(q_1, .inr (4, [.int ((0 : Int32)), .long ((9218868437227405312 : Int64))]))]) [0] rfl
    have ho9 : q_1 = b0 ∨ sz ≤ q_1 := Or.inr (by have z := hD.2 0 _ rfl; rw [hAe] at z; rw [← hsz]; exact ky_fresh z)
    refine W.widen (k := 1) (n := 2) (Nat.le_of_ble_eq_true rfl) (Nat.le_of_ble_eq_true rfl) ?_
    exact W.aret (v := .ref q_1) hx hb hr (Or.inl ⟨_, rfl⟩) (Or.inr ⟨_, rfl⟩) (fun t ht hW => ⟨⟨_, q_1, rfl, rfl, by rw [ht]; exact hP9, hD9, by rw [hw, ht]; exact ky_itp hI9, ho9⟩, hS.F ht⟩) hS.2.2 dc_X8_step_46
def fn_X8_times (a1 : Int64) (v0 : Int32 × Int64) : Int32 × Int64 :=
  if (lg_cmp (v0.2) ((0 : Int64))) = (0 : Int32) then (v0) else (if (fn_X8_isEndless v0) = (0 : Int32) then ((v0.1, fn_X9_nearest (fn_X8_many v0) (((fn_X8_power v0).toInt64) + (a1)))) else (v0))
def fk_X8_times (a1 : Int64) (v0 : Int32 × Int64) : Prop :=
  ((((lg_cmp (v0.2) ((0 : Int64))) = (0 : Int32)) → (True)) ∧ (¬ ((lg_cmp (v0.2) ((0 : Int64))) = (0 : Int32)) → ((((fn_X8_isEndless v0) = (0 : Int32)) → ((fk_X9_nearest (fn_X8_many v0) (((fn_X8_power v0).toInt64) + (a1))) ∧ (True))) ∧ (¬ ((fn_X8_isEndless v0) = (0 : Int32)) → (True))))) ∧ True
set_option linter.constructorNameAsVariable false in
set_option maxHeartbeats 4000000 in
set_option maxRecDepth 100000 in
theorem mt_X8_times (l : Launch) (G : ky_G) (b0 : Nat) (v0 : Int32 × Int64) (a1 : Int64) (sz : Nat) (hk : fk_X8_times a1 v0) : Met l my_X8_times (.code my_X8_times prog_11_method_21_code 3 (some (.object "ExactdoublesModel$Its")) :: ky_B) { frames := 2, cells := 1, slots := 2, locals := 40 } (ky_P G [.ref b0, .long (a1)] [] sz (fun H => ky_It G b0 v0 H)) (ky_Q (S := Nat) G (va_A [] sz) (fun v u => v = some (.ref u)) (fun _ => []) (fun u H => ky_It G u (fn_X8_times a1 v0) H ∧ (u = b0 ∨ sz ≤ u))) 1 2 (va_A [] sz) := by
  refine ky_start (by decide) (Nat.le_of_ble_eq_true rfl) (fun p e s m below meth c F hE A hAe hsz hA hfr hP hD hS hX ls hl => ?_)
  obtain ⟨hx, hb, hml, hown, hr, hlocks, hts⟩ := id F
  have hna : ¬ A b0 := by rw [hAe]; exact ky_nfresh hX.low
  have hI0 := hX
  have hl : lv_has ls 3 [(0, .ref b0), (1, .long (a1))] := hl
  have hw : fn_X8_times a1 v0 = _ := fn_X8_times.eq_1 a1 v0
  have hk : (((lg_cmp (v0.2) ((0 : Int64))) = (0 : Int32)) → (True)) ∧ (¬ ((lg_cmp (v0.2) ((0 : Int64))) = (0 : Int32)) → ((((fn_X8_isEndless v0) = (0 : Int32)) → ((fk_X9_nearest (fn_X8_many v0) (((fn_X8_power v0).toInt64) + (a1))) ∧ (True))) ∧ (¬ ((fn_X8_isEndless v0) = (0 : Int32)) → (True)))) := hk.1
  refine lv_aload_n hx hb dc_X8_times_0 rfl (lv_at hl 0 rfl) ?_
  refine va_get (D := G.1) (ci := 4) (v := .long (v0.2)) (C := RX8) (T := TX8) (N := 2) hx hb hts ki_X8 hown hE.1 hI0 0 rfl rfl 1 (by decide) (hts _ kw_6_12) (fun _ h9 => h9) rfl dc_X8_times_1 ?_
  refine lv_lconst (v := 0) hx hb dc_X8_times_4 (by decide) ?_
  refine W.lcmp hx hb dc_X8_times_5 ?_
  refine lv_if_eq (tgt := 16) hx hb dc_X8_times_6 (by decide) (fun c_0 => ?_) (fun c_0 => ?_)
  · have hw := hw.trans (if_pos c_0)
    have hk := hk.1 c_0
    refine lv_aload_n hx hb dc_X8_times_16 rfl (lv_at hl 0 rfl) ?_
    refine lv_goto (tgt := 45) hx hb dc_X8_times_17 (by decide) ?_
    have hP9 := hP.sub (ws' := []) [] rfl
    have hD9 := hD.sub (ws' := []) [] (by decide) rfl
    refine W.widen (k := 1) (n := 2) (Nat.le_of_ble_eq_true rfl) (Nat.le_of_ble_eq_true rfl) ?_
    exact W.aret (v := .ref b0) hx hb hr (Or.inl ⟨_, rfl⟩) (Or.inr ⟨_, rfl⟩) (fun t ht hW => ⟨⟨_, b0, rfl, rfl, by rw [ht]; exact hP9, hD9, by rw [hw, ht]; exact hI0, (Or.inl rfl)⟩, hS.F ht⟩) hS.2.2 dc_X8_times_45
  · have hw := hw.trans (if_neg c_0)
    have hk := hk.2 c_0
    refine lv_aload_n hx hb dc_X8_times_9 rfl (lv_at hl 0 rfl) ?_
    refine ky_cV1 (As := []) F (hE.at hfr hS) (mt_X8_isEndless l G (b0) (v0) ) kv_X8_45 ⟨⟨rfl, rfl⟩, by decide, by decide⟩ rfl hl.1 rfl (Nat.le_of_ble_eq_true rfl) ⟨Nat.le_of_ble_eq_true rfl, Nat.le_of_ble_eq_true rfl⟩ (va_recv hE.1 hI0 (ci := 4) (q0 := 0) rfl rfl) hI0 dc_X8_times_10 ?_
    refine lv_if_eq (tgt := 20) hx hb dc_X8_times_13 (by decide) (fun c_1 => ?_) (fun c_1 => ?_)
    · have hw := hw.trans (if_pos c_1)
      have hk := hk.1 c_1
      refine va_new (ci := 4) (fs := [.int (0), .long (0)]) (C := RX8) (T := TX8) (N := 2) hx hb hts ki_X8 tyX8 tyX8_ok hown (hts _ kw_6_169) (hts _ kw_6_5) (hts _ kw_1_9) hE.1 hP hD hS hA rfl (fun j hj => by rcases (show j = 0 ∨ j = 1 by omega) with rfl | rfl <;> rfl) (Nat.le_of_ble_eq_true rfl) (Nat.le_of_ble_eq_true rfl) dc_X8_times_20 (fun q_2 H hP hD hS => ?_)
      have hP : va_P G.1 kcl [(q_2, .inr (4, [.int (0), .long (0)]))] H := hP
      have hD : va_D A [(q_2, .inr (4, [.int (0), .long (0)]))] := hD
      have hI0 := ky_ro hX hna hS
      refine W.widen (k := 1) (n := 2) (Nat.le_refl _) (Nat.le_refl _) ?_
      refine lv_dup hx hb dc_X8_times_23 rfl ?_
      refine lv_aload_n hx hb dc_X8_times_24 rfl (lv_at hl 0 rfl) ?_
      refine va_get (D := G.1) (ci := 4) (v := .int (v0.1)) (C := RX8) (T := TX8) (N := 2) hx hb hts ki_X8 hown hE.1 hI0 0 rfl rfl 0 (by decide) (hts _ kw_6_10) (fun _ h9 => h9) rfl dc_X8_times_25 ?_
      refine lv_aload_n hx hb dc_X8_times_28 rfl (lv_at hl 0 rfl) ?_
      refine ky_cV1 (As := []) F (hE.at hfr hS) (mt_X8_many l G (b0) (v0) ) kv_X8_39 ⟨⟨rfl, rfl⟩, by decide, by decide⟩ rfl hl.1 rfl (Nat.le_of_ble_eq_true rfl) ⟨Nat.le_of_ble_eq_true rfl, Nat.le_of_ble_eq_true rfl⟩ (va_recv hE.1 hI0 (ci := 4) (q0 := 0) rfl rfl) hI0 dc_X8_times_29 ?_
      refine lv_aload_n hx hb dc_X8_times_32 rfl (lv_at hl 0 rfl) ?_
      refine ky_cV1 (As := []) F (hE.at hfr hS) (mt_X8_power l G (b0) (v0) ) kv_X8_36 ⟨⟨rfl, rfl⟩, by decide, by decide⟩ rfl hl.1 rfl (Nat.le_of_ble_eq_true rfl) ⟨Nat.le_of_ble_eq_true rfl, Nat.le_of_ble_eq_true rfl⟩ (va_recv hE.1 hI0 (ci := 4) (q0 := 0) rfl rfl) hI0 dc_X8_times_33 ?_
      refine lv_i2l (v := (fn_X8_power v0).toInt64) hx hb dc_X8_times_36 rfl ?_
      refine lv_lload_n hx hb dc_X8_times_37 rfl (lv_at hl 1 rfl) ?_
      refine lv_ladd hx hb dc_X8_times_38 ?_
      obtain ⟨hq_3, hk⟩ := hk
      refine ky_cN0 (As := [.long (fn_X8_many v0), .long (((fn_X8_power v0).toInt64) + (a1))]) F hE (mt_X9_nearest l (fn_X8_many v0) (((fn_X8_power v0).toInt64) + (a1)) hq_3) kn_X8_84 ⟨⟨rfl, rfl⟩, by decide, by decide⟩ rfl hl.1 rfl (Nat.le_of_ble_eq_true rfl) ⟨Nat.le_of_ble_eq_true rfl, Nat.le_of_ble_eq_true rfl⟩ dc_X8_times_39 ?_
      refine ky_cIh (As := [.int (v0.1), .long (fn_X9_nearest (fn_X8_many v0) (((fn_X8_power v0).toInt64) + (a1)))]) (wr := []) F (hE.at hfr hS) hfr (mt_X8_init l G (q_2) (v0.1) (fn_X9_nearest (fn_X8_many v0) (((fn_X8_power v0).toInt64) + (a1))) H.size ) kI_X8_33 ⟨⟨rfl, rfl⟩, by decide, by decide⟩ rfl hl.1 rfl (Nat.le_of_ble_eq_true rfl) ⟨Nat.le_of_ble_eq_true rfl, Nat.le_of_ble_eq_true rfl⟩ trivial hP hD hS hA [0] [] rfl rfl (by decide) (by decide) (by decide) dc_X8_times_42 ?_
      rintro v9 u9 H locs ⟨rfl, rfl⟩ hP hD hS - hz hk9
      have hP : va_P G.1 kcl [(q_2, .inr (4, [.int (v0.1), .long (fn_X9_nearest (fn_X8_many v0) (((fn_X8_power v0).toInt64) + (a1)))]))] H := hP
      have hD : va_D A [(q_2, .inr (4, [.int (v0.1), .long (fn_X9_nearest (fn_X8_many v0) (((fn_X8_power v0).toInt64) + (a1)))]))] := hD
      have hI0 := ky_ro hX hna hS
      refine W.widen (k := 1) (n := 2) (Nat.le_refl _) (Nat.le_refl _) ?_
      have hP9 := hP.sub (ws' := []) [] rfl
      have hD9 := hD.sub (ws' := []) [] (by decide) rfl
      have hI9 := hP.sub (ws' := [(q_2, .inr (4, [.int (v0.1), .long (fn_X9_nearest (fn_X8_many v0) (((fn_X8_power v0).toInt64) + (a1)))]))]) [0] rfl
      have ho9 : q_2 = b0 ∨ sz ≤ q_2 := Or.inr (by have z := hD.2 0 _ rfl; rw [hAe] at z; rw [← hsz]; exact ky_fresh z)
      refine W.widen (k := 1) (n := 2) (Nat.le_of_ble_eq_true rfl) (Nat.le_of_ble_eq_true rfl) ?_
      exact W.aret (v := .ref q_2) hx hb hr (Or.inl ⟨_, rfl⟩) (Or.inr ⟨_, rfl⟩) (fun t ht hW => ⟨⟨_, q_2, rfl, rfl, by rw [ht]; exact hP9, hD9, by rw [hw, ht]; exact ky_itp hI9, ho9⟩, hS.F ht⟩) hS.2.2 dc_X8_times_45
    · have hw := hw.trans (if_neg c_1)
      have hk := hk.2 c_1
      refine lv_aload_n hx hb dc_X8_times_16 rfl (lv_at hl 0 rfl) ?_
      refine lv_goto (tgt := 45) hx hb dc_X8_times_17 (by decide) ?_
      have hP9 := hP.sub (ws' := []) [] rfl
      have hD9 := hD.sub (ws' := []) [] (by decide) rfl
      refine W.widen (k := 1) (n := 2) (Nat.le_of_ble_eq_true rfl) (Nat.le_of_ble_eq_true rfl) ?_
      exact W.aret (v := .ref b0) hx hb hr (Or.inl ⟨_, rfl⟩) (Or.inr ⟨_, rfl⟩) (fun t ht hW => ⟨⟨_, b0, rfl, rfl, by rw [ht]; exact hP9, hD9, by rw [hw, ht]; exact hI0, (Or.inl rfl)⟩, hS.F ht⟩) hS.2.2 dc_X8_times_45
def fn_X8_sign  (v0 : Int32 × Int64) : Int32 × Int64 :=
  if (lg_cmp (v0.2) ((0 : Int64))) = (0 : Int32) then (v0) else ((v0.1, fn_X9_nearest ((1 : Int64)) ((0 : Int64))))
def fk_X8_sign  (v0 : Int32 × Int64) : Prop :=
  ((((lg_cmp (v0.2) ((0 : Int64))) = (0 : Int32)) → (True)) ∧ (¬ ((lg_cmp (v0.2) ((0 : Int64))) = (0 : Int32)) → ((fk_X9_nearest ((1 : Int64)) ((0 : Int64))) ∧ (True)))) ∧ True
set_option linter.constructorNameAsVariable false in
set_option maxHeartbeats 4000000 in
set_option maxRecDepth 100000 in
theorem mt_X8_sign (l : Launch) (G : ky_G) (b0 : Nat) (v0 : Int32 × Int64)  (sz : Nat) (hk : fk_X8_sign v0) : Met l my_X8_sign (.code my_X8_sign prog_11_method_22_code 1 (some (.object "ExactdoublesModel$Its")) :: ky_B) { frames := 2, cells := 1, slots := 2, locals := 35 } (ky_P G [.ref b0] [] sz (fun H => ky_It G b0 v0 H)) (ky_Q (S := Nat) G (va_A [] sz) (fun v u => v = some (.ref u)) (fun _ => []) (fun u H => ky_It G u (fn_X8_sign v0) H ∧ (u = b0 ∨ sz ≤ u))) 1 2 (va_A [] sz) := by
  refine ky_start (by decide) (Nat.le_of_ble_eq_true rfl) (fun p e s m below meth c F hE A hAe hsz hA hfr hP hD hS hX ls hl => ?_)
  obtain ⟨hx, hb, hml, hown, hr, hlocks, hts⟩ := id F
  have hna : ¬ A b0 := by rw [hAe]; exact ky_nfresh hX.low
  have hI0 := hX
  have hl : lv_has ls 1 [(0, .ref b0)] := hl
  have hw : fn_X8_sign v0 = _ := fn_X8_sign.eq_1 v0
  have hk : (((lg_cmp (v0.2) ((0 : Int64))) = (0 : Int32)) → (True)) ∧ (¬ ((lg_cmp (v0.2) ((0 : Int64))) = (0 : Int32)) → ((fk_X9_nearest ((1 : Int64)) ((0 : Int64))) ∧ (True))) := hk.1
  refine lv_aload_n hx hb dc_X8_sign_0 rfl (lv_at hl 0 rfl) ?_
  refine va_get (D := G.1) (ci := 4) (v := .long (v0.2)) (C := RX8) (T := TX8) (N := 2) hx hb hts ki_X8 hown hE.1 hI0 0 rfl rfl 1 (by decide) (hts _ kw_6_12) (fun _ h9 => h9) rfl dc_X8_sign_1 ?_
  refine lv_lconst (v := 0) hx hb dc_X8_sign_4 (by decide) ?_
  refine W.lcmp hx hb dc_X8_sign_5 ?_
  refine lv_if_ne (tgt := 13) hx hb dc_X8_sign_6 (by decide) (fun c_0 => ?_) (fun c_0 => ?_)
  · have hw := hw.trans (if_neg c_0)
    have hk := hk.2 c_0
    refine va_new (ci := 4) (fs := [.int (0), .long (0)]) (C := RX8) (T := TX8) (N := 2) hx hb hts ki_X8 tyX8 tyX8_ok hown (hts _ kw_6_169) (hts _ kw_6_5) (hts _ kw_1_9) hE.1 hP hD hS hA rfl (fun j hj => by rcases (show j = 0 ∨ j = 1 by omega) with rfl | rfl <;> rfl) (Nat.le_of_ble_eq_true rfl) (Nat.le_of_ble_eq_true rfl) dc_X8_sign_13 (fun q_1 H hP hD hS => ?_)
    have hP : va_P G.1 kcl [(q_1, .inr (4, [.int (0), .long (0)]))] H := hP
    have hD : va_D A [(q_1, .inr (4, [.int (0), .long (0)]))] := hD
    have hI0 := ky_ro hX hna hS
    refine W.widen (k := 1) (n := 2) (Nat.le_refl _) (Nat.le_refl _) ?_
    refine lv_dup hx hb dc_X8_sign_16 rfl ?_
    refine lv_aload_n hx hb dc_X8_sign_17 rfl (lv_at hl 0 rfl) ?_
    refine va_get (D := G.1) (ci := 4) (v := .int (v0.1)) (C := RX8) (T := TX8) (N := 2) hx hb hts ki_X8 hown hE.1 hI0 0 rfl rfl 0 (by decide) (hts _ kw_6_10) (fun _ h9 => h9) rfl dc_X8_sign_18 ?_
    refine lv_lconst (v := 1) hx hb dc_X8_sign_21 (by decide) ?_
    refine lv_lconst (v := 0) hx hb dc_X8_sign_22 (by decide) ?_
    obtain ⟨hq_2, hk⟩ := hk
    refine ky_cN0 (As := [.long ((1 : Int64)), .long ((0 : Int64))]) F hE (mt_X9_nearest l ((1 : Int64)) ((0 : Int64)) hq_2) kn_X8_84 ⟨⟨rfl, rfl⟩, by decide, by decide⟩ rfl hl.1 rfl (Nat.le_of_ble_eq_true rfl) ⟨Nat.le_of_ble_eq_true rfl, Nat.le_of_ble_eq_true rfl⟩ dc_X8_sign_23 ?_
    refine ky_cIh (As := [.int (v0.1), .long (fn_X9_nearest ((1 : Int64)) ((0 : Int64)))]) (wr := []) F (hE.at hfr hS) hfr (mt_X8_init l G (q_1) (v0.1) (fn_X9_nearest ((1 : Int64)) ((0 : Int64))) H.size ) kI_X8_33 ⟨⟨rfl, rfl⟩, by decide, by decide⟩ rfl hl.1 rfl (Nat.le_of_ble_eq_true rfl) ⟨Nat.le_of_ble_eq_true rfl, Nat.le_of_ble_eq_true rfl⟩ trivial hP hD hS hA [0] [] rfl rfl (by decide) (by decide) (by decide) dc_X8_sign_26 ?_
    rintro v9 u9 H locs ⟨rfl, rfl⟩ hP hD hS - hz hk9
    have hP : va_P G.1 kcl [(q_1, .inr (4, [.int (v0.1), .long (fn_X9_nearest ((1 : Int64)) ((0 : Int64)))]))] H := hP
    have hD : va_D A [(q_1, .inr (4, [.int (v0.1), .long (fn_X9_nearest ((1 : Int64)) ((0 : Int64)))]))] := hD
    have hI0 := ky_ro hX hna hS
    refine W.widen (k := 1) (n := 2) (Nat.le_refl _) (Nat.le_refl _) ?_
    have hP9 := hP.sub (ws' := []) [] rfl
    have hD9 := hD.sub (ws' := []) [] (by decide) rfl
    have hI9 := hP.sub (ws' := [(q_1, .inr (4, [.int (v0.1), .long (fn_X9_nearest ((1 : Int64)) ((0 : Int64)))]))]) [0] rfl
    have ho9 : q_1 = b0 ∨ sz ≤ q_1 := Or.inr (by have z := hD.2 0 _ rfl; rw [hAe] at z; rw [← hsz]; exact ky_fresh z)
    refine W.widen (k := 1) (n := 2) (Nat.le_of_ble_eq_true rfl) (Nat.le_of_ble_eq_true rfl) ?_
    exact W.aret (v := .ref q_1) hx hb hr (Or.inl ⟨_, rfl⟩) (Or.inr ⟨_, rfl⟩) (fun t ht hW => ⟨⟨_, q_1, rfl, rfl, by rw [ht]; exact hP9, hD9, by rw [hw, ht]; exact ky_itp hI9, ho9⟩, hS.F ht⟩) hS.2.2 dc_X8_sign_29
  · have hw := hw.trans (if_pos c_0)
    have hk := hk.1 c_0
    refine lv_aload_n hx hb dc_X8_sign_9 rfl (lv_at hl 0 rfl) ?_
    refine lv_goto (tgt := 29) hx hb dc_X8_sign_10 (by decide) ?_
    have hP9 := hP.sub (ws' := []) [] rfl
    have hD9 := hD.sub (ws' := []) [] (by decide) rfl
    refine W.widen (k := 1) (n := 2) (Nat.le_of_ble_eq_true rfl) (Nat.le_of_ble_eq_true rfl) ?_
    exact W.aret (v := .ref b0) hx hb hr (Or.inl ⟨_, rfl⟩) (Or.inr ⟨_, rfl⟩) (fun t ht hW => ⟨⟨_, b0, rfl, rfl, by rw [ht]; exact hP9, hD9, by rw [hw, ht]; exact hI0, (Or.inl rfl)⟩, hS.F ht⟩) hS.2.2 dc_X8_sign_29
def fn_X8_taken (a1 : Int32) (v0 : Int32 × Int64) : Int32 × Int64 :=
  if (fn_X8_isEndless v0) = (0 : Int32) then (if (fn_X8_power v0) < (0 : Int32) then (if (a1) = ((2 : Int32)) then (if (fn_X8_behind v0) = ((3 : Int32)) then ((v0.1, fn_X9_nearest ((fn_X8_whole v0) + (((1 : Int32)).toInt64)) ((0 : Int64)))) else (if (fn_X8_behind v0) = ((2 : Int32)) then (if (lg_cmp ((fn_X8_whole v0) - (fn_X8_whole v0) / ((2 : Int64)) * ((2 : Int64))) ((1 : Int64))) = (0 : Int32) then ((v0.1, fn_X9_nearest ((fn_X8_whole v0) + (((1 : Int32)).toInt64)) ((0 : Int64)))) else ((v0.1, fn_X9_nearest ((fn_X8_whole v0) + (((0 : Int32)).toInt64)) ((0 : Int64))))) else ((v0.1, fn_X9_nearest ((fn_X8_whole v0) + (((0 : Int32)).toInt64)) ((0 : Int64)))))) else (if (fn_X8_behind v0) ≤ (0 : Int32) then ((v0.1, fn_X9_nearest ((fn_X8_whole v0) + (((0 : Int32)).toInt64)) ((0 : Int64)))) else (if (a1) = ((1 : Int32)) then (if (v0.1) = (0 : Int32) then ((v0.1, fn_X9_nearest ((fn_X8_whole v0) + (((1 : Int32)).toInt64)) ((0 : Int64)))) else ((v0.1, fn_X9_nearest ((fn_X8_whole v0) + (((0 : Int32)).toInt64)) ((0 : Int64))))) else (if (v0.1) = (0 : Int32) then ((v0.1, fn_X9_nearest ((fn_X8_whole v0) + (((0 : Int32)).toInt64)) ((0 : Int64)))) else ((v0.1, fn_X9_nearest ((fn_X8_whole v0) + (((1 : Int32)).toInt64)) ((0 : Int64)))))))) else (v0)) else (v0)
def fk_X8_taken (a1 : Int32) (v0 : Int32 × Int64) : Prop :=
  ((((fn_X8_isEndless v0) = (0 : Int32)) → ((((fn_X8_power v0) < (0 : Int32)) → ((((a1) = ((2 : Int32))) → ((((fn_X8_behind v0) = ((3 : Int32))) → ((fk_X9_nearest ((fn_X8_whole v0) + (((1 : Int32)).toInt64)) ((0 : Int64))) ∧ (True))) ∧ (¬ ((fn_X8_behind v0) = ((3 : Int32))) → ((((fn_X8_behind v0) = ((2 : Int32))) → ((((lg_cmp ((fn_X8_whole v0) - (fn_X8_whole v0) / ((2 : Int64)) * ((2 : Int64))) ((1 : Int64))) = (0 : Int32)) → ((fk_X9_nearest ((fn_X8_whole v0) + (((1 : Int32)).toInt64)) ((0 : Int64))) ∧ (True))) ∧ (¬ ((lg_cmp ((fn_X8_whole v0) - (fn_X8_whole v0) / ((2 : Int64)) * ((2 : Int64))) ((1 : Int64))) = (0 : Int32)) → ((fk_X9_nearest ((fn_X8_whole v0) + (((0 : Int32)).toInt64)) ((0 : Int64))) ∧ (True))))) ∧ (¬ ((fn_X8_behind v0) = ((2 : Int32))) → ((fk_X9_nearest ((fn_X8_whole v0) + (((0 : Int32)).toInt64)) ((0 : Int64))) ∧ (True))))))) ∧ (¬ ((a1) = ((2 : Int32))) → ((((fn_X8_behind v0) ≤ (0 : Int32)) → ((fk_X9_nearest ((fn_X8_whole v0) + (((0 : Int32)).toInt64)) ((0 : Int64))) ∧ (True))) ∧ (¬ ((fn_X8_behind v0) ≤ (0 : Int32)) → ((((a1) = ((1 : Int32))) → ((((v0.1) = (0 : Int32)) → ((fk_X9_nearest ((fn_X8_whole v0) + (((1 : Int32)).toInt64)) ((0 : Int64))) ∧ (True))) ∧ (¬ ((v0.1) = (0 : Int32)) → ((fk_X9_nearest ((fn_X8_whole v0) + (((0 : Int32)).toInt64)) ((0 : Int64))) ∧ (True))))) ∧ (¬ ((a1) = ((1 : Int32))) → ((((v0.1) = (0 : Int32)) → ((fk_X9_nearest ((fn_X8_whole v0) + (((0 : Int32)).toInt64)) ((0 : Int64))) ∧ (True))) ∧ (¬ ((v0.1) = (0 : Int32)) → ((fk_X9_nearest ((fn_X8_whole v0) + (((1 : Int32)).toInt64)) ((0 : Int64))) ∧ (True))))))))))) ∧ (¬ ((fn_X8_power v0) < (0 : Int32)) → (True)))) ∧ (¬ ((fn_X8_isEndless v0) = (0 : Int32)) → (True))) ∧ True
set_option linter.constructorNameAsVariable false in
set_option maxHeartbeats 4000000 in
set_option maxRecDepth 100000 in
theorem mt_X8_taken (l : Launch) (G : ky_G) (b0 : Nat) (v0 : Int32 × Int64) (a1 : Int32) (sz : Nat) (hk : fk_X8_taken a1 v0) : Met l my_X8_taken (.code my_X8_taken prog_11_method_16_code 4 (some (.object "ExactdoublesModel$Its")) :: ky_B) { frames := 4, cells := 1, slots := 2, locals := 85 } (ky_P G [.ref b0, .int (a1)] [] sz (fun H => ky_It G b0 v0 H)) (ky_Q (S := Nat) G (va_A [] sz) (fun v u => v = some (.ref u)) (fun _ => []) (fun u H => ky_It G u (fn_X8_taken a1 v0) H ∧ (u = b0 ∨ sz ≤ u))) 1 2 (va_A [] sz) := by
  refine ky_start (by decide) (Nat.le_of_ble_eq_true rfl) (fun p e s m below meth c F hE A hAe hsz hA hfr hP hD hS hX ls hl => ?_)
  obtain ⟨hx, hb, hml, hown, hr, hlocks, hts⟩ := id F
  have hna : ¬ A b0 := by rw [hAe]; exact ky_nfresh hX.low
  have hI0 := hX
  have hl : lv_has ls 4 [(0, .ref b0), (1, .int (a1))] := hl
  have hw : fn_X8_taken a1 v0 = _ := fn_X8_taken.eq_1 a1 v0
  have hk : (((fn_X8_isEndless v0) = (0 : Int32)) → ((((fn_X8_power v0) < (0 : Int32)) → ((((a1) = ((2 : Int32))) → ((((fn_X8_behind v0) = ((3 : Int32))) → ((fk_X9_nearest ((fn_X8_whole v0) + (((1 : Int32)).toInt64)) ((0 : Int64))) ∧ (True))) ∧ (¬ ((fn_X8_behind v0) = ((3 : Int32))) → ((((fn_X8_behind v0) = ((2 : Int32))) → ((((lg_cmp ((fn_X8_whole v0) - (fn_X8_whole v0) / ((2 : Int64)) * ((2 : Int64))) ((1 : Int64))) = (0 : Int32)) → ((fk_X9_nearest ((fn_X8_whole v0) + (((1 : Int32)).toInt64)) ((0 : Int64))) ∧ (True))) ∧ (¬ ((lg_cmp ((fn_X8_whole v0) - (fn_X8_whole v0) / ((2 : Int64)) * ((2 : Int64))) ((1 : Int64))) = (0 : Int32)) → ((fk_X9_nearest ((fn_X8_whole v0) + (((0 : Int32)).toInt64)) ((0 : Int64))) ∧ (True))))) ∧ (¬ ((fn_X8_behind v0) = ((2 : Int32))) → ((fk_X9_nearest ((fn_X8_whole v0) + (((0 : Int32)).toInt64)) ((0 : Int64))) ∧ (True))))))) ∧ (¬ ((a1) = ((2 : Int32))) → ((((fn_X8_behind v0) ≤ (0 : Int32)) → ((fk_X9_nearest ((fn_X8_whole v0) + (((0 : Int32)).toInt64)) ((0 : Int64))) ∧ (True))) ∧ (¬ ((fn_X8_behind v0) ≤ (0 : Int32)) → ((((a1) = ((1 : Int32))) → ((((v0.1) = (0 : Int32)) → ((fk_X9_nearest ((fn_X8_whole v0) + (((1 : Int32)).toInt64)) ((0 : Int64))) ∧ (True))) ∧ (¬ ((v0.1) = (0 : Int32)) → ((fk_X9_nearest ((fn_X8_whole v0) + (((0 : Int32)).toInt64)) ((0 : Int64))) ∧ (True))))) ∧ (¬ ((a1) = ((1 : Int32))) → ((((v0.1) = (0 : Int32)) → ((fk_X9_nearest ((fn_X8_whole v0) + (((0 : Int32)).toInt64)) ((0 : Int64))) ∧ (True))) ∧ (¬ ((v0.1) = (0 : Int32)) → ((fk_X9_nearest ((fn_X8_whole v0) + (((1 : Int32)).toInt64)) ((0 : Int64))) ∧ (True))))))))))) ∧ (¬ ((fn_X8_power v0) < (0 : Int32)) → (True)))) ∧ (¬ ((fn_X8_isEndless v0) = (0 : Int32)) → (True)) := hk.1
  refine lv_aload_n hx hb dc_X8_taken_0 rfl (lv_at hl 0 rfl) ?_
  refine ky_cV1 (As := []) F (hE.at hfr hS) (mt_X8_isEndless l G (b0) (v0) ) kv_X8_45 ⟨⟨rfl, rfl⟩, by decide, by decide⟩ rfl hl.1 rfl (Nat.le_of_ble_eq_true rfl) ⟨Nat.le_of_ble_eq_true rfl, Nat.le_of_ble_eq_true rfl⟩ (va_recv hE.1 hI0 (ci := 4) (q0 := 0) rfl rfl) hI0 dc_X8_taken_1 ?_
  refine lv_if_ne (tgt := 14) hx hb dc_X8_taken_4 (by decide) (fun c_0 => ?_) (fun c_0 => ?_)
  · have hw := hw.trans (if_neg c_0)
    have hk := hk.2 c_0
    refine lv_aload_n hx hb dc_X8_taken_14 rfl (lv_at hl 0 rfl) ?_
    have hP9 := hP.sub (ws' := []) [] rfl
    have hD9 := hD.sub (ws' := []) [] (by decide) rfl
    refine W.widen (k := 1) (n := 2) (Nat.le_of_ble_eq_true rfl) (Nat.le_of_ble_eq_true rfl) ?_
    exact W.aret (v := .ref b0) hx hb hr (Or.inl ⟨_, rfl⟩) (Or.inr ⟨_, rfl⟩) (fun t ht hW => ⟨⟨_, b0, rfl, rfl, by rw [ht]; exact hP9, hD9, by rw [hw, ht]; exact hI0, (Or.inl rfl)⟩, hS.F ht⟩) hS.2.2 dc_X8_taken_15
  · have hw := hw.trans (if_pos c_0)
    have hk := hk.1 c_0
    refine lv_aload_n hx hb dc_X8_taken_7 rfl (lv_at hl 0 rfl) ?_
    refine ky_cV1 (As := []) F (hE.at hfr hS) (mt_X8_power l G (b0) (v0) ) kv_X8_36 ⟨⟨rfl, rfl⟩, by decide, by decide⟩ rfl hl.1 rfl (Nat.le_of_ble_eq_true rfl) ⟨Nat.le_of_ble_eq_true rfl, Nat.le_of_ble_eq_true rfl⟩ (va_recv hE.1 hI0 (ci := 4) (q0 := 0) rfl rfl) hI0 dc_X8_taken_8 ?_
    refine lv_if_lt (tgt := 16) hx hb dc_X8_taken_11 (by decide) (fun c_1 => ?_) (fun c_1 => ?_)
    · have hw := hw.trans (if_pos c_1)
      have hk := hk.1 c_1
      refine lv_aload_n hx hb dc_X8_taken_16 rfl (lv_at hl 0 rfl) ?_
      refine ky_cV1 (As := []) F (hE.at hfr hS) (mt_X8_behind l G (b0) (v0) ) kv_X8_49 ⟨⟨rfl, rfl⟩, by decide, by decide⟩ rfl hl.1 rfl (Nat.le_of_ble_eq_true rfl) ⟨Nat.le_of_ble_eq_true rfl, Nat.le_of_ble_eq_true rfl⟩ (va_recv hE.1 hI0 (ci := 4) (q0 := 0) rfl rfl) hI0 dc_X8_taken_17 ?_
      refine lv_istore_n (lv' := [(2, .int (fn_X8_behind v0)), (0, .ref b0), (1, .int (a1))]) hx hb dc_X8_taken_20 rfl hl (by decide) rfl (fun ls hl => ?_)
      refine lv_iload_n hx hb dc_X8_taken_21 rfl (lv_at hl 2 rfl) ?_
      refine lv_iconst (v := 2) hx hb dc_X8_taken_22 (by decide) ?_
      refine lv_icmp_ne (tgt := 57) hx hb dc_X8_taken_23 (by decide) (fun c_2 => ?_) (fun c_2 => ?_)
      · have hw := hw.trans (if_neg c_2)
        have hk := hk.2 c_2
        refine lv_iload_n hx hb dc_X8_taken_57 rfl (lv_at hl 0 rfl) ?_
        refine lv_if_le (tgt := 90) hx hb dc_X8_taken_58 (by decide) (fun c_3 => ?_) (fun c_3 => ?_)
        · have hw := hw.trans (if_pos c_3)
          have hk := hk.1 c_3
          refine lv_iconst (v := 0) hx hb dc_X8_taken_90 (by decide) ?_
          refine lv_istore_n (lv' := [(3, .int ((0 : Int32))), (2, .int (fn_X8_behind v0)), (0, .ref b0), (1, .int (a1))]) hx hb dc_X8_taken_91 rfl hl (by decide) rfl (fun ls hl => ?_)
          refine va_new (ci := 4) (fs := [.int (0), .long (0)]) (C := RX8) (T := TX8) (N := 2) hx hb hts ki_X8 tyX8 tyX8_ok hown (hts _ kw_6_169) (hts _ kw_6_5) (hts _ kw_1_9) hE.1 hP hD hS hA rfl (fun j hj => by rcases (show j = 0 ∨ j = 1 by omega) with rfl | rfl <;> rfl) (Nat.le_of_ble_eq_true rfl) (Nat.le_of_ble_eq_true rfl) dc_X8_taken_92 (fun q_4 H hP hD hS => ?_)
          have hP : va_P G.1 kcl [(q_4, .inr (4, [.int (0), .long (0)]))] H := hP
          have hD : va_D A [(q_4, .inr (4, [.int (0), .long (0)]))] := hD
          have hI0 := ky_ro hX hna hS
          refine W.widen (k := 1) (n := 2) (Nat.le_refl _) (Nat.le_refl _) ?_
          refine lv_dup hx hb dc_X8_taken_95 rfl ?_
          refine lv_aload_n hx hb dc_X8_taken_96 rfl (lv_at hl 2 rfl) ?_
          refine va_get (D := G.1) (ci := 4) (v := .int (v0.1)) (C := RX8) (T := TX8) (N := 2) hx hb hts ki_X8 hown hE.1 hI0 0 rfl rfl 0 (by decide) (hts _ kw_6_10) (fun _ h9 => h9) rfl dc_X8_taken_97 ?_
          refine lv_aload_n hx hb dc_X8_taken_100 rfl (lv_at hl 2 rfl) ?_
          refine ky_cV1 (As := []) F (hE.at hfr hS) (mt_X8_whole l G (b0) (v0) ) kv_X8_42 ⟨⟨rfl, rfl⟩, by decide, by decide⟩ rfl hl.1 rfl (Nat.le_of_ble_eq_true rfl) ⟨Nat.le_of_ble_eq_true rfl, Nat.le_of_ble_eq_true rfl⟩ (va_recv hE.1 hI0 (ci := 4) (q0 := 0) rfl rfl) hI0 dc_X8_taken_101 ?_
          refine lv_iload_n hx hb dc_X8_taken_104 rfl (lv_at hl 0 rfl) ?_
          refine lv_if_eq (tgt := 112) hx hb dc_X8_taken_105 (by decide) (fun _ => ?_) (fun c_5 => absurd c_5 (by decide))
          refine lv_iconst (v := 0) hx hb dc_X8_taken_112 (by decide) ?_
          refine lv_i2l (v := ((0 : Int32)).toInt64) hx hb dc_X8_taken_113 rfl ?_
          refine lv_ladd hx hb dc_X8_taken_114 ?_
          refine lv_lconst (v := 0) hx hb dc_X8_taken_115 (by decide) ?_
          obtain ⟨hq_6, hk⟩ := hk
          refine ky_cN0 (As := [.long ((fn_X8_whole v0) + (((0 : Int32)).toInt64)), .long ((0 : Int64))]) F hE (mt_X9_nearest l ((fn_X8_whole v0) + (((0 : Int32)).toInt64)) ((0 : Int64)) hq_6) kn_X8_84 ⟨⟨rfl, rfl⟩, by decide, by decide⟩ rfl hl.1 rfl (Nat.le_of_ble_eq_true rfl) ⟨Nat.le_of_ble_eq_true rfl, Nat.le_of_ble_eq_true rfl⟩ dc_X8_taken_116 ?_
          refine ky_cIh (As := [.int (v0.1), .long (fn_X9_nearest ((fn_X8_whole v0) + (((0 : Int32)).toInt64)) ((0 : Int64)))]) (wr := []) F (hE.at hfr hS) hfr (mt_X8_init l G (q_4) (v0.1) (fn_X9_nearest ((fn_X8_whole v0) + (((0 : Int32)).toInt64)) ((0 : Int64))) H.size ) kI_X8_33 ⟨⟨rfl, rfl⟩, by decide, by decide⟩ rfl hl.1 rfl (Nat.le_of_ble_eq_true rfl) ⟨Nat.le_of_ble_eq_true rfl, Nat.le_of_ble_eq_true rfl⟩ trivial hP hD hS hA [0] [] rfl rfl (by decide) (by decide) (by decide) dc_X8_taken_119 ?_
          rintro v9 u9 H locs ⟨rfl, rfl⟩ hP hD hS - hz hk9
          have hP : va_P G.1 kcl [(q_4, .inr (4, [.int (v0.1), .long (fn_X9_nearest ((fn_X8_whole v0) + (((0 : Int32)).toInt64)) ((0 : Int64)))]))] H := hP
          have hD : va_D A [(q_4, .inr (4, [.int (v0.1), .long (fn_X9_nearest ((fn_X8_whole v0) + (((0 : Int32)).toInt64)) ((0 : Int64)))]))] := hD
          have hI0 := ky_ro hX hna hS
          refine W.widen (k := 1) (n := 2) (Nat.le_refl _) (Nat.le_refl _) ?_
          have hP9 := hP.sub (ws' := []) [] rfl
          have hD9 := hD.sub (ws' := []) [] (by decide) rfl
          have hI9 := hP.sub (ws' := [(q_4, .inr (4, [.int (v0.1), .long (fn_X9_nearest ((fn_X8_whole v0) + (((0 : Int32)).toInt64)) ((0 : Int64)))]))]) [0] rfl
          have ho9 : q_4 = b0 ∨ sz ≤ q_4 := Or.inr (by have z := hD.2 0 _ rfl; rw [hAe] at z; rw [← hsz]; exact ky_fresh z)
          refine W.widen (k := 1) (n := 2) (Nat.le_of_ble_eq_true rfl) (Nat.le_of_ble_eq_true rfl) ?_
          exact W.aret (v := .ref q_4) hx hb hr (Or.inl ⟨_, rfl⟩) (Or.inr ⟨_, rfl⟩) (fun t ht hW => ⟨⟨_, q_4, rfl, rfl, by rw [ht]; exact hP9, hD9, by rw [hw, ht]; exact ky_itp hI9, ho9⟩, hS.F ht⟩) hS.2.2 dc_X8_taken_122
        · have hw := hw.trans (if_neg c_3)
          have hk := hk.2 c_3
          refine lv_iload_n hx hb dc_X8_taken_61 rfl (lv_at hl 2 rfl) ?_
          refine lv_iconst (v := 1) hx hb dc_X8_taken_62 (by decide) ?_
          refine lv_icmp_ne (tgt := 70) hx hb dc_X8_taken_63 (by decide) (fun c_4 => ?_) (fun c_4 => ?_)
          · have hw := hw.trans (if_neg c_4)
            have hk := hk.2 c_4
            refine lv_iconst (v := 0) hx hb dc_X8_taken_70 (by decide) ?_
            refine lv_aload_n hx hb dc_X8_taken_71 rfl (lv_at hl 1 rfl) ?_
            refine va_get (D := G.1) (ci := 4) (v := .int (v0.1)) (C := RX8) (T := TX8) (N := 2) hx hb hts ki_X8 hown hE.1 hI0 0 rfl rfl 0 (by decide) (hts _ kw_6_10) (fun _ h9 => h9) rfl dc_X8_taken_72 ?_
            refine lv_if_ne (tgt := 82) hx hb dc_X8_taken_75 (by decide) (fun c_5 => ?_) (fun c_5 => ?_)
            · have hw := hw.trans (if_neg c_5)
              have hk := hk.2 c_5
              refine lv_iconst (v := 0) hx hb dc_X8_taken_82 (by decide) ?_
              refine lv_icmp_ne (tgt := 90) hx hb dc_X8_taken_83 (by decide) (fun c_6 => absurd c_6 (by decide)) (fun _ => ?_)
              refine lv_iconst (v := 1) hx hb dc_X8_taken_86 (by decide) ?_
              refine lv_goto (tgt := 91) hx hb dc_X8_taken_87 (by decide) ?_
              refine lv_istore_n (lv' := [(3, .int ((1 : Int32))), (2, .int (fn_X8_behind v0)), (0, .ref b0), (1, .int (a1))]) hx hb dc_X8_taken_91 rfl hl (by decide) rfl (fun ls hl => ?_)
              refine va_new (ci := 4) (fs := [.int (0), .long (0)]) (C := RX8) (T := TX8) (N := 2) hx hb hts ki_X8 tyX8 tyX8_ok hown (hts _ kw_6_169) (hts _ kw_6_5) (hts _ kw_1_9) hE.1 hP hD hS hA rfl (fun j hj => by rcases (show j = 0 ∨ j = 1 by omega) with rfl | rfl <;> rfl) (Nat.le_of_ble_eq_true rfl) (Nat.le_of_ble_eq_true rfl) dc_X8_taken_92 (fun q_7 H hP hD hS => ?_)
              have hP : va_P G.1 kcl [(q_7, .inr (4, [.int (0), .long (0)]))] H := hP
              have hD : va_D A [(q_7, .inr (4, [.int (0), .long (0)]))] := hD
              have hI0 := ky_ro hX hna hS
              refine W.widen (k := 1) (n := 2) (Nat.le_refl _) (Nat.le_refl _) ?_
              refine lv_dup hx hb dc_X8_taken_95 rfl ?_
              refine lv_aload_n hx hb dc_X8_taken_96 rfl (lv_at hl 2 rfl) ?_
              refine va_get (D := G.1) (ci := 4) (v := .int (v0.1)) (C := RX8) (T := TX8) (N := 2) hx hb hts ki_X8 hown hE.1 hI0 0 rfl rfl 0 (by decide) (hts _ kw_6_10) (fun _ h9 => h9) rfl dc_X8_taken_97 ?_
              refine lv_aload_n hx hb dc_X8_taken_100 rfl (lv_at hl 2 rfl) ?_
              refine ky_cV1 (As := []) F (hE.at hfr hS) (mt_X8_whole l G (b0) (v0) ) kv_X8_42 ⟨⟨rfl, rfl⟩, by decide, by decide⟩ rfl hl.1 rfl (Nat.le_of_ble_eq_true rfl) ⟨Nat.le_of_ble_eq_true rfl, Nat.le_of_ble_eq_true rfl⟩ (va_recv hE.1 hI0 (ci := 4) (q0 := 0) rfl rfl) hI0 dc_X8_taken_101 ?_
              refine lv_iload_n hx hb dc_X8_taken_104 rfl (lv_at hl 0 rfl) ?_
              refine lv_if_eq (tgt := 112) hx hb dc_X8_taken_105 (by decide) (fun c_8 => absurd c_8 (by decide)) (fun _ => ?_)
              refine lv_iconst (v := 1) hx hb dc_X8_taken_108 (by decide) ?_
              refine lv_goto (tgt := 113) hx hb dc_X8_taken_109 (by decide) ?_
              refine lv_i2l (v := ((1 : Int32)).toInt64) hx hb dc_X8_taken_113 rfl ?_
              refine lv_ladd hx hb dc_X8_taken_114 ?_
              refine lv_lconst (v := 0) hx hb dc_X8_taken_115 (by decide) ?_
              obtain ⟨hq_9, hk⟩ := hk
              refine ky_cN0 (As := [.long ((fn_X8_whole v0) + (((1 : Int32)).toInt64)), .long ((0 : Int64))]) F hE (mt_X9_nearest l ((fn_X8_whole v0) + (((1 : Int32)).toInt64)) ((0 : Int64)) hq_9) kn_X8_84 ⟨⟨rfl, rfl⟩, by decide, by decide⟩ rfl hl.1 rfl (Nat.le_of_ble_eq_true rfl) ⟨Nat.le_of_ble_eq_true rfl, Nat.le_of_ble_eq_true rfl⟩ dc_X8_taken_116 ?_
              refine ky_cIh (As := [.int (v0.1), .long (fn_X9_nearest ((fn_X8_whole v0) + (((1 : Int32)).toInt64)) ((0 : Int64)))]) (wr := []) F (hE.at hfr hS) hfr (mt_X8_init l G (q_7) (v0.1) (fn_X9_nearest ((fn_X8_whole v0) + (((1 : Int32)).toInt64)) ((0 : Int64))) H.size ) kI_X8_33 ⟨⟨rfl, rfl⟩, by decide, by decide⟩ rfl hl.1 rfl (Nat.le_of_ble_eq_true rfl) ⟨Nat.le_of_ble_eq_true rfl, Nat.le_of_ble_eq_true rfl⟩ trivial hP hD hS hA [0] [] rfl rfl (by decide) (by decide) (by decide) dc_X8_taken_119 ?_
              rintro v9 u9 H locs ⟨rfl, rfl⟩ hP hD hS - hz hk9
              have hP : va_P G.1 kcl [(q_7, .inr (4, [.int (v0.1), .long (fn_X9_nearest ((fn_X8_whole v0) + (((1 : Int32)).toInt64)) ((0 : Int64)))]))] H := hP
              have hD : va_D A [(q_7, .inr (4, [.int (v0.1), .long (fn_X9_nearest ((fn_X8_whole v0) + (((1 : Int32)).toInt64)) ((0 : Int64)))]))] := hD
              have hI0 := ky_ro hX hna hS
              refine W.widen (k := 1) (n := 2) (Nat.le_refl _) (Nat.le_refl _) ?_
              have hP9 := hP.sub (ws' := []) [] rfl
              have hD9 := hD.sub (ws' := []) [] (by decide) rfl
              have hI9 := hP.sub (ws' := [(q_7, .inr (4, [.int (v0.1), .long (fn_X9_nearest ((fn_X8_whole v0) + (((1 : Int32)).toInt64)) ((0 : Int64)))]))]) [0] rfl
              have ho9 : q_7 = b0 ∨ sz ≤ q_7 := Or.inr (by have z := hD.2 0 _ rfl; rw [hAe] at z; rw [← hsz]; exact ky_fresh z)
              refine W.widen (k := 1) (n := 2) (Nat.le_of_ble_eq_true rfl) (Nat.le_of_ble_eq_true rfl) ?_
              exact W.aret (v := .ref q_7) hx hb hr (Or.inl ⟨_, rfl⟩) (Or.inr ⟨_, rfl⟩) (fun t ht hW => ⟨⟨_, q_7, rfl, rfl, by rw [ht]; exact hP9, hD9, by rw [hw, ht]; exact ky_itp hI9, ho9⟩, hS.F ht⟩) hS.2.2 dc_X8_taken_122
            · have hw := hw.trans (if_pos c_5)
              have hk := hk.1 c_5
              refine lv_iconst (v := 1) hx hb dc_X8_taken_78 (by decide) ?_
              refine lv_goto (tgt := 83) hx hb dc_X8_taken_79 (by decide) ?_
              refine lv_icmp_ne (tgt := 90) hx hb dc_X8_taken_83 (by decide) (fun _ => ?_) (fun c_6 => absurd c_6 (by decide))
              refine lv_iconst (v := 0) hx hb dc_X8_taken_90 (by decide) ?_
              refine lv_istore_n (lv' := [(3, .int ((0 : Int32))), (2, .int (fn_X8_behind v0)), (0, .ref b0), (1, .int (a1))]) hx hb dc_X8_taken_91 rfl hl (by decide) rfl (fun ls hl => ?_)
              refine va_new (ci := 4) (fs := [.int (0), .long (0)]) (C := RX8) (T := TX8) (N := 2) hx hb hts ki_X8 tyX8 tyX8_ok hown (hts _ kw_6_169) (hts _ kw_6_5) (hts _ kw_1_9) hE.1 hP hD hS hA rfl (fun j hj => by rcases (show j = 0 ∨ j = 1 by omega) with rfl | rfl <;> rfl) (Nat.le_of_ble_eq_true rfl) (Nat.le_of_ble_eq_true rfl) dc_X8_taken_92 (fun q_7 H hP hD hS => ?_)
              have hP : va_P G.1 kcl [(q_7, .inr (4, [.int (0), .long (0)]))] H := hP
              have hD : va_D A [(q_7, .inr (4, [.int (0), .long (0)]))] := hD
              have hI0 := ky_ro hX hna hS
              refine W.widen (k := 1) (n := 2) (Nat.le_refl _) (Nat.le_refl _) ?_
              refine lv_dup hx hb dc_X8_taken_95 rfl ?_
              refine lv_aload_n hx hb dc_X8_taken_96 rfl (lv_at hl 2 rfl) ?_
              refine va_get (D := G.1) (ci := 4) (v := .int (v0.1)) (C := RX8) (T := TX8) (N := 2) hx hb hts ki_X8 hown hE.1 hI0 0 rfl rfl 0 (by decide) (hts _ kw_6_10) (fun _ h9 => h9) rfl dc_X8_taken_97 ?_
              refine lv_aload_n hx hb dc_X8_taken_100 rfl (lv_at hl 2 rfl) ?_
              refine ky_cV1 (As := []) F (hE.at hfr hS) (mt_X8_whole l G (b0) (v0) ) kv_X8_42 ⟨⟨rfl, rfl⟩, by decide, by decide⟩ rfl hl.1 rfl (Nat.le_of_ble_eq_true rfl) ⟨Nat.le_of_ble_eq_true rfl, Nat.le_of_ble_eq_true rfl⟩ (va_recv hE.1 hI0 (ci := 4) (q0 := 0) rfl rfl) hI0 dc_X8_taken_101 ?_
              refine lv_iload_n hx hb dc_X8_taken_104 rfl (lv_at hl 0 rfl) ?_
              refine lv_if_eq (tgt := 112) hx hb dc_X8_taken_105 (by decide) (fun _ => ?_) (fun c_8 => absurd c_8 (by decide))
              refine lv_iconst (v := 0) hx hb dc_X8_taken_112 (by decide) ?_
              refine lv_i2l (v := ((0 : Int32)).toInt64) hx hb dc_X8_taken_113 rfl ?_
              refine lv_ladd hx hb dc_X8_taken_114 ?_
              refine lv_lconst (v := 0) hx hb dc_X8_taken_115 (by decide) ?_
              obtain ⟨hq_9, hk⟩ := hk
              refine ky_cN0 (As := [.long ((fn_X8_whole v0) + (((0 : Int32)).toInt64)), .long ((0 : Int64))]) F hE (mt_X9_nearest l ((fn_X8_whole v0) + (((0 : Int32)).toInt64)) ((0 : Int64)) hq_9) kn_X8_84 ⟨⟨rfl, rfl⟩, by decide, by decide⟩ rfl hl.1 rfl (Nat.le_of_ble_eq_true rfl) ⟨Nat.le_of_ble_eq_true rfl, Nat.le_of_ble_eq_true rfl⟩ dc_X8_taken_116 ?_
              refine ky_cIh (As := [.int (v0.1), .long (fn_X9_nearest ((fn_X8_whole v0) + (((0 : Int32)).toInt64)) ((0 : Int64)))]) (wr := []) F (hE.at hfr hS) hfr (mt_X8_init l G (q_7) (v0.1) (fn_X9_nearest ((fn_X8_whole v0) + (((0 : Int32)).toInt64)) ((0 : Int64))) H.size ) kI_X8_33 ⟨⟨rfl, rfl⟩, by decide, by decide⟩ rfl hl.1 rfl (Nat.le_of_ble_eq_true rfl) ⟨Nat.le_of_ble_eq_true rfl, Nat.le_of_ble_eq_true rfl⟩ trivial hP hD hS hA [0] [] rfl rfl (by decide) (by decide) (by decide) dc_X8_taken_119 ?_
              rintro v9 u9 H locs ⟨rfl, rfl⟩ hP hD hS - hz hk9
              have hP : va_P G.1 kcl [(q_7, .inr (4, [.int (v0.1), .long (fn_X9_nearest ((fn_X8_whole v0) + (((0 : Int32)).toInt64)) ((0 : Int64)))]))] H := hP
              have hD : va_D A [(q_7, .inr (4, [.int (v0.1), .long (fn_X9_nearest ((fn_X8_whole v0) + (((0 : Int32)).toInt64)) ((0 : Int64)))]))] := hD
              have hI0 := ky_ro hX hna hS
              refine W.widen (k := 1) (n := 2) (Nat.le_refl _) (Nat.le_refl _) ?_
              have hP9 := hP.sub (ws' := []) [] rfl
              have hD9 := hD.sub (ws' := []) [] (by decide) rfl
              have hI9 := hP.sub (ws' := [(q_7, .inr (4, [.int (v0.1), .long (fn_X9_nearest ((fn_X8_whole v0) + (((0 : Int32)).toInt64)) ((0 : Int64)))]))]) [0] rfl
              have ho9 : q_7 = b0 ∨ sz ≤ q_7 := Or.inr (by have z := hD.2 0 _ rfl; rw [hAe] at z; rw [← hsz]; exact ky_fresh z)
              refine W.widen (k := 1) (n := 2) (Nat.le_of_ble_eq_true rfl) (Nat.le_of_ble_eq_true rfl) ?_
              exact W.aret (v := .ref q_7) hx hb hr (Or.inl ⟨_, rfl⟩) (Or.inr ⟨_, rfl⟩) (fun t ht hW => ⟨⟨_, q_7, rfl, rfl, by rw [ht]; exact hP9, hD9, by rw [hw, ht]; exact ky_itp hI9, ho9⟩, hS.F ht⟩) hS.2.2 dc_X8_taken_122
          · have hw := hw.trans (if_pos c_4)
            have hk := hk.1 c_4
            refine lv_iconst (v := 1) hx hb dc_X8_taken_66 (by decide) ?_
            refine lv_goto (tgt := 71) hx hb dc_X8_taken_67 (by decide) ?_
            refine lv_aload_n hx hb dc_X8_taken_71 rfl (lv_at hl 1 rfl) ?_
            refine va_get (D := G.1) (ci := 4) (v := .int (v0.1)) (C := RX8) (T := TX8) (N := 2) hx hb hts ki_X8 hown hE.1 hI0 0 rfl rfl 0 (by decide) (hts _ kw_6_10) (fun _ h9 => h9) rfl dc_X8_taken_72 ?_
            refine lv_if_ne (tgt := 82) hx hb dc_X8_taken_75 (by decide) (fun c_5 => ?_) (fun c_5 => ?_)
            · have hw := hw.trans (if_neg c_5)
              have hk := hk.2 c_5
              refine lv_iconst (v := 0) hx hb dc_X8_taken_82 (by decide) ?_
              refine lv_icmp_ne (tgt := 90) hx hb dc_X8_taken_83 (by decide) (fun _ => ?_) (fun c_6 => absurd c_6 (by decide))
              refine lv_iconst (v := 0) hx hb dc_X8_taken_90 (by decide) ?_
              refine lv_istore_n (lv' := [(3, .int ((0 : Int32))), (2, .int (fn_X8_behind v0)), (0, .ref b0), (1, .int (a1))]) hx hb dc_X8_taken_91 rfl hl (by decide) rfl (fun ls hl => ?_)
              refine va_new (ci := 4) (fs := [.int (0), .long (0)]) (C := RX8) (T := TX8) (N := 2) hx hb hts ki_X8 tyX8 tyX8_ok hown (hts _ kw_6_169) (hts _ kw_6_5) (hts _ kw_1_9) hE.1 hP hD hS hA rfl (fun j hj => by rcases (show j = 0 ∨ j = 1 by omega) with rfl | rfl <;> rfl) (Nat.le_of_ble_eq_true rfl) (Nat.le_of_ble_eq_true rfl) dc_X8_taken_92 (fun q_7 H hP hD hS => ?_)
              have hP : va_P G.1 kcl [(q_7, .inr (4, [.int (0), .long (0)]))] H := hP
              have hD : va_D A [(q_7, .inr (4, [.int (0), .long (0)]))] := hD
              have hI0 := ky_ro hX hna hS
              refine W.widen (k := 1) (n := 2) (Nat.le_refl _) (Nat.le_refl _) ?_
              refine lv_dup hx hb dc_X8_taken_95 rfl ?_
              refine lv_aload_n hx hb dc_X8_taken_96 rfl (lv_at hl 2 rfl) ?_
              refine va_get (D := G.1) (ci := 4) (v := .int (v0.1)) (C := RX8) (T := TX8) (N := 2) hx hb hts ki_X8 hown hE.1 hI0 0 rfl rfl 0 (by decide) (hts _ kw_6_10) (fun _ h9 => h9) rfl dc_X8_taken_97 ?_
              refine lv_aload_n hx hb dc_X8_taken_100 rfl (lv_at hl 2 rfl) ?_
              refine ky_cV1 (As := []) F (hE.at hfr hS) (mt_X8_whole l G (b0) (v0) ) kv_X8_42 ⟨⟨rfl, rfl⟩, by decide, by decide⟩ rfl hl.1 rfl (Nat.le_of_ble_eq_true rfl) ⟨Nat.le_of_ble_eq_true rfl, Nat.le_of_ble_eq_true rfl⟩ (va_recv hE.1 hI0 (ci := 4) (q0 := 0) rfl rfl) hI0 dc_X8_taken_101 ?_
              refine lv_iload_n hx hb dc_X8_taken_104 rfl (lv_at hl 0 rfl) ?_
              refine lv_if_eq (tgt := 112) hx hb dc_X8_taken_105 (by decide) (fun _ => ?_) (fun c_8 => absurd c_8 (by decide))
              refine lv_iconst (v := 0) hx hb dc_X8_taken_112 (by decide) ?_
              refine lv_i2l (v := ((0 : Int32)).toInt64) hx hb dc_X8_taken_113 rfl ?_
              refine lv_ladd hx hb dc_X8_taken_114 ?_
              refine lv_lconst (v := 0) hx hb dc_X8_taken_115 (by decide) ?_
              obtain ⟨hq_9, hk⟩ := hk
              refine ky_cN0 (As := [.long ((fn_X8_whole v0) + (((0 : Int32)).toInt64)), .long ((0 : Int64))]) F hE (mt_X9_nearest l ((fn_X8_whole v0) + (((0 : Int32)).toInt64)) ((0 : Int64)) hq_9) kn_X8_84 ⟨⟨rfl, rfl⟩, by decide, by decide⟩ rfl hl.1 rfl (Nat.le_of_ble_eq_true rfl) ⟨Nat.le_of_ble_eq_true rfl, Nat.le_of_ble_eq_true rfl⟩ dc_X8_taken_116 ?_
              refine ky_cIh (As := [.int (v0.1), .long (fn_X9_nearest ((fn_X8_whole v0) + (((0 : Int32)).toInt64)) ((0 : Int64)))]) (wr := []) F (hE.at hfr hS) hfr (mt_X8_init l G (q_7) (v0.1) (fn_X9_nearest ((fn_X8_whole v0) + (((0 : Int32)).toInt64)) ((0 : Int64))) H.size ) kI_X8_33 ⟨⟨rfl, rfl⟩, by decide, by decide⟩ rfl hl.1 rfl (Nat.le_of_ble_eq_true rfl) ⟨Nat.le_of_ble_eq_true rfl, Nat.le_of_ble_eq_true rfl⟩ trivial hP hD hS hA [0] [] rfl rfl (by decide) (by decide) (by decide) dc_X8_taken_119 ?_
              rintro v9 u9 H locs ⟨rfl, rfl⟩ hP hD hS - hz hk9
              have hP : va_P G.1 kcl [(q_7, .inr (4, [.int (v0.1), .long (fn_X9_nearest ((fn_X8_whole v0) + (((0 : Int32)).toInt64)) ((0 : Int64)))]))] H := hP
              have hD : va_D A [(q_7, .inr (4, [.int (v0.1), .long (fn_X9_nearest ((fn_X8_whole v0) + (((0 : Int32)).toInt64)) ((0 : Int64)))]))] := hD
              have hI0 := ky_ro hX hna hS
              refine W.widen (k := 1) (n := 2) (Nat.le_refl _) (Nat.le_refl _) ?_
              have hP9 := hP.sub (ws' := []) [] rfl
              have hD9 := hD.sub (ws' := []) [] (by decide) rfl
              have hI9 := hP.sub (ws' := [(q_7, .inr (4, [.int (v0.1), .long (fn_X9_nearest ((fn_X8_whole v0) + (((0 : Int32)).toInt64)) ((0 : Int64)))]))]) [0] rfl
              have ho9 : q_7 = b0 ∨ sz ≤ q_7 := Or.inr (by have z := hD.2 0 _ rfl; rw [hAe] at z; rw [← hsz]; exact ky_fresh z)
              refine W.widen (k := 1) (n := 2) (Nat.le_of_ble_eq_true rfl) (Nat.le_of_ble_eq_true rfl) ?_
              exact W.aret (v := .ref q_7) hx hb hr (Or.inl ⟨_, rfl⟩) (Or.inr ⟨_, rfl⟩) (fun t ht hW => ⟨⟨_, q_7, rfl, rfl, by rw [ht]; exact hP9, hD9, by rw [hw, ht]; exact ky_itp hI9, ho9⟩, hS.F ht⟩) hS.2.2 dc_X8_taken_122
            · have hw := hw.trans (if_pos c_5)
              have hk := hk.1 c_5
              refine lv_iconst (v := 1) hx hb dc_X8_taken_78 (by decide) ?_
              refine lv_goto (tgt := 83) hx hb dc_X8_taken_79 (by decide) ?_
              refine lv_icmp_ne (tgt := 90) hx hb dc_X8_taken_83 (by decide) (fun c_6 => absurd c_6 (by decide)) (fun _ => ?_)
              refine lv_iconst (v := 1) hx hb dc_X8_taken_86 (by decide) ?_
              refine lv_goto (tgt := 91) hx hb dc_X8_taken_87 (by decide) ?_
              refine lv_istore_n (lv' := [(3, .int ((1 : Int32))), (2, .int (fn_X8_behind v0)), (0, .ref b0), (1, .int (a1))]) hx hb dc_X8_taken_91 rfl hl (by decide) rfl (fun ls hl => ?_)
              refine va_new (ci := 4) (fs := [.int (0), .long (0)]) (C := RX8) (T := TX8) (N := 2) hx hb hts ki_X8 tyX8 tyX8_ok hown (hts _ kw_6_169) (hts _ kw_6_5) (hts _ kw_1_9) hE.1 hP hD hS hA rfl (fun j hj => by rcases (show j = 0 ∨ j = 1 by omega) with rfl | rfl <;> rfl) (Nat.le_of_ble_eq_true rfl) (Nat.le_of_ble_eq_true rfl) dc_X8_taken_92 (fun q_7 H hP hD hS => ?_)
              have hP : va_P G.1 kcl [(q_7, .inr (4, [.int (0), .long (0)]))] H := hP
              have hD : va_D A [(q_7, .inr (4, [.int (0), .long (0)]))] := hD
              have hI0 := ky_ro hX hna hS
              refine W.widen (k := 1) (n := 2) (Nat.le_refl _) (Nat.le_refl _) ?_
              refine lv_dup hx hb dc_X8_taken_95 rfl ?_
              refine lv_aload_n hx hb dc_X8_taken_96 rfl (lv_at hl 2 rfl) ?_
              refine va_get (D := G.1) (ci := 4) (v := .int (v0.1)) (C := RX8) (T := TX8) (N := 2) hx hb hts ki_X8 hown hE.1 hI0 0 rfl rfl 0 (by decide) (hts _ kw_6_10) (fun _ h9 => h9) rfl dc_X8_taken_97 ?_
              refine lv_aload_n hx hb dc_X8_taken_100 rfl (lv_at hl 2 rfl) ?_
              refine ky_cV1 (As := []) F (hE.at hfr hS) (mt_X8_whole l G (b0) (v0) ) kv_X8_42 ⟨⟨rfl, rfl⟩, by decide, by decide⟩ rfl hl.1 rfl (Nat.le_of_ble_eq_true rfl) ⟨Nat.le_of_ble_eq_true rfl, Nat.le_of_ble_eq_true rfl⟩ (va_recv hE.1 hI0 (ci := 4) (q0 := 0) rfl rfl) hI0 dc_X8_taken_101 ?_
              refine lv_iload_n hx hb dc_X8_taken_104 rfl (lv_at hl 0 rfl) ?_
              refine lv_if_eq (tgt := 112) hx hb dc_X8_taken_105 (by decide) (fun c_8 => absurd c_8 (by decide)) (fun _ => ?_)
              refine lv_iconst (v := 1) hx hb dc_X8_taken_108 (by decide) ?_
              refine lv_goto (tgt := 113) hx hb dc_X8_taken_109 (by decide) ?_
              refine lv_i2l (v := ((1 : Int32)).toInt64) hx hb dc_X8_taken_113 rfl ?_
              refine lv_ladd hx hb dc_X8_taken_114 ?_
              refine lv_lconst (v := 0) hx hb dc_X8_taken_115 (by decide) ?_
              obtain ⟨hq_9, hk⟩ := hk
              refine ky_cN0 (As := [.long ((fn_X8_whole v0) + (((1 : Int32)).toInt64)), .long ((0 : Int64))]) F hE (mt_X9_nearest l ((fn_X8_whole v0) + (((1 : Int32)).toInt64)) ((0 : Int64)) hq_9) kn_X8_84 ⟨⟨rfl, rfl⟩, by decide, by decide⟩ rfl hl.1 rfl (Nat.le_of_ble_eq_true rfl) ⟨Nat.le_of_ble_eq_true rfl, Nat.le_of_ble_eq_true rfl⟩ dc_X8_taken_116 ?_
              refine ky_cIh (As := [.int (v0.1), .long (fn_X9_nearest ((fn_X8_whole v0) + (((1 : Int32)).toInt64)) ((0 : Int64)))]) (wr := []) F (hE.at hfr hS) hfr (mt_X8_init l G (q_7) (v0.1) (fn_X9_nearest ((fn_X8_whole v0) + (((1 : Int32)).toInt64)) ((0 : Int64))) H.size ) kI_X8_33 ⟨⟨rfl, rfl⟩, by decide, by decide⟩ rfl hl.1 rfl (Nat.le_of_ble_eq_true rfl) ⟨Nat.le_of_ble_eq_true rfl, Nat.le_of_ble_eq_true rfl⟩ trivial hP hD hS hA [0] [] rfl rfl (by decide) (by decide) (by decide) dc_X8_taken_119 ?_
              rintro v9 u9 H locs ⟨rfl, rfl⟩ hP hD hS - hz hk9
              have hP : va_P G.1 kcl [(q_7, .inr (4, [.int (v0.1), .long (fn_X9_nearest ((fn_X8_whole v0) + (((1 : Int32)).toInt64)) ((0 : Int64)))]))] H := hP
              have hD : va_D A [(q_7, .inr (4, [.int (v0.1), .long (fn_X9_nearest ((fn_X8_whole v0) + (((1 : Int32)).toInt64)) ((0 : Int64)))]))] := hD
              have hI0 := ky_ro hX hna hS
              refine W.widen (k := 1) (n := 2) (Nat.le_refl _) (Nat.le_refl _) ?_
              have hP9 := hP.sub (ws' := []) [] rfl
              have hD9 := hD.sub (ws' := []) [] (by decide) rfl
              have hI9 := hP.sub (ws' := [(q_7, .inr (4, [.int (v0.1), .long (fn_X9_nearest ((fn_X8_whole v0) + (((1 : Int32)).toInt64)) ((0 : Int64)))]))]) [0] rfl
              have ho9 : q_7 = b0 ∨ sz ≤ q_7 := Or.inr (by have z := hD.2 0 _ rfl; rw [hAe] at z; rw [← hsz]; exact ky_fresh z)
              refine W.widen (k := 1) (n := 2) (Nat.le_of_ble_eq_true rfl) (Nat.le_of_ble_eq_true rfl) ?_
              exact W.aret (v := .ref q_7) hx hb hr (Or.inl ⟨_, rfl⟩) (Or.inr ⟨_, rfl⟩) (fun t ht hW => ⟨⟨_, q_7, rfl, rfl, by rw [ht]; exact hP9, hD9, by rw [hw, ht]; exact ky_itp hI9, ho9⟩, hS.F ht⟩) hS.2.2 dc_X8_taken_122
      · have hw := hw.trans (if_pos c_2)
        have hk := hk.1 c_2
        refine lv_iload_n hx hb dc_X8_taken_26 rfl (lv_at hl 0 rfl) ?_
        refine lv_iconst (v := 3) hx hb dc_X8_taken_27 (by decide) ?_
        refine lv_icmp_eq (tgt := 49) hx hb dc_X8_taken_28 (by decide) (fun c_3 => ?_) (fun c_3 => ?_)
        · have hw := hw.trans (if_pos c_3)
          have hk := hk.1 c_3
          refine lv_iconst (v := 1) hx hb dc_X8_taken_49 (by decide) ?_
          refine lv_goto (tgt := 91) hx hb dc_X8_taken_50 (by decide) ?_
          refine lv_istore_n (lv' := [(3, .int ((1 : Int32))), (2, .int (fn_X8_behind v0)), (0, .ref b0), (1, .int (a1))]) hx hb dc_X8_taken_91 rfl hl (by decide) rfl (fun ls hl => ?_)
          refine va_new (ci := 4) (fs := [.int (0), .long (0)]) (C := RX8) (T := TX8) (N := 2) hx hb hts ki_X8 tyX8 tyX8_ok hown (hts _ kw_6_169) (hts _ kw_6_5) (hts _ kw_1_9) hE.1 hP hD hS hA rfl (fun j hj => by rcases (show j = 0 ∨ j = 1 by omega) with rfl | rfl <;> rfl) (Nat.le_of_ble_eq_true rfl) (Nat.le_of_ble_eq_true rfl) dc_X8_taken_92 (fun q_4 H hP hD hS => ?_)
          have hP : va_P G.1 kcl [(q_4, .inr (4, [.int (0), .long (0)]))] H := hP
          have hD : va_D A [(q_4, .inr (4, [.int (0), .long (0)]))] := hD
          have hI0 := ky_ro hX hna hS
          refine W.widen (k := 1) (n := 2) (Nat.le_refl _) (Nat.le_refl _) ?_
          refine lv_dup hx hb dc_X8_taken_95 rfl ?_
          refine lv_aload_n hx hb dc_X8_taken_96 rfl (lv_at hl 2 rfl) ?_
          refine va_get (D := G.1) (ci := 4) (v := .int (v0.1)) (C := RX8) (T := TX8) (N := 2) hx hb hts ki_X8 hown hE.1 hI0 0 rfl rfl 0 (by decide) (hts _ kw_6_10) (fun _ h9 => h9) rfl dc_X8_taken_97 ?_
          refine lv_aload_n hx hb dc_X8_taken_100 rfl (lv_at hl 2 rfl) ?_
          refine ky_cV1 (As := []) F (hE.at hfr hS) (mt_X8_whole l G (b0) (v0) ) kv_X8_42 ⟨⟨rfl, rfl⟩, by decide, by decide⟩ rfl hl.1 rfl (Nat.le_of_ble_eq_true rfl) ⟨Nat.le_of_ble_eq_true rfl, Nat.le_of_ble_eq_true rfl⟩ (va_recv hE.1 hI0 (ci := 4) (q0 := 0) rfl rfl) hI0 dc_X8_taken_101 ?_
          refine lv_iload_n hx hb dc_X8_taken_104 rfl (lv_at hl 0 rfl) ?_
          refine lv_if_eq (tgt := 112) hx hb dc_X8_taken_105 (by decide) (fun c_5 => absurd c_5 (by decide)) (fun _ => ?_)
          refine lv_iconst (v := 1) hx hb dc_X8_taken_108 (by decide) ?_
          refine lv_goto (tgt := 113) hx hb dc_X8_taken_109 (by decide) ?_
          refine lv_i2l (v := ((1 : Int32)).toInt64) hx hb dc_X8_taken_113 rfl ?_
          refine lv_ladd hx hb dc_X8_taken_114 ?_
          refine lv_lconst (v := 0) hx hb dc_X8_taken_115 (by decide) ?_
          obtain ⟨hq_6, hk⟩ := hk
          refine ky_cN0 (As := [.long ((fn_X8_whole v0) + (((1 : Int32)).toInt64)), .long ((0 : Int64))]) F hE (mt_X9_nearest l ((fn_X8_whole v0) + (((1 : Int32)).toInt64)) ((0 : Int64)) hq_6) kn_X8_84 ⟨⟨rfl, rfl⟩, by decide, by decide⟩ rfl hl.1 rfl (Nat.le_of_ble_eq_true rfl) ⟨Nat.le_of_ble_eq_true rfl, Nat.le_of_ble_eq_true rfl⟩ dc_X8_taken_116 ?_
          refine ky_cIh (As := [.int (v0.1), .long (fn_X9_nearest ((fn_X8_whole v0) + (((1 : Int32)).toInt64)) ((0 : Int64)))]) (wr := []) F (hE.at hfr hS) hfr (mt_X8_init l G (q_4) (v0.1) (fn_X9_nearest ((fn_X8_whole v0) + (((1 : Int32)).toInt64)) ((0 : Int64))) H.size ) kI_X8_33 ⟨⟨rfl, rfl⟩, by decide, by decide⟩ rfl hl.1 rfl (Nat.le_of_ble_eq_true rfl) ⟨Nat.le_of_ble_eq_true rfl, Nat.le_of_ble_eq_true rfl⟩ trivial hP hD hS hA [0] [] rfl rfl (by decide) (by decide) (by decide) dc_X8_taken_119 ?_
          rintro v9 u9 H locs ⟨rfl, rfl⟩ hP hD hS - hz hk9
          have hP : va_P G.1 kcl [(q_4, .inr (4, [.int (v0.1), .long (fn_X9_nearest ((fn_X8_whole v0) + (((1 : Int32)).toInt64)) ((0 : Int64)))]))] H := hP
          have hD : va_D A [(q_4, .inr (4, [.int (v0.1), .long (fn_X9_nearest ((fn_X8_whole v0) + (((1 : Int32)).toInt64)) ((0 : Int64)))]))] := hD
          have hI0 := ky_ro hX hna hS
          refine W.widen (k := 1) (n := 2) (Nat.le_refl _) (Nat.le_refl _) ?_
          have hP9 := hP.sub (ws' := []) [] rfl
          have hD9 := hD.sub (ws' := []) [] (by decide) rfl
          have hI9 := hP.sub (ws' := [(q_4, .inr (4, [.int (v0.1), .long (fn_X9_nearest ((fn_X8_whole v0) + (((1 : Int32)).toInt64)) ((0 : Int64)))]))]) [0] rfl
          have ho9 : q_4 = b0 ∨ sz ≤ q_4 := Or.inr (by have z := hD.2 0 _ rfl; rw [hAe] at z; rw [← hsz]; exact ky_fresh z)
          refine W.widen (k := 1) (n := 2) (Nat.le_of_ble_eq_true rfl) (Nat.le_of_ble_eq_true rfl) ?_
          exact W.aret (v := .ref q_4) hx hb hr (Or.inl ⟨_, rfl⟩) (Or.inr ⟨_, rfl⟩) (fun t ht hW => ⟨⟨_, q_4, rfl, rfl, by rw [ht]; exact hP9, hD9, by rw [hw, ht]; exact ky_itp hI9, ho9⟩, hS.F ht⟩) hS.2.2 dc_X8_taken_122
        · have hw := hw.trans (if_neg c_3)
          have hk := hk.2 c_3
          refine lv_iload_n hx hb dc_X8_taken_31 rfl (lv_at hl 0 rfl) ?_
          refine lv_iconst (v := 2) hx hb dc_X8_taken_32 (by decide) ?_
          refine lv_icmp_ne (tgt := 53) hx hb dc_X8_taken_33 (by decide) (fun c_4 => ?_) (fun c_4 => ?_)
          · have hw := hw.trans (if_neg c_4)
            have hk := hk.2 c_4
            refine lv_iconst (v := 0) hx hb dc_X8_taken_53 (by decide) ?_
            refine lv_goto (tgt := 91) hx hb dc_X8_taken_54 (by decide) ?_
            refine lv_istore_n (lv' := [(3, .int ((0 : Int32))), (2, .int (fn_X8_behind v0)), (0, .ref b0), (1, .int (a1))]) hx hb dc_X8_taken_91 rfl hl (by decide) rfl (fun ls hl => ?_)
            refine va_new (ci := 4) (fs := [.int (0), .long (0)]) (C := RX8) (T := TX8) (N := 2) hx hb hts ki_X8 tyX8 tyX8_ok hown (hts _ kw_6_169) (hts _ kw_6_5) (hts _ kw_1_9) hE.1 hP hD hS hA rfl (fun j hj => by rcases (show j = 0 ∨ j = 1 by omega) with rfl | rfl <;> rfl) (Nat.le_of_ble_eq_true rfl) (Nat.le_of_ble_eq_true rfl) dc_X8_taken_92 (fun q_5 H hP hD hS => ?_)
            have hP : va_P G.1 kcl [(q_5, .inr (4, [.int (0), .long (0)]))] H := hP
            have hD : va_D A [(q_5, .inr (4, [.int (0), .long (0)]))] := hD
            have hI0 := ky_ro hX hna hS
            refine W.widen (k := 1) (n := 2) (Nat.le_refl _) (Nat.le_refl _) ?_
            refine lv_dup hx hb dc_X8_taken_95 rfl ?_
            refine lv_aload_n hx hb dc_X8_taken_96 rfl (lv_at hl 2 rfl) ?_
            refine va_get (D := G.1) (ci := 4) (v := .int (v0.1)) (C := RX8) (T := TX8) (N := 2) hx hb hts ki_X8 hown hE.1 hI0 0 rfl rfl 0 (by decide) (hts _ kw_6_10) (fun _ h9 => h9) rfl dc_X8_taken_97 ?_
            refine lv_aload_n hx hb dc_X8_taken_100 rfl (lv_at hl 2 rfl) ?_
            refine ky_cV1 (As := []) F (hE.at hfr hS) (mt_X8_whole l G (b0) (v0) ) kv_X8_42 ⟨⟨rfl, rfl⟩, by decide, by decide⟩ rfl hl.1 rfl (Nat.le_of_ble_eq_true rfl) ⟨Nat.le_of_ble_eq_true rfl, Nat.le_of_ble_eq_true rfl⟩ (va_recv hE.1 hI0 (ci := 4) (q0 := 0) rfl rfl) hI0 dc_X8_taken_101 ?_
            refine lv_iload_n hx hb dc_X8_taken_104 rfl (lv_at hl 0 rfl) ?_
            refine lv_if_eq (tgt := 112) hx hb dc_X8_taken_105 (by decide) (fun _ => ?_) (fun c_6 => absurd c_6 (by decide))
            refine lv_iconst (v := 0) hx hb dc_X8_taken_112 (by decide) ?_
            refine lv_i2l (v := ((0 : Int32)).toInt64) hx hb dc_X8_taken_113 rfl ?_
            refine lv_ladd hx hb dc_X8_taken_114 ?_
            refine lv_lconst (v := 0) hx hb dc_X8_taken_115 (by decide) ?_
            obtain ⟨hq_7, hk⟩ := hk
            refine ky_cN0 (As := [.long ((fn_X8_whole v0) + (((0 : Int32)).toInt64)), .long ((0 : Int64))]) F hE (mt_X9_nearest l ((fn_X8_whole v0) + (((0 : Int32)).toInt64)) ((0 : Int64)) hq_7) kn_X8_84 ⟨⟨rfl, rfl⟩, by decide, by decide⟩ rfl hl.1 rfl (Nat.le_of_ble_eq_true rfl) ⟨Nat.le_of_ble_eq_true rfl, Nat.le_of_ble_eq_true rfl⟩ dc_X8_taken_116 ?_
            refine ky_cIh (As := [.int (v0.1), .long (fn_X9_nearest ((fn_X8_whole v0) + (((0 : Int32)).toInt64)) ((0 : Int64)))]) (wr := []) F (hE.at hfr hS) hfr (mt_X8_init l G (q_5) (v0.1) (fn_X9_nearest ((fn_X8_whole v0) + (((0 : Int32)).toInt64)) ((0 : Int64))) H.size ) kI_X8_33 ⟨⟨rfl, rfl⟩, by decide, by decide⟩ rfl hl.1 rfl (Nat.le_of_ble_eq_true rfl) ⟨Nat.le_of_ble_eq_true rfl, Nat.le_of_ble_eq_true rfl⟩ trivial hP hD hS hA [0] [] rfl rfl (by decide) (by decide) (by decide) dc_X8_taken_119 ?_
            rintro v9 u9 H locs ⟨rfl, rfl⟩ hP hD hS - hz hk9
            have hP : va_P G.1 kcl [(q_5, .inr (4, [.int (v0.1), .long (fn_X9_nearest ((fn_X8_whole v0) + (((0 : Int32)).toInt64)) ((0 : Int64)))]))] H := hP
            have hD : va_D A [(q_5, .inr (4, [.int (v0.1), .long (fn_X9_nearest ((fn_X8_whole v0) + (((0 : Int32)).toInt64)) ((0 : Int64)))]))] := hD
            have hI0 := ky_ro hX hna hS
            refine W.widen (k := 1) (n := 2) (Nat.le_refl _) (Nat.le_refl _) ?_
            have hP9 := hP.sub (ws' := []) [] rfl
            have hD9 := hD.sub (ws' := []) [] (by decide) rfl
            have hI9 := hP.sub (ws' := [(q_5, .inr (4, [.int (v0.1), .long (fn_X9_nearest ((fn_X8_whole v0) + (((0 : Int32)).toInt64)) ((0 : Int64)))]))]) [0] rfl
            have ho9 : q_5 = b0 ∨ sz ≤ q_5 := Or.inr (by have z := hD.2 0 _ rfl; rw [hAe] at z; rw [← hsz]; exact ky_fresh z)
            refine W.widen (k := 1) (n := 2) (Nat.le_of_ble_eq_true rfl) (Nat.le_of_ble_eq_true rfl) ?_
            exact W.aret (v := .ref q_5) hx hb hr (Or.inl ⟨_, rfl⟩) (Or.inr ⟨_, rfl⟩) (fun t ht hW => ⟨⟨_, q_5, rfl, rfl, by rw [ht]; exact hP9, hD9, by rw [hw, ht]; exact ky_itp hI9, ho9⟩, hS.F ht⟩) hS.2.2 dc_X8_taken_122
          · have hw := hw.trans (if_pos c_4)
            have hk := hk.1 c_4
            refine lv_aload_n hx hb dc_X8_taken_36 rfl (lv_at hl 1 rfl) ?_
            refine ky_cV1 (As := []) F (hE.at hfr hS) (mt_X8_whole l G (b0) (v0) ) kv_X8_42 ⟨⟨rfl, rfl⟩, by decide, by decide⟩ rfl hl.1 rfl (Nat.le_of_ble_eq_true rfl) ⟨Nat.le_of_ble_eq_true rfl, Nat.le_of_ble_eq_true rfl⟩ (va_recv hE.1 hI0 (ci := 4) (q0 := 0) rfl rfl) hI0 dc_X8_taken_37 ?_
            refine lv_ldc2 (v := 2) hx hb hown (hts _ kw_6_168) dc_X8_taken_40 ?_
            refine lv_lrem hx hb dc_X8_taken_43 (by decide) ?_
            refine lv_lconst (v := 1) hx hb dc_X8_taken_44 (by decide) ?_
            refine W.lcmp hx hb dc_X8_taken_45 ?_
            refine lv_if_ne (tgt := 53) hx hb dc_X8_taken_46 (by decide) (fun c_5 => ?_) (fun c_5 => ?_)
            · have hw := hw.trans (if_neg c_5)
              have hk := hk.2 c_5
              refine lv_iconst (v := 0) hx hb dc_X8_taken_53 (by decide) ?_
              refine lv_goto (tgt := 91) hx hb dc_X8_taken_54 (by decide) ?_
              refine lv_istore_n (lv' := [(3, .int ((0 : Int32))), (2, .int (fn_X8_behind v0)), (0, .ref b0), (1, .int (a1))]) hx hb dc_X8_taken_91 rfl hl (by decide) rfl (fun ls hl => ?_)
              refine va_new (ci := 4) (fs := [.int (0), .long (0)]) (C := RX8) (T := TX8) (N := 2) hx hb hts ki_X8 tyX8 tyX8_ok hown (hts _ kw_6_169) (hts _ kw_6_5) (hts _ kw_1_9) hE.1 hP hD hS hA rfl (fun j hj => by rcases (show j = 0 ∨ j = 1 by omega) with rfl | rfl <;> rfl) (Nat.le_of_ble_eq_true rfl) (Nat.le_of_ble_eq_true rfl) dc_X8_taken_92 (fun q_6 H hP hD hS => ?_)
              have hP : va_P G.1 kcl [(q_6, .inr (4, [.int (0), .long (0)]))] H := hP
              have hD : va_D A [(q_6, .inr (4, [.int (0), .long (0)]))] := hD
              have hI0 := ky_ro hX hna hS
              refine W.widen (k := 1) (n := 2) (Nat.le_refl _) (Nat.le_refl _) ?_
              refine lv_dup hx hb dc_X8_taken_95 rfl ?_
              refine lv_aload_n hx hb dc_X8_taken_96 rfl (lv_at hl 2 rfl) ?_
              refine va_get (D := G.1) (ci := 4) (v := .int (v0.1)) (C := RX8) (T := TX8) (N := 2) hx hb hts ki_X8 hown hE.1 hI0 0 rfl rfl 0 (by decide) (hts _ kw_6_10) (fun _ h9 => h9) rfl dc_X8_taken_97 ?_
              refine lv_aload_n hx hb dc_X8_taken_100 rfl (lv_at hl 2 rfl) ?_
              refine ky_cV1 (As := []) F (hE.at hfr hS) (mt_X8_whole l G (b0) (v0) ) kv_X8_42 ⟨⟨rfl, rfl⟩, by decide, by decide⟩ rfl hl.1 rfl (Nat.le_of_ble_eq_true rfl) ⟨Nat.le_of_ble_eq_true rfl, Nat.le_of_ble_eq_true rfl⟩ (va_recv hE.1 hI0 (ci := 4) (q0 := 0) rfl rfl) hI0 dc_X8_taken_101 ?_
              refine lv_iload_n hx hb dc_X8_taken_104 rfl (lv_at hl 0 rfl) ?_
              refine lv_if_eq (tgt := 112) hx hb dc_X8_taken_105 (by decide) (fun _ => ?_) (fun c_7 => absurd c_7 (by decide))
              refine lv_iconst (v := 0) hx hb dc_X8_taken_112 (by decide) ?_
              refine lv_i2l (v := ((0 : Int32)).toInt64) hx hb dc_X8_taken_113 rfl ?_
              refine lv_ladd hx hb dc_X8_taken_114 ?_
              refine lv_lconst (v := 0) hx hb dc_X8_taken_115 (by decide) ?_
              obtain ⟨hq_8, hk⟩ := hk
              refine ky_cN0 (As := [.long ((fn_X8_whole v0) + (((0 : Int32)).toInt64)), .long ((0 : Int64))]) F hE (mt_X9_nearest l ((fn_X8_whole v0) + (((0 : Int32)).toInt64)) ((0 : Int64)) hq_8) kn_X8_84 ⟨⟨rfl, rfl⟩, by decide, by decide⟩ rfl hl.1 rfl (Nat.le_of_ble_eq_true rfl) ⟨Nat.le_of_ble_eq_true rfl, Nat.le_of_ble_eq_true rfl⟩ dc_X8_taken_116 ?_
              refine ky_cIh (As := [.int (v0.1), .long (fn_X9_nearest ((fn_X8_whole v0) + (((0 : Int32)).toInt64)) ((0 : Int64)))]) (wr := []) F (hE.at hfr hS) hfr (mt_X8_init l G (q_6) (v0.1) (fn_X9_nearest ((fn_X8_whole v0) + (((0 : Int32)).toInt64)) ((0 : Int64))) H.size ) kI_X8_33 ⟨⟨rfl, rfl⟩, by decide, by decide⟩ rfl hl.1 rfl (Nat.le_of_ble_eq_true rfl) ⟨Nat.le_of_ble_eq_true rfl, Nat.le_of_ble_eq_true rfl⟩ trivial hP hD hS hA [0] [] rfl rfl (by decide) (by decide) (by decide) dc_X8_taken_119 ?_
              rintro v9 u9 H locs ⟨rfl, rfl⟩ hP hD hS - hz hk9
              have hP : va_P G.1 kcl [(q_6, .inr (4, [.int (v0.1), .long (fn_X9_nearest ((fn_X8_whole v0) + (((0 : Int32)).toInt64)) ((0 : Int64)))]))] H := hP
              have hD : va_D A [(q_6, .inr (4, [.int (v0.1), .long (fn_X9_nearest ((fn_X8_whole v0) + (((0 : Int32)).toInt64)) ((0 : Int64)))]))] := hD
              have hI0 := ky_ro hX hna hS
              refine W.widen (k := 1) (n := 2) (Nat.le_refl _) (Nat.le_refl _) ?_
              have hP9 := hP.sub (ws' := []) [] rfl
              have hD9 := hD.sub (ws' := []) [] (by decide) rfl
              have hI9 := hP.sub (ws' := [(q_6, .inr (4, [.int (v0.1), .long (fn_X9_nearest ((fn_X8_whole v0) + (((0 : Int32)).toInt64)) ((0 : Int64)))]))]) [0] rfl
              have ho9 : q_6 = b0 ∨ sz ≤ q_6 := Or.inr (by have z := hD.2 0 _ rfl; rw [hAe] at z; rw [← hsz]; exact ky_fresh z)
              refine W.widen (k := 1) (n := 2) (Nat.le_of_ble_eq_true rfl) (Nat.le_of_ble_eq_true rfl) ?_
              exact W.aret (v := .ref q_6) hx hb hr (Or.inl ⟨_, rfl⟩) (Or.inr ⟨_, rfl⟩) (fun t ht hW => ⟨⟨_, q_6, rfl, rfl, by rw [ht]; exact hP9, hD9, by rw [hw, ht]; exact ky_itp hI9, ho9⟩, hS.F ht⟩) hS.2.2 dc_X8_taken_122
            · have hw := hw.trans (if_pos c_5)
              have hk := hk.1 c_5
              refine lv_iconst (v := 1) hx hb dc_X8_taken_49 (by decide) ?_
              refine lv_goto (tgt := 91) hx hb dc_X8_taken_50 (by decide) ?_
              refine lv_istore_n (lv' := [(3, .int ((1 : Int32))), (2, .int (fn_X8_behind v0)), (0, .ref b0), (1, .int (a1))]) hx hb dc_X8_taken_91 rfl hl (by decide) rfl (fun ls hl => ?_)
              refine va_new (ci := 4) (fs := [.int (0), .long (0)]) (C := RX8) (T := TX8) (N := 2) hx hb hts ki_X8 tyX8 tyX8_ok hown (hts _ kw_6_169) (hts _ kw_6_5) (hts _ kw_1_9) hE.1 hP hD hS hA rfl (fun j hj => by rcases (show j = 0 ∨ j = 1 by omega) with rfl | rfl <;> rfl) (Nat.le_of_ble_eq_true rfl) (Nat.le_of_ble_eq_true rfl) dc_X8_taken_92 (fun q_6 H hP hD hS => ?_)
              have hP : va_P G.1 kcl [(q_6, .inr (4, [.int (0), .long (0)]))] H := hP
              have hD : va_D A [(q_6, .inr (4, [.int (0), .long (0)]))] := hD
              have hI0 := ky_ro hX hna hS
              refine W.widen (k := 1) (n := 2) (Nat.le_refl _) (Nat.le_refl _) ?_
              refine lv_dup hx hb dc_X8_taken_95 rfl ?_
              refine lv_aload_n hx hb dc_X8_taken_96 rfl (lv_at hl 2 rfl) ?_
              refine va_get (D := G.1) (ci := 4) (v := .int (v0.1)) (C := RX8) (T := TX8) (N := 2) hx hb hts ki_X8 hown hE.1 hI0 0 rfl rfl 0 (by decide) (hts _ kw_6_10) (fun _ h9 => h9) rfl dc_X8_taken_97 ?_
              refine lv_aload_n hx hb dc_X8_taken_100 rfl (lv_at hl 2 rfl) ?_
              refine ky_cV1 (As := []) F (hE.at hfr hS) (mt_X8_whole l G (b0) (v0) ) kv_X8_42 ⟨⟨rfl, rfl⟩, by decide, by decide⟩ rfl hl.1 rfl (Nat.le_of_ble_eq_true rfl) ⟨Nat.le_of_ble_eq_true rfl, Nat.le_of_ble_eq_true rfl⟩ (va_recv hE.1 hI0 (ci := 4) (q0 := 0) rfl rfl) hI0 dc_X8_taken_101 ?_
              refine lv_iload_n hx hb dc_X8_taken_104 rfl (lv_at hl 0 rfl) ?_
              refine lv_if_eq (tgt := 112) hx hb dc_X8_taken_105 (by decide) (fun c_7 => absurd c_7 (by decide)) (fun _ => ?_)
              refine lv_iconst (v := 1) hx hb dc_X8_taken_108 (by decide) ?_
              refine lv_goto (tgt := 113) hx hb dc_X8_taken_109 (by decide) ?_
              refine lv_i2l (v := ((1 : Int32)).toInt64) hx hb dc_X8_taken_113 rfl ?_
              refine lv_ladd hx hb dc_X8_taken_114 ?_
              refine lv_lconst (v := 0) hx hb dc_X8_taken_115 (by decide) ?_
              obtain ⟨hq_8, hk⟩ := hk
              refine ky_cN0 (As := [.long ((fn_X8_whole v0) + (((1 : Int32)).toInt64)), .long ((0 : Int64))]) F hE (mt_X9_nearest l ((fn_X8_whole v0) + (((1 : Int32)).toInt64)) ((0 : Int64)) hq_8) kn_X8_84 ⟨⟨rfl, rfl⟩, by decide, by decide⟩ rfl hl.1 rfl (Nat.le_of_ble_eq_true rfl) ⟨Nat.le_of_ble_eq_true rfl, Nat.le_of_ble_eq_true rfl⟩ dc_X8_taken_116 ?_
              refine ky_cIh (As := [.int (v0.1), .long (fn_X9_nearest ((fn_X8_whole v0) + (((1 : Int32)).toInt64)) ((0 : Int64)))]) (wr := []) F (hE.at hfr hS) hfr (mt_X8_init l G (q_6) (v0.1) (fn_X9_nearest ((fn_X8_whole v0) + (((1 : Int32)).toInt64)) ((0 : Int64))) H.size ) kI_X8_33 ⟨⟨rfl, rfl⟩, by decide, by decide⟩ rfl hl.1 rfl (Nat.le_of_ble_eq_true rfl) ⟨Nat.le_of_ble_eq_true rfl, Nat.le_of_ble_eq_true rfl⟩ trivial hP hD hS hA [0] [] rfl rfl (by decide) (by decide) (by decide) dc_X8_taken_119 ?_
              rintro v9 u9 H locs ⟨rfl, rfl⟩ hP hD hS - hz hk9
              have hP : va_P G.1 kcl [(q_6, .inr (4, [.int (v0.1), .long (fn_X9_nearest ((fn_X8_whole v0) + (((1 : Int32)).toInt64)) ((0 : Int64)))]))] H := hP
              have hD : va_D A [(q_6, .inr (4, [.int (v0.1), .long (fn_X9_nearest ((fn_X8_whole v0) + (((1 : Int32)).toInt64)) ((0 : Int64)))]))] := hD
              have hI0 := ky_ro hX hna hS
              refine W.widen (k := 1) (n := 2) (Nat.le_refl _) (Nat.le_refl _) ?_
              have hP9 := hP.sub (ws' := []) [] rfl
              have hD9 := hD.sub (ws' := []) [] (by decide) rfl
              have hI9 := hP.sub (ws' := [(q_6, .inr (4, [.int (v0.1), .long (fn_X9_nearest ((fn_X8_whole v0) + (((1 : Int32)).toInt64)) ((0 : Int64)))]))]) [0] rfl
              have ho9 : q_6 = b0 ∨ sz ≤ q_6 := Or.inr (by have z := hD.2 0 _ rfl; rw [hAe] at z; rw [← hsz]; exact ky_fresh z)
              refine W.widen (k := 1) (n := 2) (Nat.le_of_ble_eq_true rfl) (Nat.le_of_ble_eq_true rfl) ?_
              exact W.aret (v := .ref q_6) hx hb hr (Or.inl ⟨_, rfl⟩) (Or.inr ⟨_, rfl⟩) (fun t ht hW => ⟨⟨_, q_6, rfl, rfl, by rw [ht]; exact hP9, hD9, by rw [hw, ht]; exact ky_itp hI9, ho9⟩, hS.F ht⟩) hS.2.2 dc_X8_taken_122
    · have hw := hw.trans (if_neg c_1)
      have hk := hk.2 c_1
      refine lv_aload_n hx hb dc_X8_taken_14 rfl (lv_at hl 0 rfl) ?_
      have hP9 := hP.sub (ws' := []) [] rfl
      have hD9 := hD.sub (ws' := []) [] (by decide) rfl
      refine W.widen (k := 1) (n := 2) (Nat.le_of_ble_eq_true rfl) (Nat.le_of_ble_eq_true rfl) ?_
      exact W.aret (v := .ref b0) hx hb hr (Or.inl ⟨_, rfl⟩) (Or.inr ⟨_, rfl⟩) (fun t ht hW => ⟨⟨_, b0, rfl, rfl, by rw [ht]; exact hP9, hD9, by rw [hw, ht]; exact hI0, (Or.inl rfl)⟩, hS.F ht⟩) hS.2.2 dc_X8_taken_15
end
section
section KYS
variable {p : Program} {l : Launch} {e : Env} {R : Room} {s : State} {m : MethodId} {args : Array Value} {below : List Frame} {meth : Method} {c : Code} {H : Heap} {locs : List Loc} {cells slots : Nat} {Q : State → Prop}
variable {cc : ByteArray} {pc : Nat} {ls : Array Slot} {rest : List Value} {A : Nat → Prop} {G : ky_G} {ws : va_W}
/-- a number's object goes into the row of references; the object itself needn't be the method's own -/
theorem ky_astI (hx : p.tables.exec = Jvm.exec) (hb : c.code = cc) (hE1 : va_K G.1 kcl (ky_tys G.2.1) s) (hP : va_P G.1 kcl ws H) (hD : va_D A ws) (hS : va_S A s.heap H locs) (q0 : Nat) {a v n : Nat} {f : Nat → Option Nat} {vv : Int32 × Int64} {i : Int32}
    (ha : ws[q0]? = some (a, .inl (G.2.1 3, n, .inr (.inr (.inr (.inr f)))))) (hv : ky_It G v vv H) (hin : vp_in i n) (hdg : decode cc pc = .ok (.aastore, 1))
    (kk : ∀ (H1 : Heap) (locs1 : List Loc), va_P G.1 kcl (ws.set q0 (a, .inl (G.2.1 3, n, .inr (.inr (.inr (.inr (va_up f i.toNatClampNeg (some v)))))))) H1 → va_D A (ws.set q0 (a, .inl (G.2.1 3, n, .inr (.inr (.inr (.inr (va_up f i.toNatClampNeg (some v)))))))) → va_S A s.heap H1 locs1 →
      W p l e R s m args below meth c H1 locs1 cells slots Q (F0 m (pc + 1) ls rest)) : W p l e R s m args below meth c H locs cells slots Q (F0 m pc ls (.ref v :: .int i :: .ref a :: rest)) := by
  obtain ⟨r, hr, cellV, g1, g2, g3, -⟩ := hv 0 _ rfl
  have hI : kcl[4]? = some (RX8, TX8, 2) := rfl
  have hr' : r = (RX8, TX8, 2) := Option.some.inj (hr.symm.trans hI)
  subst hr'
  have hKn := (hE1.1 4 _ hI).2
  obtain ⟨kA, comp, k1, k2, k3, -⟩ := (hE1.2 3 (G.2.1 3, .object "ExactdoublesModel$Its") rfl).2
  have hcomp : comp = G.1.1 4 := Option.some.inj (k3.symm.trans hKn.1)
  subst hcomp
  obtain ⟨kC, hkC, -⟩ := hKn.2
  have hle : i.toNatClampNeg < n := Nat.not_le.mp (fun z => hin (Or.inr z))
  have hz : (arrV (G.2.1 3) n (fun j => va_rf (f j))).slots.size = n := arrV_size _ _ _
  refine W.aast hx hb (cell := vp_cell (G.2.1 3) (n, .inr (.inr (.inr (.inr f))))) (hP q0 _ ha) (fun q h => by cases h) (fun h => by cases h) k1 k2 rfl hkC ⟨fun z => hin (Or.inl z), by show _ < (arrV (G.2.1 3) n (fun j => va_rf (f j))).slots.size; rw [hz]; exact hle⟩ g1 (fun q h => by rw [g3] at h; cases h) (by rw [g2]; exact hkC) (by rw [g2]; exact va_assign hKn) rfl rfl hdg (fun H1 e1 z1 oq => ?_)
  refine kk H1 _ (hP.set hD ha ?_ oq) (hD.set ha) (hS.put z1 oq (hD.2 q0 _ ha))
  have e2 : vp_cell (G.2.1 3) (n, .inr (.inr (.inr (.inr (va_up f i.toNatClampNeg (some v)))))) = (vp_cell (G.2.1 3) (n, .inr (.inr (.inr (.inr f))))).setSlot i.toNatClampNeg (.ref v) := by
    rw [vp_cell_q, vp_cell_q, arrV_store]
    refine congrArg (arrV (G.2.1 3) n) (funext fun j => ?_)
    by_cases hj : j = i.toNatClampNeg <;> simp [updV, va_up, va_rf, hj]
  show H1[a]? = some (vp_cell _ _)
  rw [e2]
  exact e1
end KYS
end
section
/-! the model's world: the object, the row of references; the numbers' objects behind it, which never change -/
abbrev ky_MV : Type := Int32 × Int32 × Int32 × Int32 × (Nat → Int32 × Int64)
abbrev ky_WM (G : ky_G) (m cs : Nat) (w : ky_MV) (f : Nat → Option Nat) : va_W := [(m, .inr (5, [.int w.1, .ref cs, .int w.2.1, .int w.2.2.1, .int w.2.2.2.1])), (cs, .inl (G.2.1 3, 6, .inr (.inr (.inr (.inr f)))))]
def ky_ok (m cs : Nat) (N : Nat → Prop) (q : Nat) : Prop := q ≠ m ∧ q ≠ cs ∧ ¬ N q
def ky_IT (G : ky_G) (m cs : Nat) (N : Nat → Prop) (f : Nat → Option Nat) (vs : Nat → Int32 × Int64) (H : Heap) : Prop := (∀ q, N q → q < H.size) ∧ ∀ j, j < 6 → ∃ a, f j = some a ∧ ky_It G a (vs j) H ∧ ky_ok m cs N a
theorem ky_IT.keep {G : ky_G} {m cs : Nat} {N : Nat → Prop} {f : Nat → Option Nat} {vs : Nat → Int32 × Int64} {H H1 : Heap} (h : ky_IT G m cs N f vs H) (hz : H.size ≤ H1.size) (hk : ∀ q : Nat, ky_ok m cs N q → q < H.size → H1[q]? = H[q]?) : ky_IT G m cs N f vs H1 :=
  ⟨fun q hq => Nat.lt_of_lt_of_le (h.1 q hq) hz, fun j hj => by
    obtain ⟨a, h1, h2, h3⟩ := h.2 j hj
    exact ⟨a, h1, h2.keep (hk a h3 h2.low), h3⟩⟩
theorem ky_nwc {G : ky_G} {m cs : Nat} {N : Nat → Prop} {w : ky_MV} {f : Nat → Option Nat} {n q : Nat} (h : ky_ok m cs N q) (hl : q < n) : ¬ va_A (ky_WM G m cs w f) n q := by
  rintro (⟨k, e, z⟩ | z)
  · match k, z with
    | 0, z => simp [ky_WM] at z; exact h.1 z.1.symm
    | 1, z => simp [ky_WM] at z; exact h.2.1 z.1.symm
    | k + 2, z => simp [ky_WM] at z
  · omega
theorem ky_nemp {n q : Nat} (hl : q < n) : ¬ va_A [] n q := ky_nfresh hl
theorem ky_ok.new {m cs : Nat} {N : Nat → Prop} {q n : Nat} (hm : m < n) (hc : cs < n) (hN : ∀ q, N q → q < n) (h : n ≤ q) : ky_ok m cs N q := ⟨by omega, by omega, fun z => absurd (hN q z) (Nat.not_lt.mpr h)⟩
theorem ky_ok.or {m cs : Nat} {N : Nat → Prop} {q r n : Nat} (hr : ky_ok m cs N r) (hm : m < n) (hc : cs < n) (hN : ∀ q, N q → q < n) (h : q = r ∨ n ≤ q) : ky_ok m cs N q := by
  rcases h with rfl | h
  · exact hr
  · exact ky_ok.new hm hc hN h
theorem ky_i6 {i : Int32} (h : vp_in i 6) : i.toNatClampNeg < 6 := Nat.not_le.mp fun q => h (Or.inr q)
def ky_vu (vs : Nat → Int32 × Int64) (i : Nat) (v : Int32 × Int64) : Nat → Int32 × Int64 := fun j => if j = i then v else vs j
theorem ky_IT.put {G : ky_G} {m cs : Nat} {N : Nat → Prop} {f : Nat → Option Nat} {vs : Nat → Int32 × Int64} {H : Heap} (h : ky_IT G m cs N f vs H) {q i : Nat} {v : Int32 × Int64} (hq : ky_It G q v H) (ho : ky_ok m cs N q) : ky_IT G m cs N (va_up f i (some q)) (ky_vu vs i v) H :=
  ⟨h.1, fun j hj => by
    by_cases e : j = i
    · exact ⟨q, by simp [va_up, e], by simpa [ky_vu, e] using hq, ho⟩
    · obtain ⟨a, h1, h2, h3⟩ := h.2 j hj
      exact ⟨a, by simp [va_up, e, h1], by simpa [ky_vu, e] using h2, h3⟩⟩
theorem ky_IT.ro {G : ky_G} {m cs : Nat} {N : Nat → Prop} {w0 : ky_MV} {f0 f : Nat → Option Nat} {vs : Nat → Int32 × Int64} {s : State} {A : Nat → Prop} {H : Heap} {locs : List Loc} (h : ky_IT G m cs N f vs s.heap) (hA : A = va_A (ky_WM G m cs w0 f0) s.heap.size) (hS : va_S A s.heap H locs) : ky_IT G m cs N f vs H :=
  h.keep hS.1 (fun q ho hl => hS.2.1 q hl (by rw [hA]; exact ky_nwc ho hl))
theorem ky_ro2 {G : ky_G} {m cs : Nat} {N : Nat → Prop} {w0 : ky_MV} {f0 : Nat → Option Nat} {a : Nat} {v : Int32 × Int64} {s : State} {A : Nat → Prop} {H : Heap} {locs : List Loc} (h : ky_It G a v s.heap) (ho : ky_ok m cs N a) (hA : A = va_A (ky_WM G m cs w0 f0) s.heap.size) (hS : va_S A s.heap H locs) : ky_It G a v H :=
  h.keep (hS.2.1 a h.low (by rw [hA]; exact ky_nwc ho h.low))
theorem ky_endM {G : ky_G} {A : Nat → Prop} {m cs : Nat} {N : Nat → Prop} {ρ : Type} {fn : ρ × ky_MV} {w' : ky_MV} {f' : Nat → Option Nat} {H : Heap} (mk : ρ → Option Value) (e : ρ) (hw : fn = (e, w')) (hP : va_P G.1 kcl (ky_WM G m cs w' f') H) (hD : va_D A (ky_WM G m cs w' f')) (hIT : ky_IT G m cs N f' w'.2.2.2.2 H) :
    ∃ (v : Option Value) (u : ky_MV × (Nat → Option Nat)), Outcome.returned (mk e) = .returned v ∧ (v = mk fn.1 ∧ u.1 = fn.2) ∧ va_P G.1 kcl (ky_WM G m cs u.1 u.2) H ∧ va_D A (ky_WM G m cs u.1 u.2) ∧ ky_IT G m cs N u.2 u.1.2.2.2.2 H :=
  ⟨_, (w', f'), rfl, ⟨by rw [hw], by rw [hw]⟩, hP, hD, hIT⟩
theorem ky_ok.own {G : ky_G} {m cs : Nat} {N : Nat → Prop} {w0 : ky_MV} {f0 : Nat → Option Nat} {A : Nat → Prop} {n : Nat} {ws : va_W} {em ec eq : va_E} {q : Nat} (hA : A = va_A (ky_WM G m cs w0 f0) n) (hN : ∀ q, N q → q < n) (hD : va_D A ws) (im ic iq : Nat) (hm : ws[im]? = some (m, em)) (hc : ws[ic]? = some (cs, ec)) (hq : ws[iq]? = some (q, eq)) (h1 : iq ≠ im) (h2 : iq ≠ ic) : ky_ok m cs N q := by
  have n1 : q ≠ m := fun z => h1 (hD.1 iq im _ _ hq hm z)
  have n2 : q ≠ cs := fun z => h2 (hD.1 iq ic _ _ hq hc z)
  have hz := hD.2 iq _ hq
  rw [hA] at hz
  rcases hz with ⟨k, e, z⟩ | z
  · match k, z with
    | 0, z => simp [ky_WM] at z; exact absurd z.1.symm n1
    | 1, z => simp [ky_WM] at z; exact absurd z.1.symm n2
    | k + 2, z => simp [ky_WM] at z
  · exact ⟨n1, n2, fun y => absurd (hN q y) (Nat.not_lt.mpr z)⟩
/-- the model's numbers, without its cells -/
abbrev ky_MQ : Type := Int32 × Int32 × Int32 × Int32
abbrev ky_WQ (G : ky_G) (m cs : Nat) (t : ky_MQ) (f : Nat → Option Nat) : va_W := [(m, .inr (5, [.int t.1, .ref cs, .int t.2.1, .int t.2.2.1, .int t.2.2.2])), (cs, .inl (G.2.1 3, 6, .inr (.inr (.inr (.inr f)))))]
end
