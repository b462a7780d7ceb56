def fn_X8_init (a1 : Int32) (a2 : Int64) : Unit × Unit :=
  ((), ())
set_option linter.constructorNameAsVariable false in
set_option maxHeartbeats 4000000 in
set_option maxRecDepth 100000 in
theorem mt_X8_init (l : Launch) (G : ky_G) (x : Nat) (a1 : Int32) (a2 : Int64) (sz : Nat)  : Met l my_X8_init (.code my_X8_init prog_11_method_1_code 4 none :: ky_B) { frames := 1, cells := 0, slots := 0, locals := 12 } (ky_P G [.ref x, .int (a1), .long (a2)] ([(x, .inr (4, [.int 0, .long 0]))]) sz (fun _ => True)) (ky_Q (S := Unit) G (va_A ([(x, .inr (4, [.int 0, .long 0]))]) sz) (fun v u9 => v = none ∧ u9 = (fn_X8_init a1 a2).2) (fun _ => [(x, .inr (4, [.int a1, .long a2]))]) (fun _ _ => True)) 0 0 (va_A ([(x, .inr (4, [.int 0, .long 0]))]) sz) := by
  refine ky_startI (by decide) (Nat.le_of_ble_eq_true rfl) (fun p e s m below meth c hin F hE A hAe hsz hA hfr hP hD hS hX ls hl => ?_)
  obtain ⟨hx, hb, hml, hown, hr, hlocks, hts⟩ := id F
  have hl : lv_has ls 4 [(0, .ref x), (1, .int (a1)), (2, .long (a2))] := hl
  have hP : va_P G.1 kcl [(x, .inr (4, [.int (0), .long (0)]))] s.heap := hP
  have hD : va_D A [(x, .inr (4, [.int (0), .long (0)]))] := hD
  have hw : fn_X8_init a1 a2 = _ := fn_X8_init.eq_1 a1 a2
  refine lv_aload_n hx hb dc_X8_init_0 rfl (lv_at hl 0 rfl) ?_
  refine W.objInit hx hb hown (hts _ kw_6_9) (hts _ kw_1_36) (hts _ kw_1_37) rfl (by rw [hml]; exact hl.1) rfl dc_X8_init_1 (Nat.le_of_ble_eq_true rfl) (Nat.le_of_ble_eq_true rfl) ?_
  refine W.eq (g2 := F0 m 4 ls []) rfl ?_
  refine lv_aload_n hx hb dc_X8_init_4 rfl (lv_at hl 0 rfl) ?_
  refine lv_iload_n hx hb dc_X8_init_5 rfl (lv_at hl 1 rfl) ?_
  refine va_putF (D := G.1) (ci := 4) (v := .int (a1)) (ty := .int) (C := RX8) (T := TX8) (N := 2) hx hb hts ki_X8 tyX8 tyX8_ok nmX8 hown hE.1 hP hD hS 0 rfl rfl 0 (by decide) (hts _ kw_6_10) (fun _ h9 => h9) rfl hin rfl (by decide +kernel) rfl rfl (Nat.le_of_ble_eq_true rfl) dc_X8_init_6 (fun H locs hP hD hS => ?_)
  have hP : va_P G.1 kcl [(x, .inr (4, [.int (a1), .long (0)]))] H := hP
  have hD : va_D A [(x, .inr (4, [.int (a1), .long (0)]))] := hD
  refine lv_aload_n hx hb dc_X8_init_9 rfl (lv_at hl 0 rfl) ?_
  refine lv_lload_n hx hb dc_X8_init_10 rfl (lv_at hl 2 rfl) ?_
  refine va_putF (D := G.1) (ci := 4) (v := .long (a2)) (ty := .long) (C := RX8) (T := TX8) (N := 2) hx hb hts ki_X8 tyX8 tyX8_ok nmX8 hown hE.1 hP hD hS 0 rfl rfl 1 (by decide) (hts _ kw_6_12) (fun _ h9 => h9) rfl hin rfl (by decide +kernel) rfl rfl (Nat.le_of_ble_eq_true rfl) dc_X8_init_11 (fun H locs hP hD hS => ?_)
  have hP : va_P G.1 kcl [(x, .inr (4, [.int (a1), .long (a2)]))] H := hP
  have hD : va_D A [(x, .inr (4, [.int (a1), .long (a2)]))] := hD
  have hP9 := hP.sub (ws' := [(x, .inr (4, [.int (a1), .long (a2)]))]) [0] rfl
  have hD9 := hD.sub (ws' := [(x, .inr (4, [.int (a1), .long (a2)]))]) [0] (by decide) rfl
  refine W.widen (k := 0) (n := 0) (Nat.le_of_ble_eq_true rfl) (Nat.le_of_ble_eq_true rfl) ?_
  exact W.vret hx hb hr (fun t ht hW => ⟨⟨_, (), rfl, ky_pv hw, by rw [ht]; exact hP9, hD9, trivial⟩, hS.F ht⟩) hS.2.2 dc_X8_init_14
def fn_X8_turned  (v0 : Int32 × Int64) : Int32 × Int64 :=
  (((1 : Int32)) - (v0.1), v0.2)
set_option linter.constructorNameAsVariable false in
set_option maxHeartbeats 4000000 in
set_option maxRecDepth 100000 in
theorem mt_X8_turned (l : Launch) (G : ky_G) (b0 : Nat) (v0 : Int32 × Int64)  (sz : Nat) : Met l my_X8_turned (.code my_X8_turned prog_11_method_10_code 1 (some (.object "ExactdoublesModel$Its")) :: ky_B) { frames := 2, cells := 1, slots := 2, locals := 35 } (ky_P G [.ref b0] [] sz (fun H => ky_It G b0 v0 H)) (ky_Q (S := Nat) G (va_A [] sz) (fun v u => v = some (.ref u)) (fun _ => []) (fun u H => ky_It G u (fn_X8_turned v0) H ∧ (u = b0 ∨ sz ≤ u))) 1 2 (va_A [] sz) := by
  refine ky_start (by decide) (Nat.le_of_ble_eq_true rfl) (fun p e s m below meth c F hE A hAe hsz hA hfr hP hD hS hX ls hl => ?_)
  obtain ⟨hx, hb, hml, hown, hr, hlocks, hts⟩ := id F
  have hna : ¬ A b0 := by rw [hAe]; exact ky_nfresh hX.low
  have hI0 := hX
  have hl : lv_has ls 1 [(0, .ref b0)] := hl
  have hw : fn_X8_turned v0 = _ := fn_X8_turned.eq_1 v0
  refine va_new (ci := 4) (fs := [.int (0), .long (0)]) (C := RX8) (T := TX8) (N := 2) hx hb hts ki_X8 tyX8 tyX8_ok hown (hts _ kw_6_165) (hts _ kw_6_5) (hts _ kw_1_9) hE.1 hP hD hS hA rfl (fun j hj => by rcases (show j = 0 ∨ j = 1 by omega) with rfl | rfl <;> rfl) (Nat.le_of_ble_eq_true rfl) (Nat.le_of_ble_eq_true rfl) dc_X8_turned_0 (fun q_0 H hP hD hS => ?_)
  have hP : va_P G.1 kcl [(q_0, .inr (4, [.int (0), .long (0)]))] H := hP
  have hD : va_D A [(q_0, .inr (4, [.int (0), .long (0)]))] := hD
  have hI0 := ky_ro hX hna hS
  refine W.widen (k := 1) (n := 2) (Nat.le_refl _) (Nat.le_refl _) ?_
  refine lv_dup hx hb dc_X8_turned_3 rfl ?_
  refine lv_iconst (v := 1) hx hb dc_X8_turned_4 (by decide) ?_
  refine lv_aload_n hx hb dc_X8_turned_5 rfl (lv_at hl 0 rfl) ?_
  refine va_get (D := G.1) (ci := 4) (v := .int (v0.1)) (C := RX8) (T := TX8) (N := 2) hx hb hts ki_X8 hown hE.1 hI0 0 rfl rfl 0 (by decide) (hts _ kw_6_10) (fun _ h9 => h9) rfl dc_X8_turned_6 ?_
  refine lv_isub hx hb dc_X8_turned_9 ?_
  refine lv_aload_n hx hb dc_X8_turned_10 rfl (lv_at hl 0 rfl) ?_
  refine va_get (D := G.1) (ci := 4) (v := .long (v0.2)) (C := RX8) (T := TX8) (N := 2) hx hb hts ki_X8 hown hE.1 hI0 0 rfl rfl 1 (by decide) (hts _ kw_6_12) (fun _ h9 => h9) rfl dc_X8_turned_11 ?_
  refine ky_cIh (As := [.int (((1 : Int32)) - (v0.1)), .long (v0.2)]) (wr := []) F (hE.at hfr hS) hfr (mt_X8_init l G (q_0) (((1 : Int32)) - (v0.1)) (v0.2) H.size ) kI_X8_33 ⟨⟨rfl, rfl⟩, by decide, by decide⟩ rfl hl.1 rfl (Nat.le_of_ble_eq_true rfl) ⟨Nat.le_of_ble_eq_true rfl, Nat.le_of_ble_eq_true rfl⟩ trivial hP hD hS hA [0] [] rfl rfl (by decide) (by decide) (by decide) dc_X8_turned_14 ?_
  rintro v9 u9 H locs ⟨rfl, rfl⟩ hP hD hS - hz hk9
  have hP : va_P G.1 kcl [(q_0, .inr (4, [.int (((1 : Int32)) - (v0.1)), .long (v0.2)]))] H := hP
  have hD : va_D A [(q_0, .inr (4, [.int (((1 : Int32)) - (v0.1)), .long (v0.2)]))] := hD
  have hI0 := ky_ro hX hna hS
  refine W.widen (k := 1) (n := 2) (Nat.le_refl _) (Nat.le_refl _) ?_
  have hP9 := hP.sub (ws' := []) [] rfl
  have hD9 := hD.sub (ws' := []) [] (by decide) rfl
  have hI9 := hP.sub (ws' := [(q_0, .inr (4, [.int (((1 : Int32)) - (v0.1)), .long (v0.2)]))]) [0] rfl
  have ho9 : q_0 = b0 ∨ sz ≤ q_0 := Or.inr (by have z := hD.2 0 _ rfl; rw [hAe] at z; rw [← hsz]; exact ky_fresh z)
  refine W.widen (k := 1) (n := 2) (Nat.le_of_ble_eq_true rfl) (Nat.le_of_ble_eq_true rfl) ?_
  exact W.aret (v := .ref q_0) hx hb hr (Or.inl ⟨_, rfl⟩) (Or.inr ⟨_, rfl⟩) (fun t ht hW => ⟨⟨_, q_0, rfl, rfl, by rw [ht]; exact hP9, hD9, by rw [hw, ht]; exact ky_itp hI9, ho9⟩, hS.F ht⟩) hS.2.2 dc_X8_turned_17
def fn_X8_up  (v0 : Int32 × Int64) : Int32 × Int64 :=
  if (v0.1) = (0 : Int32) then (if (fn_X8_isEndless v0) = (0 : Int32) then (((0 : Int32), (v0.2) + ((1 : Int64)))) else (v0)) else (if (lg_cmp (v0.2) ((0 : Int64))) = (0 : Int32) then (((0 : Int32), (1 : Int64))) else (((1 : Int32), (v0.2) - ((1 : Int64)))))
set_option linter.constructorNameAsVariable false in
set_option maxHeartbeats 4000000 in
set_option maxRecDepth 100000 in
theorem mt_X8_up (l : Launch) (G : ky_G) (b0 : Nat) (v0 : Int32 × Int64)  (sz : Nat) : Met l my_X8_up (.code my_X8_up prog_11_method_17_code 1 (some (.object "ExactdoublesModel$Its")) :: ky_B) { frames := 2, cells := 1, slots := 2, locals := 35 } (ky_P G [.ref b0] [] sz (fun H => ky_It G b0 v0 H)) (ky_Q (S := Nat) G (va_A [] sz) (fun v u => v = some (.ref u)) (fun _ => []) (fun u H => ky_It G u (fn_X8_up v0) H ∧ (u = b0 ∨ sz ≤ u))) 1 2 (va_A [] sz) := by
  refine ky_start (by decide) (Nat.le_of_ble_eq_true rfl) (fun p e s m below meth c F hE A hAe hsz hA hfr hP hD hS hX ls hl => ?_)
  obtain ⟨hx, hb, hml, hown, hr, hlocks, hts⟩ := id F
  have hna : ¬ A b0 := by rw [hAe]; exact ky_nfresh hX.low
  have hI0 := hX
  have hl : lv_has ls 1 [(0, .ref b0)] := hl
  have hw : fn_X8_up v0 = _ := fn_X8_up.eq_1 v0
  refine lv_aload_n hx hb dc_X8_up_0 rfl (lv_at hl 0 rfl) ?_
  refine va_get (D := G.1) (ci := 4) (v := .int (v0.1)) (C := RX8) (T := TX8) (N := 2) hx hb hts ki_X8 hown hE.1 hI0 0 rfl rfl 0 (by decide) (hts _ kw_6_10) (fun _ h9 => h9) rfl dc_X8_up_1 ?_
  refine lv_if_ne (tgt := 33) hx hb dc_X8_up_4 (by decide) (fun c_0 => ?_) (fun c_0 => ?_)
  · have hw := hw.trans (if_neg c_0)
    refine lv_aload_n hx hb dc_X8_up_33 rfl (lv_at hl 0 rfl) ?_
    refine va_get (D := G.1) (ci := 4) (v := .long (v0.2)) (C := RX8) (T := TX8) (N := 2) hx hb hts ki_X8 hown hE.1 hI0 0 rfl rfl 1 (by decide) (hts _ kw_6_12) (fun _ h9 => h9) rfl dc_X8_up_34 ?_
    refine lv_lconst (v := 0) hx hb dc_X8_up_37 (by decide) ?_
    refine W.lcmp hx hb dc_X8_up_38 ?_
    refine lv_if_ne (tgt := 54) hx hb dc_X8_up_39 (by decide) (fun c_1 => ?_) (fun c_1 => ?_)
    · have hw := hw.trans (if_neg c_1)
      refine va_new (ci := 4) (fs := [.int (0), .long (0)]) (C := RX8) (T := TX8) (N := 2) hx hb hts ki_X8 tyX8 tyX8_ok hown (hts _ kw_6_165) (hts _ kw_6_5) (hts _ kw_1_9) hE.1 hP hD hS hA rfl (fun j hj => by rcases (show j = 0 ∨ j = 1 by omega) with rfl | rfl <;> rfl) (Nat.le_of_ble_eq_true rfl) (Nat.le_of_ble_eq_true rfl) dc_X8_up_54 (fun q_2 H hP hD hS => ?_)
      have hP : va_P G.1 kcl [(q_2, .inr (4, [.int (0), .long (0)]))] H := hP
      have hD : va_D A [(q_2, .inr (4, [.int (0), .long (0)]))] := hD
      have hI0 := ky_ro hX hna hS
      refine W.widen (k := 1) (n := 2) (Nat.le_refl _) (Nat.le_refl _) ?_
      refine lv_dup hx hb dc_X8_up_57 rfl ?_
      refine lv_iconst (v := 1) hx hb dc_X8_up_58 (by decide) ?_
      refine lv_aload_n hx hb dc_X8_up_59 rfl (lv_at hl 0 rfl) ?_
      refine va_get (D := G.1) (ci := 4) (v := .long (v0.2)) (C := RX8) (T := TX8) (N := 2) hx hb hts ki_X8 hown hE.1 hI0 0 rfl rfl 1 (by decide) (hts _ kw_6_12) (fun _ h9 => h9) rfl dc_X8_up_60 ?_
      refine lv_lconst (v := 1) hx hb dc_X8_up_63 (by decide) ?_
      refine lv_lsub hx hb dc_X8_up_64 ?_
      refine ky_cIh (As := [.int ((1 : Int32)), .long ((v0.2) - ((1 : Int64)))]) (wr := []) F (hE.at hfr hS) hfr (mt_X8_init l G (q_2) ((1 : Int32)) ((v0.2) - ((1 : Int64))) H.size ) kI_X8_33 ⟨⟨rfl, rfl⟩, by decide, by decide⟩ rfl hl.1 rfl (Nat.le_of_ble_eq_true rfl) ⟨Nat.le_of_ble_eq_true rfl, Nat.le_of_ble_eq_true rfl⟩ trivial hP hD hS hA [0] [] rfl rfl (by decide) (by decide) (by decide) dc_X8_up_65 ?_
      rintro v9 u9 H locs ⟨rfl, rfl⟩ hP hD hS - hz hk9
      have hP : va_P G.1 kcl [(q_2, .inr (4, [.int ((1 : Int32)), .long ((v0.2) - ((1 : Int64)))]))] H := hP
      have hD : va_D A [(q_2, .inr (4, [.int ((1 : Int32)), .long ((v0.2) - ((1 : Int64)))]))] := hD
      have hI0 := ky_ro hX hna hS
      refine W.widen (k := 1) (n := 2) (Nat.le_refl _) (Nat.le_refl _) ?_
      have hP9 := hP.sub (ws' := []) [] rfl
      have hD9 := hD.sub (ws' := []) [] (by decide) rfl
      have hI9 := hP.sub (ws' := [(q_2, .inr (4, [.int ((1 : Int32)), .long ((v0.2) - ((1 : Int64)))]))]) [0] rfl
      have ho9 : q_2 = b0 ∨ sz ≤ q_2 := Or.inr (by have z := hD.2 0 _ rfl; rw [hAe] at z; rw [← hsz]; exact ky_fresh z)
      refine W.widen (k := 1) (n := 2) (Nat.le_of_ble_eq_true rfl) (Nat.le_of_ble_eq_true rfl) ?_
      exact W.aret (v := .ref q_2) hx hb hr (Or.inl ⟨_, rfl⟩) (Or.inr ⟨_, rfl⟩) (fun t ht hW => ⟨⟨_, q_2, rfl, rfl, by rw [ht]; exact hP9, hD9, by rw [hw, ht]; exact ky_itp hI9, ho9⟩, hS.F ht⟩) hS.2.2 dc_X8_up_68
    · have hw := hw.trans (if_pos c_1)
      refine va_new (ci := 4) (fs := [.int (0), .long (0)]) (C := RX8) (T := TX8) (N := 2) hx hb hts ki_X8 tyX8 tyX8_ok hown (hts _ kw_6_165) (hts _ kw_6_5) (hts _ kw_1_9) hE.1 hP hD hS hA rfl (fun j hj => by rcases (show j = 0 ∨ j = 1 by omega) with rfl | rfl <;> rfl) (Nat.le_of_ble_eq_true rfl) (Nat.le_of_ble_eq_true rfl) dc_X8_up_42 (fun q_2 H hP hD hS => ?_)
      have hP : va_P G.1 kcl [(q_2, .inr (4, [.int (0), .long (0)]))] H := hP
      have hD : va_D A [(q_2, .inr (4, [.int (0), .long (0)]))] := hD
      have hI0 := ky_ro hX hna hS
      refine W.widen (k := 1) (n := 2) (Nat.le_refl _) (Nat.le_refl _) ?_
      refine lv_dup hx hb dc_X8_up_45 rfl ?_
      refine lv_iconst (v := 0) hx hb dc_X8_up_46 (by decide) ?_
      refine lv_lconst (v := 1) hx hb dc_X8_up_47 (by decide) ?_
      refine ky_cIh (As := [.int ((0 : Int32)), .long ((1 : Int64))]) (wr := []) F (hE.at hfr hS) hfr (mt_X8_init l G (q_2) ((0 : Int32)) ((1 : Int64)) H.size ) kI_X8_33 ⟨⟨rfl, rfl⟩, by decide, by decide⟩ rfl hl.1 rfl (Nat.le_of_ble_eq_true rfl) ⟨Nat.le_of_ble_eq_true rfl, Nat.le_of_ble_eq_true rfl⟩ trivial hP hD hS hA [0] [] rfl rfl (by decide) (by decide) (by decide) dc_X8_up_48 ?_
      rintro v9 u9 H locs ⟨rfl, rfl⟩ hP hD hS - hz hk9
      have hP : va_P G.1 kcl [(q_2, .inr (4, [.int ((0 : Int32)), .long ((1 : Int64))]))] H := hP
      have hD : va_D A [(q_2, .inr (4, [.int ((0 : Int32)), .long ((1 : Int64))]))] := hD
      have hI0 := ky_ro hX hna hS
      refine W.widen (k := 1) (n := 2) (Nat.le_refl _) (Nat.le_refl _) ?_
      refine lv_goto (tgt := 68) hx hb dc_X8_up_51 (by decide) ?_
      have hP9 := hP.sub (ws' := []) [] rfl
      have hD9 := hD.sub (ws' := []) [] (by decide) rfl
      have hI9 := hP.sub (ws' := [(q_2, .inr (4, [.int ((0 : Int32)), .long ((1 : Int64))]))]) [0] rfl
      have ho9 : q_2 = b0 ∨ sz ≤ q_2 := Or.inr (by have z := hD.2 0 _ rfl; rw [hAe] at z; rw [← hsz]; exact ky_fresh z)
      refine W.widen (k := 1) (n := 2) (Nat.le_of_ble_eq_true rfl) (Nat.le_of_ble_eq_true rfl) ?_
      exact W.aret (v := .ref q_2) hx hb hr (Or.inl ⟨_, rfl⟩) (Or.inr ⟨_, rfl⟩) (fun t ht hW => ⟨⟨_, q_2, rfl, rfl, by rw [ht]; exact hP9, hD9, by rw [hw, ht]; exact ky_itp hI9, ho9⟩, hS.F ht⟩) hS.2.2 dc_X8_up_68
  · have hw := hw.trans (if_pos c_0)
    refine lv_aload_n hx hb dc_X8_up_7 rfl (lv_at hl 0 rfl) ?_
    refine ky_cV1 (As := []) F (hE.at hfr hS) (mt_X8_isEndless l G (b0) (v0) ) kv_X8_45 ⟨⟨rfl, rfl⟩, by decide, by decide⟩ rfl hl.1 rfl (Nat.le_of_ble_eq_true rfl) ⟨Nat.le_of_ble_eq_true rfl, Nat.le_of_ble_eq_true rfl⟩ (va_recv hE.1 hI0 (ci := 4) (q0 := 0) rfl rfl) hI0 dc_X8_up_8 ?_
    refine lv_if_eq (tgt := 18) hx hb dc_X8_up_11 (by decide) (fun c_1 => ?_) (fun c_1 => ?_)
    · have hw := hw.trans (if_pos c_1)
      refine va_new (ci := 4) (fs := [.int (0), .long (0)]) (C := RX8) (T := TX8) (N := 2) hx hb hts ki_X8 tyX8 tyX8_ok hown (hts _ kw_6_165) (hts _ kw_6_5) (hts _ kw_1_9) hE.1 hP hD hS hA rfl (fun j hj => by rcases (show j = 0 ∨ j = 1 by omega) with rfl | rfl <;> rfl) (Nat.le_of_ble_eq_true rfl) (Nat.le_of_ble_eq_true rfl) dc_X8_up_18 (fun q_2 H hP hD hS => ?_)
      have hP : va_P G.1 kcl [(q_2, .inr (4, [.int (0), .long (0)]))] H := hP
      have hD : va_D A [(q_2, .inr (4, [.int (0), .long (0)]))] := hD
      have hI0 := ky_ro hX hna hS
      refine W.widen (k := 1) (n := 2) (Nat.le_refl _) (Nat.le_refl _) ?_
      refine lv_dup hx hb dc_X8_up_21 rfl ?_
      refine lv_iconst (v := 0) hx hb dc_X8_up_22 (by decide) ?_
      refine lv_aload_n hx hb dc_X8_up_23 rfl (lv_at hl 0 rfl) ?_
      refine va_get (D := G.1) (ci := 4) (v := .long (v0.2)) (C := RX8) (T := TX8) (N := 2) hx hb hts ki_X8 hown hE.1 hI0 0 rfl rfl 1 (by decide) (hts _ kw_6_12) (fun _ h9 => h9) rfl dc_X8_up_24 ?_
      refine lv_lconst (v := 1) hx hb dc_X8_up_27 (by decide) ?_
      refine lv_ladd hx hb dc_X8_up_28 ?_
      refine ky_cIh (As := [.int ((0 : Int32)), .long ((v0.2) + ((1 : Int64)))]) (wr := []) F (hE.at hfr hS) hfr (mt_X8_init l G (q_2) ((0 : Int32)) ((v0.2) + ((1 : Int64))) H.size ) kI_X8_33 ⟨⟨rfl, rfl⟩, by decide, by decide⟩ rfl hl.1 rfl (Nat.le_of_ble_eq_true rfl) ⟨Nat.le_of_ble_eq_true rfl, Nat.le_of_ble_eq_true rfl⟩ trivial hP hD hS hA [0] [] rfl rfl (by decide) (by decide) (by decide) dc_X8_up_29 ?_
      rintro v9 u9 H locs ⟨rfl, rfl⟩ hP hD hS - hz hk9
      have hP : va_P G.1 kcl [(q_2, .inr (4, [.int ((0 : Int32)), .long ((v0.2) + ((1 : Int64)))]))] H := hP
      have hD : va_D A [(q_2, .inr (4, [.int ((0 : Int32)), .long ((v0.2) + ((1 : Int64)))]))] := hD
      have hI0 := ky_ro hX hna hS
      refine W.widen (k := 1) (n := 2) (Nat.le_refl _) (Nat.le_refl _) ?_
      have hP9 := hP.sub (ws' := []) [] rfl
      have hD9 := hD.sub (ws' := []) [] (by decide) rfl
      have hI9 := hP.sub (ws' := [(q_2, .inr (4, [.int ((0 : Int32)), .long ((v0.2) + ((1 : Int64)))]))]) [0] rfl
      have ho9 : q_2 = b0 ∨ sz ≤ q_2 := Or.inr (by have z := hD.2 0 _ rfl; rw [hAe] at z; rw [← hsz]; exact ky_fresh z)
      refine W.widen (k := 1) (n := 2) (Nat.le_of_ble_eq_true rfl) (Nat.le_of_ble_eq_true rfl) ?_
      exact W.aret (v := .ref q_2) hx hb hr (Or.inl ⟨_, rfl⟩) (Or.inr ⟨_, rfl⟩) (fun t ht hW => ⟨⟨_, q_2, rfl, rfl, by rw [ht]; exact hP9, hD9, by rw [hw, ht]; exact ky_itp hI9, ho9⟩, hS.F ht⟩) hS.2.2 dc_X8_up_32
    · have hw := hw.trans (if_neg c_1)
      refine lv_aload_n hx hb dc_X8_up_14 rfl (lv_at hl 0 rfl) ?_
      refine lv_goto (tgt := 32) hx hb dc_X8_up_15 (by decide) ?_
      have hP9 := hP.sub (ws' := []) [] rfl
      have hD9 := hD.sub (ws' := []) [] (by decide) rfl
      refine W.widen (k := 1) (n := 2) (Nat.le_of_ble_eq_true rfl) (Nat.le_of_ble_eq_true rfl) ?_
      exact W.aret (v := .ref b0) hx hb hr (Or.inl ⟨_, rfl⟩) (Or.inr ⟨_, rfl⟩) (fun t ht hW => ⟨⟨_, b0, rfl, rfl, by rw [ht]; exact hP9, hD9, by rw [hw, ht]; exact hI0, (Or.inl rfl)⟩, hS.F ht⟩) hS.2.2 dc_X8_up_32
def fn_X8_next (a1 : Int32) (v0 : Int32 × Int64) : Int32 × Int64 :=
  if (a1) = (0 : Int32) then ((fn_X8_up v0)) else ((fn_X8_turned (fn_X8_up (fn_X8_turned v0))))
set_option linter.constructorNameAsVariable false in
set_option maxHeartbeats 4000000 in
set_option maxRecDepth 100000 in
theorem mt_X8_next (l : Launch) (G : ky_G) (b0 : Nat) (v0 : Int32 × Int64) (a1 : Int32) (sz : Nat) : Met l my_X8_next (.code my_X8_next prog_11_method_18_code 2 (some (.object "ExactdoublesModel$Its")) :: ky_B) { frames := 3, cells := 3, slots := 6, locals := 55 } (ky_P G [.ref b0, .int (a1)] [] sz (fun H => ky_It G b0 v0 H)) (ky_Q (S := Nat) G (va_A [] sz) (fun v u => v = some (.ref u)) (fun _ => []) (fun u H => ky_It G u (fn_X8_next a1 v0) H ∧ (u = b0 ∨ sz ≤ u))) 3 6 (va_A [] sz) := by
  refine ky_start (by decide) (Nat.le_of_ble_eq_true rfl) (fun p e s m below meth c F hE A hAe hsz hA hfr hP hD hS hX ls hl => ?_)
  obtain ⟨hx, hb, hml, hown, hr, hlocks, hts⟩ := id F
  have hna : ¬ A b0 := by rw [hAe]; exact ky_nfresh hX.low
  have hI0 := hX
  have hl : lv_has ls 2 [(0, .ref b0), (1, .int (a1))] := hl
  have hw : fn_X8_next a1 v0 = _ := fn_X8_next.eq_1 a1 v0
  refine lv_iload_n hx hb dc_X8_next_0 rfl (lv_at hl 1 rfl) ?_
  refine lv_if_eq (tgt := 17) hx hb dc_X8_next_1 (by decide) (fun c_0 => ?_) (fun c_0 => ?_)
  · have hw := hw.trans (if_pos c_0)
    refine lv_aload_n hx hb dc_X8_next_17 rfl (lv_at hl 0 rfl) ?_
    have hs_1 := hS.1
    refine ky_cVh (As := []) (wr := []) F (hE.at hfr hS) hfr (mt_X8_up l G (b0) v0  s.heap.size) kv_X8_92 ⟨⟨rfl, rfl⟩, by decide, by decide⟩ rfl hl.1 rfl (Nat.le_of_ble_eq_true rfl) ⟨Nat.le_of_ble_eq_true rfl, Nat.le_of_ble_eq_true rfl⟩ (va_recv hE.1 hI0 (ci := 4) (q0 := 0) rfl rfl) hI0 hP hD hS hA [] [] rfl rfl (by decide) (by decide) (by decide) dc_X8_next_18 ?_
    rintro v9 q_1 H locs rfl hP hD hS ⟨hI_1, hd_1⟩ hz hk9
    have hP : va_P G.1 kcl [] H := hP
    have hD : va_D A [] := hD
    have hI0 := hI0.fr hk9
    have ho_1 := ky_or (sz := sz) (Or.inl rfl) (by rw [← hsz]; exact hs_1) hd_1
    refine W.widen (k := 1) (n := 2) (Nat.le_refl _) (Nat.le_refl _) ?_
    have hP9 := hP.sub (ws' := []) [] rfl
    have hD9 := hD.sub (ws' := []) [] (by decide) rfl
    refine W.widen (k := 3) (n := 6) (Nat.le_of_ble_eq_true rfl) (Nat.le_of_ble_eq_true rfl) ?_
    exact W.aret (v := .ref q_1) hx hb hr (Or.inl ⟨_, rfl⟩) (Or.inr ⟨_, rfl⟩) (fun t ht hW => ⟨⟨_, q_1, rfl, rfl, by rw [ht]; exact hP9, hD9, by rw [hw, ht]; exact hI_1, ho_1⟩, hS.F ht⟩) hS.2.2 dc_X8_next_21
  · have hw := hw.trans (if_neg c_0)
    refine lv_aload_n hx hb dc_X8_next_4 rfl (lv_at hl 0 rfl) ?_
    have hs_1 := hS.1
    refine ky_cVh (As := []) (wr := []) F (hE.at hfr hS) hfr (mt_X8_turned l G (b0) v0  s.heap.size) kv_X8_88 ⟨⟨rfl, rfl⟩, by decide, by decide⟩ rfl hl.1 rfl (Nat.le_of_ble_eq_true rfl) ⟨Nat.le_of_ble_eq_true rfl, Nat.le_of_ble_eq_true rfl⟩ (va_recv hE.1 hI0 (ci := 4) (q0 := 0) rfl rfl) hI0 hP hD hS hA [] [] rfl rfl (by decide) (by decide) (by decide) dc_X8_next_5 ?_
    rintro v9 q_1 H locs rfl hP hD hS ⟨hI_1, hd_1⟩ hz hk9
    have hP : va_P G.1 kcl [] H := hP
    have hD : va_D A [] := hD
    have hI0 := hI0.fr hk9
    have ho_1 := ky_or (sz := sz) (Or.inl rfl) (by rw [← hsz]; exact hs_1) hd_1
    refine W.widen (k := 1) (n := 2) (Nat.le_refl _) (Nat.le_refl _) ?_
    have hs_2 := hS.1
    refine ky_cVh (As := []) (wr := []) F (hE.at hfr hS) hfr (mt_X8_up l G (q_1) (fn_X8_turned v0)  H.size) kv_X8_92 ⟨⟨rfl, rfl⟩, by decide, by decide⟩ rfl hl.1 rfl (Nat.le_of_ble_eq_true rfl) ⟨Nat.le_of_ble_eq_true rfl, Nat.le_of_ble_eq_true rfl⟩ (va_recv hE.1 hI_1 (ci := 4) (q0 := 0) rfl rfl) hI_1 hP hD hS hA [] [] rfl rfl (by decide) (by decide) (by decide) dc_X8_next_8 ?_
    rintro v9 q_2 H locs rfl hP hD hS ⟨hI_2, hd_2⟩ hz hk9
    have hP : va_P G.1 kcl [] H := hP
    have hD : va_D A [] := hD
    have hI0 := hI0.fr hk9
    have hI_1 := hI_1.fr hk9
    have ho_2 := ky_or (sz := sz) ho_1 (by rw [← hsz]; exact hs_2) hd_2
    refine W.widen (k := 2) (n := 4) (Nat.le_refl _) (Nat.le_refl _) ?_
    have hs_3 := hS.1
    refine ky_cVh (As := []) (wr := []) F (hE.at hfr hS) hfr (mt_X8_turned l G (q_2) (fn_X8_up (fn_X8_turned v0))  H.size) kv_X8_88 ⟨⟨rfl, rfl⟩, by decide, by decide⟩ rfl hl.1 rfl (Nat.le_of_ble_eq_true rfl) ⟨Nat.le_of_ble_eq_true rfl, Nat.le_of_ble_eq_true rfl⟩ (va_recv hE.1 hI_2 (ci := 4) (q0 := 0) rfl rfl) hI_2 hP hD hS hA [] [] rfl rfl (by decide) (by decide) (by decide) dc_X8_next_11 ?_
    rintro v9 q_3 H locs rfl hP hD hS ⟨hI_3, hd_3⟩ hz hk9
    have hP : va_P G.1 kcl [] H := hP
    have hD : va_D A [] := hD
    have hI0 := hI0.fr hk9
    have hI_1 := hI_1.fr hk9
    have hI_2 := hI_2.fr hk9
    have ho_3 := ky_or (sz := sz) ho_2 (by rw [← hsz]; exact hs_3) hd_3
    refine W.widen (k := 3) (n := 6) (Nat.le_refl _) (Nat.le_refl _) ?_
    refine lv_goto (tgt := 21) hx hb dc_X8_next_14 (by decide) ?_
    have hP9 := hP.sub (ws' := []) [] rfl
    have hD9 := hD.sub (ws' := []) [] (by decide) rfl
    refine W.widen (k := 3) (n := 6) (Nat.le_of_ble_eq_true rfl) (Nat.le_of_ble_eq_true rfl) ?_
    exact W.aret (v := .ref q_3) hx hb hr (Or.inl ⟨_, rfl⟩) (Or.inr ⟨_, rfl⟩) (fun t ht hW => ⟨⟨_, q_3, rfl, rfl, by rw [ht]; exact hP9, hD9, by rw [hw, ht]; exact hI_3, ho_3⟩, hS.F ht⟩) hS.2.2 dc_X8_next_21
def fn_X8_step  (v0 : Int32 × Int64) : Int32 × Int64 :=
  if (fn_X8_isEndless v0) = (0 : Int32) then (((0 : Int32), fn_X9_nearest ((1 : Int64)) (((jimax ((1 : Int32)) (fn_X8_high v0)) - ((1075 : Int32))).toInt64))) else (((0 : Int32), (9218868437227405312 : Int64)))
def fk_X8_step  (v0 : Int32 × Int64) : Prop :=
  ((((fn_X8_isEndless v0) = (0 : Int32)) → ((fk_X9_nearest ((1 : Int64)) (((jimax ((1 : Int32)) (fn_X8_high v0)) - ((1075 : Int32))).toInt64)) ∧ (True))) ∧ (¬ ((fn_X8_isEndless v0) = (0 : Int32)) → (True))) ∧ True
set_option linter.constructorNameAsVariable false in
set_option maxHeartbeats 4000000 in
set_option maxRecDepth 100000 in
theorem mt_X8_step (l : Launch) (G : ky_G) (b0 : Nat) (v0 : Int32 × Int64)  (sz : Nat) (hk : fk_X8_step v0) : Met l my_X8_step (.code my_X8_step prog_11_method_19_code 1 (some (.object "ExactdoublesModel$Its")) :: ky_B) { frames := 2, cells := 1, slots := 2, locals := 35 } (ky_P G [.ref b0] [] sz (fun H => ky_It G b0 v0 H)) (ky_Q (S := Nat) G (va_A [] sz) (fun v u => v = some (.ref u)) (fun _ => []) (fun u H => ky_It G u (fn_X8_step v0) H ∧ (u = b0 ∨ sz ≤ u))) 1 2 (va_A [] sz) := by
  refine ky_start (by decide) (Nat.le_of_ble_eq_true rfl) (fun p e s m below meth c F hE A hAe hsz hA hfr hP hD hS hX ls hl => ?_)
  obtain ⟨hx, hb, hml, hown, hr, hlocks, hts⟩ := id F
  have hna : ¬ A b0 := by rw [hAe]; exact ky_nfresh hX.low
  have hI0 := hX
  have hl : lv_has ls 1 [(0, .ref b0)] := hl
  have hw : fn_X8_step v0 = _ := fn_X8_step.eq_1 v0
  have hk : (((fn_X8_isEndless v0) = (0 : Int32)) → ((fk_X9_nearest ((1 : Int64)) (((jimax ((1 : Int32)) (fn_X8_high v0)) - ((1075 : Int32))).toInt64)) ∧ (True))) ∧ (¬ ((fn_X8_isEndless v0) = (0 : Int32)) → (True)) := hk.1
  refine lv_aload_n hx hb dc_X8_step_0 rfl (lv_at hl 0 rfl) ?_
  refine ky_cV1 (As := []) F (hE.at hfr hS) (mt_X8_isEndless l G (b0) (v0) ) kv_X8_45 ⟨⟨rfl, rfl⟩, by decide, by decide⟩ rfl hl.1 rfl (Nat.le_of_ble_eq_true rfl) ⟨Nat.le_of_ble_eq_true rfl, Nat.le_of_ble_eq_true rfl⟩ (va_recv hE.1 hI0 (ci := 4) (q0 := 0) rfl rfl) hI0 dc_X8_step_1 ?_
  refine lv_if_eq (tgt := 21) hx hb dc_X8_step_4 (by decide) (fun c_0 => ?_) (fun c_0 => ?_)
  · have hw := hw.trans (if_pos c_0)
    have hk := hk.1 c_0
    refine va_new (ci := 4) (fs := [.int (0), .long (0)]) (C := RX8) (T := TX8) (N := 2) hx hb hts ki_X8 tyX8 tyX8_ok hown (hts _ kw_6_165) (hts _ kw_6_5) (hts _ kw_1_9) hE.1 hP hD hS hA rfl (fun j hj => by rcases (show j = 0 ∨ j = 1 by omega) with rfl | rfl <;> rfl) (Nat.le_of_ble_eq_true rfl) (Nat.le_of_ble_eq_true rfl) dc_X8_step_21 (fun q_1 H hP hD hS => ?_)
    have hP : va_P G.1 kcl [(q_1, .inr (4, [.int (0), .long (0)]))] H := hP
    have hD : va_D A [(q_1, .inr (4, [.int (0), .long (0)]))] := hD
    have hI0 := ky_ro hX hna hS
    refine W.widen (k := 1) (n := 2) (Nat.le_refl _) (Nat.le_refl _) ?_
    refine lv_dup hx hb dc_X8_step_24 rfl ?_
    refine lv_iconst (v := 0) hx hb dc_X8_step_25 (by decide) ?_
    refine lv_lconst (v := 1) hx hb dc_X8_step_26 (by decide) ?_
    refine lv_iconst (v := 1) hx hb dc_X8_step_27 (by decide) ?_
    refine lv_aload_n hx hb dc_X8_step_28 rfl (lv_at hl 0 rfl) ?_
    refine ky_cV1 (As := []) F (hE.at hfr hS) (mt_X8_high l G (b0) (v0) ) kv_X8_21 ⟨⟨rfl, rfl⟩, by decide, by decide⟩ rfl hl.1 rfl (Nat.le_of_ble_eq_true rfl) ⟨Nat.le_of_ble_eq_true rfl, Nat.le_of_ble_eq_true rfl⟩ (va_recv hE.1 hI0 (ci := 4) (q0 := 0) rfl rfl) hI0 dc_X8_step_29 ?_
    refine ky_imax F ⟨kw_6_222, kw_1_185, kw_1_16, kw_1_186⟩ hl.1 (Nat.le_of_ble_eq_true rfl) (Nat.le_of_ble_eq_true rfl) ⟨Nat.le_of_ble_eq_true rfl, Nat.le_of_ble_eq_true rfl⟩ dc_X8_step_32 ?_
    refine lv_sipush (v := 1075) hx hb dc_X8_step_35 (by decide) ?_
    refine lv_isub hx hb dc_X8_step_38 ?_
    refine lv_i2l (v := ((jimax ((1 : Int32)) (fn_X8_high v0)) - ((1075 : Int32))).toInt64) hx hb dc_X8_step_39 rfl ?_
    obtain ⟨hq_2, hk⟩ := hk
    refine ky_cN0 (As := [.long ((1 : Int64)), .long (((jimax ((1 : Int32)) (fn_X8_high v0)) - ((1075 : Int32))).toInt64)]) F hE (mt_X9_nearest l ((1 : Int64)) (((jimax ((1 : Int32)) (fn_X8_high v0)) - ((1075 : Int32))).toInt64) hq_2) kn_X8_84 ⟨⟨rfl, rfl⟩, by decide, by decide⟩ rfl hl.1 rfl (Nat.le_of_ble_eq_true rfl) ⟨Nat.le_of_ble_eq_true rfl, Nat.le_of_ble_eq_true rfl⟩ dc_X8_step_40 ?_
    refine ky_cIh (As := [.int ((0 : Int32)), .long (fn_X9_nearest ((1 : Int64)) (((jimax ((1 : Int32)) (fn_X8_high v0)) - ((1075 : Int32))).toInt64))]) (wr := []) F (hE.at hfr hS) hfr (mt_X8_init l G (q_1) ((0 : Int32)) (fn_X9_nearest ((1 : Int64)) (((jimax ((1 : Int32)) (fn_X8_high v0)) - ((1075 : Int32))).toInt64)) H.size ) kI_X8_33 ⟨⟨rfl, rfl⟩, by decide, by decide⟩ rfl hl.1 rfl (Nat.le_of_ble_eq_true rfl) ⟨Nat.le_of_ble_eq_true rfl, Nat.le_of_ble_eq_true rfl⟩ trivial hP hD hS hA [0] [] rfl rfl (by decide) (by decide) (by decide) dc_X8_step_43 ?_
    rintro v9 u9 H locs ⟨rfl, rfl⟩ hP hD hS - hz hk9
    have hP : va_P G.1 kcl [(q_1, .inr (4, [.int ((0 : Int32)), .long (fn_X9_nearest ((1 : Int64)) (((jimax ((1 : Int32)) (fn_X8_high v0)) - ((1075 : Int32))).toInt64))]))] H := hP
    have hD : va_D A [(q_1, .inr (4, [.int ((0 : Int32)), .long (fn_X9_nearest ((1 : Int64)) (((jimax ((1 : Int32)) (fn_X8_high v0)) - ((1075 : Int32))).toInt64))]))] := hD
    have hI0 := ky_ro hX hna hS
    refine W.widen (k := 1) (n := 2) (Nat.le_refl _) (Nat.le_refl _) ?_
    have hP9 := hP.sub (ws' := []) [] rfl
    have hD9 := hD.sub (ws' := []) [] (by decide) rfl
    have hI9 := hP.sub (ws' := [(q_1, .inr (4, [.int ((0 : Int32)), .long (fn_X9_nearest ((1 : Int64)) (((jimax ((1 : Int32)) (fn_X8_high v0)) - ((1075 : Int32))).toInt64))]))]) [0] rfl
    have ho9 : q_1 = b0 ∨ sz ≤ q_1 := Or.inr (by have z := hD.2 0 _ rfl; rw [hAe] at z; rw [← hsz]; exact ky_fresh z)
    refine W.widen (k := 1) (n := 2) (Nat.le_of_ble_eq_true rfl) (Nat.le_of_ble_eq_true rfl) ?_
    exact W.aret (v := .ref q_1) hx hb hr (Or.inl ⟨_, rfl⟩) (Or.inr ⟨_, rfl⟩) (fun t ht hW => ⟨⟨_, q_1, rfl, rfl, by rw [ht]; exact hP9, hD9, by rw [hw, ht]; exact ky_itp hI9, ho9⟩, hS.F ht⟩) hS.2.2 dc_X8_step_46
  · have hw := hw.trans (if_neg c_0)
    have hk := hk.2 c_0
    refine va_new (ci := 4) (fs := [.int (0), .long (0)]) (C := RX8) (T := TX8) (N := 2) hx hb hts ki_X8 tyX8 tyX8_ok hown (hts _ kw_6_165) (hts _ kw_6_5) (hts _ kw_1_9) hE.1 hP hD hS hA rfl (fun j hj => by rcases (show j = 0 ∨ j = 1 by omega) with rfl | rfl <;> rfl) (Nat.le_of_ble_eq_true rfl) (Nat.le_of_ble_eq_true rfl) dc_X8_step_7 (fun q_1 H hP hD hS => ?_)
    have hP : va_P G.1 kcl [(q_1, .inr (4, [.int (0), .long (0)]))] H := hP
    have hD : va_D A [(q_1, .inr (4, [.int (0), .long (0)]))] := hD
    have hI0 := ky_ro hX hna hS
    refine W.widen (k := 1) (n := 2) (Nat.le_refl _) (Nat.le_refl _) ?_
    refine lv_dup hx hb dc_X8_step_10 rfl ?_
    refine lv_iconst (v := 0) hx hb dc_X8_step_11 (by decide) ?_
    refine lv_ldc2 (v := 9218868437227405312) hx hb hown (hts _ kw_6_68) dc_X8_step_12 ?_
    refine ky_cIh (As := [.int ((0 : Int32)), .long ((9218868437227405312 : Int64))]) (wr := []) F (hE.at hfr hS) hfr (mt_X8_init l G (q_1) ((0 : Int32)) ((9218868437227405312 : Int64)) H.size ) kI_X8_33 ⟨⟨rfl, rfl⟩, by decide, by decide⟩ rfl hl.1 rfl (Nat.le_of_ble_eq_true rfl) ⟨Nat.le_of_ble_eq_true rfl, Nat.le_of_ble_eq_true rfl⟩ trivial hP hD hS hA [0] [] rfl rfl (by decide) (by decide) (by decide) dc_X8_step_15 ?_
    rintro v9 u9 H locs ⟨rfl, rfl⟩ hP hD hS - hz hk9
    have hP : va_P G.1 kcl [(q_1, .inr (4, [.int ((0 : Int32)), .long ((9218868437227405312 : Int64))]))] H := hP
    have hD : va_D A [(q_1, .inr (4, [.int ((0 : Int32)), .long ((9218868437227405312 : Int64))]))] := hD
    have hI0 := ky_ro hX hna hS
    refine W.widen (k := 1) (n := 2) (Nat.le_refl _) (Nat.le_refl _) ?_
    refine lv_goto (tgt := 46) hx hb dc_X8_step_18 (by decide) ?_
    have hP9 := hP.sub (ws' := []) [] rfl
    have hD9 := hD.sub (ws' := []) [] (by decide) rfl
    have hI9 := hP.sub (ws' := [(q_1, .inr (4, [.int ((0 : Int32)), .long ((9218868437227405312 : Int64))]))]) [0] rfl
    have ho9 : q_1 = b0 ∨ sz ≤ q_1 := Or.inr (by have z := hD.2 0 _ rfl; rw [hAe] at z; rw [← hsz]; exact ky_fresh z)
    refine W.widen (k := 1) (n := 2) (Nat.le_of_ble_eq_true rfl) (Nat.le_of_ble_eq_true rfl) ?_
    exact W.aret (v := .ref q_1) hx hb hr (Or.inl ⟨_, rfl⟩) (Or.inr ⟨_, rfl⟩) (fun t ht hW => ⟨⟨_, q_1, rfl, rfl, by rw [ht]; exact hP9, hD9, by rw [hw, ht]; exact ky_itp hI9, ho9⟩, hS.F ht⟩) hS.2.2 dc_X8_step_46
def fn_X8_times (a1 : Int64) (v0 : Int32 × Int64) : Int32 × Int64 :=
  if (lg_cmp (v0.2) ((0 : Int64))) = (0 : Int32) then (v0) else (if (fn_X8_isEndless v0) = (0 : Int32) then ((v0.1, fn_X9_nearest (fn_X8_many v0) (((fn_X8_power v0).toInt64) + (a1)))) else (v0))
def fk_X8_times (a1 : Int64) (v0 : Int32 × Int64) : Prop :=
  ((((lg_cmp (v0.2) ((0 : Int64))) = (0 : Int32)) → (True)) ∧ (¬ ((lg_cmp (v0.2) ((0 : Int64))) = (0 : Int32)) → ((((fn_X8_isEndless v0) = (0 : Int32)) → ((fk_X9_nearest (fn_X8_many v0) (((fn_X8_power v0).toInt64) + (a1))) ∧ (True))) ∧ (¬ ((fn_X8_isEndless v0) = (0 : Int32)) → (True))))) ∧ True
set_option linter.constructorNameAsVariable false in
set_option maxHeartbeats 4000000 in
set_option maxRecDepth 100000 in
theorem mt_X8_times (l : Launch) (G : ky_G) (b0 : Nat) (v0 : Int32 × Int64) (a1 : Int64) (sz : Nat) (hk : fk_X8_times a1 v0) : Met l my_X8_times (.code my_X8_times prog_11_method_21_code 3 (some (.object "ExactdoublesModel$Its")) :: ky_B) { frames := 2, cells := 1, slots := 2, locals := 40 } (ky_P G [.ref b0, .long (a1)] [] sz (fun H => ky_It G b0 v0 H)) (ky_Q (S := Nat) G (va_A [] sz) (fun v u => v = some (.ref u)) (fun _ => []) (fun u H => ky_It G u (fn_X8_times a1 v0) H ∧ (u = b0 ∨ sz ≤ u))) 1 2 (va_A [] sz) := by
  refine ky_start (by decide) (Nat.le_of_ble_eq_true rfl) (fun p e s m below meth c F hE A hAe hsz hA hfr hP hD hS hX ls hl => ?_)
  obtain ⟨hx, hb, hml, hown, hr, hlocks, hts⟩ := id F
  have hna : ¬ A b0 := by rw [hAe]; exact ky_nfresh hX.low
  have hI0 := hX
  have hl : lv_has ls 3 [(0, .ref b0), (1, .long (a1))] := hl
  have hw : fn_X8_times a1 v0 = _ := fn_X8_times.eq_1 a1 v0
  have hk : (((lg_cmp (v0.2) ((0 : Int64))) = (0 : Int32)) → (True)) ∧ (¬ ((lg_cmp (v0.2) ((0 : Int64))) = (0 : Int32)) → ((((fn_X8_isEndless v0) = (0 : Int32)) → ((fk_X9_nearest (fn_X8_many v0) (((fn_X8_power v0).toInt64) + (a1))) ∧ (True))) ∧ (¬ ((fn_X8_isEndless v0) = (0 : Int32)) → (True)))) := hk.1
  refine lv_aload_n hx hb dc_X8_times_0 rfl (lv_at hl 0 rfl) ?_
  refine va_get (D := G.1) (ci := 4) (v := .long (v0.2)) (C := RX8) (T := TX8) (N := 2) hx hb hts ki_X8 hown hE.1 hI0 0 rfl rfl 1 (by decide) (hts _ kw_6_12) (fun _ h9 => h9) rfl dc_X8_times_1 ?_
  refine lv_lconst (v := 0) hx hb dc_X8_times_4 (by decide) ?_
  refine W.lcmp hx hb dc_X8_times_5 ?_
  refine lv_if_eq (tgt := 16) hx hb dc_X8_times_6 (by decide) (fun c_0 => ?_) (fun c_0 => ?_)
  · have hw := hw.trans (if_pos c_0)
    have hk := hk.1 c_0
    refine lv_aload_n hx hb dc_X8_times_16 rfl (lv_at hl 0 rfl) ?_
    refine lv_goto (tgt := 45) hx hb dc_X8_times_17 (by decide) ?_
    have hP9 := hP.sub (ws' := []) [] rfl
    have hD9 := hD.sub (ws' := []) [] (by decide) rfl
    refine W.widen (k := 1) (n := 2) (Nat.le_of_ble_eq_true rfl) (Nat.le_of_ble_eq_true rfl) ?_
    exact W.aret (v := .ref b0) hx hb hr (Or.inl ⟨_, rfl⟩) (Or.inr ⟨_, rfl⟩) (fun t ht hW => ⟨⟨_, b0, rfl, rfl, by rw [ht]; exact hP9, hD9, by rw [hw, ht]; exact hI0, (Or.inl rfl)⟩, hS.F ht⟩) hS.2.2 dc_X8_times_45
  · have hw := hw.trans (if_neg c_0)
    have hk := hk.2 c_0
    refine lv_aload_n hx hb dc_X8_times_9 rfl (lv_at hl 0 rfl) ?_
    refine ky_cV1 (As := []) F (hE.at hfr hS) (mt_X8_isEndless l G (b0) (v0) ) kv_X8_45 ⟨⟨rfl, rfl⟩, by decide, by decide⟩ rfl hl.1 rfl (Nat.le_of_ble_eq_true rfl) ⟨Nat.le_of_ble_eq_true rfl, Nat.le_of_ble_eq_true rfl⟩ (va_recv hE.1 hI0 (ci := 4) (q0 := 0) rfl rfl) hI0 dc_X8_times_10 ?_
    refine lv_if_eq (tgt := 20) hx hb dc_X8_times_13 (by decide) (fun c_1 => ?_) (fun c_1 => ?_)
    · have hw := hw.trans (if_pos c_1)
      have hk := hk.1 c_1
      refine va_new (ci := 4) (fs := [.int (0), .long (0)]) (C := RX8) (T := TX8) (N := 2) hx hb hts ki_X8 tyX8 tyX8_ok hown (hts _ kw_6_165) (hts _ kw_6_5) (hts _ kw_1_9) hE.1 hP hD hS hA rfl (fun j hj => by rcases (show j = 0 ∨ j = 1 by omega) with rfl | rfl <;> rfl) (Nat.le_of_ble_eq_true rfl) (Nat.le_of_ble_eq_true rfl) dc_X8_times_20 (fun q_2 H hP hD hS => ?_)
      have hP : va_P G.1 kcl [(q_2, .inr (4, [.int (0), .long (0)]))] H := hP
      have hD : va_D A [(q_2, .inr (4, [.int (0), .long (0)]))] := hD
      have hI0 := ky_ro hX hna hS
      refine W.widen (k := 1) (n := 2) (Nat.le_refl _) (Nat.le_refl _) ?_
      refine lv_dup hx hb dc_X8_times_23 rfl ?_
      refine lv_aload_n hx hb dc_X8_times_24 rfl (lv_at hl 0 rfl) ?_
      refine va_get (D := G.1) (ci := 4) (v := .int (v0.1)) (C := RX8) (T := TX8) (N := 2) hx hb hts ki_X8 hown hE.1 hI0 0 rfl rfl 0 (by decide) (hts _ kw_6_10) (fun _ h9 => h9) rfl dc_X8_times_25 ?_
      refine lv_aload_n hx hb dc_X8_times_28 rfl (lv_at hl 0 rfl) ?_
      refine ky_cV1 (As := []) F (hE.at hfr hS) (mt_X8_many l G (b0) (v0) ) kv_X8_39 ⟨⟨rfl, rfl⟩, by decide, by decide⟩ rfl hl.1 rfl (Nat.le_of_ble_eq_true rfl) ⟨Nat.le_of_ble_eq_true rfl, Nat.le_of_ble_eq_true rfl⟩ (va_recv hE.1 hI0 (ci := 4) (q0 := 0) rfl rfl) hI0 dc_X8_times_29 ?_
      refine lv_aload_n hx hb dc_X8_times_32 rfl (lv_at hl 0 rfl) ?_
      refine ky_cV1 (As := []) F (hE.at hfr hS) (mt_X8_power l G (b0) (v0) ) kv_X8_36 ⟨⟨rfl, rfl⟩, by decide, by decide⟩ rfl hl.1 rfl (Nat.le_of_ble_eq_true rfl) ⟨Nat.le_of_ble_eq_true rfl, Nat.le_of_ble_eq_true rfl⟩ (va_recv hE.1 hI0 (ci := 4) (q0 := 0) rfl rfl) hI0 dc_X8_times_33 ?_
      refine lv_i2l (v := (fn_X8_power v0).toInt64) hx hb dc_X8_times_36 rfl ?_
      refine lv_lload_n hx hb dc_X8_times_37 rfl (lv_at hl 1 rfl) ?_
      refine lv_ladd hx hb dc_X8_times_38 ?_
      obtain ⟨hq_3, hk⟩ := hk
      refine ky_cN0 (As := [.long (fn_X8_many v0), .long (((fn_X8_power v0).toInt64) + (a1))]) F hE (mt_X9_nearest l (fn_X8_many v0) (((fn_X8_power v0).toInt64) + (a1)) hq_3) kn_X8_84 ⟨⟨rfl, rfl⟩, by decide, by decide⟩ rfl hl.1 rfl (Nat.le_of_ble_eq_true rfl) ⟨Nat.le_of_ble_eq_true rfl, Nat.le_of_ble_eq_true rfl⟩ dc_X8_times_39 ?_
      refine ky_cIh (As := [.int (v0.1), .long (fn_X9_nearest (fn_X8_many v0) (((fn_X8_power v0).toInt64) + (a1)))]) (wr := []) F (hE.at hfr hS) hfr (mt_X8_init l G (q_2) (v0.1) (fn_X9_nearest (fn_X8_many v0) (((fn_X8_power v0).toInt64) + (a1))) H.size ) kI_X8_33 ⟨⟨rfl, rfl⟩, by decide, by decide⟩ rfl hl.1 rfl (Nat.le_of_ble_eq_true rfl) ⟨Nat.le_of_ble_eq_true rfl, Nat.le_of_ble_eq_true rfl⟩ trivial hP hD hS hA [0] [] rfl rfl (by decide) (by decide) (by decide) dc_X8_times_42 ?_
      rintro v9 u9 H locs ⟨rfl, rfl⟩ hP hD hS - hz hk9
      have hP : va_P G.1 kcl [(q_2, .inr (4, [.int (v0.1), .long (fn_X9_nearest (fn_X8_many v0) (((fn_X8_power v0).toInt64) + (a1)))]))] H := hP
      have hD : va_D A [(q_2, .inr (4, [.int (v0.1), .long (fn_X9_nearest (fn_X8_many v0) (((fn_X8_power v0).toInt64) + (a1)))]))] := hD
      have hI0 := ky_ro hX hna hS
      refine W.widen (k := 1) (n := 2) (Nat.le_refl _) (Nat.le_refl _) ?_
      have hP9 := hP.sub (ws' := []) [] rfl
      have hD9 := hD.sub (ws' := []) [] (by decide) rfl
      have hI9 := hP.sub (ws' := [(q_2, .inr (4, [.int (v0.1), .long (fn_X9_nearest (fn_X8_many v0) (((fn_X8_power v0).toInt64) + (a1)))]))]) [0] rfl
      have ho9 : q_2 = b0 ∨ sz ≤ q_2 := Or.inr (by have z := hD.2 0 _ rfl; rw [hAe] at z; rw [← hsz]; exact ky_fresh z)
      refine W.widen (k := 1) (n := 2) (Nat.le_of_ble_eq_true rfl) (Nat.le_of_ble_eq_true rfl) ?_
      exact W.aret (v := .ref q_2) hx hb hr (Or.inl ⟨_, rfl⟩) (Or.inr ⟨_, rfl⟩) (fun t ht hW => ⟨⟨_, q_2, rfl, rfl, by rw [ht]; exact hP9, hD9, by rw [hw, ht]; exact ky_itp hI9, ho9⟩, hS.F ht⟩) hS.2.2 dc_X8_times_45
    · have hw := hw.trans (if_neg c_1)
      have hk := hk.2 c_1
      refine lv_aload_n hx hb dc_X8_times_16 rfl (lv_at hl 0 rfl) ?_
      refine lv_goto (tgt := 45) hx hb dc_X8_times_17 (by decide) ?_
      have hP9 := hP.sub (ws' := []) [] rfl
      have hD9 := hD.sub (ws' := []) [] (by decide) rfl
      refine W.widen (k := 1) (n := 2) (Nat.le_of_ble_eq_true rfl) (Nat.le_of_ble_eq_true rfl) ?_
      exact W.aret (v := .ref b0) hx hb hr (Or.inl ⟨_, rfl⟩) (Or.inr ⟨_, rfl⟩) (fun t ht hW => ⟨⟨_, b0, rfl, rfl, by rw [ht]; exact hP9, hD9, by rw [hw, ht]; exact hI0, (Or.inl rfl)⟩, hS.F ht⟩) hS.2.2 dc_X8_times_45
def fn_X8_sign  (v0 : Int32 × Int64) : Int32 × Int64 :=
  if (lg_cmp (v0.2) ((0 : Int64))) = (0 : Int32) then (v0) else ((v0.1, fn_X9_nearest ((1 : Int64)) ((0 : Int64))))
def fk_X8_sign  (v0 : Int32 × Int64) : Prop :=
  ((((lg_cmp (v0.2) ((0 : Int64))) = (0 : Int32)) → (True)) ∧ (¬ ((lg_cmp (v0.2) ((0 : Int64))) = (0 : Int32)) → ((fk_X9_nearest ((1 : Int64)) ((0 : Int64))) ∧ (True)))) ∧ True
set_option linter.constructorNameAsVariable false in
set_option maxHeartbeats 4000000 in
set_option maxRecDepth 100000 in
theorem mt_X8_sign (l : Launch) (G : ky_G) (b0 : Nat) (v0 : Int32 × Int64)  (sz : Nat) (hk : fk_X8_sign v0) : Met l my_X8_sign (.code my_X8_sign prog_11_method_22_code 1 (some (.object "ExactdoublesModel$Its")) :: ky_B) { frames := 2, cells := 1, slots := 2, locals := 35 } (ky_P G [.ref b0] [] sz (fun H => ky_It G b0 v0 H)) (ky_Q (S := Nat) G (va_A [] sz) (fun v u => v = some (.ref u)) (fun _ => []) (fun u H => ky_It G u (fn_X8_sign v0) H ∧ (u = b0 ∨ sz ≤ u))) 1 2 (va_A [] sz) := by
  refine ky_start (by decide) (Nat.le_of_ble_eq_true rfl) (fun p e s m below meth c F hE A hAe hsz hA hfr hP hD hS hX ls hl => ?_)
  obtain ⟨hx, hb, hml, hown, hr, hlocks, hts⟩ := id F
  have hna : ¬ A b0 := by rw [hAe]; exact ky_nfresh hX.low
  have hI0 := hX
  have hl : lv_has ls 1 [(0, .ref b0)] := hl
  have hw : fn_X8_sign v0 = _ := fn_X8_sign.eq_1 v0
  have hk : (((lg_cmp (v0.2) ((0 : Int64))) = (0 : Int32)) → (True)) ∧ (¬ ((lg_cmp (v0.2) ((0 : Int64))) = (0 : Int32)) → ((fk_X9_nearest ((1 : Int64)) ((0 : Int64))) ∧ (True))) := hk.1
  refine lv_aload_n hx hb dc_X8_sign_0 rfl (lv_at hl 0 rfl) ?_
  refine va_get (D := G.1) (ci := 4) (v := .long (v0.2)) (C := RX8) (T := TX8) (N := 2) hx hb hts ki_X8 hown hE.1 hI0 0 rfl rfl 1 (by decide) (hts _ kw_6_12) (fun _ h9 => h9) rfl dc_X8_sign_1 ?_
  refine lv_lconst (v := 0) hx hb dc_X8_sign_4 (by decide) ?_
  refine W.lcmp hx hb dc_X8_sign_5 ?_
  refine lv_if_ne (tgt := 13) hx hb dc_X8_sign_6 (by decide) (fun c_0 => ?_) (fun c_0 => ?_)
  · have hw := hw.trans (if_neg c_0)
    have hk := hk.2 c_0
    refine va_new (ci := 4) (fs := [.int (0), .long (0)]) (C := RX8) (T := TX8) (N := 2) hx hb hts ki_X8 tyX8 tyX8_ok hown (hts _ kw_6_165) (hts _ kw_6_5) (hts _ kw_1_9) hE.1 hP hD hS hA rfl (fun j hj => by rcases (show j = 0 ∨ j = 1 by omega) with rfl | rfl <;> rfl) (Nat.le_of_ble_eq_true rfl) (Nat.le_of_ble_eq_true rfl) dc_X8_sign_13 (fun q_1 H hP hD hS => ?_)
    have hP : va_P G.1 kcl [(q_1, .inr (4, [.int (0), .long (0)]))] H := hP
    have hD : va_D A [(q_1, .inr (4, [.int (0), .long (0)]))] := hD
    have hI0 := ky_ro hX hna hS
    refine W.widen (k := 1) (n := 2) (Nat.le_refl _) (Nat.le_refl _) ?_
    refine lv_dup hx hb dc_X8_sign_16 rfl ?_
    refine lv_aload_n hx hb dc_X8_sign_17 rfl (lv_at hl 0 rfl) ?_
    refine va_get (D := G.1) (ci := 4) (v := .int (v0.1)) (C := RX8) (T := TX8) (N := 2) hx hb hts ki_X8 hown hE.1 hI0 0 rfl rfl 0 (by decide) (hts _ kw_6_10) (fun _ h9 => h9) rfl dc_X8_sign_18 ?_
    refine lv_lconst (v := 1) hx hb dc_X8_sign_21 (by decide) ?_
    refine lv_lconst (v := 0) hx hb dc_X8_sign_22 (by decide) ?_
    obtain ⟨hq_2, hk⟩ := hk
    refine ky_cN0 (As := [.long ((1 : Int64)), .long ((0 : Int64))]) F hE (mt_X9_nearest l ((1 : Int64)) ((0 : Int64)) hq_2) kn_X8_84 ⟨⟨rfl, rfl⟩, by decide, by decide⟩ rfl hl.1 rfl (Nat.le_of_ble_eq_true rfl) ⟨Nat.le_of_ble_eq_true rfl, Nat.le_of_ble_eq_true rfl⟩ dc_X8_sign_23 ?_
    refine ky_cIh (As := [.int (v0.1), .long (fn_X9_nearest ((1 : Int64)) ((0 : Int64)))]) (wr := []) F (hE.at hfr hS) hfr (mt_X8_init l G (q_1) (v0.1) (fn_X9_nearest ((1 : Int64)) ((0 : Int64))) H.size ) kI_X8_33 ⟨⟨rfl, rfl⟩, by decide, by decide⟩ rfl hl.1 rfl (Nat.le_of_ble_eq_true rfl) ⟨Nat.le_of_ble_eq_true rfl, Nat.le_of_ble_eq_true rfl⟩ trivial hP hD hS hA [0] [] rfl rfl (by decide) (by decide) (by decide) dc_X8_sign_26 ?_
    rintro v9 u9 H locs ⟨rfl, rfl⟩ hP hD hS - hz hk9
    have hP : va_P G.1 kcl [(q_1, .inr (4, [.int (v0.1), .long (fn_X9_nearest ((1 : Int64)) ((0 : Int64)))]))] H := hP
    have hD : va_D A [(q_1, .inr (4, [.int (v0.1), .long (fn_X9_nearest ((1 : Int64)) ((0 : Int64)))]))] := hD
    have hI0 := ky_ro hX hna hS
    refine W.widen (k := 1) (n := 2) (Nat.le_refl _) (Nat.le_refl _) ?_
    have hP9 := hP.sub (ws' := []) [] rfl
    have hD9 := hD.sub (ws' := []) [] (by decide) rfl
    have hI9 := hP.sub (ws' := [(q_1, .inr (4, [.int (v0.1), .long (fn_X9_nearest ((1 : Int64)) ((0 : Int64)))]))]) [0] rfl
    have ho9 : q_1 = b0 ∨ sz ≤ q_1 := Or.inr (by have z := hD.2 0 _ rfl; rw [hAe] at z; rw [← hsz]; exact ky_fresh z)
    refine W.widen (k := 1) (n := 2) (Nat.le_of_ble_eq_true rfl) (Nat.le_of_ble_eq_true rfl) ?_
    exact W.aret (v := .ref q_1) hx hb hr (Or.inl ⟨_, rfl⟩) (Or.inr ⟨_, rfl⟩) (fun t ht hW => ⟨⟨_, q_1, rfl, rfl, by rw [ht]; exact hP9, hD9, by rw [hw, ht]; exact ky_itp hI9, ho9⟩, hS.F ht⟩) hS.2.2 dc_X8_sign_29
  · have hw := hw.trans (if_pos c_0)
    have hk := hk.1 c_0
    refine lv_aload_n hx hb dc_X8_sign_9 rfl (lv_at hl 0 rfl) ?_
    refine lv_goto (tgt := 29) hx hb dc_X8_sign_10 (by decide) ?_
    have hP9 := hP.sub (ws' := []) [] rfl
    have hD9 := hD.sub (ws' := []) [] (by decide) rfl
    refine W.widen (k := 1) (n := 2) (Nat.le_of_ble_eq_true rfl) (Nat.le_of_ble_eq_true rfl) ?_
    exact W.aret (v := .ref b0) hx hb hr (Or.inl ⟨_, rfl⟩) (Or.inr ⟨_, rfl⟩) (fun t ht hW => ⟨⟨_, b0, rfl, rfl, by rw [ht]; exact hP9, hD9, by rw [hw, ht]; exact hI0, (Or.inl rfl)⟩, hS.F ht⟩) hS.2.2 dc_X8_sign_29
def fn_X8_taken (a1 : Int32) (v0 : Int32 × Int64) : Int32 × Int64 :=
  if (fn_X8_isEndless v0) = (0 : Int32) then (if (fn_X8_power v0) < (0 : Int32) then (if (a1) = ((2 : Int32)) then (if (fn_X8_behind v0) = ((3 : Int32)) then ((v0.1, fn_X9_nearest ((fn_X8_whole v0) + (((1 : Int32)).toInt64)) ((0 : Int64)))) else (if (fn_X8_behind v0) = ((2 : Int32)) then (if (lg_cmp ((fn_X8_whole v0) - (fn_X8_whole v0) / ((2 : Int64)) * ((2 : Int64))) ((1 : Int64))) = (0 : Int32) then ((v0.1, fn_X9_nearest ((fn_X8_whole v0) + (((1 : Int32)).toInt64)) ((0 : Int64)))) else ((v0.1, fn_X9_nearest ((fn_X8_whole v0) + (((0 : Int32)).toInt64)) ((0 : Int64))))) else ((v0.1, fn_X9_nearest ((fn_X8_whole v0) + (((0 : Int32)).toInt64)) ((0 : Int64)))))) else (if (fn_X8_behind v0) ≤ (0 : Int32) then ((v0.1, fn_X9_nearest ((fn_X8_whole v0) + (((0 : Int32)).toInt64)) ((0 : Int64)))) else (if (a1) = ((1 : Int32)) then (if (v0.1) = (0 : Int32) then ((v0.1, fn_X9_nearest ((fn_X8_whole v0) + (((1 : Int32)).toInt64)) ((0 : Int64)))) else ((v0.1, fn_X9_nearest ((fn_X8_whole v0) + (((0 : Int32)).toInt64)) ((0 : Int64))))) else (if (v0.1) = (0 : Int32) then ((v0.1, fn_X9_nearest ((fn_X8_whole v0) + (((0 : Int32)).toInt64)) ((0 : Int64)))) else ((v0.1, fn_X9_nearest ((fn_X8_whole v0) + (((1 : Int32)).toInt64)) ((0 : Int64)))))))) else (v0)) else (v0)
def fk_X8_taken (a1 : Int32) (v0 : Int32 × Int64) : Prop :=
  ((((fn_X8_isEndless v0) = (0 : Int32)) → ((((fn_X8_power v0) < (0 : Int32)) → ((((a1) = ((2 : Int32))) → ((((fn_X8_behind v0) = ((3 : Int32))) → ((fk_X9_nearest ((fn_X8_whole v0) + (((1 : Int32)).toInt64)) ((0 : Int64))) ∧ (True))) ∧ (¬ ((fn_X8_behind v0) = ((3 : Int32))) → ((((fn_X8_behind v0) = ((2 : Int32))) → ((((lg_cmp ((fn_X8_whole v0) - (fn_X8_whole v0) / ((2 : Int64)) * ((2 : Int64))) ((1 : Int64))) = (0 : Int32)) → ((fk_X9_nearest ((fn_X8_whole v0) + (((1 : Int32)).toInt64)) ((0 : Int64))) ∧ (True))) ∧ (¬ ((lg_cmp ((fn_X8_whole v0) - (fn_X8_whole v0) / ((2 : Int64)) * ((2 : Int64))) ((1 : Int64))) = (0 : Int32)) → ((fk_X9_nearest ((fn_X8_whole v0) + (((0 : Int32)).toInt64)) ((0 : Int64))) ∧ (True))))) ∧ (¬ ((fn_X8_behind v0) = ((2 : Int32))) → ((fk_X9_nearest ((fn_X8_whole v0) + (((0 : Int32)).toInt64)) ((0 : Int64))) ∧ (True))))))) ∧ (¬ ((a1) = ((2 : Int32))) → ((((fn_X8_behind v0) ≤ (0 : Int32)) → ((fk_X9_nearest ((fn_X8_whole v0) + (((0 : Int32)).toInt64)) ((0 : Int64))) ∧ (True))) ∧ (¬ ((fn_X8_behind v0) ≤ (0 : Int32)) → ((((a1) = ((1 : Int32))) → ((((v0.1) = (0 : Int32)) → ((fk_X9_nearest ((fn_X8_whole v0) + (((1 : Int32)).toInt64)) ((0 : Int64))) ∧ (True))) ∧ (¬ ((v0.1) = (0 : Int32)) → ((fk_X9_nearest ((fn_X8_whole v0) + (((0 : Int32)).toInt64)) ((0 : Int64))) ∧ (True))))) ∧ (¬ ((a1) = ((1 : Int32))) → ((((v0.1) = (0 : Int32)) → ((fk_X9_nearest ((fn_X8_whole v0) + (((0 : Int32)).toInt64)) ((0 : Int64))) ∧ (True))) ∧ (¬ ((v0.1) = (0 : Int32)) → ((fk_X9_nearest ((fn_X8_whole v0) + (((1 : Int32)).toInt64)) ((0 : Int64))) ∧ (True))))))))))) ∧ (¬ ((fn_X8_power v0) < (0 : Int32)) → (True)))) ∧ (¬ ((fn_X8_isEndless v0) = (0 : Int32)) → (True))) ∧ True
set_option linter.constructorNameAsVariable false in
set_option maxHeartbeats 4000000 in
set_option maxRecDepth 100000 in
theorem mt_X8_taken (l : Launch) (G : ky_G) (b0 : Nat) (v0 : Int32 × Int64) (a1 : Int32) (sz : Nat) (hk : fk_X8_taken a1 v0) : Met l my_X8_taken (.code my_X8_taken prog_11_method_16_code 4 (some (.object "ExactdoublesModel$Its")) :: ky_B) { frames := 4, cells := 1, slots := 2, locals := 85 } (ky_P G [.ref b0, .int (a1)] [] sz (fun H => ky_It G b0 v0 H)) (ky_Q (S := Nat) G (va_A [] sz) (fun v u => v = some (.ref u)) (fun _ => []) (fun u H => ky_It G u (fn_X8_taken a1 v0) H ∧ (u = b0 ∨ sz ≤ u))) 1 2 (va_A [] sz) := by
  refine ky_start (by decide) (Nat.le_of_ble_eq_true rfl) (fun p e s m below meth c F hE A hAe hsz hA hfr hP hD hS hX ls hl => ?_)
  obtain ⟨hx, hb, hml, hown, hr, hlocks, hts⟩ := id F
  have hna : ¬ A b0 := by rw [hAe]; exact ky_nfresh hX.low
  have hI0 := hX
  have hl : lv_has ls 4 [(0, .ref b0), (1, .int (a1))] := hl
  have hw : fn_X8_taken a1 v0 = _ := fn_X8_taken.eq_1 a1 v0
  have hk : (((fn_X8_isEndless v0) = (0 : Int32)) → ((((fn_X8_power v0) < (0 : Int32)) → ((((a1) = ((2 : Int32))) → ((((fn_X8_behind v0) = ((3 : Int32))) → ((fk_X9_nearest ((fn_X8_whole v0) + (((1 : Int32)).toInt64)) ((0 : Int64))) ∧ (True))) ∧ (¬ ((fn_X8_behind v0) = ((3 : Int32))) → ((((fn_X8_behind v0) = ((2 : Int32))) → ((((lg_cmp ((fn_X8_whole v0) - (fn_X8_whole v0) / ((2 : Int64)) * ((2 : Int64))) ((1 : Int64))) = (0 : Int32)) → ((fk_X9_nearest ((fn_X8_whole v0) + (((1 : Int32)).toInt64)) ((0 : Int64))) ∧ (True))) ∧ (¬ ((lg_cmp ((fn_X8_whole v0) - (fn_X8_whole v0) / ((2 : Int64)) * ((2 : Int64))) ((1 : Int64))) = (0 : Int32)) → ((fk_X9_nearest ((fn_X8_whole v0) + (((0 : Int32)).toInt64)) ((0 : Int64))) ∧ (True))))) ∧ (¬ ((fn_X8_behind v0) = ((2 : Int32))) → ((fk_X9_nearest ((fn_X8_whole v0) + (((0 : Int32)).toInt64)) ((0 : Int64))) ∧ (True))))))) ∧ (¬ ((a1) = ((2 : Int32))) → ((((fn_X8_behind v0) ≤ (0 : Int32)) → ((fk_X9_nearest ((fn_X8_whole v0) + (((0 : Int32)).toInt64)) ((0 : Int64))) ∧ (True))) ∧ (¬ ((fn_X8_behind v0) ≤ (0 : Int32)) → ((((a1) = ((1 : Int32))) → ((((v0.1) = (0 : Int32)) → ((fk_X9_nearest ((fn_X8_whole v0) + (((1 : Int32)).toInt64)) ((0 : Int64))) ∧ (True))) ∧ (¬ ((v0.1) = (0 : Int32)) → ((fk_X9_nearest ((fn_X8_whole v0) + (((0 : Int32)).toInt64)) ((0 : Int64))) ∧ (True))))) ∧ (¬ ((a1) = ((1 : Int32))) → ((((v0.1) = (0 : Int32)) → ((fk_X9_nearest ((fn_X8_whole v0) + (((0 : Int32)).toInt64)) ((0 : Int64))) ∧ (True))) ∧ (¬ ((v0.1) = (0 : Int32)) → ((fk_X9_nearest ((fn_X8_whole v0) + (((1 : Int32)).toInt64)) ((0 : Int64))) ∧ (True))))))))))) ∧ (¬ ((fn_X8_power v0) < (0 : Int32)) → (True)))) ∧ (¬ ((fn_X8_isEndless v0) = (0 : Int32)) → (True)) := hk.1
  refine lv_aload_n hx hb dc_X8_taken_0 rfl (lv_at hl 0 rfl) ?_
  refine ky_cV1 (As := []) F (hE.at hfr hS) (mt_X8_isEndless l G (b0) (v0) ) kv_X8_45 ⟨⟨rfl, rfl⟩, by decide, by decide⟩ rfl hl.1 rfl (Nat.le_of_ble_eq_true rfl) ⟨Nat.le_of_ble_eq_true rfl, Nat.le_of_ble_eq_true rfl⟩ (va_recv hE.1 hI0 (ci := 4) (q0 := 0) rfl rfl) hI0 dc_X8_taken_1 ?_
  refine lv_if_ne (tgt := 14) hx hb dc_X8_taken_4 (by decide) (fun c_0 => ?_) (fun c_0 => ?_)
  · have hw := hw.trans (if_neg c_0)
    have hk := hk.2 c_0
    refine lv_aload_n hx hb dc_X8_taken_14 rfl (lv_at hl 0 rfl) ?_
    have hP9 := hP.sub (ws' := []) [] rfl
    have hD9 := hD.sub (ws' := []) [] (by decide) rfl
    refine W.widen (k := 1) (n := 2) (Nat.le_of_ble_eq_true rfl) (Nat.le_of_ble_eq_true rfl) ?_
    exact W.aret (v := .ref b0) hx hb hr (Or.inl ⟨_, rfl⟩) (Or.inr ⟨_, rfl⟩) (fun t ht hW => ⟨⟨_, b0, rfl, rfl, by rw [ht]; exact hP9, hD9, by rw [hw, ht]; exact hI0, (Or.inl rfl)⟩, hS.F ht⟩) hS.2.2 dc_X8_taken_15
  · have hw := hw.trans (if_pos c_0)
    have hk := hk.1 c_0
    refine lv_aload_n hx hb dc_X8_taken_7 rfl (lv_at hl 0 rfl) ?_
    refine ky_cV1 (As := []) F (hE.at hfr hS) (mt_X8_power l G (b0) (v0) ) kv_X8_36 ⟨⟨rfl, rfl⟩, by decide, by decide⟩ rfl hl.1 rfl (Nat.le_of_ble_eq_true rfl) ⟨Nat.le_of_ble_eq_true rfl, Nat.le_of_ble_eq_true rfl⟩ (va_recv hE.1 hI0 (ci := 4) (q0 := 0) rfl rfl) hI0 dc_X8_taken_8 ?_
    refine lv_if_lt (tgt := 16) hx hb dc_X8_taken_11 (by decide) (fun c_1 => ?_) (fun c_1 => ?_)
    · have hw := hw.trans (if_pos c_1)
      have hk := hk.1 c_1
      refine lv_aload_n hx hb dc_X8_taken_16 rfl (lv_at hl 0 rfl) ?_
      refine ky_cV1 (As := []) F (hE.at hfr hS) (mt_X8_behind l G (b0) (v0) ) kv_X8_49 ⟨⟨rfl, rfl⟩, by decide, by decide⟩ rfl hl.1 rfl (Nat.le_of_ble_eq_true rfl) ⟨Nat.le_of_ble_eq_true rfl, Nat.le_of_ble_eq_true rfl⟩ (va_recv hE.1 hI0 (ci := 4) (q0 := 0) rfl rfl) hI0 dc_X8_taken_17 ?_
      refine lv_istore_n (lv' := [(2, .int (fn_X8_behind v0)), (0, .ref b0), (1, .int (a1))]) hx hb dc_X8_taken_20 rfl hl (by decide) rfl (fun ls hl => ?_)
      refine lv_iload_n hx hb dc_X8_taken_21 rfl (lv_at hl 2 rfl) ?_
      refine lv_iconst (v := 2) hx hb dc_X8_taken_22 (by decide) ?_
      refine lv_icmp_ne (tgt := 57) hx hb dc_X8_taken_23 (by decide) (fun c_2 => ?_) (fun c_2 => ?_)
      · have hw := hw.trans (if_neg c_2)
        have hk := hk.2 c_2
        refine lv_iload_n hx hb dc_X8_taken_57 rfl (lv_at hl 0 rfl) ?_
        refine lv_if_le (tgt := 90) hx hb dc_X8_taken_58 (by decide) (fun c_3 => ?_) (fun c_3 => ?_)
        · have hw := hw.trans (if_pos c_3)
          have hk := hk.1 c_3
          refine lv_iconst (v := 0) hx hb dc_X8_taken_90 (by decide) ?_
          refine lv_istore_n (lv' := [(3, .int ((0 : Int32))), (2, .int (fn_X8_behind v0)), (0, .ref b0), (1, .int (a1))]) hx hb dc_X8_taken_91 rfl hl (by decide) rfl (fun ls hl => ?_)
          refine va_new (ci := 4) (fs := [.int (0), .long (0)]) (C := RX8) (T := TX8) (N := 2) hx hb hts ki_X8 tyX8 tyX8_ok hown (hts _ kw_6_165) (hts _ kw_6_5) (hts _ kw_1_9) hE.1 hP hD hS hA rfl (fun j hj => by rcases (show j = 0 ∨ j = 1 by omega) with rfl | rfl <;> rfl) (Nat.le_of_ble_eq_true rfl) (Nat.le_of_ble_eq_true rfl) dc_X8_taken_92 (fun q_4 H hP hD hS => ?_)
          have hP : va_P G.1 kcl [(q_4, .inr (4, [.int (0), .long (0)]))] H := hP
          have hD : va_D A [(q_4, .inr (4, [.int (0), .long (0)]))] := hD
          have hI0 := ky_ro hX hna hS
          refine W.widen (k := 1) (n := 2) (Nat.le_refl _) (Nat.le_refl _) ?_
          refine lv_dup hx hb dc_X8_taken_95 rfl ?_
          refine lv_aload_n hx hb dc_X8_taken_96 rfl (lv_at hl 2 rfl) ?_
          refine va_get (D := G.1) (ci := 4) (v := .int (v0.1)) (C := RX8) (T := TX8) (N := 2) hx hb hts ki_X8 hown hE.1 hI0 0 rfl rfl 0 (by decide) (hts _ kw_6_10) (fun _ h9 => h9) rfl dc_X8_taken_97 ?_
          refine lv_aload_n hx hb dc_X8_taken_100 rfl (lv_at hl 2 rfl) ?_
          refine ky_cV1 (As := []) F (hE.at hfr hS) (mt_X8_whole l G (b0) (v0) ) kv_X8_42 ⟨⟨rfl, rfl⟩, by decide, by decide⟩ rfl hl.1 rfl (Nat.le_of_ble_eq_true rfl) ⟨Nat.le_of_ble_eq_true rfl, Nat.le_of_ble_eq_true rfl⟩ (va_recv hE.1 hI0 (ci := 4) (q0 := 0) rfl rfl) hI0 dc_X8_taken_101 ?_
          refine lv_iload_n hx hb dc_X8_taken_104 rfl (lv_at hl 0 rfl) ?_
          refine lv_if_eq (tgt := 112) hx hb dc_X8_taken_105 (by decide) (fun _ => ?_) (fun c_5 => absurd c_5 (by decide))
          refine lv_iconst (v := 0) hx hb dc_X8_taken_112 (by decide) ?_
          refine lv_i2l (v := ((0 : Int32)).toInt64) hx hb dc_X8_taken_113 rfl ?_
          refine lv_ladd hx hb dc_X8_taken_114 ?_
          refine lv_lconst (v := 0) hx hb dc_X8_taken_115 (by decide) ?_
          obtain ⟨hq_6, hk⟩ := hk
          refine ky_cN0 (As := [.long ((fn_X8_whole v0) + (((0 : Int32)).toInt64)), .long ((0 : Int64))]) F hE (mt_X9_nearest l ((fn_X8_whole v0) + (((0 : Int32)).toInt64)) ((0 : Int64)) hq_6) kn_X8_84 ⟨⟨rfl, rfl⟩, by decide, by decide⟩ rfl hl.1 rfl (Nat.le_of_ble_eq_true rfl) ⟨Nat.le_of_ble_eq_true rfl, Nat.le_of_ble_eq_true rfl⟩ dc_X8_taken_116 ?_
          refine ky_cIh (As := [.int (v0.1), .long (fn_X9_nearest ((fn_X8_whole v0) + (((0 : Int32)).toInt64)) ((0 : Int64)))]) (wr := []) F (hE.at hfr hS) hfr (mt_X8_init l G (q_4) (v0.1) (fn_X9_nearest ((fn_X8_whole v0) + (((0 : Int32)).toInt64)) ((0 : Int64))) H.size ) kI_X8_33 ⟨⟨rfl, rfl⟩, by decide, by decide⟩ rfl hl.1 rfl (Nat.le_of_ble_eq_true rfl) ⟨Nat.le_of_ble_eq_true rfl, Nat.le_of_ble_eq_true rfl⟩ trivial hP hD hS hA [0] [] rfl rfl (by decide) (by decide) (by decide) dc_X8_taken_119 ?_
          rintro v9 u9 H locs ⟨rfl, rfl⟩ hP hD hS - hz hk9
          have hP : va_P G.1 kcl [(q_4, .inr (4, [.int (v0.1), .long (fn_X9_nearest ((fn_X8_whole v0) + (((0 : Int32)).toInt64)) ((0 : Int64)))]))] H := hP
          have hD : va_D A [(q_4, .inr (4, [.int (v0.1), .long (fn_X9_nearest ((fn_X8_whole v0) + (((0 : Int32)).toInt64)) ((0 : Int64)))]))] := hD
          have hI0 := ky_ro hX hna hS
          refine W.widen (k := 1) (n := 2) (Nat.le_refl _) (Nat.le_refl _) ?_
          have hP9 := hP.sub (ws' := []) [] rfl
          have hD9 := hD.sub (ws' := []) [] (by decide) rfl
          have hI9 := hP.sub (ws' := [(q_4, .inr (4, [.int (v0.1), .long (fn_X9_nearest ((fn_X8_whole v0) + (((0 : Int32)).toInt64)) ((0 : Int64)))]))]) [0] rfl
          have ho9 : q_4 = b0 ∨ sz ≤ q_4 := Or.inr (by have z := hD.2 0 _ rfl; rw [hAe] at z; rw [← hsz]; exact ky_fresh z)
          refine W.widen (k := 1) (n := 2) (Nat.le_of_ble_eq_true rfl) (Nat.le_of_ble_eq_true rfl) ?_
          exact W.aret (v := .ref q_4) hx hb hr (Or.inl ⟨_, rfl⟩) (Or.inr ⟨_, rfl⟩) (fun t ht hW => ⟨⟨_, q_4, rfl, rfl, by rw [ht]; exact hP9, hD9, by rw [hw, ht]; exact ky_itp hI9, ho9⟩, hS.F ht⟩) hS.2.2 dc_X8_taken_122
        · have hw := hw.trans (if_neg c_3)
          have hk := hk.2 c_3
          refine lv_iload_n hx hb dc_X8_taken_61 rfl (lv_at hl 2 rfl) ?_
          refine lv_iconst (v := 1) hx hb dc_X8_taken_62 (by decide) ?_
          refine lv_icmp_ne (tgt := 70) hx hb dc_X8_taken_63 (by decide) (fun c_4 => ?_) (fun c_4 => ?_)
          · have hw := hw.trans (if_neg c_4)
            have hk := hk.2 c_4
            refine lv_iconst (v := 0) hx hb dc_X8_taken_70 (by decide) ?_
            refine lv_aload_n hx hb dc_X8_taken_71 rfl (lv_at hl 1 rfl) ?_
            refine va_get (D := G.1) (ci := 4) (v := .int (v0.1)) (C := RX8) (T := TX8) (N := 2) hx hb hts ki_X8 hown hE.1 hI0 0 rfl rfl 0 (by decide) (hts _ kw_6_10) (fun _ h9 => h9) rfl dc_X8_taken_72 ?_
            refine lv_if_ne (tgt := 82) hx hb dc_X8_taken_75 (by decide) (fun c_5 => ?_) (fun c_5 => ?_)
            · have hw := hw.trans (if_neg c_5)
              have hk := hk.2 c_5
              refine lv_iconst (v := 0) hx hb dc_X8_taken_82 (by decide) ?_
              refine lv_icmp_ne (tgt := 90) hx hb dc_X8_taken_83 (by decide) (fun c_6 => absurd c_6 (by decide)) (fun _ => ?_)
              refine lv_iconst (v := 1) hx hb dc_X8_taken_86 (by decide) ?_
              refine lv_goto (tgt := 91) hx hb dc_X8_taken_87 (by decide) ?_
              refine lv_istore_n (lv' := [(3, .int ((1 : Int32))), (2, .int (fn_X8_behind v0)), (0, .ref b0), (1, .int (a1))]) hx hb dc_X8_taken_91 rfl hl (by decide) rfl (fun ls hl => ?_)
              refine va_new (ci := 4) (fs := [.int (0), .long (0)]) (C := RX8) (T := TX8) (N := 2) hx hb hts ki_X8 tyX8 tyX8_ok hown (hts _ kw_6_165) (hts _ kw_6_5) (hts _ kw_1_9) hE.1 hP hD hS hA rfl (fun j hj => by rcases (show j = 0 ∨ j = 1 by omega) with rfl | rfl <;> rfl) (Nat.le_of_ble_eq_true rfl) (Nat.le_of_ble_eq_true rfl) dc_X8_taken_92 (fun q_7 H hP hD hS => ?_)
              have hP : va_P G.1 kcl [(q_7, .inr (4, [.int (0), .long (0)]))] H := hP
              have hD : va_D A [(q_7, .inr (4, [.int (0), .long (0)]))] := hD
              have hI0 := ky_ro hX hna hS
              refine W.widen (k := 1) (n := 2) (Nat.le_refl _) (Nat.le_refl _) ?_
              refine lv_dup hx hb dc_X8_taken_95 rfl ?_
              refine lv_aload_n hx hb dc_X8_taken_96 rfl (lv_at hl 2 rfl) ?_
              refine va_get (D := G.1) (ci := 4) (v := .int (v0.1)) (C := RX8) (T := TX8) (N := 2) hx hb hts ki_X8 hown hE.1 hI0 0 rfl rfl 0 (by decide) (hts _ kw_6_10) (fun _ h9 => h9) rfl dc_X8_taken_97 ?_
              refine lv_aload_n hx hb dc_X8_taken_100 rfl (lv_at hl 2 rfl) ?_
              refine ky_cV1 (As := []) F (hE.at hfr hS) (mt_X8_whole l G (b0) (v0) ) kv_X8_42 ⟨⟨rfl, rfl⟩, by decide, by decide⟩ rfl hl.1 rfl (Nat.le_of_ble_eq_true rfl) ⟨Nat.le_of_ble_eq_true rfl, Nat.le_of_ble_eq_true rfl⟩ (va_recv hE.1 hI0 (ci := 4) (q0 := 0) rfl rfl) hI0 dc_X8_taken_101 ?_
              refine lv_iload_n hx hb dc_X8_taken_104 rfl (lv_at hl 0 rfl) ?_
              refine lv_if_eq (tgt := 112) hx hb dc_X8_taken_105 (by decide) (fun c_8 => absurd c_8 (by decide)) (fun _ => ?_)
              refine lv_iconst (v := 1) hx hb dc_X8_taken_108 (by decide) ?_
              refine lv_goto (tgt := 113) hx hb dc_X8_taken_109 (by decide) ?_
              refine lv_i2l (v := ((1 : Int32)).toInt64) hx hb dc_X8_taken_113 rfl ?_
              refine lv_ladd hx hb dc_X8_taken_114 ?_
              refine lv_lconst (v := 0) hx hb dc_X8_taken_115 (by decide) ?_
              obtain ⟨hq_9, hk⟩ := hk
              refine ky_cN0 (As := [.long ((fn_X8_whole v0) + (((1 : Int32)).toInt64)), .long ((0 : Int64))]) F hE (mt_X9_nearest l ((fn_X8_whole v0) + (((1 : Int32)).toInt64)) ((0 : Int64)) hq_9) kn_X8_84 ⟨⟨rfl, rfl⟩, by decide, by decide⟩ rfl hl.1 rfl (Nat.le_of_ble_eq_true rfl) ⟨Nat.le_of_ble_eq_true rfl, Nat.le_of_ble_eq_true rfl⟩ dc_X8_taken_116 ?_
              refine ky_cIh (As := [.int (v0.1), .long (fn_X9_nearest ((fn_X8_whole v0) + (((1 : Int32)).toInt64)) ((0 : Int64)))]) (wr := []) F (hE.at hfr hS) hfr (mt_X8_init l G (q_7) (v0.1) (fn_X9_nearest ((fn_X8_whole v0) + (((1 : Int32)).toInt64)) ((0 : Int64))) H.size ) kI_X8_33 ⟨⟨rfl, rfl⟩, by decide, by decide⟩ rfl hl.1 rfl (Nat.le_of_ble_eq_true rfl) ⟨Nat.le_of_ble_eq_true rfl, Nat.le_of_ble_eq_true rfl⟩ trivial hP hD hS hA [0] [] rfl rfl (by decide) (by decide) (by decide) dc_X8_taken_119 ?_
              rintro v9 u9 H locs ⟨rfl, rfl⟩ hP hD hS - hz hk9
              have hP : va_P G.1 kcl [(q_7, .inr (4, [.int (v0.1), .long (fn_X9_nearest ((fn_X8_whole v0) + (((1 : Int32)).toInt64)) ((0 : Int64)))]))] H := hP
              have hD : va_D A [(q_7, .inr (4, [.int (v0.1), .long (fn_X9_nearest ((fn_X8_whole v0) + (((1 : Int32)).toInt64)) ((0 : Int64)))]))] := hD
              have hI0 := ky_ro hX hna hS
              refine W.widen (k := 1) (n := 2) (Nat.le_refl _) (Nat.le_refl _) ?_
              have hP9 := hP.sub (ws' := []) [] rfl
              have hD9 := hD.sub (ws' := []) [] (by decide) rfl
              have hI9 := hP.sub (ws' := [(q_7, .inr (4, [.int (v0.1), .long (fn_X9_nearest ((fn_X8_whole v0) + (((1 : Int32)).toInt64)) ((0 : Int64)))]))]) [0] rfl
              have ho9 : q_7 = b0 ∨ sz ≤ q_7 := Or.inr (by have z := hD.2 0 _ rfl; rw [hAe] at z; rw [← hsz]; exact ky_fresh z)
              refine W.widen (k := 1) (n := 2) (Nat.le_of_ble_eq_true rfl) (Nat.le_of_ble_eq_true rfl) ?_
              exact W.aret (v := .ref q_7) hx hb hr (Or.inl ⟨_, rfl⟩) (Or.inr ⟨_, rfl⟩) (fun t ht hW => ⟨⟨_, q_7, rfl, rfl, by rw [ht]; exact hP9, hD9, by rw [hw, ht]; exact ky_itp hI9, ho9⟩, hS.F ht⟩) hS.2.2 dc_X8_taken_122
            · have hw := hw.trans (if_pos c_5)
              have hk := hk.1 c_5
              refine lv_iconst (v := 1) hx hb dc_X8_taken_78 (by decide) ?_
              refine lv_goto (tgt := 83) hx hb dc_X8_taken_79 (by decide) ?_
              refine lv_icmp_ne (tgt := 90) hx hb dc_X8_taken_83 (by decide) (fun _ => ?_) (fun c_6 => absurd c_6 (by decide))
              refine lv_iconst (v := 0) hx hb dc_X8_taken_90 (by decide) ?_
              refine lv_istore_n (lv' := [(3, .int ((0 : Int32))), (2, .int (fn_X8_behind v0)), (0, .ref b0), (1, .int (a1))]) hx hb dc_X8_taken_91 rfl hl (by decide) rfl (fun ls hl => ?_)
              refine va_new (ci := 4) (fs := [.int (0), .long (0)]) (C := RX8) (T := TX8) (N := 2) hx hb hts ki_X8 tyX8 tyX8_ok hown (hts _ kw_6_165) (hts _ kw_6_5) (hts _ kw_1_9) hE.1 hP hD hS hA rfl (fun j hj => by rcases (show j = 0 ∨ j = 1 by omega) with rfl | rfl <;> rfl) (Nat.le_of_ble_eq_true rfl) (Nat.le_of_ble_eq_true rfl) dc_X8_taken_92 (fun q_7 H hP hD hS => ?_)
              have hP : va_P G.1 kcl [(q_7, .inr (4, [.int (0), .long (0)]))] H := hP
              have hD : va_D A [(q_7, .inr (4, [.int (0), .long (0)]))] := hD
              have hI0 := ky_ro hX hna hS
              refine W.widen (k := 1) (n := 2) (Nat.le_refl _) (Nat.le_refl _) ?_
              refine lv_dup hx hb dc_X8_taken_95 rfl ?_
              refine lv_aload_n hx hb dc_X8_taken_96 rfl (lv_at hl 2 rfl) ?_
              refine va_get (D := G.1) (ci := 4) (v := .int (v0.1)) (C := RX8) (T := TX8) (N := 2) hx hb hts ki_X8 hown hE.1 hI0 0 rfl rfl 0 (by decide) (hts _ kw_6_10) (fun _ h9 => h9) rfl dc_X8_taken_97 ?_
              refine lv_aload_n hx hb dc_X8_taken_100 rfl (lv_at hl 2 rfl) ?_
              refine ky_cV1 (As := []) F (hE.at hfr hS) (mt_X8_whole l G (b0) (v0) ) kv_X8_42 ⟨⟨rfl, rfl⟩, by decide, by decide⟩ rfl hl.1 rfl (Nat.le_of_ble_eq_true rfl) ⟨Nat.le_of_ble_eq_true rfl, Nat.le_of_ble_eq_true rfl⟩ (va_recv hE.1 hI0 (ci := 4) (q0 := 0) rfl rfl) hI0 dc_X8_taken_101 ?_
              refine lv_iload_n hx hb dc_X8_taken_104 rfl (lv_at hl 0 rfl) ?_
              refine lv_if_eq (tgt := 112) hx hb dc_X8_taken_105 (by decide) (fun _ => ?_) (fun c_8 => absurd c_8 (by decide))
              refine lv_iconst (v := 0) hx hb dc_X8_taken_112 (by decide) ?_
              refine lv_i2l (v := ((0 : Int32)).toInt64) hx hb dc_X8_taken_113 rfl ?_
              refine lv_ladd hx hb dc_X8_taken_114 ?_
              refine lv_lconst (v := 0) hx hb dc_X8_taken_115 (by decide) ?_
              obtain ⟨hq_9, hk⟩ := hk
              refine ky_cN0 (As := [.long ((fn_X8_whole v0) + (((0 : Int32)).toInt64)), .long ((0 : Int64))]) F hE (mt_X9_nearest l ((fn_X8_whole v0) + (((0 : Int32)).toInt64)) ((0 : Int64)) hq_9) kn_X8_84 ⟨⟨rfl, rfl⟩, by decide, by decide⟩ rfl hl.1 rfl (Nat.le_of_ble_eq_true rfl) ⟨Nat.le_of_ble_eq_true rfl, Nat.le_of_ble_eq_true rfl⟩ dc_X8_taken_116 ?_
              refine ky_cIh (As := [.int (v0.1), .long (fn_X9_nearest ((fn_X8_whole v0) + (((0 : Int32)).toInt64)) ((0 : Int64)))]) (wr := []) F (hE.at hfr hS) hfr (mt_X8_init l G (q_7) (v0.1) (fn_X9_nearest ((fn_X8_whole v0) + (((0 : Int32)).toInt64)) ((0 : Int64))) H.size ) kI_X8_33 ⟨⟨rfl, rfl⟩, by decide, by decide⟩ rfl hl.1 rfl (Nat.le_of_ble_eq_true rfl) ⟨Nat.le_of_ble_eq_true rfl, Nat.le_of_ble_eq_true rfl⟩ trivial hP hD hS hA [0] [] rfl rfl (by decide) (by decide) (by decide) dc_X8_taken_119 ?_
              rintro v9 u9 H locs ⟨rfl, rfl⟩ hP hD hS - hz hk9
              have hP : va_P G.1 kcl [(q_7, .inr (4, [.int (v0.1), .long (fn_X9_nearest ((fn_X8_whole v0) + (((0 : Int32)).toInt64)) ((0 : Int64)))]))] H := hP
              have hD : va_D A [(q_7, .inr (4, [.int (v0.1), .long (fn_X9_nearest ((fn_X8_whole v0) + (((0 : Int32)).toInt64)) ((0 : Int64)))]))] := hD
              have hI0 := ky_ro hX hna hS
              refine W.widen (k := 1) (n := 2) (Nat.le_refl _) (Nat.le_refl _) ?_
              have hP9 := hP.sub (ws' := []) [] rfl
              have hD9 := hD.sub (ws' := []) [] (by decide) rfl
              have hI9 := hP.sub (ws' := [(q_7, .inr (4, [.int (v0.1), .long (fn_X9_nearest ((fn_X8_whole v0) + (((0 : Int32)).toInt64)) ((0 : Int64)))]))]) [0] rfl
              have ho9 : q_7 = b0 ∨ sz ≤ q_7 := Or.inr (by have z := hD.2 0 _ rfl; rw [hAe] at z; rw [← hsz]; exact ky_fresh z)
              refine W.widen (k := 1) (n := 2) (Nat.le_of_ble_eq_true rfl) (Nat.le_of_ble_eq_true rfl) ?_
              exact W.aret (v := .ref q_7) hx hb hr (Or.inl ⟨_, rfl⟩) (Or.inr ⟨_, rfl⟩) (fun t ht hW => ⟨⟨_, q_7, rfl, rfl, by rw [ht]; exact hP9, hD9, by rw [hw, ht]; exact ky_itp hI9, ho9⟩, hS.F ht⟩) hS.2.2 dc_X8_taken_122
          · have hw := hw.trans (if_pos c_4)
            have hk := hk.1 c_4
            refine lv_iconst (v := 1) hx hb dc_X8_taken_66 (by decide) ?_
            refine lv_goto (tgt := 71) hx hb dc_X8_taken_67 (by decide) ?_
            refine lv_aload_n hx hb dc_X8_taken_71 rfl (lv_at hl 1 rfl) ?_
            refine va_get (D := G.1) (ci := 4) (v := .int (v0.1)) (C := RX8) (T := TX8) (N := 2) hx hb hts ki_X8 hown hE.1 hI0 0 rfl rfl 0 (by decide) (hts _ kw_6_10) (fun _ h9 => h9) rfl dc_X8_taken_72 ?_
            refine lv_if_ne (tgt := 82) hx hb dc_X8_taken_75 (by decide) (fun c_5 => ?_) (fun c_5 => ?_)
            · have hw := hw.trans (if_neg c_5)
              have hk := hk.2 c_5
              refine lv_iconst (v := 0) hx hb dc_X8_taken_82 (by decide) ?_
              refine lv_icmp_ne (tgt := 90) hx hb dc_X8_taken_83 (by decide) (fun _ => ?_) (fun c_6 => absurd c_6 (by decide))
              refine lv_iconst (v := 0) hx hb dc_X8_taken_90 (by decide) ?_
              refine lv_istore_n (lv' := [(3, .int ((0 : Int32))), (2, .int (fn_X8_behind v0)), (0, .ref b0), (1, .int (a1))]) hx hb dc_X8_taken_91 rfl hl (by decide) rfl (fun ls hl => ?_)
              refine va_new (ci := 4) (fs := [.int (0), .long (0)]) (C := RX8) (T := TX8) (N := 2) hx hb hts ki_X8 tyX8 tyX8_ok hown (hts _ kw_6_165) (hts _ kw_6_5) (hts _ kw_1_9) hE.1 hP hD hS hA rfl (fun j hj => by rcases (show j = 0 ∨ j = 1 by omega) with rfl | rfl <;> rfl) (Nat.le_of_ble_eq_true rfl) (Nat.le_of_ble_eq_true rfl) dc_X8_taken_92 (fun q_7 H hP hD hS => ?_)
              have hP : va_P G.1 kcl [(q_7, .inr (4, [.int (0), .long (0)]))] H := hP
              have hD : va_D A [(q_7, .inr (4, [.int (0), .long (0)]))] := hD
              have hI0 := ky_ro hX hna hS
              refine W.widen (k := 1) (n := 2) (Nat.le_refl _) (Nat.le_refl _) ?_
              refine lv_dup hx hb dc_X8_taken_95 rfl ?_
              refine lv_aload_n hx hb dc_X8_taken_96 rfl (lv_at hl 2 rfl) ?_
              refine va_get (D := G.1) (ci := 4) (v := .int (v0.1)) (C := RX8) (T := TX8) (N := 2) hx hb hts ki_X8 hown hE.1 hI0 0 rfl rfl 0 (by decide) (hts _ kw_6_10) (fun _ h9 => h9) rfl dc_X8_taken_97 ?_
              refine lv_aload_n hx hb dc_X8_taken_100 rfl (lv_at hl 2 rfl) ?_
              refine ky_cV1 (As := []) F (hE.at hfr hS) (mt_X8_whole l G (b0) (v0) ) kv_X8_42 ⟨⟨rfl, rfl⟩, by decide, by decide⟩ rfl hl.1 rfl (Nat.le_of_ble_eq_true rfl) ⟨Nat.le_of_ble_eq_true rfl, Nat.le_of_ble_eq_true rfl⟩ (va_recv hE.1 hI0 (ci := 4) (q0 := 0) rfl rfl) hI0 dc_X8_taken_101 ?_
              refine lv_iload_n hx hb dc_X8_taken_104 rfl (lv_at hl 0 rfl) ?_
              refine lv_if_eq (tgt := 112) hx hb dc_X8_taken_105 (by decide) (fun _ => ?_) (fun c_8 => absurd c_8 (by decide))
              refine lv_iconst (v := 0) hx hb dc_X8_taken_112 (by decide) ?_
              refine lv_i2l (v := ((0 : Int32)).toInt64) hx hb dc_X8_taken_113 rfl ?_
              refine lv_ladd hx hb dc_X8_taken_114 ?_
              refine lv_lconst (v := 0) hx hb dc_X8_taken_115 (by decide) ?_
              obtain ⟨hq_9, hk⟩ := hk
              refine ky_cN0 (As := [.long ((fn_X8_whole v0) + (((0 : Int32)).toInt64)), .long ((0 : Int64))]) F hE (mt_X9_nearest l ((fn_X8_whole v0) + (((0 : Int32)).toInt64)) ((0 : Int64)) hq_9) kn_X8_84 ⟨⟨rfl, rfl⟩, by decide, by decide⟩ rfl hl.1 rfl (Nat.le_of_ble_eq_true rfl) ⟨Nat.le_of_ble_eq_true rfl, Nat.le_of_ble_eq_true rfl⟩ dc_X8_taken_116 ?_
              refine ky_cIh (As := [.int (v0.1), .long (fn_X9_nearest ((fn_X8_whole v0) + (((0 : Int32)).toInt64)) ((0 : Int64)))]) (wr := []) F (hE.at hfr hS) hfr (mt_X8_init l G (q_7) (v0.1) (fn_X9_nearest ((fn_X8_whole v0) + (((0 : Int32)).toInt64)) ((0 : Int64))) H.size ) kI_X8_33 ⟨⟨rfl, rfl⟩, by decide, by decide⟩ rfl hl.1 rfl (Nat.le_of_ble_eq_true rfl) ⟨Nat.le_of_ble_eq_true rfl, Nat.le_of_ble_eq_true rfl⟩ trivial hP hD hS hA [0] [] rfl rfl (by decide) (by decide) (by decide) dc_X8_taken_119 ?_
              rintro v9 u9 H locs ⟨rfl, rfl⟩ hP hD hS - hz hk9
              have hP : va_P G.1 kcl [(q_7, .inr (4, [.int (v0.1), .long (fn_X9_nearest ((fn_X8_whole v0) + (((0 : Int32)).toInt64)) ((0 : Int64)))]))] H := hP
              have hD : va_D A [(q_7, .inr (4, [.int (v0.1), .long (fn_X9_nearest ((fn_X8_whole v0) + (((0 : Int32)).toInt64)) ((0 : Int64)))]))] := hD
              have hI0 := ky_ro hX hna hS
              refine W.widen (k := 1) (n := 2) (Nat.le_refl _) (Nat.le_refl _) ?_
              have hP9 := hP.sub (ws' := []) [] rfl
              have hD9 := hD.sub (ws' := []) [] (by decide) rfl
              have hI9 := hP.sub (ws' := [(q_7, .inr (4, [.int (v0.1), .long (fn_X9_nearest ((fn_X8_whole v0) + (((0 : Int32)).toInt64)) ((0 : Int64)))]))]) [0] rfl
              have ho9 : q_7 = b0 ∨ sz ≤ q_7 := Or.inr (by have z := hD.2 0 _ rfl; rw [hAe] at z; rw [← hsz]; exact ky_fresh z)
              refine W.widen (k := 1) (n := 2) (Nat.le_of_ble_eq_true rfl) (Nat.le_of_ble_eq_true rfl) ?_
              exact W.aret (v := .ref q_7) hx hb hr (Or.inl ⟨_, rfl⟩) (Or.inr ⟨_, rfl⟩) (fun t ht hW => ⟨⟨_, q_7, rfl, rfl, by rw [ht]; exact hP9, hD9, by rw [hw, ht]; exact ky_itp hI9, ho9⟩, hS.F ht⟩) hS.2.2 dc_X8_taken_122
            · have hw := hw.trans (if_pos c_5)
              have hk := hk.1 c_5
              refine lv_iconst (v := 1) hx hb dc_X8_taken_78 (by decide) ?_
              refine lv_goto (tgt := 83) hx hb dc_X8_taken_79 (by decide) ?_
              refine lv_icmp_ne (tgt := 90) hx hb dc_X8_taken_83 (by decide) (fun c_6 => absurd c_6 (by decide)) (fun _ => ?_)
              refine lv_iconst (v := 1) hx hb dc_X8_taken_86 (by decide) ?_
              refine lv_goto (tgt := 91) hx hb dc_X8_taken_87 (by decide) ?_
              refine lv_istore_n (lv' := [(3, .int ((1 : Int32))), (2, .int (fn_X8_behind v0)), (0, .ref b0), (1, .int (a1))]) hx hb dc_X8_taken_91 rfl hl (by decide) rfl (fun ls hl => ?_)
              refine va_new (ci := 4) (fs := [.int (0), .long (0)]) (C := RX8) (T := TX8) (N := 2) hx hb hts ki_X8 tyX8 tyX8_ok hown (hts _ kw_6_165) (hts _ kw_6_5) (hts _ kw_1_9) hE.1 hP hD hS hA rfl (fun j hj => by rcases (show j = 0 ∨ j = 1 by omega) with rfl | rfl <;> rfl) (Nat.le_of_ble_eq_true rfl) (Nat.le_of_ble_eq_true rfl) dc_X8_taken_92 (fun q_7 H hP hD hS => ?_)
              have hP : va_P G.1 kcl [(q_7, .inr (4, [.int (0), .long (0)]))] H := hP
              have hD : va_D A [(q_7, .inr (4, [.int (0), .long (0)]))] := hD
              have hI0 := ky_ro hX hna hS
              refine W.widen (k := 1) (n := 2) (Nat.le_refl _) (Nat.le_refl _) ?_
              refine lv_dup hx hb dc_X8_taken_95 rfl ?_
              refine lv_aload_n hx hb dc_X8_taken_96 rfl (lv_at hl 2 rfl) ?_
              refine va_get (D := G.1) (ci := 4) (v := .int (v0.1)) (C := RX8) (T := TX8) (N := 2) hx hb hts ki_X8 hown hE.1 hI0 0 rfl rfl 0 (by decide) (hts _ kw_6_10) (fun _ h9 => h9) rfl dc_X8_taken_97 ?_
              refine lv_aload_n hx hb dc_X8_taken_100 rfl (lv_at hl 2 rfl) ?_
              refine ky_cV1 (As := []) F (hE.at hfr hS) (mt_X8_whole l G (b0) (v0) ) kv_X8_42 ⟨⟨rfl, rfl⟩, by decide, by decide⟩ rfl hl.1 rfl (Nat.le_of_ble_eq_true rfl) ⟨Nat.le_of_ble_eq_true rfl, Nat.le_of_ble_eq_true rfl⟩ (va_recv hE.1 hI0 (ci := 4) (q0 := 0) rfl rfl) hI0 dc_X8_taken_101 ?_
              refine lv_iload_n hx hb dc_X8_taken_104 rfl (lv_at hl 0 rfl) ?_
              refine lv_if_eq (tgt := 112) hx hb dc_X8_taken_105 (by decide) (fun c_8 => absurd c_8 (by decide)) (fun _ => ?_)
              refine lv_iconst (v := 1) hx hb dc_X8_taken_108 (by decide) ?_
              refine lv_goto (tgt := 113) hx hb dc_X8_taken_109 (by decide) ?_
              refine lv_i2l (v := ((1 : Int32)).toInt64) hx hb dc_X8_taken_113 rfl ?_
              refine lv_ladd hx hb dc_X8_taken_114 ?_
              refine lv_lconst (v := 0) hx hb dc_X8_taken_115 (by decide) ?_
              obtain ⟨hq_9, hk⟩ := hk
              refine ky_cN0 (As := [.long ((fn_X8_whole v0) + (((1 : Int32)).toInt64)), .long ((0 : Int64))]) F hE (mt_X9_nearest l ((fn_X8_whole v0) + (((1 : Int32)).toInt64)) ((0 : Int64)) hq_9) kn_X8_84 ⟨⟨rfl, rfl⟩, by decide, by decide⟩ rfl hl.1 rfl (Nat.le_of_ble_eq_true rfl) ⟨Nat.le_of_ble_eq_true rfl, Nat.le_of_ble_eq_true rfl⟩ dc_X8_taken_116 ?_
              refine ky_cIh (As := [.int (v0.1), .long (fn_X9_nearest ((fn_X8_whole v0) + (((1 : Int32)).toInt64)) ((0 : Int64)))]) (wr := []) F (hE.at hfr hS) hfr (mt_X8_init l G (q_7) (v0.1) (fn_X9_nearest ((fn_X8_whole v0) + (((1 : Int32)).toInt64)) ((0 : Int64))) H.size ) kI_X8_33 ⟨⟨rfl, rfl⟩, by decide, by decide⟩ rfl hl.1 rfl (Nat.le_of_ble_eq_true rfl) ⟨Nat.le_of_ble_eq_true rfl, Nat.le_of_ble_eq_true rfl⟩ trivial hP hD hS hA [0] [] rfl rfl (by decide) (by decide) (by decide) dc_X8_taken_119 ?_
              rintro v9 u9 H locs ⟨rfl, rfl⟩ hP hD hS - hz hk9
              have hP : va_P G.1 kcl [(q_7, .inr (4, [.int (v0.1), .long (fn_X9_nearest ((fn_X8_whole v0) + (((1 : Int32)).toInt64)) ((0 : Int64)))]))] H := hP
              have hD : va_D A [(q_7, .inr (4, [.int (v0.1), .long (fn_X9_nearest ((fn_X8_whole v0) + (((1 : Int32)).toInt64)) ((0 : Int64)))]))] := hD
              have hI0 := ky_ro hX hna hS
              refine W.widen (k := 1) (n := 2) (Nat.le_refl _) (Nat.le_refl _) ?_
              have hP9 := hP.sub (ws' := []) [] rfl
              have hD9 := hD.sub (ws' := []) [] (by decide) rfl
              have hI9 := hP.sub (ws' := [(q_7, .inr (4, [.int (v0.1), .long (fn_X9_nearest ((fn_X8_whole v0) + (((1 : Int32)).toInt64)) ((0 : Int64)))]))]) [0] rfl
              have ho9 : q_7 = b0 ∨ sz ≤ q_7 := Or.inr (by have z := hD.2 0 _ rfl; rw [hAe] at z; rw [← hsz]; exact ky_fresh z)
              refine W.widen (k := 1) (n := 2) (Nat.le_of_ble_eq_true rfl) (Nat.le_of_ble_eq_true rfl) ?_
              exact W.aret (v := .ref q_7) hx hb hr (Or.inl ⟨_, rfl⟩) (Or.inr ⟨_, rfl⟩) (fun t ht hW => ⟨⟨_, q_7, rfl, rfl, by rw [ht]; exact hP9, hD9, by rw [hw, ht]; exact ky_itp hI9, ho9⟩, hS.F ht⟩) hS.2.2 dc_X8_taken_122
      · have hw := hw.trans (if_pos c_2)
        have hk := hk.1 c_2
        refine lv_iload_n hx hb dc_X8_taken_26 rfl (lv_at hl 0 rfl) ?_
        refine lv_iconst (v := 3) hx hb dc_X8_taken_27 (by decide) ?_
        refine lv_icmp_eq (tgt := 49) hx hb dc_X8_taken_28 (by decide) (fun c_3 => ?_) (fun c_3 => ?_)
        · have hw := hw.trans (if_pos c_3)
          have hk := hk.1 c_3
          refine lv_iconst (v := 1) hx hb dc_X8_taken_49 (by decide) ?_
          refine lv_goto (tgt := 91) hx hb dc_X8_taken_50 (by decide) ?_
          refine lv_istore_n (lv' := [(3, .int ((1 : Int32))), (2, .int (fn_X8_behind v0)), (0, .ref b0), (1, .int (a1))]) hx hb dc_X8_taken_91 rfl hl (by decide) rfl (fun ls hl => ?_)
          refine va_new (ci := 4) (fs := [.int (0), .long (0)]) (C := RX8) (T := TX8) (N := 2) hx hb hts ki_X8 tyX8 tyX8_ok hown (hts _ kw_6_165) (hts _ kw_6_5) (hts _ kw_1_9) hE.1 hP hD hS hA rfl (fun j hj => by rcases (show j = 0 ∨ j = 1 by omega) with rfl | rfl <;> rfl) (Nat.le_of_ble_eq_true rfl) (Nat.le_of_ble_eq_true rfl) dc_X8_taken_92 (fun q_4 H hP hD hS => ?_)
          have hP : va_P G.1 kcl [(q_4, .inr (4, [.int (0), .long (0)]))] H := hP
          have hD : va_D A [(q_4, .inr (4, [.int (0), .long (0)]))] := hD
          have hI0 := ky_ro hX hna hS
          refine W.widen (k := 1) (n := 2) (Nat.le_refl _) (Nat.le_refl _) ?_
          refine lv_dup hx hb dc_X8_taken_95 rfl ?_
          refine lv_aload_n hx hb dc_X8_taken_96 rfl (lv_at hl 2 rfl) ?_
          refine va_get (D := G.1) (ci := 4) (v := .int (v0.1)) (C := RX8) (T := TX8) (N := 2) hx hb hts ki_X8 hown hE.1 hI0 0 rfl rfl 0 (by decide) (hts _ kw_6_10) (fun _ h9 => h9) rfl dc_X8_taken_97 ?_
          refine lv_aload_n hx hb dc_X8_taken_100 rfl (lv_at hl 2 rfl) ?_
          refine ky_cV1 (As := []) F (hE.at hfr hS) (mt_X8_whole l G (b0) (v0) ) kv_X8_42 ⟨⟨rfl, rfl⟩, by decide, by decide⟩ rfl hl.1 rfl (Nat.le_of_ble_eq_true rfl) ⟨Nat.le_of_ble_eq_true rfl, Nat.le_of_ble_eq_true rfl⟩ (va_recv hE.1 hI0 (ci := 4) (q0 := 0) rfl rfl) hI0 dc_X8_taken_101 ?_
          refine lv_iload_n hx hb dc_X8_taken_104 rfl (lv_at hl 0 rfl) ?_
          refine lv_if_eq (tgt := 112) hx hb dc_X8_taken_105 (by decide) (fun c_5 => absurd c_5 (by decide)) (fun _ => ?_)
          refine lv_iconst (v := 1) hx hb dc_X8_taken_108 (by decide) ?_
          refine lv_goto (tgt := 113) hx hb dc_X8_taken_109 (by decide) ?_
          refine lv_i2l (v := ((1 : Int32)).toInt64) hx hb dc_X8_taken_113 rfl ?_
          refine lv_ladd hx hb dc_X8_taken_114 ?_
          refine lv_lconst (v := 0) hx hb dc_X8_taken_115 (by decide) ?_
          obtain ⟨hq_6, hk⟩ := hk
          refine ky_cN0 (As := [.long ((fn_X8_whole v0) + (((1 : Int32)).toInt64)), .long ((0 : Int64))]) F hE (mt_X9_nearest l ((fn_X8_whole v0) + (((1 : Int32)).toInt64)) ((0 : Int64)) hq_6) kn_X8_84 ⟨⟨rfl, rfl⟩, by decide, by decide⟩ rfl hl.1 rfl (Nat.le_of_ble_eq_true rfl) ⟨Nat.le_of_ble_eq_true rfl, Nat.le_of_ble_eq_true rfl⟩ dc_X8_taken_116 ?_
          refine ky_cIh (As := [.int (v0.1), .long (fn_X9_nearest ((fn_X8_whole v0) + (((1 : Int32)).toInt64)) ((0 : Int64)))]) (wr := []) F (hE.at hfr hS) hfr (mt_X8_init l G (q_4) (v0.1) (fn_X9_nearest ((fn_X8_whole v0) + (((1 : Int32)).toInt64)) ((0 : Int64))) H.size ) kI_X8_33 ⟨⟨rfl, rfl⟩, by decide, by decide⟩ rfl hl.1 rfl (Nat.le_of_ble_eq_true rfl) ⟨Nat.le_of_ble_eq_true rfl, Nat.le_of_ble_eq_true rfl⟩ trivial hP hD hS hA [0] [] rfl rfl (by decide) (by decide) (by decide) dc_X8_taken_119 ?_
          rintro v9 u9 H locs ⟨rfl, rfl⟩ hP hD hS - hz hk9
          have hP : va_P G.1 kcl [(q_4, .inr (4, [.int (v0.1), .long (fn_X9_nearest ((fn_X8_whole v0) + (((1 : Int32)).toInt64)) ((0 : Int64)))]))] H := hP
          have hD : va_D A [(q_4, .inr (4, [.int (v0.1), .long (fn_X9_nearest ((fn_X8_whole v0) + (((1 : Int32)).toInt64)) ((0 : Int64)))]))] := hD
          have hI0 := ky_ro hX hna hS
          refine W.widen (k := 1) (n := 2) (Nat.le_refl _) (Nat.le_refl _) ?_
          have hP9 := hP.sub (ws' := []) [] rfl
          have hD9 := hD.sub (ws' := []) [] (by decide) rfl
          have hI9 := hP.sub (ws' := [(q_4, .inr (4, [.int (v0.1), .long (fn_X9_nearest ((fn_X8_whole v0) + (((1 : Int32)).toInt64)) ((0 : Int64)))]))]) [0] rfl
          have ho9 : q_4 = b0 ∨ sz ≤ q_4 := Or.inr (by have z := hD.2 0 _ rfl; rw [hAe] at z; rw [← hsz]; exact ky_fresh z)
          refine W.widen (k := 1) (n := 2) (Nat.le_of_ble_eq_true rfl) (Nat.le_of_ble_eq_true rfl) ?_
          exact W.aret (v := .ref q_4) hx hb hr (Or.inl ⟨_, rfl⟩) (Or.inr ⟨_, rfl⟩) (fun t ht hW => ⟨⟨_, q_4, rfl, rfl, by rw [ht]; exact hP9, hD9, by rw [hw, ht]; exact ky_itp hI9, ho9⟩, hS.F ht⟩) hS.2.2 dc_X8_taken_122
        · have hw := hw.trans (if_neg c_3)
          have hk := hk.2 c_3
          refine lv_iload_n hx hb dc_X8_taken_31 rfl (lv_at hl 0 rfl) ?_
          refine lv_iconst (v := 2) hx hb dc_X8_taken_32 (by decide) ?_
          refine lv_icmp_ne (tgt := 53) hx hb dc_X8_taken_33 (by decide) (fun c_4 => ?_) (fun c_4 => ?_)
          · have hw := hw.trans (if_neg c_4)
            have hk := hk.2 c_4
            refine lv_iconst (v := 0) hx hb dc_X8_taken_53 (by decide) ?_
            refine lv_goto (tgt := 91) hx hb dc_X8_taken_54 (by decide) ?_
            refine lv_istore_n (lv' := [(3, .int ((0 : Int32))), (2, .int (fn_X8_behind v0)), (0, .ref b0), (1, .int (a1))]) hx hb dc_X8_taken_91 rfl hl (by decide) rfl (fun ls hl => ?_)
            refine va_new (ci := 4) (fs := [.int (0), .long (0)]) (C := RX8) (T := TX8) (N := 2) hx hb hts ki_X8 tyX8 tyX8_ok hown (hts _ kw_6_165) (hts _ kw_6_5) (hts _ kw_1_9) hE.1 hP hD hS hA rfl (fun j hj => by rcases (show j = 0 ∨ j = 1 by omega) with rfl | rfl <;> rfl) (Nat.le_of_ble_eq_true rfl) (Nat.le_of_ble_eq_true rfl) dc_X8_taken_92 (fun q_5 H hP hD hS => ?_)
            have hP : va_P G.1 kcl [(q_5, .inr (4, [.int (0), .long (0)]))] H := hP
            have hD : va_D A [(q_5, .inr (4, [.int (0), .long (0)]))] := hD
            have hI0 := ky_ro hX hna hS
            refine W.widen (k := 1) (n := 2) (Nat.le_refl _) (Nat.le_refl _) ?_
            refine lv_dup hx hb dc_X8_taken_95 rfl ?_
            refine lv_aload_n hx hb dc_X8_taken_96 rfl (lv_at hl 2 rfl) ?_
            refine va_get (D := G.1) (ci := 4) (v := .int (v0.1)) (C := RX8) (T := TX8) (N := 2) hx hb hts ki_X8 hown hE.1 hI0 0 rfl rfl 0 (by decide) (hts _ kw_6_10) (fun _ h9 => h9) rfl dc_X8_taken_97 ?_
            refine lv_aload_n hx hb dc_X8_taken_100 rfl (lv_at hl 2 rfl) ?_
            refine ky_cV1 (As := []) F (hE.at hfr hS) (mt_X8_whole l G (b0) (v0) ) kv_X8_42 ⟨⟨rfl, rfl⟩, by decide, by decide⟩ rfl hl.1 rfl (Nat.le_of_ble_eq_true rfl) ⟨Nat.le_of_ble_eq_true rfl, Nat.le_of_ble_eq_true rfl⟩ (va_recv hE.1 hI0 (ci := 4) (q0 := 0) rfl rfl) hI0 dc_X8_taken_101 ?_
            refine lv_iload_n hx hb dc_X8_taken_104 rfl (lv_at hl 0 rfl) ?_
            refine lv_if_eq (tgt := 112) hx hb dc_X8_taken_105 (by decide) (fun _ => ?_) (fun c_6 => absurd c_6 (by decide))
            refine lv_iconst (v := 0) hx hb dc_X8_taken_112 (by decide) ?_
            refine lv_i2l (v := ((0 : Int32)).toInt64) hx hb dc_X8_taken_113 rfl ?_
            refine lv_ladd hx hb dc_X8_taken_114 ?_
            refine lv_lconst (v := 0) hx hb dc_X8_taken_115 (by decide) ?_
            obtain ⟨hq_7, hk⟩ := hk
            refine ky_cN0 (As := [.long ((fn_X8_whole v0) + (((0 : Int32)).toInt64)), .long ((0 : Int64))]) F hE (mt_X9_nearest l ((fn_X8_whole v0) + (((0 : Int32)).toInt64)) ((0 : Int64)) hq_7) kn_X8_84 ⟨⟨rfl, rfl⟩, by decide, by decide⟩ rfl hl.1 rfl (Nat.le_of_ble_eq_true rfl) ⟨Nat.le_of_ble_eq_true rfl, Nat.le_of_ble_eq_true rfl⟩ dc_X8_taken_116 ?_
            refine ky_cIh (As := [.int (v0.1), .long (fn_X9_nearest ((fn_X8_whole v0) + (((0 : Int32)).toInt64)) ((0 : Int64)))]) (wr := []) F (hE.at hfr hS) hfr (mt_X8_init l G (q_5) (v0.1) (fn_X9_nearest ((fn_X8_whole v0) + (((0 : Int32)).toInt64)) ((0 : Int64))) H.size ) kI_X8_33 ⟨⟨rfl, rfl⟩, by decide, by decide⟩ rfl hl.1 rfl (Nat.le_of_ble_eq_true rfl) ⟨Nat.le_of_ble_eq_true rfl, Nat.le_of_ble_eq_true rfl⟩ trivial hP hD hS hA [0] [] rfl rfl (by decide) (by decide) (by decide) dc_X8_taken_119 ?_
            rintro v9 u9 H locs ⟨rfl, rfl⟩ hP hD hS - hz hk9
            have hP : va_P G.1 kcl [(q_5, .inr (4, [.int (v0.1), .long (fn_X9_nearest ((fn_X8_whole v0) + (((0 : Int32)).toInt64)) ((0 : Int64)))]))] H := hP
            have hD : va_D A [(q_5, .inr (4, [.int (v0.1), .long (fn_X9_nearest ((fn_X8_whole v0) + (((0 : Int32)).toInt64)) ((0 : Int64)))]))] := hD
            have hI0 := ky_ro hX hna hS
            refine W.widen (k := 1) (n := 2) (Nat.le_refl _) (Nat.le_refl _) ?_
            have hP9 := hP.sub (ws' := []) [] rfl
            have hD9 := hD.sub (ws' := []) [] (by decide) rfl
            have hI9 := hP.sub (ws' := [(q_5, .inr (4, [.int (v0.1), .long (fn_X9_nearest ((fn_X8_whole v0) + (((0 : Int32)).toInt64)) ((0 : Int64)))]))]) [0] rfl
            have ho9 : q_5 = b0 ∨ sz ≤ q_5 := Or.inr (by have z := hD.2 0 _ rfl; rw [hAe] at z; rw [← hsz]; exact ky_fresh z)
            refine W.widen (k := 1) (n := 2) (Nat.le_of_ble_eq_true rfl) (Nat.le_of_ble_eq_true rfl) ?_
            exact W.aret (v := .ref q_5) hx hb hr (Or.inl ⟨_, rfl⟩) (Or.inr ⟨_, rfl⟩) (fun t ht hW => ⟨⟨_, q_5, rfl, rfl, by rw [ht]; exact hP9, hD9, by rw [hw, ht]; exact ky_itp hI9, ho9⟩, hS.F ht⟩) hS.2.2 dc_X8_taken_122
          · have hw := hw.trans (if_pos c_4)
            have hk := hk.1 c_4
            refine lv_aload_n hx hb dc_X8_taken_36 rfl (lv_at hl 1 rfl) ?_
            refine ky_cV1 (As := []) F (hE.at hfr hS) (mt_X8_whole l G (b0) (v0) ) kv_X8_42 ⟨⟨rfl, rfl⟩, by decide, by decide⟩ rfl hl.1 rfl (Nat.le_of_ble_eq_true rfl) ⟨Nat.le_of_ble_eq_true rfl, Nat.le_of_ble_eq_true rfl⟩ (va_recv hE.1 hI0 (ci := 4) (q0 := 0) rfl rfl) hI0 dc_X8_taken_37 ?_
            refine lv_ldc2 (v := 2) hx hb hown (hts _ kw_6_164) dc_X8_taken_40 ?_
            refine lv_lrem hx hb dc_X8_taken_43 (by decide) ?_
            refine lv_lconst (v := 1) hx hb dc_X8_taken_44 (by decide) ?_
            refine W.lcmp hx hb dc_X8_taken_45 ?_
            refine lv_if_ne (tgt := 53) hx hb dc_X8_taken_46 (by decide) (fun c_5 => ?_) (fun c_5 => ?_)
            · have hw := hw.trans (if_neg c_5)
              have hk := hk.2 c_5
              refine lv_iconst (v := 0) hx hb dc_X8_taken_53 (by decide) ?_
              refine lv_goto (tgt := 91) hx hb dc_X8_taken_54 (by decide) ?_
              refine lv_istore_n (lv' := [(3, .int ((0 : Int32))), (2, .int (fn_X8_behind v0)), (0, .ref b0), (1, .int (a1))]) hx hb dc_X8_taken_91 rfl hl (by decide) rfl (fun ls hl => ?_)
              refine va_new (ci := 4) (fs := [.int (0), .long (0)]) (C := RX8) (T := TX8) (N := 2) hx hb hts ki_X8 tyX8 tyX8_ok hown (hts _ kw_6_165) (hts _ kw_6_5) (hts _ kw_1_9) hE.1 hP hD hS hA rfl (fun j hj => by rcases (show j = 0 ∨ j = 1 by omega) with rfl | rfl <;> rfl) (Nat.le_of_ble_eq_true rfl) (Nat.le_of_ble_eq_true rfl) dc_X8_taken_92 (fun q_6 H hP hD hS => ?_)
              have hP : va_P G.1 kcl [(q_6, .inr (4, [.int (0), .long (0)]))] H := hP
              have hD : va_D A [(q_6, .inr (4, [.int (0), .long (0)]))] := hD
              have hI0 := ky_ro hX hna hS
              refine W.widen (k := 1) (n := 2) (Nat.le_refl _) (Nat.le_refl _) ?_
              refine lv_dup hx hb dc_X8_taken_95 rfl ?_
              refine lv_aload_n hx hb dc_X8_taken_96 rfl (lv_at hl 2 rfl) ?_
              refine va_get (D := G.1) (ci := 4) (v := .int (v0.1)) (C := RX8) (T := TX8) (N := 2) hx hb hts ki_X8 hown hE.1 hI0 0 rfl rfl 0 (by decide) (hts _ kw_6_10) (fun _ h9 => h9) rfl dc_X8_taken_97 ?_
              refine lv_aload_n hx hb dc_X8_taken_100 rfl (lv_at hl 2 rfl) ?_
              refine ky_cV1 (As := []) F (hE.at hfr hS) (mt_X8_whole l G (b0) (v0) ) kv_X8_42 ⟨⟨rfl, rfl⟩, by decide, by decide⟩ rfl hl.1 rfl (Nat.le_of_ble_eq_true rfl) ⟨Nat.le_of_ble_eq_true rfl, Nat.le_of_ble_eq_true rfl⟩ (va_recv hE.1 hI0 (ci := 4) (q0 := 0) rfl rfl) hI0 dc_X8_taken_101 ?_
              refine lv_iload_n hx hb dc_X8_taken_104 rfl (lv_at hl 0 rfl) ?_
              refine lv_if_eq (tgt := 112) hx hb dc_X8_taken_105 (by decide) (fun _ => ?_) (fun c_7 => absurd c_7 (by decide))
              refine lv_iconst (v := 0) hx hb dc_X8_taken_112 (by decide) ?_
              refine lv_i2l (v := ((0 : Int32)).toInt64) hx hb dc_X8_taken_113 rfl ?_
              refine lv_ladd hx hb dc_X8_taken_114 ?_
              refine lv_lconst (v := 0) hx hb dc_X8_taken_115 (by decide) ?_
              obtain ⟨hq_8, hk⟩ := hk
              refine ky_cN0 (As := [.long ((fn_X8_whole v0) + (((0 : Int32)).toInt64)), .long ((0 : Int64))]) F hE (mt_X9_nearest l ((fn_X8_whole v0) + (((0 : Int32)).toInt64)) ((0 : Int64)) hq_8) kn_X8_84 ⟨⟨rfl, rfl⟩, by decide, by decide⟩ rfl hl.1 rfl (Nat.le_of_ble_eq_true rfl) ⟨Nat.le_of_ble_eq_true rfl, Nat.le_of_ble_eq_true rfl⟩ dc_X8_taken_116 ?_
              refine ky_cIh (As := [.int (v0.1), .long (fn_X9_nearest ((fn_X8_whole v0) + (((0 : Int32)).toInt64)) ((0 : Int64)))]) (wr := []) F (hE.at hfr hS) hfr (mt_X8_init l G (q_6) (v0.1) (fn_X9_nearest ((fn_X8_whole v0) + (((0 : Int32)).toInt64)) ((0 : Int64))) H.size ) kI_X8_33 ⟨⟨rfl, rfl⟩, by decide, by decide⟩ rfl hl.1 rfl (Nat.le_of_ble_eq_true rfl) ⟨Nat.le_of_ble_eq_true rfl, Nat.le_of_ble_eq_true rfl⟩ trivial hP hD hS hA [0] [] rfl rfl (by decide) (by decide) (by decide) dc_X8_taken_119 ?_
              rintro v9 u9 H locs ⟨rfl, rfl⟩ hP hD hS - hz hk9
              have hP : va_P G.1 kcl [(q_6, .inr (4, [.int (v0.1), .long (fn_X9_nearest ((fn_X8_whole v0) + (((0 : Int32)).toInt64)) ((0 : Int64)))]))] H := hP
              have hD : va_D A [(q_6, .inr (4, [.int (v0.1), .long (fn_X9_nearest ((fn_X8_whole v0) + (((0 : Int32)).toInt64)) ((0 : Int64)))]))] := hD
              have hI0 := ky_ro hX hna hS
              refine W.widen (k := 1) (n := 2) (Nat.le_refl _) (Nat.le_refl _) ?_
              have hP9 := hP.sub (ws' := []) [] rfl
              have hD9 := hD.sub (ws' := []) [] (by decide) rfl
              have hI9 := hP.sub (ws' := [(q_6, .inr (4, [.int (v0.1), .long (fn_X9_nearest ((fn_X8_whole v0) + (((0 : Int32)).toInt64)) ((0 : Int64)))]))]) [0] rfl
              have ho9 : q_6 = b0 ∨ sz ≤ q_6 := Or.inr (by have z := hD.2 0 _ rfl; rw [hAe] at z; rw [← hsz]; exact ky_fresh z)
              refine W.widen (k := 1) (n := 2) (Nat.le_of_ble_eq_true rfl) (Nat.le_of_ble_eq_true rfl) ?_
              exact W.aret (v := .ref q_6) hx hb hr (Or.inl ⟨_, rfl⟩) (Or.inr ⟨_, rfl⟩) (fun t ht hW => ⟨⟨_, q_6, rfl, rfl, by rw [ht]; exact hP9, hD9, by rw [hw, ht]; exact ky_itp hI9, ho9⟩, hS.F ht⟩) hS.2.2 dc_X8_taken_122
            · have hw := hw.trans (if_pos c_5)
              have hk := hk.1 c_5
              refine lv_iconst (v := 1) hx hb dc_X8_taken_49 (by decide) ?_
              refine lv_goto (tgt := 91) hx hb dc_X8_taken_50 (by decide) ?_
              refine lv_istore_n (lv' := [(3, .int ((1 : Int32))), (2, .int (fn_X8_behind v0)), (0, .ref b0), (1, .int (a1))]) hx hb dc_X8_taken_91 rfl hl (by decide) rfl (fun ls hl => ?_)
              refine va_new (ci := 4) (fs := [.int (0), .long (0)]) (C := RX8) (T := TX8) (N := 2) hx hb hts ki_X8 tyX8 tyX8_ok hown (hts _ kw_6_165) (hts _ kw_6_5) (hts _ kw_1_9) hE.1 hP hD hS hA rfl (fun j hj => by rcases (show j = 0 ∨ j = 1 by omega) with rfl | rfl <;> rfl) (Nat.le_of_ble_eq_true rfl) (Nat.le_of_ble_eq_true rfl) dc_X8_taken_92 (fun q_6 H hP hD hS => ?_)
              have hP : va_P G.1 kcl [(q_6, .inr (4, [.int (0), .long (0)]))] H := hP
              have hD : va_D A [(q_6, .inr (4, [.int (0), .long (0)]))] := hD
              have hI0 := ky_ro hX hna hS
              refine W.widen (k := 1) (n := 2) (Nat.le_refl _) (Nat.le_refl _) ?_
              refine lv_dup hx hb dc_X8_taken_95 rfl ?_
              refine lv_aload_n hx hb dc_X8_taken_96 rfl (lv_at hl 2 rfl) ?_
              refine va_get (D := G.1) (ci := 4) (v := .int (v0.1)) (C := RX8) (T := TX8) (N := 2) hx hb hts ki_X8 hown hE.1 hI0 0 rfl rfl 0 (by decide) (hts _ kw_6_10) (fun _ h9 => h9) rfl dc_X8_taken_97 ?_
              refine lv_aload_n hx hb dc_X8_taken_100 rfl (lv_at hl 2 rfl) ?_
              refine ky_cV1 (As := []) F (hE.at hfr hS) (mt_X8_whole l G (b0) (v0) ) kv_X8_42 ⟨⟨rfl, rfl⟩, by decide, by decide⟩ rfl hl.1 rfl (Nat.le_of_ble_eq_true rfl) ⟨Nat.le_of_ble_eq_true rfl, Nat.le_of_ble_eq_true rfl⟩ (va_recv hE.1 hI0 (ci := 4) (q0 := 0) rfl rfl) hI0 dc_X8_taken_101 ?_
              refine lv_iload_n hx hb dc_X8_taken_104 rfl (lv_at hl 0 rfl) ?_
              refine lv_if_eq (tgt := 112) hx hb dc_X8_taken_105 (by decide) (fun c_7 => absurd c_7 (by decide)) (fun _ => ?_)
              refine lv_iconst (v := 1) hx hb dc_X8_taken_108 (by decide) ?_
              refine lv_goto (tgt := 113) hx hb dc_X8_taken_109 (by decide) ?_
              refine lv_i2l (v := ((1 : Int32)).toInt64) hx hb dc_X8_taken_113 rfl ?_
              refine lv_ladd hx hb dc_X8_taken_114 ?_
              refine lv_lconst (v := 0) hx hb dc_X8_taken_115 (by decide) ?_
              obtain ⟨hq_8, hk⟩ := hk
              refine ky_cN0 (As := [.long ((fn_X8_whole v0) + (((1 : Int32)).toInt64)), .long ((0 : Int64))]) F hE (mt_X9_nearest l ((fn_X8_whole v0) + (((1 : Int32)).toInt64)) ((0 : Int64)) hq_8) kn_X8_84 ⟨⟨rfl, rfl⟩, by decide, by decide⟩ rfl hl.1 rfl (Nat.le_of_ble_eq_true rfl) ⟨Nat.le_of_ble_eq_true rfl, Nat.le_of_ble_eq_true rfl⟩ dc_X8_taken_116 ?_
              refine ky_cIh (As := [.int (v0.1), .long (fn_X9_nearest ((fn_X8_whole v0) + (((1 : Int32)).toInt64)) ((0 : Int64)))]) (wr := []) F (hE.at hfr hS) hfr (mt_X8_init l G (q_6) (v0.1) (fn_X9_nearest ((fn_X8_whole v0) + (((1 : Int32)).toInt64)) ((0 : Int64))) H.size ) kI_X8_33 ⟨⟨rfl, rfl⟩, by decide, by decide⟩ rfl hl.1 rfl (Nat.le_of_ble_eq_true rfl) ⟨Nat.le_of_ble_eq_true rfl, Nat.le_of_ble_eq_true rfl⟩ trivial hP hD hS hA [0] [] rfl rfl (by decide) (by decide) (by decide) dc_X8_taken_119 ?_
              rintro v9 u9 H locs ⟨rfl, rfl⟩ hP hD hS - hz hk9
              have hP : va_P G.1 kcl [(q_6, .inr (4, [.int (v0.1), .long (fn_X9_nearest ((fn_X8_whole v0) + (((1 : Int32)).toInt64)) ((0 : Int64)))]))] H := hP
              have hD : va_D A [(q_6, .inr (4, [.int (v0.1), .long (fn_X9_nearest ((fn_X8_whole v0) + (((1 : Int32)).toInt64)) ((0 : Int64)))]))] := hD
              have hI0 := ky_ro hX hna hS
              refine W.widen (k := 1) (n := 2) (Nat.le_refl _) (Nat.le_refl _) ?_
              have hP9 := hP.sub (ws' := []) [] rfl
              have hD9 := hD.sub (ws' := []) [] (by decide) rfl
              have hI9 := hP.sub (ws' := [(q_6, .inr (4, [.int (v0.1), .long (fn_X9_nearest ((fn_X8_whole v0) + (((1 : Int32)).toInt64)) ((0 : Int64)))]))]) [0] rfl
              have ho9 : q_6 = b0 ∨ sz ≤ q_6 := Or.inr (by have z := hD.2 0 _ rfl; rw [hAe] at z; rw [← hsz]; exact ky_fresh z)
              refine W.widen (k := 1) (n := 2) (Nat.le_of_ble_eq_true rfl) (Nat.le_of_ble_eq_true rfl) ?_
              exact W.aret (v := .ref q_6) hx hb hr (Or.inl ⟨_, rfl⟩) (Or.inr ⟨_, rfl⟩) (fun t ht hW => ⟨⟨_, q_6, rfl, rfl, by rw [ht]; exact hP9, hD9, by rw [hw, ht]; exact ky_itp hI9, ho9⟩, hS.F ht⟩) hS.2.2 dc_X8_taken_122
    · have hw := hw.trans (if_neg c_1)
      have hk := hk.2 c_1
      refine lv_aload_n hx hb dc_X8_taken_14 rfl (lv_at hl 0 rfl) ?_
      have hP9 := hP.sub (ws' := []) [] rfl
      have hD9 := hD.sub (ws' := []) [] (by decide) rfl
      refine W.widen (k := 1) (n := 2) (Nat.le_of_ble_eq_true rfl) (Nat.le_of_ble_eq_true rfl) ?_
      exact W.aret (v := .ref b0) hx hb hr (Or.inl ⟨_, rfl⟩) (Or.inr ⟨_, rfl⟩) (fun t ht hW => ⟨⟨_, b0, rfl, rfl, by rw [ht]; exact hP9, hD9, by rw [hw, ht]; exact hI0, (Or.inl rfl)⟩, hS.F ht⟩) hS.2.2 dc_X8_taken_15
