def fn_X6_give (a1 : Int32) (a2 : Int64) (u : ky_BS) : Int32 × ky_BS :=
  (fn_X0_kindIn (a2), (vp_updL (u.1) (a1).toNatClampNeg (a2), (u.2.1) + ((1 : Int32)), u.2.2.1, u.2.2.2))
set_option linter.constructorNameAsVariable false in
set_option maxHeartbeats 4000000 in
set_option maxRecDepth 100000 in
theorem mt_X6_give (l : Launch) (G : ky_G) (x : Nat) (cs : Nat) (sc : Nat) (pf : Nat) (u : ky_BS) (a1 : Int32) (a2 : Int64) (sz : Nat) (h1 : vp_in (a1) 6) : Met l my_X6_give (.code my_X6_give prog_1_method_61_code 4 (some .int) :: ky_B) { frames := 4, cells := 0, slots := 0, locals := 84 } (ky_P G [.ref x, .int (a1), .long (a2)] (ky_WB G x cs sc pf u) sz (fun _ => True)) (ky_Q (S := ky_BS) G (va_A (ky_WB G x cs sc pf u) sz) (fun v u9 => v = some (.int (fn_X6_give a1 a2 u).1) ∧ u9 = (fn_X6_give a1 a2 u).2) (fun u9 => ky_WB G x cs sc pf u9) (fun _ _ => True)) 0 0 (va_A (ky_WB G x cs sc pf u) sz) := by
  refine ky_start (by decide) (Nat.le_of_ble_eq_true rfl) (fun p e s m below meth c F hE A hAe hsz hA hfr hP hD hS hX ls hl => ?_)
  obtain ⟨hx, hb, hml, hown, hr, hlocks, hts⟩ := id F
  have hl : lv_has ls 4 [(0, .ref x), (1, .int (a1)), (2, .long (a2))] := hl
  have hP : va_P G.1 kcl [(x, .inr (0, [.ref cs, .ref sc, .ref pf, .int (u.2.1), .int (u.2.2.1), .int (u.2.2.2)])), (cs, .inl (G.2.1 2, 6, .inr (.inl (u.1))))] s.heap := hP
  have hD : va_D A [(x, .inr (0, [.ref cs, .ref sc, .ref pf, .int (u.2.1), .int (u.2.2.1), .int (u.2.2.2)])), (cs, .inl (G.2.1 2, 6, .inr (.inl (u.1))))] := hD
  have hw : fn_X6_give a1 a2 u = _ := fn_X6_give.eq_1 a1 a2 u
  refine lv_aload_n hx hb dc_X6_give_0 rfl (lv_at hl 0 rfl) ?_
  refine va_get (D := G.1) (ci := 0) (v := .ref cs) (C := RX6) (T := TX6) (N := 6) hx hb hts ki_X6 hown hE.1 hP 0 rfl rfl 0 (by decide) (hts _ kw_1_98) (fun _ h9 => h9) rfl dc_X6_give_1 ?_
  refine lv_iload_n hx hb dc_X6_give_4 rfl (lv_at hl 1 rfl) ?_
  refine lv_lload_n hx hb dc_X6_give_5 rfl (lv_at hl 2 rfl) ?_
  refine va_last hx hb hE.1 hP hD hS 1 2 rfl rfl h1 dc_X6_give_6 (fun H locs hP hD hS => ?_)
  have hP : va_P G.1 kcl [(x, .inr (0, [.ref cs, .ref sc, .ref pf, .int (u.2.1), .int (u.2.2.1), .int (u.2.2.2)])), (cs, .inl (G.2.1 2, 6, .inr (.inl (vp_updL (u.1) (a1).toNatClampNeg (a2)))))] H := hP
  have hD : va_D A [(x, .inr (0, [.ref cs, .ref sc, .ref pf, .int (u.2.1), .int (u.2.2.1), .int (u.2.2.2)])), (cs, .inl (G.2.1 2, 6, .inr (.inl (vp_updL (u.1) (a1).toNatClampNeg (a2)))))] := hD
  refine lv_aload_n hx hb dc_X6_give_7 rfl (lv_at hl 0 rfl) ?_
  refine lv_dup hx hb dc_X6_give_8 rfl ?_
  refine va_get (D := G.1) (ci := 0) (v := .int (u.2.1)) (C := RX6) (T := TX6) (N := 6) hx hb hts ki_X6 hown hE.1 hP 0 rfl rfl 3 (by decide) (hts _ kw_1_101) (fun _ h9 => h9) rfl dc_X6_give_9 ?_
  refine lv_iconst (v := 1) hx hb dc_X6_give_12 (by decide) ?_
  refine lv_iadd hx hb dc_X6_give_13 ?_
  refine va_put (D := G.1) (ci := 0) (v := .int ((u.2.1) + ((1 : Int32)))) (ty := .int) (C := RX6) (T := TX6) (N := 6) hx hb hts ki_X6 tyX6 tyX6_ok nmX6 hown hE.1 hP hD hS 0 rfl rfl 3 (by decide) (hts _ kw_1_101) (fun _ h9 => h9) rfl (by decide +kernel) rfl rfl (Nat.le_of_ble_eq_true rfl) dc_X6_give_14 (fun H locs hP hD hS => ?_)
  have hP : va_P G.1 kcl [(x, .inr (0, [.ref cs, .ref sc, .ref pf, .int ((u.2.1) + ((1 : Int32))), .int (u.2.2.1), .int (u.2.2.2)])), (cs, .inl (G.2.1 2, 6, .inr (.inl (vp_updL (u.1) (a1).toNatClampNeg (a2)))))] H := hP
  have hD : va_D A [(x, .inr (0, [.ref cs, .ref sc, .ref pf, .int ((u.2.1) + ((1 : Int32))), .int (u.2.2.1), .int (u.2.2.2)])), (cs, .inl (G.2.1 2, 6, .inr (.inl (vp_updL (u.1) (a1).toNatClampNeg (a2)))))] := hD
  refine lv_lload_n hx hb dc_X6_give_17 rfl (lv_at hl 2 rfl) ?_
  refine ky_cS0 (As := [.long (a2)]) F (mt_X0_kindIn l (a2)) ks_X6_131 ⟨⟨rfl, rfl⟩, by decide, by decide⟩ rfl hl.1 rfl (Nat.le_of_ble_eq_true rfl) ⟨Nat.le_of_ble_eq_true rfl, Nat.le_of_ble_eq_true rfl⟩ dc_X6_give_18 ?_
  have hP9 := hP.sub (ws' := [(x, .inr (0, [.ref cs, .ref sc, .ref pf, .int ((u.2.1) + ((1 : Int32))), .int (u.2.2.1), .int (u.2.2.2)])), (cs, .inl (G.2.1 2, 6, .inr (.inl (vp_updL (u.1) (a1).toNatClampNeg (a2)))))]) [0, 1] rfl
  have hD9 := hD.sub (ws' := [(x, .inr (0, [.ref cs, .ref sc, .ref pf, .int ((u.2.1) + ((1 : Int32))), .int (u.2.2.1), .int (u.2.2.2)])), (cs, .inl (G.2.1 2, 6, .inr (.inl (vp_updL (u.1) (a1).toNatClampNeg (a2)))))]) [0, 1] (by decide) rfl
  refine W.widen (k := 0) (n := 0) (Nat.le_of_ble_eq_true rfl) (Nat.le_of_ble_eq_true rfl) ?_
  exact W.iret (v := fn_X0_kindIn (a2)) hx hb hr (fun t ht hW => ⟨⟨_, (vp_updL (u.1) (a1).toNatClampNeg (a2), (u.2.1) + ((1 : Int32)), u.2.2.1, u.2.2.2), rfl, ky_pi hw, by rw [ht]; exact hP9, hD9, trivial⟩, hS.F ht⟩) hS.2.2 dc_X6_give_21
def fn_X6_zero (a1 : Int32) (a2 : Int32) (u : ky_BS) : Sum String (Int32 × ky_BS) :=
  ky_b (fn_X6_requireCell (a1)) (fun r_0 w_0 => .inr ((fn_X6_give (a1) (fn_X0_withSide ((0 : Int64)) (a2)) (u)).1, (fn_X6_give (a1) (fn_X0_withSide ((0 : Int64)) (a2)) (u)).2))
set_option linter.constructorNameAsVariable false in
set_option maxHeartbeats 4000000 in
set_option maxRecDepth 100000 in
theorem mt_X6_zero (l : Launch) (hl9 : l.stackTraces = false) (G : ky_G) (x : Nat) (cs : Nat) (sc : Nat) (pf : Nat) (u : ky_BS) (a1 : Int32) (a2 : Int32) (sz : Nat)  : vx_Met l my_X6_zero (.code my_X6_zero prog_1_method_2_code 3 (some .int) :: ky_B) { frames := 7, cells := 1, slots := 6, locals := 107 } (ky_P G [.ref x, .int (a1), .int (a2)] (ky_WB G x cs sc pf u) sz (fun _ => True)) (ky_Q (S := ky_BS) G (va_A (ky_WB G x cs sc pf u) sz) (fun v u9 => ∃ (r9 : Int32) (w9 : ky_BS), fn_X6_zero a1 a2 u = .inr (r9, w9) ∧ v = some (.int r9) ∧ u9 = w9) (fun u9 => ky_WB G x cs sc pf u9) (fun _ _ => True)) (ky_X G (va_A (ky_WB G x cs sc pf u) sz) (fun E => fn_X6_zero a1 a2 u = .inl E) (ky_WB G x cs sc pf u)) 1 6 (va_A (ky_WB G x cs sc pf u) sz) := by
  refine ky_startX (by decide) (Nat.le_of_ble_eq_true rfl) (fun p e s m below meth c F hno hE A hAe hsz hA hfr hP hD hS hX ls hl => ?_)
  obtain ⟨hx, hb, hml, hown, hr, hlocks, hts⟩ := id F
  have hl : lv_has ls 3 [(0, .ref x), (1, .int (a1)), (2, .int (a2))] := hl
  have hP : va_P G.1 kcl [(x, .inr (0, [.ref cs, .ref sc, .ref pf, .int (u.2.1), .int (u.2.2.1), .int (u.2.2.2)])), (cs, .inl (G.2.1 2, 6, .inr (.inl (u.1))))] s.heap := hP
  have hD : va_D A [(x, .inr (0, [.ref cs, .ref sc, .ref pf, .int (u.2.1), .int (u.2.2.1), .int (u.2.2.2)])), (cs, .inl (G.2.1 2, 6, .inr (.inl (u.1))))] := hD
  have hw : fn_X6_zero a1 a2 u = _ := fn_X6_zero.eq_1 a1 a2 u
  refine lv_iload_n hx hb dc_X6_zero_0 rfl (lv_at hl 1 rfl) ?_
  refine ky_cSx (As := [.int (a1)]) (wr := [(x, .inr (0, [.ref cs, .ref sc, .ref pf, .int (u.2.1), .int (u.2.2.1), .int (u.2.2.2)])), (cs, .inl (G.2.1 2, 6, .inr (.inl (u.1))))]) F (hE.at hfr hS) hfr (mt_X6_requireCell l hl9 G  (a1) s.heap.size ) ks_X6_27 ⟨⟨rfl, rfl⟩, by decide, by decide⟩ rfl hl.1 rfl (Nat.le_of_ble_eq_true rfl) ⟨Nat.le_of_ble_eq_true rfl, Nat.le_of_ble_eq_true rfl⟩ trivial hP hD hS hA [] [0, 1] rfl rfl (by decide) (by decide) (by decide) dc_X6_zero_1 ?_ ?_
  · intro E ce q9 H locs hp hP hD hS hz hk9 hc1 hc2 hc3
    have hP9 := hP.sub (ws' := [(x, .inr (0, [.ref cs, .ref sc, .ref pf, .int (u.2.1), .int (u.2.2.1), .int (u.2.2.2)])), (cs, .inl (G.2.1 2, 6, .inr (.inl (u.1))))]) [0, 1] rfl
    have hD9 := hD.sub (ws' := [(x, .inr (0, [.ref cs, .ref sc, .ref pf, .int (u.2.1), .int (u.2.2.1), .int (u.2.2.2)])), (cs, .inl (G.2.1 2, 6, .inr (.inl (u.1))))]) [0, 1] (by decide) rfl
    exact vx_out (fun x h => (hno x h).elim) hlocks hc1 hc2 hc3 (fun t ht hW => ⟨hw.trans (ky_bl hp), by rw [ht]; exact hP9, hD9, hS.F ht⟩) hS.2.2 (Nat.le_of_ble_eq_true rfl) (Nat.le_of_ble_eq_true rfl)
  · rintro v9 u9 H locs ⟨r_0, w_0, hf_0, rfl, rfl⟩ hP hD hS - hz hk9
    have hw := hw.trans (ky_br hf_0)
    have hP : va_P G.1 kcl [(x, .inr (0, [.ref cs, .ref sc, .ref pf, .int (u.2.1), .int (u.2.2.1), .int (u.2.2.2)])), (cs, .inl (G.2.1 2, 6, .inr (.inl (u.1))))] H := hP
    have hD : va_D A [(x, .inr (0, [.ref cs, .ref sc, .ref pf, .int (u.2.1), .int (u.2.2.1), .int (u.2.2.2)])), (cs, .inl (G.2.1 2, 6, .inr (.inl (u.1))))] := hD
    refine W.widen (k := 1) (n := 6) (Nat.le_refl _) (Nat.le_refl _) ?_
    refine lv_aload_n hx hb dc_X6_zero_4 rfl (lv_at hl 0 rfl) ?_
    refine lv_iload_n hx hb dc_X6_zero_5 rfl (lv_at hl 1 rfl) ?_
    refine lv_lconst (v := 0) hx hb dc_X6_zero_6 (by decide) ?_
    refine lv_iload_n hx hb dc_X6_zero_7 rfl (lv_at hl 2 rfl) ?_
    refine ky_cS0 (As := [.long ((0 : Int64)), .int (a2)]) F (mt_X0_withSide l ((0 : Int64)) (a2)) ks_X6_31 ⟨⟨rfl, rfl⟩, by decide, by decide⟩ rfl hl.1 rfl (Nat.le_of_ble_eq_true rfl) ⟨Nat.le_of_ble_eq_true rfl, Nat.le_of_ble_eq_true rfl⟩ dc_X6_zero_8 ?_
    refine ky_cVh (As := [.int (a1), .long (fn_X0_withSide ((0 : Int64)) (a2))]) (wr := []) F (hE.at hfr hS) hfr (mt_X6_give l G (x) (cs) (sc) (pf) (u) (a1) (fn_X0_withSide ((0 : Int64)) (a2)) H.size (rq_cell hf_0)) kv_X6_37 ⟨⟨rfl, rfl⟩, by decide, by decide⟩ rfl hl.1 rfl (Nat.le_of_ble_eq_true rfl) ⟨Nat.le_of_ble_eq_true rfl, Nat.le_of_ble_eq_true rfl⟩ (va_recv hE.1 hP (ci := 0) (q0 := 0) rfl rfl) trivial hP hD hS hA [0, 1] [] rfl rfl (by decide) (by decide) (by decide) dc_X6_zero_11 ?_
    rintro v9 u9 H locs ⟨rfl, rfl⟩ hP hD hS - hz hk9
    have hP : va_P G.1 kcl [(x, .inr (0, [.ref cs, .ref sc, .ref pf, .int ((fn_X6_give (a1) (fn_X0_withSide ((0 : Int64)) (a2)) (u)).2.2.1), .int ((fn_X6_give (a1) (fn_X0_withSide ((0 : Int64)) (a2)) (u)).2.2.2.1), .int ((fn_X6_give (a1) (fn_X0_withSide ((0 : Int64)) (a2)) (u)).2.2.2.2)])), (cs, .inl (G.2.1 2, 6, .inr (.inl ((fn_X6_give (a1) (fn_X0_withSide ((0 : Int64)) (a2)) (u)).2.1))))] H := hP
    have hD : va_D A [(x, .inr (0, [.ref cs, .ref sc, .ref pf, .int ((fn_X6_give (a1) (fn_X0_withSide ((0 : Int64)) (a2)) (u)).2.2.1), .int ((fn_X6_give (a1) (fn_X0_withSide ((0 : Int64)) (a2)) (u)).2.2.2.1), .int ((fn_X6_give (a1) (fn_X0_withSide ((0 : Int64)) (a2)) (u)).2.2.2.2)])), (cs, .inl (G.2.1 2, 6, .inr (.inl ((fn_X6_give (a1) (fn_X0_withSide ((0 : Int64)) (a2)) (u)).2.1))))] := hD
    refine W.widen (k := 1) (n := 6) (Nat.le_refl _) (Nat.le_refl _) ?_
    have hP9 := hP.sub (ws' := [(x, .inr (0, [.ref cs, .ref sc, .ref pf, .int ((fn_X6_give (a1) (fn_X0_withSide ((0 : Int64)) (a2)) (u)).2.2.1), .int ((fn_X6_give (a1) (fn_X0_withSide ((0 : Int64)) (a2)) (u)).2.2.2.1), .int ((fn_X6_give (a1) (fn_X0_withSide ((0 : Int64)) (a2)) (u)).2.2.2.2)])), (cs, .inl (G.2.1 2, 6, .inr (.inl ((fn_X6_give (a1) (fn_X0_withSide ((0 : Int64)) (a2)) (u)).2.1))))]) [0, 1] rfl
    have hD9 := hD.sub (ws' := [(x, .inr (0, [.ref cs, .ref sc, .ref pf, .int ((fn_X6_give (a1) (fn_X0_withSide ((0 : Int64)) (a2)) (u)).2.2.1), .int ((fn_X6_give (a1) (fn_X0_withSide ((0 : Int64)) (a2)) (u)).2.2.2.1), .int ((fn_X6_give (a1) (fn_X0_withSide ((0 : Int64)) (a2)) (u)).2.2.2.2)])), (cs, .inl (G.2.1 2, 6, .inr (.inl ((fn_X6_give (a1) (fn_X0_withSide ((0 : Int64)) (a2)) (u)).2.1))))]) [0, 1] (by decide) rfl
    refine W.widen (k := 1) (n := 6) (Nat.le_of_ble_eq_true rfl) (Nat.le_of_ble_eq_true rfl) ?_
    refine vx_ret ?_
    exact W.iret (v := (fn_X6_give (a1) (fn_X0_withSide ((0 : Int64)) (a2)) (u)).1) hx hb hr (fun t ht hW => ⟨⟨_, (fn_X6_give (a1) (fn_X0_withSide ((0 : Int64)) (a2)) (u)).2, rfl, ⟨(fn_X6_give (a1) (fn_X0_withSide ((0 : Int64)) (a2)) (u)).1, (fn_X6_give (a1) (fn_X0_withSide ((0 : Int64)) (a2)) (u)).2, hw, rfl, rfl⟩, by rw [ht]; exact hP9, hD9, trivial⟩, hS.F ht⟩) hS.2.2 dc_X6_zero_14
def fn_X6_endless (a1 : Int32) (a2 : Int32) (u : ky_BS) : Sum String (Int32 × ky_BS) :=
  ky_b (fn_X6_requireCell (a1)) (fun r_0 w_0 => .inr ((fn_X6_give (a1) (fn_X0_withSide ((9218868437227405312 : Int64)) (a2)) (u)).1, (fn_X6_give (a1) (fn_X0_withSide ((9218868437227405312 : Int64)) (a2)) (u)).2))
set_option linter.constructorNameAsVariable false in
set_option maxHeartbeats 4000000 in
set_option maxRecDepth 100000 in
theorem mt_X6_endless (l : Launch) (hl9 : l.stackTraces = false) (G : ky_G) (x : Nat) (cs : Nat) (sc : Nat) (pf : Nat) (u : ky_BS) (a1 : Int32) (a2 : Int32) (sz : Nat)  : vx_Met l my_X6_endless (.code my_X6_endless prog_1_method_3_code 3 (some .int) :: ky_B) { frames := 7, cells := 1, slots := 6, locals := 107 } (ky_P G [.ref x, .int (a1), .int (a2)] (ky_WB G x cs sc pf u) sz (fun _ => True)) (ky_Q (S := ky_BS) G (va_A (ky_WB G x cs sc pf u) sz) (fun v u9 => ∃ (r9 : Int32) (w9 : ky_BS), fn_X6_endless a1 a2 u = .inr (r9, w9) ∧ v = some (.int r9) ∧ u9 = w9) (fun u9 => ky_WB G x cs sc pf u9) (fun _ _ => True)) (ky_X G (va_A (ky_WB G x cs sc pf u) sz) (fun E => fn_X6_endless a1 a2 u = .inl E) (ky_WB G x cs sc pf u)) 1 6 (va_A (ky_WB G x cs sc pf u) sz) := by
  refine ky_startX (by decide) (Nat.le_of_ble_eq_true rfl) (fun p e s m below meth c F hno hE A hAe hsz hA hfr hP hD hS hX ls hl => ?_)
  obtain ⟨hx, hb, hml, hown, hr, hlocks, hts⟩ := id F
  have hl : lv_has ls 3 [(0, .ref x), (1, .int (a1)), (2, .int (a2))] := hl
  have hP : va_P G.1 kcl [(x, .inr (0, [.ref cs, .ref sc, .ref pf, .int (u.2.1), .int (u.2.2.1), .int (u.2.2.2)])), (cs, .inl (G.2.1 2, 6, .inr (.inl (u.1))))] s.heap := hP
  have hD : va_D A [(x, .inr (0, [.ref cs, .ref sc, .ref pf, .int (u.2.1), .int (u.2.2.1), .int (u.2.2.2)])), (cs, .inl (G.2.1 2, 6, .inr (.inl (u.1))))] := hD
  have hw : fn_X6_endless a1 a2 u = _ := fn_X6_endless.eq_1 a1 a2 u
  refine lv_iload_n hx hb dc_X6_endless_0 rfl (lv_at hl 1 rfl) ?_
  refine ky_cSx (As := [.int (a1)]) (wr := [(x, .inr (0, [.ref cs, .ref sc, .ref pf, .int (u.2.1), .int (u.2.2.1), .int (u.2.2.2)])), (cs, .inl (G.2.1 2, 6, .inr (.inl (u.1))))]) F (hE.at hfr hS) hfr (mt_X6_requireCell l hl9 G  (a1) s.heap.size ) ks_X6_27 ⟨⟨rfl, rfl⟩, by decide, by decide⟩ rfl hl.1 rfl (Nat.le_of_ble_eq_true rfl) ⟨Nat.le_of_ble_eq_true rfl, Nat.le_of_ble_eq_true rfl⟩ trivial hP hD hS hA [] [0, 1] rfl rfl (by decide) (by decide) (by decide) dc_X6_endless_1 ?_ ?_
  · intro E ce q9 H locs hp hP hD hS hz hk9 hc1 hc2 hc3
    have hP9 := hP.sub (ws' := [(x, .inr (0, [.ref cs, .ref sc, .ref pf, .int (u.2.1), .int (u.2.2.1), .int (u.2.2.2)])), (cs, .inl (G.2.1 2, 6, .inr (.inl (u.1))))]) [0, 1] rfl
    have hD9 := hD.sub (ws' := [(x, .inr (0, [.ref cs, .ref sc, .ref pf, .int (u.2.1), .int (u.2.2.1), .int (u.2.2.2)])), (cs, .inl (G.2.1 2, 6, .inr (.inl (u.1))))]) [0, 1] (by decide) rfl
    exact vx_out (fun x h => (hno x h).elim) hlocks hc1 hc2 hc3 (fun t ht hW => ⟨hw.trans (ky_bl hp), by rw [ht]; exact hP9, hD9, hS.F ht⟩) hS.2.2 (Nat.le_of_ble_eq_true rfl) (Nat.le_of_ble_eq_true rfl)
  · rintro v9 u9 H locs ⟨r_0, w_0, hf_0, rfl, rfl⟩ hP hD hS - hz hk9
    have hw := hw.trans (ky_br hf_0)
    have hP : va_P G.1 kcl [(x, .inr (0, [.ref cs, .ref sc, .ref pf, .int (u.2.1), .int (u.2.2.1), .int (u.2.2.2)])), (cs, .inl (G.2.1 2, 6, .inr (.inl (u.1))))] H := hP
    have hD : va_D A [(x, .inr (0, [.ref cs, .ref sc, .ref pf, .int (u.2.1), .int (u.2.2.1), .int (u.2.2.2)])), (cs, .inl (G.2.1 2, 6, .inr (.inl (u.1))))] := hD
    refine W.widen (k := 1) (n := 6) (Nat.le_refl _) (Nat.le_refl _) ?_
    refine lv_aload_n hx hb dc_X6_endless_4 rfl (lv_at hl 0 rfl) ?_
    refine lv_iload_n hx hb dc_X6_endless_5 rfl (lv_at hl 1 rfl) ?_
    refine lv_ldc2 (v := 9218868437227405312) hx hb hown (hts _ kw_4_117) dc_X6_endless_6 ?_
    refine lv_iload_n hx hb dc_X6_endless_9 rfl (lv_at hl 2 rfl) ?_
    refine ky_cS0 (As := [.long ((9218868437227405312 : Int64)), .int (a2)]) F (mt_X0_withSide l ((9218868437227405312 : Int64)) (a2)) ks_X6_31 ⟨⟨rfl, rfl⟩, by decide, by decide⟩ rfl hl.1 rfl (Nat.le_of_ble_eq_true rfl) ⟨Nat.le_of_ble_eq_true rfl, Nat.le_of_ble_eq_true rfl⟩ dc_X6_endless_10 ?_
    refine ky_cVh (As := [.int (a1), .long (fn_X0_withSide ((9218868437227405312 : Int64)) (a2))]) (wr := []) F (hE.at hfr hS) hfr (mt_X6_give l G (x) (cs) (sc) (pf) (u) (a1) (fn_X0_withSide ((9218868437227405312 : Int64)) (a2)) H.size (rq_cell hf_0)) kv_X6_37 ⟨⟨rfl, rfl⟩, by decide, by decide⟩ rfl hl.1 rfl (Nat.le_of_ble_eq_true rfl) ⟨Nat.le_of_ble_eq_true rfl, Nat.le_of_ble_eq_true rfl⟩ (va_recv hE.1 hP (ci := 0) (q0 := 0) rfl rfl) trivial hP hD hS hA [0, 1] [] rfl rfl (by decide) (by decide) (by decide) dc_X6_endless_13 ?_
    rintro v9 u9 H locs ⟨rfl, rfl⟩ hP hD hS - hz hk9
    have hP : va_P G.1 kcl [(x, .inr (0, [.ref cs, .ref sc, .ref pf, .int ((fn_X6_give (a1) (fn_X0_withSide ((9218868437227405312 : Int64)) (a2)) (u)).2.2.1), .int ((fn_X6_give (a1) (fn_X0_withSide ((9218868437227405312 : Int64)) (a2)) (u)).2.2.2.1), .int ((fn_X6_give (a1) (fn_X0_withSide ((9218868437227405312 : Int64)) (a2)) (u)).2.2.2.2)])), (cs, .inl (G.2.1 2, 6, .inr (.inl ((fn_X6_give (a1) (fn_X0_withSide ((9218868437227405312 : Int64)) (a2)) (u)).2.1))))] H := hP
    have hD : va_D A [(x, .inr (0, [.ref cs, .ref sc, .ref pf, .int ((fn_X6_give (a1) (fn_X0_withSide ((9218868437227405312 : Int64)) (a2)) (u)).2.2.1), .int ((fn_X6_give (a1) (fn_X0_withSide ((9218868437227405312 : Int64)) (a2)) (u)).2.2.2.1), .int ((fn_X6_give (a1) (fn_X0_withSide ((9218868437227405312 : Int64)) (a2)) (u)).2.2.2.2)])), (cs, .inl (G.2.1 2, 6, .inr (.inl ((fn_X6_give (a1) (fn_X0_withSide ((9218868437227405312 : Int64)) (a2)) (u)).2.1))))] := hD
    refine W.widen (k := 1) (n := 6) (Nat.le_refl _) (Nat.le_refl _) ?_
    have hP9 := hP.sub (ws' := [(x, .inr (0, [.ref cs, .ref sc, .ref pf, .int ((fn_X6_give (a1) (fn_X0_withSide ((9218868437227405312 : Int64)) (a2)) (u)).2.2.1), .int ((fn_X6_give (a1) (fn_X0_withSide ((9218868437227405312 : Int64)) (a2)) (u)).2.2.2.1), .int ((fn_X6_give (a1) (fn_X0_withSide ((9218868437227405312 : Int64)) (a2)) (u)).2.2.2.2)])), (cs, .inl (G.2.1 2, 6, .inr (.inl ((fn_X6_give (a1) (fn_X0_withSide ((9218868437227405312 : Int64)) (a2)) (u)).2.1))))]) [0, 1] rfl
    have hD9 := hD.sub (ws' := [(x, .inr (0, [.ref cs, .ref sc, .ref pf, .int ((fn_X6_give (a1) (fn_X0_withSide ((9218868437227405312 : Int64)) (a2)) (u)).2.2.1), .int ((fn_X6_give (a1) (fn_X0_withSide ((9218868437227405312 : Int64)) (a2)) (u)).2.2.2.1), .int ((fn_X6_give (a1) (fn_X0_withSide ((9218868437227405312 : Int64)) (a2)) (u)).2.2.2.2)])), (cs, .inl (G.2.1 2, 6, .inr (.inl ((fn_X6_give (a1) (fn_X0_withSide ((9218868437227405312 : Int64)) (a2)) (u)).2.1))))]) [0, 1] (by decide) rfl
    refine W.widen (k := 1) (n := 6) (Nat.le_of_ble_eq_true rfl) (Nat.le_of_ble_eq_true rfl) ?_
    refine vx_ret ?_
    exact W.iret (v := (fn_X6_give (a1) (fn_X0_withSide ((9218868437227405312 : Int64)) (a2)) (u)).1) hx hb hr (fun t ht hW => ⟨⟨_, (fn_X6_give (a1) (fn_X0_withSide ((9218868437227405312 : Int64)) (a2)) (u)).2, rfl, ⟨(fn_X6_give (a1) (fn_X0_withSide ((9218868437227405312 : Int64)) (a2)) (u)).1, (fn_X6_give (a1) (fn_X0_withSide ((9218868437227405312 : Int64)) (a2)) (u)).2, hw, rfl, rfl⟩, by rw [ht]; exact hP9, hD9, trivial⟩, hS.F ht⟩) hS.2.2 dc_X6_endless_16
def fn_X6_quarters (a1 : Int32) (a2 : Int32) (u : ky_BS) : Sum String (Int32 × ky_BS) :=
  ky_b (fn_X6_requireCell (a1)) (fun r_0 w_0 => if (0 : Int32) ≤ (a2) then (.inr ((fn_X6_give (a1) (fn_X0_withSide (fn_X2_nearestTo (jlabs ((a2).toInt64)) ((-2 : Int32))) ((0 : Int32))) (u)).1, (fn_X6_give (a1) (fn_X0_withSide (fn_X2_nearestTo (jlabs ((a2).toInt64)) ((-2 : Int32))) ((0 : Int32))) (u)).2)) else (.inr ((fn_X6_give (a1) (fn_X0_withSide (fn_X2_nearestTo (jlabs ((a2).toInt64)) ((-2 : Int32))) ((1 : Int32))) (u)).1, (fn_X6_give (a1) (fn_X0_withSide (fn_X2_nearestTo (jlabs ((a2).toInt64)) ((-2 : Int32))) ((1 : Int32))) (u)).2)))
set_option linter.constructorNameAsVariable false in
set_option maxHeartbeats 4000000 in
set_option maxRecDepth 100000 in
theorem mt_X6_quarters (l : Launch) (hl9 : l.stackTraces = false) (G : ky_G) (x : Nat) (cs : Nat) (sc : Nat) (pf : Nat) (u : ky_BS) (a1 : Int32) (a2 : Int32) (sz : Nat)  : vx_Met l my_X6_quarters (.code my_X6_quarters prog_1_method_4_code 5 (some .int) :: ky_B) { frames := 7, cells := 1, slots := 6, locals := 107 } (ky_P G [.ref x, .int (a1), .int (a2)] (ky_WB G x cs sc pf u) sz (fun _ => True)) (ky_Q (S := ky_BS) G (va_A (ky_WB G x cs sc pf u) sz) (fun v u9 => ∃ (r9 : Int32) (w9 : ky_BS), fn_X6_quarters a1 a2 u = .inr (r9, w9) ∧ v = some (.int r9) ∧ u9 = w9) (fun u9 => ky_WB G x cs sc pf u9) (fun _ _ => True)) (ky_X G (va_A (ky_WB G x cs sc pf u) sz) (fun E => fn_X6_quarters a1 a2 u = .inl E) (ky_WB G x cs sc pf u)) 1 6 (va_A (ky_WB G x cs sc pf u) sz) := by
  refine ky_startX (by decide) (Nat.le_of_ble_eq_true rfl) (fun p e s m below meth c F hno hE A hAe hsz hA hfr hP hD hS hX ls hl => ?_)
  obtain ⟨hx, hb, hml, hown, hr, hlocks, hts⟩ := id F
  have hl : lv_has ls 5 [(0, .ref x), (1, .int (a1)), (2, .int (a2))] := hl
  have hP : va_P G.1 kcl [(x, .inr (0, [.ref cs, .ref sc, .ref pf, .int (u.2.1), .int (u.2.2.1), .int (u.2.2.2)])), (cs, .inl (G.2.1 2, 6, .inr (.inl (u.1))))] s.heap := hP
  have hD : va_D A [(x, .inr (0, [.ref cs, .ref sc, .ref pf, .int (u.2.1), .int (u.2.2.1), .int (u.2.2.2)])), (cs, .inl (G.2.1 2, 6, .inr (.inl (u.1))))] := hD
  have hw : fn_X6_quarters a1 a2 u = _ := fn_X6_quarters.eq_1 a1 a2 u
  refine lv_iload_n hx hb dc_X6_quarters_0 rfl (lv_at hl 1 rfl) ?_
  refine ky_cSx (As := [.int (a1)]) (wr := [(x, .inr (0, [.ref cs, .ref sc, .ref pf, .int (u.2.1), .int (u.2.2.1), .int (u.2.2.2)])), (cs, .inl (G.2.1 2, 6, .inr (.inl (u.1))))]) F (hE.at hfr hS) hfr (mt_X6_requireCell l hl9 G  (a1) s.heap.size ) ks_X6_27 ⟨⟨rfl, rfl⟩, by decide, by decide⟩ rfl hl.1 rfl (Nat.le_of_ble_eq_true rfl) ⟨Nat.le_of_ble_eq_true rfl, Nat.le_of_ble_eq_true rfl⟩ trivial hP hD hS hA [] [0, 1] rfl rfl (by decide) (by decide) (by decide) dc_X6_quarters_1 ?_ ?_
  · intro E ce q9 H locs hp hP hD hS hz hk9 hc1 hc2 hc3
    have hP9 := hP.sub (ws' := [(x, .inr (0, [.ref cs, .ref sc, .ref pf, .int (u.2.1), .int (u.2.2.1), .int (u.2.2.2)])), (cs, .inl (G.2.1 2, 6, .inr (.inl (u.1))))]) [0, 1] rfl
    have hD9 := hD.sub (ws' := [(x, .inr (0, [.ref cs, .ref sc, .ref pf, .int (u.2.1), .int (u.2.2.1), .int (u.2.2.2)])), (cs, .inl (G.2.1 2, 6, .inr (.inl (u.1))))]) [0, 1] (by decide) rfl
    exact vx_out (fun x h => (hno x h).elim) hlocks hc1 hc2 hc3 (fun t ht hW => ⟨hw.trans (ky_bl hp), by rw [ht]; exact hP9, hD9, hS.F ht⟩) hS.2.2 (Nat.le_of_ble_eq_true rfl) (Nat.le_of_ble_eq_true rfl)
  · rintro v9 u9 H locs ⟨r_0, w_0, hf_0, rfl, rfl⟩ hP hD hS - hz hk9
    have hw := hw.trans (ky_br hf_0)
    have hP : va_P G.1 kcl [(x, .inr (0, [.ref cs, .ref sc, .ref pf, .int (u.2.1), .int (u.2.2.1), .int (u.2.2.2)])), (cs, .inl (G.2.1 2, 6, .inr (.inl (u.1))))] H := hP
    have hD : va_D A [(x, .inr (0, [.ref cs, .ref sc, .ref pf, .int (u.2.1), .int (u.2.2.1), .int (u.2.2.2)])), (cs, .inl (G.2.1 2, 6, .inr (.inl (u.1))))] := hD
    refine W.widen (k := 1) (n := 6) (Nat.le_refl _) (Nat.le_refl _) ?_
    refine lv_iload_n hx hb dc_X6_quarters_4 rfl (lv_at hl 2 rfl) ?_
    refine lv_i2l (v := (a2).toInt64) hx hb dc_X6_quarters_5 rfl ?_
    refine ky_labs F ⟨kw_4_125, kw_4_126, kw_1_16, kw_4_127⟩ hl.1 (Nat.le_of_ble_eq_true rfl) (Nat.le_of_ble_eq_true rfl) ⟨Nat.le_of_ble_eq_true rfl, Nat.le_of_ble_eq_true rfl⟩ dc_X6_quarters_6 ?_
    refine lv_lstore_n (lv' := [(3, .long (jlabs ((a2).toInt64))), (0, .ref x), (1, .int (a1)), (2, .int (a2))]) hx hb dc_X6_quarters_9 rfl hl (by decide) rfl (fun ls hl => ?_)
    refine lv_aload_n hx hb dc_X6_quarters_10 rfl (lv_at hl 1 rfl) ?_
    refine lv_iload_n hx hb dc_X6_quarters_11 rfl (lv_at hl 2 rfl) ?_
    refine lv_lload_n hx hb dc_X6_quarters_12 rfl (lv_at hl 0 rfl) ?_
    refine lv_bipush (v := (-2)) hx hb dc_X6_quarters_13 (by decide) ?_
    refine ky_cS0 (As := [.long (jlabs ((a2).toInt64)), .int ((-2 : Int32))]) F (mt_X2_nearestTo l (jlabs ((a2).toInt64)) ((-2 : Int32))) ks_X6_49 ⟨⟨rfl, rfl⟩, by decide, by decide⟩ rfl hl.1 rfl (Nat.le_of_ble_eq_true rfl) ⟨Nat.le_of_ble_eq_true rfl, Nat.le_of_ble_eq_true rfl⟩ dc_X6_quarters_15 ?_
    refine lv_iload_n hx hb dc_X6_quarters_18 rfl (lv_at hl 3 rfl) ?_
    refine lv_if_ge (tgt := 26) hx hb dc_X6_quarters_19 (by decide) (fun c_1 => ?_) (fun c_1 => ?_)
    · have hw := hw.trans (if_pos c_1)
      refine lv_iconst (v := 0) hx hb dc_X6_quarters_26 (by decide) ?_
      refine ky_cS0 (As := [.long (fn_X2_nearestTo (jlabs ((a2).toInt64)) ((-2 : Int32))), .int ((0 : Int32))]) F (mt_X0_withSide l (fn_X2_nearestTo (jlabs ((a2).toInt64)) ((-2 : Int32))) ((0 : Int32))) ks_X6_31 ⟨⟨rfl, rfl⟩, by decide, by decide⟩ rfl hl.1 rfl (Nat.le_of_ble_eq_true rfl) ⟨Nat.le_of_ble_eq_true rfl, Nat.le_of_ble_eq_true rfl⟩ dc_X6_quarters_27 ?_
      refine ky_cVh (As := [.int (a1), .long (fn_X0_withSide (fn_X2_nearestTo (jlabs ((a2).toInt64)) ((-2 : Int32))) ((0 : Int32)))]) (wr := []) F (hE.at hfr hS) hfr (mt_X6_give l G (x) (cs) (sc) (pf) (u) (a1) (fn_X0_withSide (fn_X2_nearestTo (jlabs ((a2).toInt64)) ((-2 : Int32))) ((0 : Int32))) H.size (rq_cell hf_0)) kv_X6_37 ⟨⟨rfl, rfl⟩, by decide, by decide⟩ rfl hl.1 rfl (Nat.le_of_ble_eq_true rfl) ⟨Nat.le_of_ble_eq_true rfl, Nat.le_of_ble_eq_true rfl⟩ (va_recv hE.1 hP (ci := 0) (q0 := 0) rfl rfl) trivial hP hD hS hA [0, 1] [] rfl rfl (by decide) (by decide) (by decide) dc_X6_quarters_30 ?_
      rintro v9 u9 H locs ⟨rfl, rfl⟩ hP hD hS - hz hk9
      have hP : va_P G.1 kcl [(x, .inr (0, [.ref cs, .ref sc, .ref pf, .int ((fn_X6_give (a1) (fn_X0_withSide (fn_X2_nearestTo (jlabs ((a2).toInt64)) ((-2 : Int32))) ((0 : Int32))) (u)).2.2.1), .int ((fn_X6_give (a1) (fn_X0_withSide (fn_X2_nearestTo (jlabs ((a2).toInt64)) ((-2 : Int32))) ((0 : Int32))) (u)).2.2.2.1), .int ((fn_X6_give (a1) (fn_X0_withSide (fn_X2_nearestTo (jlabs ((a2).toInt64)) ((-2 : Int32))) ((0 : Int32))) (u)).2.2.2.2)])), (cs, .inl (G.2.1 2, 6, .inr (.inl ((fn_X6_give (a1) (fn_X0_withSide (fn_X2_nearestTo (jlabs ((a2).toInt64)) ((-2 : Int32))) ((0 : Int32))) (u)).2.1))))] H := hP
      have hD : va_D A [(x, .inr (0, [.ref cs, .ref sc, .ref pf, .int ((fn_X6_give (a1) (fn_X0_withSide (fn_X2_nearestTo (jlabs ((a2).toInt64)) ((-2 : Int32))) ((0 : Int32))) (u)).2.2.1), .int ((fn_X6_give (a1) (fn_X0_withSide (fn_X2_nearestTo (jlabs ((a2).toInt64)) ((-2 : Int32))) ((0 : Int32))) (u)).2.2.2.1), .int ((fn_X6_give (a1) (fn_X0_withSide (fn_X2_nearestTo (jlabs ((a2).toInt64)) ((-2 : Int32))) ((0 : Int32))) (u)).2.2.2.2)])), (cs, .inl (G.2.1 2, 6, .inr (.inl ((fn_X6_give (a1) (fn_X0_withSide (fn_X2_nearestTo (jlabs ((a2).toInt64)) ((-2 : Int32))) ((0 : Int32))) (u)).2.1))))] := hD
      refine W.widen (k := 1) (n := 6) (Nat.le_refl _) (Nat.le_refl _) ?_
      have hP9 := hP.sub (ws' := [(x, .inr (0, [.ref cs, .ref sc, .ref pf, .int ((fn_X6_give (a1) (fn_X0_withSide (fn_X2_nearestTo (jlabs ((a2).toInt64)) ((-2 : Int32))) ((0 : Int32))) (u)).2.2.1), .int ((fn_X6_give (a1) (fn_X0_withSide (fn_X2_nearestTo (jlabs ((a2).toInt64)) ((-2 : Int32))) ((0 : Int32))) (u)).2.2.2.1), .int ((fn_X6_give (a1) (fn_X0_withSide (fn_X2_nearestTo (jlabs ((a2).toInt64)) ((-2 : Int32))) ((0 : Int32))) (u)).2.2.2.2)])), (cs, .inl (G.2.1 2, 6, .inr (.inl ((fn_X6_give (a1) (fn_X0_withSide (fn_X2_nearestTo (jlabs ((a2).toInt64)) ((-2 : Int32))) ((0 : Int32))) (u)).2.1))))]) [0, 1] rfl
      have hD9 := hD.sub (ws' := [(x, .inr (0, [.ref cs, .ref sc, .ref pf, .int ((fn_X6_give (a1) (fn_X0_withSide (fn_X2_nearestTo (jlabs ((a2).toInt64)) ((-2 : Int32))) ((0 : Int32))) (u)).2.2.1), .int ((fn_X6_give (a1) (fn_X0_withSide (fn_X2_nearestTo (jlabs ((a2).toInt64)) ((-2 : Int32))) ((0 : Int32))) (u)).2.2.2.1), .int ((fn_X6_give (a1) (fn_X0_withSide (fn_X2_nearestTo (jlabs ((a2).toInt64)) ((-2 : Int32))) ((0 : Int32))) (u)).2.2.2.2)])), (cs, .inl (G.2.1 2, 6, .inr (.inl ((fn_X6_give (a1) (fn_X0_withSide (fn_X2_nearestTo (jlabs ((a2).toInt64)) ((-2 : Int32))) ((0 : Int32))) (u)).2.1))))]) [0, 1] (by decide) rfl
      refine W.widen (k := 1) (n := 6) (Nat.le_of_ble_eq_true rfl) (Nat.le_of_ble_eq_true rfl) ?_
      refine vx_ret ?_
      exact W.iret (v := (fn_X6_give (a1) (fn_X0_withSide (fn_X2_nearestTo (jlabs ((a2).toInt64)) ((-2 : Int32))) ((0 : Int32))) (u)).1) hx hb hr (fun t ht hW => ⟨⟨_, (fn_X6_give (a1) (fn_X0_withSide (fn_X2_nearestTo (jlabs ((a2).toInt64)) ((-2 : Int32))) ((0 : Int32))) (u)).2, rfl, ⟨(fn_X6_give (a1) (fn_X0_withSide (fn_X2_nearestTo (jlabs ((a2).toInt64)) ((-2 : Int32))) ((0 : Int32))) (u)).1, (fn_X6_give (a1) (fn_X0_withSide (fn_X2_nearestTo (jlabs ((a2).toInt64)) ((-2 : Int32))) ((0 : Int32))) (u)).2, hw, rfl, rfl⟩, by rw [ht]; exact hP9, hD9, trivial⟩, hS.F ht⟩) hS.2.2 dc_X6_quarters_33
    · have hw := hw.trans (if_neg c_1)
      refine lv_iconst (v := 1) hx hb dc_X6_quarters_22 (by decide) ?_
      refine lv_goto (tgt := 27) hx hb dc_X6_quarters_23 (by decide) ?_
      refine ky_cS0 (As := [.long (fn_X2_nearestTo (jlabs ((a2).toInt64)) ((-2 : Int32))), .int ((1 : Int32))]) F (mt_X0_withSide l (fn_X2_nearestTo (jlabs ((a2).toInt64)) ((-2 : Int32))) ((1 : Int32))) ks_X6_31 ⟨⟨rfl, rfl⟩, by decide, by decide⟩ rfl hl.1 rfl (Nat.le_of_ble_eq_true rfl) ⟨Nat.le_of_ble_eq_true rfl, Nat.le_of_ble_eq_true rfl⟩ dc_X6_quarters_27 ?_
      refine ky_cVh (As := [.int (a1), .long (fn_X0_withSide (fn_X2_nearestTo (jlabs ((a2).toInt64)) ((-2 : Int32))) ((1 : Int32)))]) (wr := []) F (hE.at hfr hS) hfr (mt_X6_give l G (x) (cs) (sc) (pf) (u) (a1) (fn_X0_withSide (fn_X2_nearestTo (jlabs ((a2).toInt64)) ((-2 : Int32))) ((1 : Int32))) H.size (rq_cell hf_0)) kv_X6_37 ⟨⟨rfl, rfl⟩, by decide, by decide⟩ rfl hl.1 rfl (Nat.le_of_ble_eq_true rfl) ⟨Nat.le_of_ble_eq_true rfl, Nat.le_of_ble_eq_true rfl⟩ (va_recv hE.1 hP (ci := 0) (q0 := 0) rfl rfl) trivial hP hD hS hA [0, 1] [] rfl rfl (by decide) (by decide) (by decide) dc_X6_quarters_30 ?_
      rintro v9 u9 H locs ⟨rfl, rfl⟩ hP hD hS - hz hk9
      have hP : va_P G.1 kcl [(x, .inr (0, [.ref cs, .ref sc, .ref pf, .int ((fn_X6_give (a1) (fn_X0_withSide (fn_X2_nearestTo (jlabs ((a2).toInt64)) ((-2 : Int32))) ((1 : Int32))) (u)).2.2.1), .int ((fn_X6_give (a1) (fn_X0_withSide (fn_X2_nearestTo (jlabs ((a2).toInt64)) ((-2 : Int32))) ((1 : Int32))) (u)).2.2.2.1), .int ((fn_X6_give (a1) (fn_X0_withSide (fn_X2_nearestTo (jlabs ((a2).toInt64)) ((-2 : Int32))) ((1 : Int32))) (u)).2.2.2.2)])), (cs, .inl (G.2.1 2, 6, .inr (.inl ((fn_X6_give (a1) (fn_X0_withSide (fn_X2_nearestTo (jlabs ((a2).toInt64)) ((-2 : Int32))) ((1 : Int32))) (u)).2.1))))] H := hP
      have hD : va_D A [(x, .inr (0, [.ref cs, .ref sc, .ref pf, .int ((fn_X6_give (a1) (fn_X0_withSide (fn_X2_nearestTo (jlabs ((a2).toInt64)) ((-2 : Int32))) ((1 : Int32))) (u)).2.2.1), .int ((fn_X6_give (a1) (fn_X0_withSide (fn_X2_nearestTo (jlabs ((a2).toInt64)) ((-2 : Int32))) ((1 : Int32))) (u)).2.2.2.1), .int ((fn_X6_give (a1) (fn_X0_withSide (fn_X2_nearestTo (jlabs ((a2).toInt64)) ((-2 : Int32))) ((1 : Int32))) (u)).2.2.2.2)])), (cs, .inl (G.2.1 2, 6, .inr (.inl ((fn_X6_give (a1) (fn_X0_withSide (fn_X2_nearestTo (jlabs ((a2).toInt64)) ((-2 : Int32))) ((1 : Int32))) (u)).2.1))))] := hD
      refine W.widen (k := 1) (n := 6) (Nat.le_refl _) (Nat.le_refl _) ?_
      have hP9 := hP.sub (ws' := [(x, .inr (0, [.ref cs, .ref sc, .ref pf, .int ((fn_X6_give (a1) (fn_X0_withSide (fn_X2_nearestTo (jlabs ((a2).toInt64)) ((-2 : Int32))) ((1 : Int32))) (u)).2.2.1), .int ((fn_X6_give (a1) (fn_X0_withSide (fn_X2_nearestTo (jlabs ((a2).toInt64)) ((-2 : Int32))) ((1 : Int32))) (u)).2.2.2.1), .int ((fn_X6_give (a1) (fn_X0_withSide (fn_X2_nearestTo (jlabs ((a2).toInt64)) ((-2 : Int32))) ((1 : Int32))) (u)).2.2.2.2)])), (cs, .inl (G.2.1 2, 6, .inr (.inl ((fn_X6_give (a1) (fn_X0_withSide (fn_X2_nearestTo (jlabs ((a2).toInt64)) ((-2 : Int32))) ((1 : Int32))) (u)).2.1))))]) [0, 1] rfl
      have hD9 := hD.sub (ws' := [(x, .inr (0, [.ref cs, .ref sc, .ref pf, .int ((fn_X6_give (a1) (fn_X0_withSide (fn_X2_nearestTo (jlabs ((a2).toInt64)) ((-2 : Int32))) ((1 : Int32))) (u)).2.2.1), .int ((fn_X6_give (a1) (fn_X0_withSide (fn_X2_nearestTo (jlabs ((a2).toInt64)) ((-2 : Int32))) ((1 : Int32))) (u)).2.2.2.1), .int ((fn_X6_give (a1) (fn_X0_withSide (fn_X2_nearestTo (jlabs ((a2).toInt64)) ((-2 : Int32))) ((1 : Int32))) (u)).2.2.2.2)])), (cs, .inl (G.2.1 2, 6, .inr (.inl ((fn_X6_give (a1) (fn_X0_withSide (fn_X2_nearestTo (jlabs ((a2).toInt64)) ((-2 : Int32))) ((1 : Int32))) (u)).2.1))))]) [0, 1] (by decide) rfl
      refine W.widen (k := 1) (n := 6) (Nat.le_of_ble_eq_true rfl) (Nat.le_of_ble_eq_true rfl) ?_
      refine vx_ret ?_
      exact W.iret (v := (fn_X6_give (a1) (fn_X0_withSide (fn_X2_nearestTo (jlabs ((a2).toInt64)) ((-2 : Int32))) ((1 : Int32))) (u)).1) hx hb hr (fun t ht hW => ⟨⟨_, (fn_X6_give (a1) (fn_X0_withSide (fn_X2_nearestTo (jlabs ((a2).toInt64)) ((-2 : Int32))) ((1 : Int32))) (u)).2, rfl, ⟨(fn_X6_give (a1) (fn_X0_withSide (fn_X2_nearestTo (jlabs ((a2).toInt64)) ((-2 : Int32))) ((1 : Int32))) (u)).1, (fn_X6_give (a1) (fn_X0_withSide (fn_X2_nearestTo (jlabs ((a2).toInt64)) ((-2 : Int32))) ((1 : Int32))) (u)).2, hw, rfl, rfl⟩, by rw [ht]; exact hP9, hD9, trivial⟩, hS.F ht⟩) hS.2.2 dc_X6_quarters_33
def fn_X6_power (a1 : Int32) (a2 : Int32) (a3 : Int32) (u : ky_BS) : Sum String (Int32 × ky_BS) :=
  ky_b (fn_X6_requireCell (a1)) (fun r_0 w_0 => ky_b (fn_X6_requireWithin (a2) ((-1100 : Int32)) ((1100 : Int32))) (fun r_1 w_1 => .inr ((fn_X6_give (a1) (fn_X0_withSide (fn_X2_timesPower ((4607182418800017408 : Int64)) (a2)) (a3)) (u)).1, (fn_X6_give (a1) (fn_X0_withSide (fn_X2_timesPower ((4607182418800017408 : Int64)) (a2)) (a3)) (u)).2)))
set_option linter.constructorNameAsVariable false in
set_option maxHeartbeats 4000000 in
set_option maxRecDepth 100000 in
theorem mt_X6_power (l : Launch) (hl9 : l.stackTraces = false) (G : ky_G) (x : Nat) (cs : Nat) (sc : Nat) (pf : Nat) (u : ky_BS) (a1 : Int32) (a2 : Int32) (a3 : Int32) (sz : Nat)  : vx_Met l my_X6_power (.code my_X6_power prog_1_method_5_code 4 (some .int) :: ky_B) { frames := 7, cells := 2, slots := 12, locals := 107 } (ky_P G [.ref x, .int (a1), .int (a2), .int (a3)] (ky_WB G x cs sc pf u) sz (fun _ => True)) (ky_Q (S := ky_BS) G (va_A (ky_WB G x cs sc pf u) sz) (fun v u9 => ∃ (r9 : Int32) (w9 : ky_BS), fn_X6_power a1 a2 a3 u = .inr (r9, w9) ∧ v = some (.int r9) ∧ u9 = w9) (fun u9 => ky_WB G x cs sc pf u9) (fun _ _ => True)) (ky_X G (va_A (ky_WB G x cs sc pf u) sz) (fun E => fn_X6_power a1 a2 a3 u = .inl E) (ky_WB G x cs sc pf u)) 2 12 (va_A (ky_WB G x cs sc pf u) sz) := by
  refine ky_startX (by decide) (Nat.le_of_ble_eq_true rfl) (fun p e s m below meth c F hno hE A hAe hsz hA hfr hP hD hS hX ls hl => ?_)
  obtain ⟨hx, hb, hml, hown, hr, hlocks, hts⟩ := id F
  have hl : lv_has ls 4 [(0, .ref x), (1, .int (a1)), (2, .int (a2)), (3, .int (a3))] := hl
  have hP : va_P G.1 kcl [(x, .inr (0, [.ref cs, .ref sc, .ref pf, .int (u.2.1), .int (u.2.2.1), .int (u.2.2.2)])), (cs, .inl (G.2.1 2, 6, .inr (.inl (u.1))))] s.heap := hP
  have hD : va_D A [(x, .inr (0, [.ref cs, .ref sc, .ref pf, .int (u.2.1), .int (u.2.2.1), .int (u.2.2.2)])), (cs, .inl (G.2.1 2, 6, .inr (.inl (u.1))))] := hD
  have hw : fn_X6_power a1 a2 a3 u = _ := fn_X6_power.eq_1 a1 a2 a3 u
  refine lv_iload_n hx hb dc_X6_power_0 rfl (lv_at hl 1 rfl) ?_
  refine ky_cSx (As := [.int (a1)]) (wr := [(x, .inr (0, [.ref cs, .ref sc, .ref pf, .int (u.2.1), .int (u.2.2.1), .int (u.2.2.2)])), (cs, .inl (G.2.1 2, 6, .inr (.inl (u.1))))]) F (hE.at hfr hS) hfr (mt_X6_requireCell l hl9 G  (a1) s.heap.size ) ks_X6_27 ⟨⟨rfl, rfl⟩, by decide, by decide⟩ rfl hl.1 rfl (Nat.le_of_ble_eq_true rfl) ⟨Nat.le_of_ble_eq_true rfl, Nat.le_of_ble_eq_true rfl⟩ trivial hP hD hS hA [] [0, 1] rfl rfl (by decide) (by decide) (by decide) dc_X6_power_1 ?_ ?_
  · intro E ce q9 H locs hp hP hD hS hz hk9 hc1 hc2 hc3
    have hP9 := hP.sub (ws' := [(x, .inr (0, [.ref cs, .ref sc, .ref pf, .int (u.2.1), .int (u.2.2.1), .int (u.2.2.2)])), (cs, .inl (G.2.1 2, 6, .inr (.inl (u.1))))]) [0, 1] rfl
    have hD9 := hD.sub (ws' := [(x, .inr (0, [.ref cs, .ref sc, .ref pf, .int (u.2.1), .int (u.2.2.1), .int (u.2.2.2)])), (cs, .inl (G.2.1 2, 6, .inr (.inl (u.1))))]) [0, 1] (by decide) rfl
    exact vx_out (fun x h => (hno x h).elim) hlocks hc1 hc2 hc3 (fun t ht hW => ⟨hw.trans (ky_bl hp), by rw [ht]; exact hP9, hD9, hS.F ht⟩) hS.2.2 (Nat.le_of_ble_eq_true rfl) (Nat.le_of_ble_eq_true rfl)
  · rintro v9 u9 H locs ⟨r_0, w_0, hf_0, rfl, rfl⟩ hP hD hS - hz hk9
    have hw := hw.trans (ky_br hf_0)
    have hP : va_P G.1 kcl [(x, .inr (0, [.ref cs, .ref sc, .ref pf, .int (u.2.1), .int (u.2.2.1), .int (u.2.2.2)])), (cs, .inl (G.2.1 2, 6, .inr (.inl (u.1))))] H := hP
    have hD : va_D A [(x, .inr (0, [.ref cs, .ref sc, .ref pf, .int (u.2.1), .int (u.2.2.1), .int (u.2.2.2)])), (cs, .inl (G.2.1 2, 6, .inr (.inl (u.1))))] := hD
    refine W.widen (k := 1) (n := 6) (Nat.le_refl _) (Nat.le_refl _) ?_
    refine lv_iload_n hx hb dc_X6_power_4 rfl (lv_at hl 2 rfl) ?_
    refine lv_sipush (v := (-1100)) hx hb dc_X6_power_5 (by decide) ?_
    refine lv_sipush (v := 1100) hx hb dc_X6_power_8 (by decide) ?_
    refine ky_cSx (As := [.int (a2), .int ((-1100 : Int32)), .int ((1100 : Int32))]) (wr := [(x, .inr (0, [.ref cs, .ref sc, .ref pf, .int (u.2.1), .int (u.2.2.1), .int (u.2.2.2)])), (cs, .inl (G.2.1 2, 6, .inr (.inl (u.1))))]) F (hE.at hfr hS) hfr (mt_X6_requireWithin l hl9 G  (a2) ((-1100 : Int32)) ((1100 : Int32)) H.size ) ks_X6_55 ⟨⟨rfl, rfl⟩, by decide, by decide⟩ rfl hl.1 rfl (Nat.le_of_ble_eq_true rfl) ⟨Nat.le_of_ble_eq_true rfl, Nat.le_of_ble_eq_true rfl⟩ trivial hP hD hS hA [] [0, 1] rfl rfl (by decide) (by decide) (by decide) dc_X6_power_11 ?_ ?_
    · intro E ce q9 H locs hp hP hD hS hz hk9 hc1 hc2 hc3
      have hP9 := hP.sub (ws' := [(x, .inr (0, [.ref cs, .ref sc, .ref pf, .int (u.2.1), .int (u.2.2.1), .int (u.2.2.2)])), (cs, .inl (G.2.1 2, 6, .inr (.inl (u.1))))]) [0, 1] rfl
      have hD9 := hD.sub (ws' := [(x, .inr (0, [.ref cs, .ref sc, .ref pf, .int (u.2.1), .int (u.2.2.1), .int (u.2.2.2)])), (cs, .inl (G.2.1 2, 6, .inr (.inl (u.1))))]) [0, 1] (by decide) rfl
      exact vx_out (fun x h => (hno x h).elim) hlocks hc1 hc2 hc3 (fun t ht hW => ⟨hw.trans (ky_bl hp), by rw [ht]; exact hP9, hD9, hS.F ht⟩) hS.2.2 (Nat.le_of_ble_eq_true rfl) (Nat.le_of_ble_eq_true rfl)
    · rintro v9 u9 H locs ⟨r_1, w_1, hf_1, rfl, rfl⟩ hP hD hS - hz hk9
      have hw := hw.trans (ky_br hf_1)
      have hP : va_P G.1 kcl [(x, .inr (0, [.ref cs, .ref sc, .ref pf, .int (u.2.1), .int (u.2.2.1), .int (u.2.2.2)])), (cs, .inl (G.2.1 2, 6, .inr (.inl (u.1))))] H := hP
      have hD : va_D A [(x, .inr (0, [.ref cs, .ref sc, .ref pf, .int (u.2.1), .int (u.2.2.1), .int (u.2.2.2)])), (cs, .inl (G.2.1 2, 6, .inr (.inl (u.1))))] := hD
      refine W.widen (k := 2) (n := 12) (Nat.le_refl _) (Nat.le_refl _) ?_
      refine lv_aload_n hx hb dc_X6_power_14 rfl (lv_at hl 0 rfl) ?_
      refine lv_iload_n hx hb dc_X6_power_15 rfl (lv_at hl 1 rfl) ?_
      refine lv_ldc2 (v := 4607182418800017408) hx hb hown (hts _ kw_4_143) dc_X6_power_16 ?_
      refine lv_iload_n hx hb dc_X6_power_19 rfl (lv_at hl 2 rfl) ?_
      refine ky_cS0 (As := [.long ((4607182418800017408 : Int64)), .int (a2)]) F (mt_X2_timesPower l ((4607182418800017408 : Int64)) (a2)) ks_X6_61 ⟨⟨rfl, rfl⟩, by decide, by decide⟩ rfl hl.1 rfl (Nat.le_of_ble_eq_true rfl) ⟨Nat.le_of_ble_eq_true rfl, Nat.le_of_ble_eq_true rfl⟩ dc_X6_power_20 ?_
      refine lv_iload_n hx hb dc_X6_power_23 rfl (lv_at hl 3 rfl) ?_
      refine ky_cS0 (As := [.long (fn_X2_timesPower ((4607182418800017408 : Int64)) (a2)), .int (a3)]) F (mt_X0_withSide l (fn_X2_timesPower ((4607182418800017408 : Int64)) (a2)) (a3)) ks_X6_31 ⟨⟨rfl, rfl⟩, by decide, by decide⟩ rfl hl.1 rfl (Nat.le_of_ble_eq_true rfl) ⟨Nat.le_of_ble_eq_true rfl, Nat.le_of_ble_eq_true rfl⟩ dc_X6_power_24 ?_
      refine ky_cVh (As := [.int (a1), .long (fn_X0_withSide (fn_X2_timesPower ((4607182418800017408 : Int64)) (a2)) (a3))]) (wr := []) F (hE.at hfr hS) hfr (mt_X6_give l G (x) (cs) (sc) (pf) (u) (a1) (fn_X0_withSide (fn_X2_timesPower ((4607182418800017408 : Int64)) (a2)) (a3)) H.size (rq_cell hf_0)) kv_X6_37 ⟨⟨rfl, rfl⟩, by decide, by decide⟩ rfl hl.1 rfl (Nat.le_of_ble_eq_true rfl) ⟨Nat.le_of_ble_eq_true rfl, Nat.le_of_ble_eq_true rfl⟩ (va_recv hE.1 hP (ci := 0) (q0 := 0) rfl rfl) trivial hP hD hS hA [0, 1] [] rfl rfl (by decide) (by decide) (by decide) dc_X6_power_27 ?_
      rintro v9 u9 H locs ⟨rfl, rfl⟩ hP hD hS - hz hk9
      have hP : va_P G.1 kcl [(x, .inr (0, [.ref cs, .ref sc, .ref pf, .int ((fn_X6_give (a1) (fn_X0_withSide (fn_X2_timesPower ((4607182418800017408 : Int64)) (a2)) (a3)) (u)).2.2.1), .int ((fn_X6_give (a1) (fn_X0_withSide (fn_X2_timesPower ((4607182418800017408 : Int64)) (a2)) (a3)) (u)).2.2.2.1), .int ((fn_X6_give (a1) (fn_X0_withSide (fn_X2_timesPower ((4607182418800017408 : Int64)) (a2)) (a3)) (u)).2.2.2.2)])), (cs, .inl (G.2.1 2, 6, .inr (.inl ((fn_X6_give (a1) (fn_X0_withSide (fn_X2_timesPower ((4607182418800017408 : Int64)) (a2)) (a3)) (u)).2.1))))] H := hP
      have hD : va_D A [(x, .inr (0, [.ref cs, .ref sc, .ref pf, .int ((fn_X6_give (a1) (fn_X0_withSide (fn_X2_timesPower ((4607182418800017408 : Int64)) (a2)) (a3)) (u)).2.2.1), .int ((fn_X6_give (a1) (fn_X0_withSide (fn_X2_timesPower ((4607182418800017408 : Int64)) (a2)) (a3)) (u)).2.2.2.1), .int ((fn_X6_give (a1) (fn_X0_withSide (fn_X2_timesPower ((4607182418800017408 : Int64)) (a2)) (a3)) (u)).2.2.2.2)])), (cs, .inl (G.2.1 2, 6, .inr (.inl ((fn_X6_give (a1) (fn_X0_withSide (fn_X2_timesPower ((4607182418800017408 : Int64)) (a2)) (a3)) (u)).2.1))))] := hD
      refine W.widen (k := 2) (n := 12) (Nat.le_refl _) (Nat.le_refl _) ?_
      have hP9 := hP.sub (ws' := [(x, .inr (0, [.ref cs, .ref sc, .ref pf, .int ((fn_X6_give (a1) (fn_X0_withSide (fn_X2_timesPower ((4607182418800017408 : Int64)) (a2)) (a3)) (u)).2.2.1), .int ((fn_X6_give (a1) (fn_X0_withSide (fn_X2_timesPower ((4607182418800017408 : Int64)) (a2)) (a3)) (u)).2.2.2.1), .int ((fn_X6_give (a1) (fn_X0_withSide (fn_X2_timesPower ((4607182418800017408 : Int64)) (a2)) (a3)) (u)).2.2.2.2)])), (cs, .inl (G.2.1 2, 6, .inr (.inl ((fn_X6_give (a1) (fn_X0_withSide (fn_X2_timesPower ((4607182418800017408 : Int64)) (a2)) (a3)) (u)).2.1))))]) [0, 1] rfl
      have hD9 := hD.sub (ws' := [(x, .inr (0, [.ref cs, .ref sc, .ref pf, .int ((fn_X6_give (a1) (fn_X0_withSide (fn_X2_timesPower ((4607182418800017408 : Int64)) (a2)) (a3)) (u)).2.2.1), .int ((fn_X6_give (a1) (fn_X0_withSide (fn_X2_timesPower ((4607182418800017408 : Int64)) (a2)) (a3)) (u)).2.2.2.1), .int ((fn_X6_give (a1) (fn_X0_withSide (fn_X2_timesPower ((4607182418800017408 : Int64)) (a2)) (a3)) (u)).2.2.2.2)])), (cs, .inl (G.2.1 2, 6, .inr (.inl ((fn_X6_give (a1) (fn_X0_withSide (fn_X2_timesPower ((4607182418800017408 : Int64)) (a2)) (a3)) (u)).2.1))))]) [0, 1] (by decide) rfl
      refine W.widen (k := 2) (n := 12) (Nat.le_of_ble_eq_true rfl) (Nat.le_of_ble_eq_true rfl) ?_
      refine vx_ret ?_
      exact W.iret (v := (fn_X6_give (a1) (fn_X0_withSide (fn_X2_timesPower ((4607182418800017408 : Int64)) (a2)) (a3)) (u)).1) hx hb hr (fun t ht hW => ⟨⟨_, (fn_X6_give (a1) (fn_X0_withSide (fn_X2_timesPower ((4607182418800017408 : Int64)) (a2)) (a3)) (u)).2, rfl, ⟨(fn_X6_give (a1) (fn_X0_withSide (fn_X2_timesPower ((4607182418800017408 : Int64)) (a2)) (a3)) (u)).1, (fn_X6_give (a1) (fn_X0_withSide (fn_X2_timesPower ((4607182418800017408 : Int64)) (a2)) (a3)) (u)).2, hw, rfl, rfl⟩, by rw [ht]; exact hP9, hD9, trivial⟩, hS.F ht⟩) hS.2.2 dc_X6_power_30
def fn_X6_bits (a1 : Int32) (a2 : Int32) (a3 : Int32) (u : ky_BS) : Sum String (Int32 × ky_BS) :=
  ky_b (fn_X6_requireCell (a1)) (fun r_0 w_0 => if (fn_X0_isNumber ((jlshl ((a2).toInt64) ((32 : Int32))) ||| (((a3).toInt64) &&& ((4294967295 : Int64))))) = (0 : Int32) then (.inr ((-9 : Int32), (u.1, u.2.1, (u.2.2.1) + ((1 : Int32)), u.2.2.2))) else (.inr ((fn_X6_give (a1) ((jlshl ((a2).toInt64) ((32 : Int32))) ||| (((a3).toInt64) &&& ((4294967295 : Int64)))) (u)).1, (fn_X6_give (a1) ((jlshl ((a2).toInt64) ((32 : Int32))) ||| (((a3).toInt64) &&& ((4294967295 : Int64)))) (u)).2)))
set_option linter.constructorNameAsVariable false in
set_option maxHeartbeats 4000000 in
set_option maxRecDepth 100000 in
theorem mt_X6_bits (l : Launch) (hl9 : l.stackTraces = false) (G : ky_G) (x : Nat) (cs : Nat) (sc : Nat) (pf : Nat) (u : ky_BS) (a1 : Int32) (a2 : Int32) (a3 : Int32) (sz : Nat)  : vx_Met l my_X6_bits (.code my_X6_bits prog_1_method_6_code 6 (some .int) :: ky_B) { frames := 7, cells := 1, slots := 6, locals := 107 } (ky_P G [.ref x, .int (a1), .int (a2), .int (a3)] (ky_WB G x cs sc pf u) sz (fun _ => True)) (ky_Q (S := ky_BS) G (va_A (ky_WB G x cs sc pf u) sz) (fun v u9 => ∃ (r9 : Int32) (w9 : ky_BS), fn_X6_bits a1 a2 a3 u = .inr (r9, w9) ∧ v = some (.int r9) ∧ u9 = w9) (fun u9 => ky_WB G x cs sc pf u9) (fun _ _ => True)) (ky_X G (va_A (ky_WB G x cs sc pf u) sz) (fun E => fn_X6_bits a1 a2 a3 u = .inl E) (ky_WB G x cs sc pf u)) 1 6 (va_A (ky_WB G x cs sc pf u) sz) := by
  refine ky_startX (by decide) (Nat.le_of_ble_eq_true rfl) (fun p e s m below meth c F hno hE A hAe hsz hA hfr hP hD hS hX ls hl => ?_)
  obtain ⟨hx, hb, hml, hown, hr, hlocks, hts⟩ := id F
  have hl : lv_has ls 6 [(0, .ref x), (1, .int (a1)), (2, .int (a2)), (3, .int (a3))] := hl
  have hP : va_P G.1 kcl [(x, .inr (0, [.ref cs, .ref sc, .ref pf, .int (u.2.1), .int (u.2.2.1), .int (u.2.2.2)])), (cs, .inl (G.2.1 2, 6, .inr (.inl (u.1))))] s.heap := hP
  have hD : va_D A [(x, .inr (0, [.ref cs, .ref sc, .ref pf, .int (u.2.1), .int (u.2.2.1), .int (u.2.2.2)])), (cs, .inl (G.2.1 2, 6, .inr (.inl (u.1))))] := hD
  have hw : fn_X6_bits a1 a2 a3 u = _ := fn_X6_bits.eq_1 a1 a2 a3 u
  refine lv_iload_n hx hb dc_X6_bits_0 rfl (lv_at hl 1 rfl) ?_
  refine ky_cSx (As := [.int (a1)]) (wr := [(x, .inr (0, [.ref cs, .ref sc, .ref pf, .int (u.2.1), .int (u.2.2.1), .int (u.2.2.2)])), (cs, .inl (G.2.1 2, 6, .inr (.inl (u.1))))]) F (hE.at hfr hS) hfr (mt_X6_requireCell l hl9 G  (a1) s.heap.size ) ks_X6_27 ⟨⟨rfl, rfl⟩, by decide, by decide⟩ rfl hl.1 rfl (Nat.le_of_ble_eq_true rfl) ⟨Nat.le_of_ble_eq_true rfl, Nat.le_of_ble_eq_true rfl⟩ trivial hP hD hS hA [] [0, 1] rfl rfl (by decide) (by decide) (by decide) dc_X6_bits_1 ?_ ?_
  · intro E ce q9 H locs hp hP hD hS hz hk9 hc1 hc2 hc3
    have hP9 := hP.sub (ws' := [(x, .inr (0, [.ref cs, .ref sc, .ref pf, .int (u.2.1), .int (u.2.2.1), .int (u.2.2.2)])), (cs, .inl (G.2.1 2, 6, .inr (.inl (u.1))))]) [0, 1] rfl
    have hD9 := hD.sub (ws' := [(x, .inr (0, [.ref cs, .ref sc, .ref pf, .int (u.2.1), .int (u.2.2.1), .int (u.2.2.2)])), (cs, .inl (G.2.1 2, 6, .inr (.inl (u.1))))]) [0, 1] (by decide) rfl
    exact vx_out (fun x h => (hno x h).elim) hlocks hc1 hc2 hc3 (fun t ht hW => ⟨hw.trans (ky_bl hp), by rw [ht]; exact hP9, hD9, hS.F ht⟩) hS.2.2 (Nat.le_of_ble_eq_true rfl) (Nat.le_of_ble_eq_true rfl)
  · rintro v9 u9 H locs ⟨r_0, w_0, hf_0, rfl, rfl⟩ hP hD hS - hz hk9
    have hw := hw.trans (ky_br hf_0)
    have hP : va_P G.1 kcl [(x, .inr (0, [.ref cs, .ref sc, .ref pf, .int (u.2.1), .int (u.2.2.1), .int (u.2.2.2)])), (cs, .inl (G.2.1 2, 6, .inr (.inl (u.1))))] H := hP
    have hD : va_D A [(x, .inr (0, [.ref cs, .ref sc, .ref pf, .int (u.2.1), .int (u.2.2.1), .int (u.2.2.2)])), (cs, .inl (G.2.1 2, 6, .inr (.inl (u.1))))] := hD
    refine W.widen (k := 1) (n := 6) (Nat.le_refl _) (Nat.le_refl _) ?_
    refine lv_iload_n hx hb dc_X6_bits_4 rfl (lv_at hl 2 rfl) ?_
    refine lv_i2l (v := (a2).toInt64) hx hb dc_X6_bits_5 rfl ?_
    refine lv_bipush (v := 32) hx hb dc_X6_bits_6 (by decide) ?_
    refine lv_lshl (v := jlshl ((a2).toInt64) ((32 : Int32))) hx hb dc_X6_bits_8 rfl ?_
    refine lv_iload_n hx hb dc_X6_bits_9 rfl (lv_at hl 3 rfl) ?_
    refine lv_i2l (v := (a3).toInt64) hx hb dc_X6_bits_10 rfl ?_
    refine lv_ldc2 (v := 4294967295) hx hb hown (hts _ kw_4_152) dc_X6_bits_11 ?_
    refine lv_land hx hb dc_X6_bits_14 ?_
    refine lv_lor hx hb dc_X6_bits_15 ?_
    refine lv_lstore (lv' := [(4, .long ((jlshl ((a2).toInt64) ((32 : Int32))) ||| (((a3).toInt64) &&& ((4294967295 : Int64))))), (0, .ref x), (1, .int (a1)), (2, .int (a2)), (3, .int (a3))]) hx hb dc_X6_bits_16 hl (by decide) rfl (fun ls hl => ?_)
    refine lv_lload hx hb dc_X6_bits_18 (lv_at hl 0 rfl) ?_
    refine ky_cS0 (As := [.long ((jlshl ((a2).toInt64) ((32 : Int32))) ||| (((a3).toInt64) &&& ((4294967295 : Int64))))]) F (mt_X0_isNumber l ((jlshl ((a2).toInt64) ((32 : Int32))) ||| (((a3).toInt64) &&& ((4294967295 : Int64))))) ks_X6_66 ⟨⟨rfl, rfl⟩, by decide, by decide⟩ rfl hl.1 rfl (Nat.le_of_ble_eq_true rfl) ⟨Nat.le_of_ble_eq_true rfl, Nat.le_of_ble_eq_true rfl⟩ dc_X6_bits_20 ?_
    refine lv_if_ne (tgt := 39) hx hb dc_X6_bits_23 (by decide) (fun c_1 => ?_) (fun c_1 => ?_)
    · have hw := hw.trans (if_neg c_1)
      refine lv_aload_n hx hb dc_X6_bits_39 rfl (lv_at hl 1 rfl) ?_
      refine lv_iload_n hx hb dc_X6_bits_40 rfl (lv_at hl 2 rfl) ?_
      refine lv_lload hx hb dc_X6_bits_41 (lv_at hl 0 rfl) ?_
      refine ky_cVh (As := [.int (a1), .long ((jlshl ((a2).toInt64) ((32 : Int32))) ||| (((a3).toInt64) &&& ((4294967295 : Int64))))]) (wr := []) F (hE.at hfr hS) hfr (mt_X6_give l G (x) (cs) (sc) (pf) (u) (a1) ((jlshl ((a2).toInt64) ((32 : Int32))) ||| (((a3).toInt64) &&& ((4294967295 : Int64)))) H.size (rq_cell hf_0)) kv_X6_37 ⟨⟨rfl, rfl⟩, by decide, by decide⟩ rfl hl.1 rfl (Nat.le_of_ble_eq_true rfl) ⟨Nat.le_of_ble_eq_true rfl, Nat.le_of_ble_eq_true rfl⟩ (va_recv hE.1 hP (ci := 0) (q0 := 0) rfl rfl) trivial hP hD hS hA [0, 1] [] rfl rfl (by decide) (by decide) (by decide) dc_X6_bits_43 ?_
      rintro v9 u9 H locs ⟨rfl, rfl⟩ hP hD hS - hz hk9
      have hP : va_P G.1 kcl [(x, .inr (0, [.ref cs, .ref sc, .ref pf, .int ((fn_X6_give (a1) ((jlshl ((a2).toInt64) ((32 : Int32))) ||| (((a3).toInt64) &&& ((4294967295 : Int64)))) (u)).2.2.1), .int ((fn_X6_give (a1) ((jlshl ((a2).toInt64) ((32 : Int32))) ||| (((a3).toInt64) &&& ((4294967295 : Int64)))) (u)).2.2.2.1), .int ((fn_X6_give (a1) ((jlshl ((a2).toInt64) ((32 : Int32))) ||| (((a3).toInt64) &&& ((4294967295 : Int64)))) (u)).2.2.2.2)])), (cs, .inl (G.2.1 2, 6, .inr (.inl ((fn_X6_give (a1) ((jlshl ((a2).toInt64) ((32 : Int32))) ||| (((a3).toInt64) &&& ((4294967295 : Int64)))) (u)).2.1))))] H := hP
      have hD : va_D A [(x, .inr (0, [.ref cs, .ref sc, .ref pf, .int ((fn_X6_give (a1) ((jlshl ((a2).toInt64) ((32 : Int32))) ||| (((a3).toInt64) &&& ((4294967295 : Int64)))) (u)).2.2.1), .int ((fn_X6_give (a1) ((jlshl ((a2).toInt64) ((32 : Int32))) ||| (((a3).toInt64) &&& ((4294967295 : Int64)))) (u)).2.2.2.1), .int ((fn_X6_give (a1) ((jlshl ((a2).toInt64) ((32 : Int32))) ||| (((a3).toInt64) &&& ((4294967295 : Int64)))) (u)).2.2.2.2)])), (cs, .inl (G.2.1 2, 6, .inr (.inl ((fn_X6_give (a1) ((jlshl ((a2).toInt64) ((32 : Int32))) ||| (((a3).toInt64) &&& ((4294967295 : Int64)))) (u)).2.1))))] := hD
      refine W.widen (k := 1) (n := 6) (Nat.le_refl _) (Nat.le_refl _) ?_
      have hP9 := hP.sub (ws' := [(x, .inr (0, [.ref cs, .ref sc, .ref pf, .int ((fn_X6_give (a1) ((jlshl ((a2).toInt64) ((32 : Int32))) ||| (((a3).toInt64) &&& ((4294967295 : Int64)))) (u)).2.2.1), .int ((fn_X6_give (a1) ((jlshl ((a2).toInt64) ((32 : Int32))) ||| (((a3).toInt64) &&& ((4294967295 : Int64)))) (u)).2.2.2.1), .int ((fn_X6_give (a1) ((jlshl ((a2).toInt64) ((32 : Int32))) ||| (((a3).toInt64) &&& ((4294967295 : Int64)))) (u)).2.2.2.2)])), (cs, .inl (G.2.1 2, 6, .inr (.inl ((fn_X6_give (a1) ((jlshl ((a2).toInt64) ((32 : Int32))) ||| (((a3).toInt64) &&& ((4294967295 : Int64)))) (u)).2.1))))]) [0, 1] rfl
      have hD9 := hD.sub (ws' := [(x, .inr (0, [.ref cs, .ref sc, .ref pf, .int ((fn_X6_give (a1) ((jlshl ((a2).toInt64) ((32 : Int32))) ||| (((a3).toInt64) &&& ((4294967295 : Int64)))) (u)).2.2.1), .int ((fn_X6_give (a1) ((jlshl ((a2).toInt64) ((32 : Int32))) ||| (((a3).toInt64) &&& ((4294967295 : Int64)))) (u)).2.2.2.1), .int ((fn_X6_give (a1) ((jlshl ((a2).toInt64) ((32 : Int32))) ||| (((a3).toInt64) &&& ((4294967295 : Int64)))) (u)).2.2.2.2)])), (cs, .inl (G.2.1 2, 6, .inr (.inl ((fn_X6_give (a1) ((jlshl ((a2).toInt64) ((32 : Int32))) ||| (((a3).toInt64) &&& ((4294967295 : Int64)))) (u)).2.1))))]) [0, 1] (by decide) rfl
      refine W.widen (k := 1) (n := 6) (Nat.le_of_ble_eq_true rfl) (Nat.le_of_ble_eq_true rfl) ?_
      refine vx_ret ?_
      exact W.iret (v := (fn_X6_give (a1) ((jlshl ((a2).toInt64) ((32 : Int32))) ||| (((a3).toInt64) &&& ((4294967295 : Int64)))) (u)).1) hx hb hr (fun t ht hW => ⟨⟨_, (fn_X6_give (a1) ((jlshl ((a2).toInt64) ((32 : Int32))) ||| (((a3).toInt64) &&& ((4294967295 : Int64)))) (u)).2, rfl, ⟨(fn_X6_give (a1) ((jlshl ((a2).toInt64) ((32 : Int32))) ||| (((a3).toInt64) &&& ((4294967295 : Int64)))) (u)).1, (fn_X6_give (a1) ((jlshl ((a2).toInt64) ((32 : Int32))) ||| (((a3).toInt64) &&& ((4294967295 : Int64)))) (u)).2, hw, rfl, rfl⟩, by rw [ht]; exact hP9, hD9, trivial⟩, hS.F ht⟩) hS.2.2 dc_X6_bits_46
    · have hw := hw.trans (if_pos c_1)
      refine lv_aload_n hx hb dc_X6_bits_26 rfl (lv_at hl 1 rfl) ?_
      refine lv_dup hx hb dc_X6_bits_27 rfl ?_
      refine va_get (D := G.1) (ci := 0) (v := .int (u.2.2.1)) (C := RX6) (T := TX6) (N := 6) hx hb hts ki_X6 hown hE.1 hP 0 rfl rfl 4 (by decide) (hts _ kw_1_102) (fun _ h9 => h9) rfl dc_X6_bits_28 ?_
      refine lv_iconst (v := 1) hx hb dc_X6_bits_31 (by decide) ?_
      refine lv_iadd hx hb dc_X6_bits_32 ?_
      refine va_put (D := G.1) (ci := 0) (v := .int ((u.2.2.1) + ((1 : Int32)))) (ty := .int) (C := RX6) (T := TX6) (N := 6) hx hb hts ki_X6 tyX6 tyX6_ok nmX6 hown hE.1 hP hD hS 0 rfl rfl 4 (by decide) (hts _ kw_1_102) (fun _ h9 => h9) rfl (by decide +kernel) rfl rfl (Nat.le_of_ble_eq_true rfl) dc_X6_bits_33 (fun H locs hP hD hS => ?_)
      have hP : va_P G.1 kcl [(x, .inr (0, [.ref cs, .ref sc, .ref pf, .int (u.2.1), .int ((u.2.2.1) + ((1 : Int32))), .int (u.2.2.2)])), (cs, .inl (G.2.1 2, 6, .inr (.inl (u.1))))] H := hP
      have hD : va_D A [(x, .inr (0, [.ref cs, .ref sc, .ref pf, .int (u.2.1), .int ((u.2.2.1) + ((1 : Int32))), .int (u.2.2.2)])), (cs, .inl (G.2.1 2, 6, .inr (.inl (u.1))))] := hD
      refine lv_bipush (v := (-9)) hx hb dc_X6_bits_36 (by decide) ?_
      have hP9 := hP.sub (ws' := [(x, .inr (0, [.ref cs, .ref sc, .ref pf, .int (u.2.1), .int ((u.2.2.1) + ((1 : Int32))), .int (u.2.2.2)])), (cs, .inl (G.2.1 2, 6, .inr (.inl (u.1))))]) [0, 1] rfl
      have hD9 := hD.sub (ws' := [(x, .inr (0, [.ref cs, .ref sc, .ref pf, .int (u.2.1), .int ((u.2.2.1) + ((1 : Int32))), .int (u.2.2.2)])), (cs, .inl (G.2.1 2, 6, .inr (.inl (u.1))))]) [0, 1] (by decide) rfl
      refine W.widen (k := 1) (n := 6) (Nat.le_of_ble_eq_true rfl) (Nat.le_of_ble_eq_true rfl) ?_
      refine vx_ret ?_
      exact W.iret (v := (-9 : Int32)) hx hb hr (fun t ht hW => ⟨⟨_, (u.1, u.2.1, (u.2.2.1) + ((1 : Int32)), u.2.2.2), rfl, ⟨(-9 : Int32), (u.1, u.2.1, (u.2.2.1) + ((1 : Int32)), u.2.2.2), hw, rfl, rfl⟩, by rw [ht]; exact hP9, hD9, trivial⟩, hS.F ht⟩) hS.2.2 dc_X6_bits_38
def fn_X6_sample (a1 : Int32) (a2 : Int32) (a3 : Int32) (u : ky_BS) : Sum String (Int32 × ky_BS) :=
  ky_b (fn_X6_requireCell (a1)) (fun r_0 w_0 => ky_b (fn_X6_requireWithin (a2) ((0 : Int32)) (((12 : Int32)) - ((1 : Int32)))) (fun r_2 w_2 => .inr ((fn_X6_give (a1) (fn_X0_withSide (fn_X2_nearestTo (kf_SF (a2).toNatClampNeg) (kf_SP (a2).toNatClampNeg)) (a3)) (u)).1, (fn_X6_give (a1) (fn_X0_withSide (fn_X2_nearestTo (kf_SF (a2).toNatClampNeg) (kf_SP (a2).toNatClampNeg)) (a3)) (u)).2)))
set_option linter.constructorNameAsVariable false in
set_option maxHeartbeats 4000000 in
set_option maxRecDepth 100000 in
theorem mt_X6_sample (l : Launch) (hl9 : l.stackTraces = false) (G : ky_G) (x : Nat) (cs : Nat) (sc : Nat) (pf : Nat) (u : ky_BS) (a1 : Int32) (a2 : Int32) (a3 : Int32) (sz : Nat)  : vx_Met l my_X6_sample (.code my_X6_sample prog_1_method_7_code 6 (some .int) :: ky_B) { frames := 7, cells := 2, slots := 12, locals := 107 } (ky_P G [.ref x, .int (a1), .int (a2), .int (a3)] (ky_WB G x cs sc pf u) sz (fun _ => True)) (ky_Q (S := ky_BS) G (va_A (ky_WB G x cs sc pf u) sz) (fun v u9 => ∃ (r9 : Int32) (w9 : ky_BS), fn_X6_sample a1 a2 a3 u = .inr (r9, w9) ∧ v = some (.int r9) ∧ u9 = w9) (fun u9 => ky_WB G x cs sc pf u9) (fun _ _ => True)) (ky_X G (va_A (ky_WB G x cs sc pf u) sz) (fun E => fn_X6_sample a1 a2 a3 u = .inl E) (ky_WB G x cs sc pf u)) 2 12 (va_A (ky_WB G x cs sc pf u) sz) := by
  refine ky_startX (by decide) (Nat.le_of_ble_eq_true rfl) (fun p e s m below meth c F hno hE A hAe hsz hA hfr hP hD hS hX ls hl => ?_)
  obtain ⟨hx, hb, hml, hown, hr, hlocks, hts⟩ := id F
  have hl : lv_has ls 6 [(0, .ref x), (1, .int (a1)), (2, .int (a2)), (3, .int (a3))] := hl
  have hP : va_P G.1 kcl [(x, .inr (0, [.ref cs, .ref sc, .ref pf, .int (u.2.1), .int (u.2.2.1), .int (u.2.2.2)])), (cs, .inl (G.2.1 2, 6, .inr (.inl (u.1))))] s.heap := hP
  have hD : va_D A [(x, .inr (0, [.ref cs, .ref sc, .ref pf, .int (u.2.1), .int (u.2.2.1), .int (u.2.2.2)])), (cs, .inl (G.2.1 2, 6, .inr (.inl (u.1))))] := hD
  have hw : fn_X6_sample a1 a2 a3 u = _ := fn_X6_sample.eq_1 a1 a2 a3 u
  refine lv_iload_n hx hb dc_X6_sample_0 rfl (lv_at hl 1 rfl) ?_
  refine ky_cSx (As := [.int (a1)]) (wr := [(x, .inr (0, [.ref cs, .ref sc, .ref pf, .int (u.2.1), .int (u.2.2.1), .int (u.2.2.2)])), (cs, .inl (G.2.1 2, 6, .inr (.inl (u.1))))]) F (hE.at hfr hS) hfr (mt_X6_requireCell l hl9 G  (a1) s.heap.size ) ks_X6_27 ⟨⟨rfl, rfl⟩, by decide, by decide⟩ rfl hl.1 rfl (Nat.le_of_ble_eq_true rfl) ⟨Nat.le_of_ble_eq_true rfl, Nat.le_of_ble_eq_true rfl⟩ trivial hP hD hS hA [] [0, 1] rfl rfl (by decide) (by decide) (by decide) dc_X6_sample_1 ?_ ?_
  · intro E ce q9 H locs hp hP hD hS hz hk9 hc1 hc2 hc3
    have hP9 := hP.sub (ws' := [(x, .inr (0, [.ref cs, .ref sc, .ref pf, .int (u.2.1), .int (u.2.2.1), .int (u.2.2.2)])), (cs, .inl (G.2.1 2, 6, .inr (.inl (u.1))))]) [0, 1] rfl
    have hD9 := hD.sub (ws' := [(x, .inr (0, [.ref cs, .ref sc, .ref pf, .int (u.2.1), .int (u.2.2.1), .int (u.2.2.2)])), (cs, .inl (G.2.1 2, 6, .inr (.inl (u.1))))]) [0, 1] (by decide) rfl
    exact vx_out (fun x h => (hno x h).elim) hlocks hc1 hc2 hc3 (fun t ht hW => ⟨hw.trans (ky_bl hp), by rw [ht]; exact hP9, hD9, hS.F ht⟩) hS.2.2 (Nat.le_of_ble_eq_true rfl) (Nat.le_of_ble_eq_true rfl)
  · rintro v9 u9 H locs ⟨r_0, w_0, hf_0, rfl, rfl⟩ hP hD hS - hz hk9
    have hw := hw.trans (ky_br hf_0)
    have hP : va_P G.1 kcl [(x, .inr (0, [.ref cs, .ref sc, .ref pf, .int (u.2.1), .int (u.2.2.1), .int (u.2.2.2)])), (cs, .inl (G.2.1 2, 6, .inr (.inl (u.1))))] H := hP
    have hD : va_D A [(x, .inr (0, [.ref cs, .ref sc, .ref pf, .int (u.2.1), .int (u.2.2.1), .int (u.2.2.2)])), (cs, .inl (G.2.1 2, 6, .inr (.inl (u.1))))] := hD
    refine W.widen (k := 1) (n := 6) (Nat.le_refl _) (Nat.le_refl _) ?_
    refine lv_iload_n hx hb dc_X6_sample_4 rfl (lv_at hl 2 rfl) ?_
    refine lv_iconst (v := 0) hx hb dc_X6_sample_5 (by decide) ?_
    obtain ⟨t_1, hZ_1, hT_1⟩ := kq_SF hE hfr
    refine va_gets hx hb hZ_1 hS hown (hts _ kw_4_163) (fun _ h9 => h9) dc_X6_sample_6 ?_
    refine va_tlen hx hb hT_1 hS (v := 12) rfl dc_X6_sample_9 ?_
    refine lv_iconst (v := 1) hx hb dc_X6_sample_10 (by decide) ?_
    refine lv_isub hx hb dc_X6_sample_11 ?_
    refine ky_cSx (As := [.int (a2), .int ((0 : Int32)), .int (((12 : Int32)) - ((1 : Int32)))]) (wr := [(x, .inr (0, [.ref cs, .ref sc, .ref pf, .int (u.2.1), .int (u.2.2.1), .int (u.2.2.2)])), (cs, .inl (G.2.1 2, 6, .inr (.inl (u.1))))]) F (hE.at hfr hS) hfr (mt_X6_requireWithin l hl9 G  (a2) ((0 : Int32)) (((12 : Int32)) - ((1 : Int32))) H.size ) ks_X6_55 ⟨⟨rfl, rfl⟩, by decide, by decide⟩ rfl hl.1 rfl (Nat.le_of_ble_eq_true rfl) ⟨Nat.le_of_ble_eq_true rfl, Nat.le_of_ble_eq_true rfl⟩ trivial hP hD hS hA [] [0, 1] rfl rfl (by decide) (by decide) (by decide) dc_X6_sample_12 ?_ ?_
    · intro E ce q9 H locs hp hP hD hS hz hk9 hc1 hc2 hc3
      have hP9 := hP.sub (ws' := [(x, .inr (0, [.ref cs, .ref sc, .ref pf, .int (u.2.1), .int (u.2.2.1), .int (u.2.2.2)])), (cs, .inl (G.2.1 2, 6, .inr (.inl (u.1))))]) [0, 1] rfl
      have hD9 := hD.sub (ws' := [(x, .inr (0, [.ref cs, .ref sc, .ref pf, .int (u.2.1), .int (u.2.2.1), .int (u.2.2.2)])), (cs, .inl (G.2.1 2, 6, .inr (.inl (u.1))))]) [0, 1] (by decide) rfl
      exact vx_out (fun x h => (hno x h).elim) hlocks hc1 hc2 hc3 (fun t ht hW => ⟨hw.trans (ky_bl hp), by rw [ht]; exact hP9, hD9, hS.F ht⟩) hS.2.2 (Nat.le_of_ble_eq_true rfl) (Nat.le_of_ble_eq_true rfl)
    · rintro v9 u9 H locs ⟨r_2, w_2, hf_2, rfl, rfl⟩ hP hD hS - hz hk9
      have hw := hw.trans (ky_br hf_2)
      have hP : va_P G.1 kcl [(x, .inr (0, [.ref cs, .ref sc, .ref pf, .int (u.2.1), .int (u.2.2.1), .int (u.2.2.2)])), (cs, .inl (G.2.1 2, 6, .inr (.inl (u.1))))] H := hP
      have hD : va_D A [(x, .inr (0, [.ref cs, .ref sc, .ref pf, .int (u.2.1), .int (u.2.2.1), .int (u.2.2.2)])), (cs, .inl (G.2.1 2, 6, .inr (.inl (u.1))))] := hD
      refine W.widen (k := 2) (n := 12) (Nat.le_refl _) (Nat.le_refl _) ?_
      obtain ⟨t_3, hZ_3, hT_3⟩ := kq_SF hE hfr
      refine va_gets hx hb hZ_3 hS hown (hts _ kw_4_163) (fun _ h9 => h9) dc_X6_sample_15 ?_
      refine lv_iload_n hx hb dc_X6_sample_18 rfl (lv_at hl 2 rfl) ?_
      refine va_tl hx hb hT_3 hS (rq_w12 hf_2) (v := .long (kf_SF (a2).toNatClampNeg)) rfl dc_X6_sample_19 ?_
      obtain ⟨t_4, hZ_4, hT_4⟩ := kq_SP hE hfr
      refine va_gets hx hb hZ_4 hS hown (hts _ kw_4_165) (fun _ h9 => h9) dc_X6_sample_20 ?_
      refine lv_iload_n hx hb dc_X6_sample_23 rfl (lv_at hl 2 rfl) ?_
      refine va_ti hx hb hT_4 hS (rq_w12 hf_2) (v := .int (kf_SP (a2).toNatClampNeg)) rfl dc_X6_sample_24 ?_
      refine ky_cS0 (As := [.long (kf_SF (a2).toNatClampNeg), .int (kf_SP (a2).toNatClampNeg)]) F (mt_X2_nearestTo l (kf_SF (a2).toNatClampNeg) (kf_SP (a2).toNatClampNeg)) ks_X6_49 ⟨⟨rfl, rfl⟩, by decide, by decide⟩ rfl hl.1 rfl (Nat.le_of_ble_eq_true rfl) ⟨Nat.le_of_ble_eq_true rfl, Nat.le_of_ble_eq_true rfl⟩ dc_X6_sample_25 ?_
      refine lv_lstore (lv' := [(4, .long (fn_X2_nearestTo (kf_SF (a2).toNatClampNeg) (kf_SP (a2).toNatClampNeg))), (0, .ref x), (1, .int (a1)), (2, .int (a2)), (3, .int (a3))]) hx hb dc_X6_sample_28 hl (by decide) rfl (fun ls hl => ?_)
      refine lv_aload_n hx hb dc_X6_sample_30 rfl (lv_at hl 1 rfl) ?_
      refine lv_iload_n hx hb dc_X6_sample_31 rfl (lv_at hl 2 rfl) ?_
      refine lv_lload hx hb dc_X6_sample_32 (lv_at hl 0 rfl) ?_
      refine lv_iload_n hx hb dc_X6_sample_34 rfl (lv_at hl 4 rfl) ?_
      refine ky_cS0 (As := [.long (fn_X2_nearestTo (kf_SF (a2).toNatClampNeg) (kf_SP (a2).toNatClampNeg)), .int (a3)]) F (mt_X0_withSide l (fn_X2_nearestTo (kf_SF (a2).toNatClampNeg) (kf_SP (a2).toNatClampNeg)) (a3)) ks_X6_31 ⟨⟨rfl, rfl⟩, by decide, by decide⟩ rfl hl.1 rfl (Nat.le_of_ble_eq_true rfl) ⟨Nat.le_of_ble_eq_true rfl, Nat.le_of_ble_eq_true rfl⟩ dc_X6_sample_35 ?_
      refine ky_cVh (As := [.int (a1), .long (fn_X0_withSide (fn_X2_nearestTo (kf_SF (a2).toNatClampNeg) (kf_SP (a2).toNatClampNeg)) (a3))]) (wr := []) F (hE.at hfr hS) hfr (mt_X6_give l G (x) (cs) (sc) (pf) (u) (a1) (fn_X0_withSide (fn_X2_nearestTo (kf_SF (a2).toNatClampNeg) (kf_SP (a2).toNatClampNeg)) (a3)) H.size (rq_cell hf_0)) kv_X6_37 ⟨⟨rfl, rfl⟩, by decide, by decide⟩ rfl hl.1 rfl (Nat.le_of_ble_eq_true rfl) ⟨Nat.le_of_ble_eq_true rfl, Nat.le_of_ble_eq_true rfl⟩ (va_recv hE.1 hP (ci := 0) (q0 := 0) rfl rfl) trivial hP hD hS hA [0, 1] [] rfl rfl (by decide) (by decide) (by decide) dc_X6_sample_38 ?_
      rintro v9 u9 H locs ⟨rfl, rfl⟩ hP hD hS - hz hk9
      have hP : va_P G.1 kcl [(x, .inr (0, [.ref cs, .ref sc, .ref pf, .int ((fn_X6_give (a1) (fn_X0_withSide (fn_X2_nearestTo (kf_SF (a2).toNatClampNeg) (kf_SP (a2).toNatClampNeg)) (a3)) (u)).2.2.1), .int ((fn_X6_give (a1) (fn_X0_withSide (fn_X2_nearestTo (kf_SF (a2).toNatClampNeg) (kf_SP (a2).toNatClampNeg)) (a3)) (u)).2.2.2.1), .int ((fn_X6_give (a1) (fn_X0_withSide (fn_X2_nearestTo (kf_SF (a2).toNatClampNeg) (kf_SP (a2).toNatClampNeg)) (a3)) (u)).2.2.2.2)])), (cs, .inl (G.2.1 2, 6, .inr (.inl ((fn_X6_give (a1) (fn_X0_withSide (fn_X2_nearestTo (kf_SF (a2).toNatClampNeg) (kf_SP (a2).toNatClampNeg)) (a3)) (u)).2.1))))] H := hP
      have hD : va_D A [(x, .inr (0, [.ref cs, .ref sc, .ref pf, .int ((fn_X6_give (a1) (fn_X0_withSide (fn_X2_nearestTo (kf_SF (a2).toNatClampNeg) (kf_SP (a2).toNatClampNeg)) (a3)) (u)).2.2.1), .int ((fn_X6_give (a1) (fn_X0_withSide (fn_X2_nearestTo (kf_SF (a2).toNatClampNeg) (kf_SP (a2).toNatClampNeg)) (a3)) (u)).2.2.2.1), .int ((fn_X6_give (a1) (fn_X0_withSide (fn_X2_nearestTo (kf_SF (a2).toNatClampNeg) (kf_SP (a2).toNatClampNeg)) (a3)) (u)).2.2.2.2)])), (cs, .inl (G.2.1 2, 6, .inr (.inl ((fn_X6_give (a1) (fn_X0_withSide (fn_X2_nearestTo (kf_SF (a2).toNatClampNeg) (kf_SP (a2).toNatClampNeg)) (a3)) (u)).2.1))))] := hD
      refine W.widen (k := 2) (n := 12) (Nat.le_refl _) (Nat.le_refl _) ?_
      have hP9 := hP.sub (ws' := [(x, .inr (0, [.ref cs, .ref sc, .ref pf, .int ((fn_X6_give (a1) (fn_X0_withSide (fn_X2_nearestTo (kf_SF (a2).toNatClampNeg) (kf_SP (a2).toNatClampNeg)) (a3)) (u)).2.2.1), .int ((fn_X6_give (a1) (fn_X0_withSide (fn_X2_nearestTo (kf_SF (a2).toNatClampNeg) (kf_SP (a2).toNatClampNeg)) (a3)) (u)).2.2.2.1), .int ((fn_X6_give (a1) (fn_X0_withSide (fn_X2_nearestTo (kf_SF (a2).toNatClampNeg) (kf_SP (a2).toNatClampNeg)) (a3)) (u)).2.2.2.2)])), (cs, .inl (G.2.1 2, 6, .inr (.inl ((fn_X6_give (a1) (fn_X0_withSide (fn_X2_nearestTo (kf_SF (a2).toNatClampNeg) (kf_SP (a2).toNatClampNeg)) (a3)) (u)).2.1))))]) [0, 1] rfl
      have hD9 := hD.sub (ws' := [(x, .inr (0, [.ref cs, .ref sc, .ref pf, .int ((fn_X6_give (a1) (fn_X0_withSide (fn_X2_nearestTo (kf_SF (a2).toNatClampNeg) (kf_SP (a2).toNatClampNeg)) (a3)) (u)).2.2.1), .int ((fn_X6_give (a1) (fn_X0_withSide (fn_X2_nearestTo (kf_SF (a2).toNatClampNeg) (kf_SP (a2).toNatClampNeg)) (a3)) (u)).2.2.2.1), .int ((fn_X6_give (a1) (fn_X0_withSide (fn_X2_nearestTo (kf_SF (a2).toNatClampNeg) (kf_SP (a2).toNatClampNeg)) (a3)) (u)).2.2.2.2)])), (cs, .inl (G.2.1 2, 6, .inr (.inl ((fn_X6_give (a1) (fn_X0_withSide (fn_X2_nearestTo (kf_SF (a2).toNatClampNeg) (kf_SP (a2).toNatClampNeg)) (a3)) (u)).2.1))))]) [0, 1] (by decide) rfl
      refine W.widen (k := 2) (n := 12) (Nat.le_of_ble_eq_true rfl) (Nat.le_of_ble_eq_true rfl) ?_
      refine vx_ret ?_
      exact W.iret (v := (fn_X6_give (a1) (fn_X0_withSide (fn_X2_nearestTo (kf_SF (a2).toNatClampNeg) (kf_SP (a2).toNatClampNeg)) (a3)) (u)).1) hx hb hr (fun t ht hW => ⟨⟨_, (fn_X6_give (a1) (fn_X0_withSide (fn_X2_nearestTo (kf_SF (a2).toNatClampNeg) (kf_SP (a2).toNatClampNeg)) (a3)) (u)).2, rfl, ⟨(fn_X6_give (a1) (fn_X0_withSide (fn_X2_nearestTo (kf_SF (a2).toNatClampNeg) (kf_SP (a2).toNatClampNeg)) (a3)) (u)).1, (fn_X6_give (a1) (fn_X0_withSide (fn_X2_nearestTo (kf_SF (a2).toNatClampNeg) (kf_SP (a2).toNatClampNeg)) (a3)) (u)).2, hw, rfl, rfl⟩, by rw [ht]; exact hP9, hD9, trivial⟩, hS.F ht⟩) hS.2.2 dc_X6_sample_41
def fn_X6_copy (a1 : Int32) (a2 : Int32) (u : ky_BS) : Sum String (Int32 × ky_BS) :=
  ky_b (fn_X6_requireBoth (a1) (a2)) (fun r_0 w_0 => .inr ((fn_X6_give (a2) ((u.1) (a1).toNatClampNeg) (u)).1, (fn_X6_give (a2) ((u.1) (a1).toNatClampNeg) (u)).2))
set_option linter.constructorNameAsVariable false in
set_option maxHeartbeats 4000000 in
set_option maxRecDepth 100000 in
theorem mt_X6_copy (l : Launch) (hl9 : l.stackTraces = false) (G : ky_G) (x : Nat) (cs : Nat) (sc : Nat) (pf : Nat) (u : ky_BS) (a1 : Int32) (a2 : Int32) (sz : Nat)  : vx_Met l my_X6_copy (.code my_X6_copy prog_1_method_8_code 3 (some .int) :: ky_B) { frames := 8, cells := 2, slots := 12, locals := 123 } (ky_P G [.ref x, .int (a1), .int (a2)] (ky_WB G x cs sc pf u) sz (fun _ => True)) (ky_Q (S := ky_BS) G (va_A (ky_WB G x cs sc pf u) sz) (fun v u9 => ∃ (r9 : Int32) (w9 : ky_BS), fn_X6_copy a1 a2 u = .inr (r9, w9) ∧ v = some (.int r9) ∧ u9 = w9) (fun u9 => ky_WB G x cs sc pf u9) (fun _ _ => True)) (ky_X G (va_A (ky_WB G x cs sc pf u) sz) (fun E => fn_X6_copy a1 a2 u = .inl E) (ky_WB G x cs sc pf u)) 2 12 (va_A (ky_WB G x cs sc pf u) sz) := by
  refine ky_startX (by decide) (Nat.le_of_ble_eq_true rfl) (fun p e s m below meth c F hno hE A hAe hsz hA hfr hP hD hS hX ls hl => ?_)
  obtain ⟨hx, hb, hml, hown, hr, hlocks, hts⟩ := id F
  have hl : lv_has ls 3 [(0, .ref x), (1, .int (a1)), (2, .int (a2))] := hl
  have hP : va_P G.1 kcl [(x, .inr (0, [.ref cs, .ref sc, .ref pf, .int (u.2.1), .int (u.2.2.1), .int (u.2.2.2)])), (cs, .inl (G.2.1 2, 6, .inr (.inl (u.1))))] s.heap := hP
  have hD : va_D A [(x, .inr (0, [.ref cs, .ref sc, .ref pf, .int (u.2.1), .int (u.2.2.1), .int (u.2.2.2)])), (cs, .inl (G.2.1 2, 6, .inr (.inl (u.1))))] := hD
  have hw : fn_X6_copy a1 a2 u = _ := fn_X6_copy.eq_1 a1 a2 u
  refine lv_iload_n hx hb dc_X6_copy_0 rfl (lv_at hl 1 rfl) ?_
  refine lv_iload_n hx hb dc_X6_copy_1 rfl (lv_at hl 2 rfl) ?_
  refine ky_cSx (As := [.int (a1), .int (a2)]) (wr := [(x, .inr (0, [.ref cs, .ref sc, .ref pf, .int (u.2.1), .int (u.2.2.1), .int (u.2.2.2)])), (cs, .inl (G.2.1 2, 6, .inr (.inl (u.1))))]) F (hE.at hfr hS) hfr (mt_X6_requireBoth l hl9 G  (a1) (a2) s.heap.size ) ks_X6_81 ⟨⟨rfl, rfl⟩, by decide, by decide⟩ rfl hl.1 rfl (Nat.le_of_ble_eq_true rfl) ⟨Nat.le_of_ble_eq_true rfl, Nat.le_of_ble_eq_true rfl⟩ trivial hP hD hS hA [] [0, 1] rfl rfl (by decide) (by decide) (by decide) dc_X6_copy_2 ?_ ?_
  · intro E ce q9 H locs hp hP hD hS hz hk9 hc1 hc2 hc3
    have hP9 := hP.sub (ws' := [(x, .inr (0, [.ref cs, .ref sc, .ref pf, .int (u.2.1), .int (u.2.2.1), .int (u.2.2.2)])), (cs, .inl (G.2.1 2, 6, .inr (.inl (u.1))))]) [0, 1] rfl
    have hD9 := hD.sub (ws' := [(x, .inr (0, [.ref cs, .ref sc, .ref pf, .int (u.2.1), .int (u.2.2.1), .int (u.2.2.2)])), (cs, .inl (G.2.1 2, 6, .inr (.inl (u.1))))]) [0, 1] (by decide) rfl
    exact vx_out (fun x h => (hno x h).elim) hlocks hc1 hc2 hc3 (fun t ht hW => ⟨hw.trans (ky_bl hp), by rw [ht]; exact hP9, hD9, hS.F ht⟩) hS.2.2 (Nat.le_of_ble_eq_true rfl) (Nat.le_of_ble_eq_true rfl)
  · rintro v9 u9 H locs ⟨r_0, w_0, hf_0, rfl, rfl⟩ hP hD hS - hz hk9
    have hw := hw.trans (ky_br hf_0)
    have hP : va_P G.1 kcl [(x, .inr (0, [.ref cs, .ref sc, .ref pf, .int (u.2.1), .int (u.2.2.1), .int (u.2.2.2)])), (cs, .inl (G.2.1 2, 6, .inr (.inl (u.1))))] H := hP
    have hD : va_D A [(x, .inr (0, [.ref cs, .ref sc, .ref pf, .int (u.2.1), .int (u.2.2.1), .int (u.2.2.2)])), (cs, .inl (G.2.1 2, 6, .inr (.inl (u.1))))] := hD
    refine W.widen (k := 2) (n := 12) (Nat.le_refl _) (Nat.le_refl _) ?_
    refine lv_aload_n hx hb dc_X6_copy_5 rfl (lv_at hl 0 rfl) ?_
    refine lv_iload_n hx hb dc_X6_copy_6 rfl (lv_at hl 2 rfl) ?_
    refine lv_aload_n hx hb dc_X6_copy_7 rfl (lv_at hl 0 rfl) ?_
    refine va_get (D := G.1) (ci := 0) (v := .ref cs) (C := RX6) (T := TX6) (N := 6) hx hb hts ki_X6 hown hE.1 hP 0 rfl rfl 0 (by decide) (hts _ kw_1_98) (fun _ h9 => h9) rfl dc_X6_copy_8 ?_
    refine lv_iload_n hx hb dc_X6_copy_11 rfl (lv_at hl 1 rfl) ?_
    refine va_lald hx hb hE.1 hP 1 2 rfl rfl (rq_both hf_0).1 dc_X6_copy_12 ?_
    refine ky_cVh (As := [.int (a2), .long ((u.1) (a1).toNatClampNeg)]) (wr := []) F (hE.at hfr hS) hfr (mt_X6_give l G (x) (cs) (sc) (pf) (u) (a2) ((u.1) (a1).toNatClampNeg) H.size (rq_both hf_0).2) kv_X6_37 ⟨⟨rfl, rfl⟩, by decide, by decide⟩ rfl hl.1 rfl (Nat.le_of_ble_eq_true rfl) ⟨Nat.le_of_ble_eq_true rfl, Nat.le_of_ble_eq_true rfl⟩ (va_recv hE.1 hP (ci := 0) (q0 := 0) rfl rfl) trivial hP hD hS hA [0, 1] [] rfl rfl (by decide) (by decide) (by decide) dc_X6_copy_13 ?_
    rintro v9 u9 H locs ⟨rfl, rfl⟩ hP hD hS - hz hk9
    have hP : va_P G.1 kcl [(x, .inr (0, [.ref cs, .ref sc, .ref pf, .int ((fn_X6_give (a2) ((u.1) (a1).toNatClampNeg) (u)).2.2.1), .int ((fn_X6_give (a2) ((u.1) (a1).toNatClampNeg) (u)).2.2.2.1), .int ((fn_X6_give (a2) ((u.1) (a1).toNatClampNeg) (u)).2.2.2.2)])), (cs, .inl (G.2.1 2, 6, .inr (.inl ((fn_X6_give (a2) ((u.1) (a1).toNatClampNeg) (u)).2.1))))] H := hP
    have hD : va_D A [(x, .inr (0, [.ref cs, .ref sc, .ref pf, .int ((fn_X6_give (a2) ((u.1) (a1).toNatClampNeg) (u)).2.2.1), .int ((fn_X6_give (a2) ((u.1) (a1).toNatClampNeg) (u)).2.2.2.1), .int ((fn_X6_give (a2) ((u.1) (a1).toNatClampNeg) (u)).2.2.2.2)])), (cs, .inl (G.2.1 2, 6, .inr (.inl ((fn_X6_give (a2) ((u.1) (a1).toNatClampNeg) (u)).2.1))))] := hD
    refine W.widen (k := 2) (n := 12) (Nat.le_refl _) (Nat.le_refl _) ?_
    have hP9 := hP.sub (ws' := [(x, .inr (0, [.ref cs, .ref sc, .ref pf, .int ((fn_X6_give (a2) ((u.1) (a1).toNatClampNeg) (u)).2.2.1), .int ((fn_X6_give (a2) ((u.1) (a1).toNatClampNeg) (u)).2.2.2.1), .int ((fn_X6_give (a2) ((u.1) (a1).toNatClampNeg) (u)).2.2.2.2)])), (cs, .inl (G.2.1 2, 6, .inr (.inl ((fn_X6_give (a2) ((u.1) (a1).toNatClampNeg) (u)).2.1))))]) [0, 1] rfl
    have hD9 := hD.sub (ws' := [(x, .inr (0, [.ref cs, .ref sc, .ref pf, .int ((fn_X6_give (a2) ((u.1) (a1).toNatClampNeg) (u)).2.2.1), .int ((fn_X6_give (a2) ((u.1) (a1).toNatClampNeg) (u)).2.2.2.1), .int ((fn_X6_give (a2) ((u.1) (a1).toNatClampNeg) (u)).2.2.2.2)])), (cs, .inl (G.2.1 2, 6, .inr (.inl ((fn_X6_give (a2) ((u.1) (a1).toNatClampNeg) (u)).2.1))))]) [0, 1] (by decide) rfl
    refine W.widen (k := 2) (n := 12) (Nat.le_of_ble_eq_true rfl) (Nat.le_of_ble_eq_true rfl) ?_
    refine vx_ret ?_
    exact W.iret (v := (fn_X6_give (a2) ((u.1) (a1).toNatClampNeg) (u)).1) hx hb hr (fun t ht hW => ⟨⟨_, (fn_X6_give (a2) ((u.1) (a1).toNatClampNeg) (u)).2, rfl, ⟨(fn_X6_give (a2) ((u.1) (a1).toNatClampNeg) (u)).1, (fn_X6_give (a2) ((u.1) (a1).toNatClampNeg) (u)).2, hw, rfl, rfl⟩, by rw [ht]; exact hP9, hD9, trivial⟩, hS.F ht⟩) hS.2.2 dc_X6_copy_16
def fn_X6_swap (a1 : Int32) (a2 : Int32) (u : ky_BS) : Sum String (Int32 × ky_BS) :=
  ky_b (fn_X6_requireBoth (a1) (a2)) (fun r_0 w_0 => .inr ((fn_X6_give (a1) ((u.1) (a2).toNatClampNeg) (u)).1, (fn_X6_give (a2) ((u.1) (a1).toNatClampNeg) ((fn_X6_give (a1) ((u.1) (a2).toNatClampNeg) (u)).2)).2))
set_option linter.constructorNameAsVariable false in
set_option maxHeartbeats 4000000 in
set_option maxRecDepth 100000 in
theorem mt_X6_swap (l : Launch) (hl9 : l.stackTraces = false) (G : ky_G) (x : Nat) (cs : Nat) (sc : Nat) (pf : Nat) (u : ky_BS) (a1 : Int32) (a2 : Int32) (sz : Nat)  : vx_Met l my_X6_swap (.code my_X6_swap prog_1_method_9_code 6 (some .int) :: ky_B) { frames := 8, cells := 2, slots := 12, locals := 123 } (ky_P G [.ref x, .int (a1), .int (a2)] (ky_WB G x cs sc pf u) sz (fun _ => True)) (ky_Q (S := ky_BS) G (va_A (ky_WB G x cs sc pf u) sz) (fun v u9 => ∃ (r9 : Int32) (w9 : ky_BS), fn_X6_swap a1 a2 u = .inr (r9, w9) ∧ v = some (.int r9) ∧ u9 = w9) (fun u9 => ky_WB G x cs sc pf u9) (fun _ _ => True)) (ky_X G (va_A (ky_WB G x cs sc pf u) sz) (fun E => fn_X6_swap a1 a2 u = .inl E) (ky_WB G x cs sc pf u)) 2 12 (va_A (ky_WB G x cs sc pf u) sz) := by
  refine ky_startX (by decide) (Nat.le_of_ble_eq_true rfl) (fun p e s m below meth c F hno hE A hAe hsz hA hfr hP hD hS hX ls hl => ?_)
  obtain ⟨hx, hb, hml, hown, hr, hlocks, hts⟩ := id F
  have hl : lv_has ls 6 [(0, .ref x), (1, .int (a1)), (2, .int (a2))] := hl
  have hP : va_P G.1 kcl [(x, .inr (0, [.ref cs, .ref sc, .ref pf, .int (u.2.1), .int (u.2.2.1), .int (u.2.2.2)])), (cs, .inl (G.2.1 2, 6, .inr (.inl (u.1))))] s.heap := hP
  have hD : va_D A [(x, .inr (0, [.ref cs, .ref sc, .ref pf, .int (u.2.1), .int (u.2.2.1), .int (u.2.2.2)])), (cs, .inl (G.2.1 2, 6, .inr (.inl (u.1))))] := hD
  have hw : fn_X6_swap a1 a2 u = _ := fn_X6_swap.eq_1 a1 a2 u
  refine lv_iload_n hx hb dc_X6_swap_0 rfl (lv_at hl 1 rfl) ?_
  refine lv_iload_n hx hb dc_X6_swap_1 rfl (lv_at hl 2 rfl) ?_
  refine ky_cSx (As := [.int (a1), .int (a2)]) (wr := [(x, .inr (0, [.ref cs, .ref sc, .ref pf, .int (u.2.1), .int (u.2.2.1), .int (u.2.2.2)])), (cs, .inl (G.2.1 2, 6, .inr (.inl (u.1))))]) F (hE.at hfr hS) hfr (mt_X6_requireBoth l hl9 G  (a1) (a2) s.heap.size ) ks_X6_81 ⟨⟨rfl, rfl⟩, by decide, by decide⟩ rfl hl.1 rfl (Nat.le_of_ble_eq_true rfl) ⟨Nat.le_of_ble_eq_true rfl, Nat.le_of_ble_eq_true rfl⟩ trivial hP hD hS hA [] [0, 1] rfl rfl (by decide) (by decide) (by decide) dc_X6_swap_2 ?_ ?_
  · intro E ce q9 H locs hp hP hD hS hz hk9 hc1 hc2 hc3
    have hP9 := hP.sub (ws' := [(x, .inr (0, [.ref cs, .ref sc, .ref pf, .int (u.2.1), .int (u.2.2.1), .int (u.2.2.2)])), (cs, .inl (G.2.1 2, 6, .inr (.inl (u.1))))]) [0, 1] rfl
    have hD9 := hD.sub (ws' := [(x, .inr (0, [.ref cs, .ref sc, .ref pf, .int (u.2.1), .int (u.2.2.1), .int (u.2.2.2)])), (cs, .inl (G.2.1 2, 6, .inr (.inl (u.1))))]) [0, 1] (by decide) rfl
    exact vx_out (fun x h => (hno x h).elim) hlocks hc1 hc2 hc3 (fun t ht hW => ⟨hw.trans (ky_bl hp), by rw [ht]; exact hP9, hD9, hS.F ht⟩) hS.2.2 (Nat.le_of_ble_eq_true rfl) (Nat.le_of_ble_eq_true rfl)
  · rintro v9 u9 H locs ⟨r_0, w_0, hf_0, rfl, rfl⟩ hP hD hS - hz hk9
    have hw := hw.trans (ky_br hf_0)
    have hP : va_P G.1 kcl [(x, .inr (0, [.ref cs, .ref sc, .ref pf, .int (u.2.1), .int (u.2.2.1), .int (u.2.2.2)])), (cs, .inl (G.2.1 2, 6, .inr (.inl (u.1))))] H := hP
    have hD : va_D A [(x, .inr (0, [.ref cs, .ref sc, .ref pf, .int (u.2.1), .int (u.2.2.1), .int (u.2.2.2)])), (cs, .inl (G.2.1 2, 6, .inr (.inl (u.1))))] := hD
    refine W.widen (k := 2) (n := 12) (Nat.le_refl _) (Nat.le_refl _) ?_
    refine lv_aload_n hx hb dc_X6_swap_5 rfl (lv_at hl 0 rfl) ?_
    refine va_get (D := G.1) (ci := 0) (v := .ref cs) (C := RX6) (T := TX6) (N := 6) hx hb hts ki_X6 hown hE.1 hP 0 rfl rfl 0 (by decide) (hts _ kw_1_98) (fun _ h9 => h9) rfl dc_X6_swap_6 ?_
    refine lv_iload_n hx hb dc_X6_swap_9 rfl (lv_at hl 1 rfl) ?_
    refine va_lald hx hb hE.1 hP 1 2 rfl rfl (rq_both hf_0).1 dc_X6_swap_10 ?_
    refine lv_lstore_n (lv' := [(3, .long ((u.1) (a1).toNatClampNeg)), (0, .ref x), (1, .int (a1)), (2, .int (a2))]) hx hb dc_X6_swap_11 rfl hl (by decide) rfl (fun ls hl => ?_)
    refine lv_aload_n hx hb dc_X6_swap_12 rfl (lv_at hl 1 rfl) ?_
    refine lv_iload_n hx hb dc_X6_swap_13 rfl (lv_at hl 2 rfl) ?_
    refine lv_aload_n hx hb dc_X6_swap_14 rfl (lv_at hl 1 rfl) ?_
    refine va_get (D := G.1) (ci := 0) (v := .ref cs) (C := RX6) (T := TX6) (N := 6) hx hb hts ki_X6 hown hE.1 hP 0 rfl rfl 0 (by decide) (hts _ kw_1_98) (fun _ h9 => h9) rfl dc_X6_swap_15 ?_
    refine lv_iload_n hx hb dc_X6_swap_18 rfl (lv_at hl 3 rfl) ?_
    refine va_lald hx hb hE.1 hP 1 2 rfl rfl (rq_both hf_0).2 dc_X6_swap_19 ?_
    refine ky_cVh (As := [.int (a1), .long ((u.1) (a2).toNatClampNeg)]) (wr := []) F (hE.at hfr hS) hfr (mt_X6_give l G (x) (cs) (sc) (pf) (u) (a1) ((u.1) (a2).toNatClampNeg) H.size (rq_both hf_0).1) kv_X6_37 ⟨⟨rfl, rfl⟩, by decide, by decide⟩ rfl hl.1 rfl (Nat.le_of_ble_eq_true rfl) ⟨Nat.le_of_ble_eq_true rfl, Nat.le_of_ble_eq_true rfl⟩ (va_recv hE.1 hP (ci := 0) (q0 := 0) rfl rfl) trivial hP hD hS hA [0, 1] [] rfl rfl (by decide) (by decide) (by decide) dc_X6_swap_20 ?_
    rintro v9 u9 H locs ⟨rfl, rfl⟩ hP hD hS - hz hk9
    have hP : va_P G.1 kcl [(x, .inr (0, [.ref cs, .ref sc, .ref pf, .int ((fn_X6_give (a1) ((u.1) (a2).toNatClampNeg) (u)).2.2.1), .int ((fn_X6_give (a1) ((u.1) (a2).toNatClampNeg) (u)).2.2.2.1), .int ((fn_X6_give (a1) ((u.1) (a2).toNatClampNeg) (u)).2.2.2.2)])), (cs, .inl (G.2.1 2, 6, .inr (.inl ((fn_X6_give (a1) ((u.1) (a2).toNatClampNeg) (u)).2.1))))] H := hP
    have hD : va_D A [(x, .inr (0, [.ref cs, .ref sc, .ref pf, .int ((fn_X6_give (a1) ((u.1) (a2).toNatClampNeg) (u)).2.2.1), .int ((fn_X6_give (a1) ((u.1) (a2).toNatClampNeg) (u)).2.2.2.1), .int ((fn_X6_give (a1) ((u.1) (a2).toNatClampNeg) (u)).2.2.2.2)])), (cs, .inl (G.2.1 2, 6, .inr (.inl ((fn_X6_give (a1) ((u.1) (a2).toNatClampNeg) (u)).2.1))))] := hD
    refine W.widen (k := 2) (n := 12) (Nat.le_refl _) (Nat.le_refl _) ?_
    refine lv_istore (lv' := [(5, .int ((fn_X6_give (a1) ((u.1) (a2).toNatClampNeg) (u)).1)), (3, .long ((u.1) (a1).toNatClampNeg)), (0, .ref x), (1, .int (a1)), (2, .int (a2))]) hx hb dc_X6_swap_23 hl (by decide) rfl (fun ls hl => ?_)
    refine lv_aload_n hx hb dc_X6_swap_25 rfl (lv_at hl 2 rfl) ?_
    refine lv_iload_n hx hb dc_X6_swap_26 rfl (lv_at hl 4 rfl) ?_
    refine lv_lload_n hx hb dc_X6_swap_27 rfl (lv_at hl 1 rfl) ?_
    refine ky_cVh (As := [.int (a2), .long ((u.1) (a1).toNatClampNeg)]) (wr := []) F (hE.at hfr hS) hfr (mt_X6_give l G (x) (cs) (sc) (pf) ((fn_X6_give (a1) ((u.1) (a2).toNatClampNeg) (u)).2) (a2) ((u.1) (a1).toNatClampNeg) H.size (rq_both hf_0).2) kv_X6_37 ⟨⟨rfl, rfl⟩, by decide, by decide⟩ rfl hl.1 rfl (Nat.le_of_ble_eq_true rfl) ⟨Nat.le_of_ble_eq_true rfl, Nat.le_of_ble_eq_true rfl⟩ (va_recv hE.1 hP (ci := 0) (q0 := 0) rfl rfl) trivial hP hD hS hA [0, 1] [] rfl rfl (by decide) (by decide) (by decide) dc_X6_swap_28 ?_
    rintro v9 u9 H locs ⟨rfl, rfl⟩ hP hD hS - hz hk9
    have hP : va_P G.1 kcl [(x, .inr (0, [.ref cs, .ref sc, .ref pf, .int ((fn_X6_give (a2) ((u.1) (a1).toNatClampNeg) ((fn_X6_give (a1) ((u.1) (a2).toNatClampNeg) (u)).2)).2.2.1), .int ((fn_X6_give (a2) ((u.1) (a1).toNatClampNeg) ((fn_X6_give (a1) ((u.1) (a2).toNatClampNeg) (u)).2)).2.2.2.1), .int ((fn_X6_give (a2) ((u.1) (a1).toNatClampNeg) ((fn_X6_give (a1) ((u.1) (a2).toNatClampNeg) (u)).2)).2.2.2.2)])), (cs, .inl (G.2.1 2, 6, .inr (.inl ((fn_X6_give (a2) ((u.1) (a1).toNatClampNeg) ((fn_X6_give (a1) ((u.1) (a2).toNatClampNeg) (u)).2)).2.1))))] H := hP
    have hD : va_D A [(x, .inr (0, [.ref cs, .ref sc, .ref pf, .int ((fn_X6_give (a2) ((u.1) (a1).toNatClampNeg) ((fn_X6_give (a1) ((u.1) (a2).toNatClampNeg) (u)).2)).2.2.1), .int ((fn_X6_give (a2) ((u.1) (a1).toNatClampNeg) ((fn_X6_give (a1) ((u.1) (a2).toNatClampNeg) (u)).2)).2.2.2.1), .int ((fn_X6_give (a2) ((u.1) (a1).toNatClampNeg) ((fn_X6_give (a1) ((u.1) (a2).toNatClampNeg) (u)).2)).2.2.2.2)])), (cs, .inl (G.2.1 2, 6, .inr (.inl ((fn_X6_give (a2) ((u.1) (a1).toNatClampNeg) ((fn_X6_give (a1) ((u.1) (a2).toNatClampNeg) (u)).2)).2.1))))] := hD
    refine W.widen (k := 2) (n := 12) (Nat.le_refl _) (Nat.le_refl _) ?_
    refine lv_pop hx hb dc_X6_swap_31 rfl ?_
    refine lv_iload hx hb dc_X6_swap_32 (lv_at hl 0 rfl) ?_
    have hP9 := hP.sub (ws' := [(x, .inr (0, [.ref cs, .ref sc, .ref pf, .int ((fn_X6_give (a2) ((u.1) (a1).toNatClampNeg) ((fn_X6_give (a1) ((u.1) (a2).toNatClampNeg) (u)).2)).2.2.1), .int ((fn_X6_give (a2) ((u.1) (a1).toNatClampNeg) ((fn_X6_give (a1) ((u.1) (a2).toNatClampNeg) (u)).2)).2.2.2.1), .int ((fn_X6_give (a2) ((u.1) (a1).toNatClampNeg) ((fn_X6_give (a1) ((u.1) (a2).toNatClampNeg) (u)).2)).2.2.2.2)])), (cs, .inl (G.2.1 2, 6, .inr (.inl ((fn_X6_give (a2) ((u.1) (a1).toNatClampNeg) ((fn_X6_give (a1) ((u.1) (a2).toNatClampNeg) (u)).2)).2.1))))]) [0, 1] rfl
    have hD9 := hD.sub (ws' := [(x, .inr (0, [.ref cs, .ref sc, .ref pf, .int ((fn_X6_give (a2) ((u.1) (a1).toNatClampNeg) ((fn_X6_give (a1) ((u.1) (a2).toNatClampNeg) (u)).2)).2.2.1), .int ((fn_X6_give (a2) ((u.1) (a1).toNatClampNeg) ((fn_X6_give (a1) ((u.1) (a2).toNatClampNeg) (u)).2)).2.2.2.1), .int ((fn_X6_give (a2) ((u.1) (a1).toNatClampNeg) ((fn_X6_give (a1) ((u.1) (a2).toNatClampNeg) (u)).2)).2.2.2.2)])), (cs, .inl (G.2.1 2, 6, .inr (.inl ((fn_X6_give (a2) ((u.1) (a1).toNatClampNeg) ((fn_X6_give (a1) ((u.1) (a2).toNatClampNeg) (u)).2)).2.1))))]) [0, 1] (by decide) rfl
    refine W.widen (k := 2) (n := 12) (Nat.le_of_ble_eq_true rfl) (Nat.le_of_ble_eq_true rfl) ?_
    refine vx_ret ?_
    exact W.iret (v := (fn_X6_give (a1) ((u.1) (a2).toNatClampNeg) (u)).1) hx hb hr (fun t ht hW => ⟨⟨_, (fn_X6_give (a2) ((u.1) (a1).toNatClampNeg) ((fn_X6_give (a1) ((u.1) (a2).toNatClampNeg) (u)).2)).2, rfl, ⟨(fn_X6_give (a1) ((u.1) (a2).toNatClampNeg) (u)).1, (fn_X6_give (a2) ((u.1) (a1).toNatClampNeg) ((fn_X6_give (a1) ((u.1) (a2).toNatClampNeg) (u)).2)).2, hw, rfl, rfl⟩, by rw [ht]; exact hP9, hD9, trivial⟩, hS.F ht⟩) hS.2.2 dc_X6_swap_34
def fn_X6_floor (a1 : Int32) (a2 : Int32) (u : ky_BS) : Sum String (Int32 × ky_BS) :=
  ky_b (fn_X6_requireBoth (a1) (a2)) (fun r_0 w_0 => .inr ((fn_X6_give (a2) (fn_X4_floorFrom ((u.1) (a1).toNatClampNeg)) (u)).1, (fn_X6_give (a2) (fn_X4_floorFrom ((u.1) (a1).toNatClampNeg)) (u)).2))
set_option linter.constructorNameAsVariable false in
set_option maxHeartbeats 4000000 in
set_option maxRecDepth 100000 in
theorem mt_X6_floor (l : Launch) (hl9 : l.stackTraces = false) (G : ky_G) (x : Nat) (cs : Nat) (sc : Nat) (pf : Nat) (u : ky_BS) (a1 : Int32) (a2 : Int32) (sz : Nat)  : vx_Met l my_X6_floor (.code my_X6_floor prog_1_method_10_code 3 (some .int) :: ky_B) { frames := 8, cells := 2, slots := 12, locals := 123 } (ky_P G [.ref x, .int (a1), .int (a2)] (ky_WB G x cs sc pf u) sz (fun _ => True)) (ky_Q (S := ky_BS) G (va_A (ky_WB G x cs sc pf u) sz) (fun v u9 => ∃ (r9 : Int32) (w9 : ky_BS), fn_X6_floor a1 a2 u = .inr (r9, w9) ∧ v = some (.int r9) ∧ u9 = w9) (fun u9 => ky_WB G x cs sc pf u9) (fun _ _ => True)) (ky_X G (va_A (ky_WB G x cs sc pf u) sz) (fun E => fn_X6_floor a1 a2 u = .inl E) (ky_WB G x cs sc pf u)) 2 12 (va_A (ky_WB G x cs sc pf u) sz) := by
  refine ky_startX (by decide) (Nat.le_of_ble_eq_true rfl) (fun p e s m below meth c F hno hE A hAe hsz hA hfr hP hD hS hX ls hl => ?_)
  obtain ⟨hx, hb, hml, hown, hr, hlocks, hts⟩ := id F
  have hl : lv_has ls 3 [(0, .ref x), (1, .int (a1)), (2, .int (a2))] := hl
  have hP : va_P G.1 kcl [(x, .inr (0, [.ref cs, .ref sc, .ref pf, .int (u.2.1), .int (u.2.2.1), .int (u.2.2.2)])), (cs, .inl (G.2.1 2, 6, .inr (.inl (u.1))))] s.heap := hP
  have hD : va_D A [(x, .inr (0, [.ref cs, .ref sc, .ref pf, .int (u.2.1), .int (u.2.2.1), .int (u.2.2.2)])), (cs, .inl (G.2.1 2, 6, .inr (.inl (u.1))))] := hD
  have hw : fn_X6_floor a1 a2 u = _ := fn_X6_floor.eq_1 a1 a2 u
  refine lv_iload_n hx hb dc_X6_floor_0 rfl (lv_at hl 1 rfl) ?_
  refine lv_iload_n hx hb dc_X6_floor_1 rfl (lv_at hl 2 rfl) ?_
  refine ky_cSx (As := [.int (a1), .int (a2)]) (wr := [(x, .inr (0, [.ref cs, .ref sc, .ref pf, .int (u.2.1), .int (u.2.2.1), .int (u.2.2.2)])), (cs, .inl (G.2.1 2, 6, .inr (.inl (u.1))))]) F (hE.at hfr hS) hfr (mt_X6_requireBoth l hl9 G  (a1) (a2) s.heap.size ) ks_X6_81 ⟨⟨rfl, rfl⟩, by decide, by decide⟩ rfl hl.1 rfl (Nat.le_of_ble_eq_true rfl) ⟨Nat.le_of_ble_eq_true rfl, Nat.le_of_ble_eq_true rfl⟩ trivial hP hD hS hA [] [0, 1] rfl rfl (by decide) (by decide) (by decide) dc_X6_floor_2 ?_ ?_
  · intro E ce q9 H locs hp hP hD hS hz hk9 hc1 hc2 hc3
    have hP9 := hP.sub (ws' := [(x, .inr (0, [.ref cs, .ref sc, .ref pf, .int (u.2.1), .int (u.2.2.1), .int (u.2.2.2)])), (cs, .inl (G.2.1 2, 6, .inr (.inl (u.1))))]) [0, 1] rfl
    have hD9 := hD.sub (ws' := [(x, .inr (0, [.ref cs, .ref sc, .ref pf, .int (u.2.1), .int (u.2.2.1), .int (u.2.2.2)])), (cs, .inl (G.2.1 2, 6, .inr (.inl (u.1))))]) [0, 1] (by decide) rfl
    exact vx_out (fun x h => (hno x h).elim) hlocks hc1 hc2 hc3 (fun t ht hW => ⟨hw.trans (ky_bl hp), by rw [ht]; exact hP9, hD9, hS.F ht⟩) hS.2.2 (Nat.le_of_ble_eq_true rfl) (Nat.le_of_ble_eq_true rfl)
  · rintro v9 u9 H locs ⟨r_0, w_0, hf_0, rfl, rfl⟩ hP hD hS - hz hk9
    have hw := hw.trans (ky_br hf_0)
    have hP : va_P G.1 kcl [(x, .inr (0, [.ref cs, .ref sc, .ref pf, .int (u.2.1), .int (u.2.2.1), .int (u.2.2.2)])), (cs, .inl (G.2.1 2, 6, .inr (.inl (u.1))))] H := hP
    have hD : va_D A [(x, .inr (0, [.ref cs, .ref sc, .ref pf, .int (u.2.1), .int (u.2.2.1), .int (u.2.2.2)])), (cs, .inl (G.2.1 2, 6, .inr (.inl (u.1))))] := hD
    refine W.widen (k := 2) (n := 12) (Nat.le_refl _) (Nat.le_refl _) ?_
    refine lv_aload_n hx hb dc_X6_floor_5 rfl (lv_at hl 0 rfl) ?_
    refine lv_iload_n hx hb dc_X6_floor_6 rfl (lv_at hl 2 rfl) ?_
    refine lv_aload_n hx hb dc_X6_floor_7 rfl (lv_at hl 0 rfl) ?_
    refine va_get (D := G.1) (ci := 0) (v := .ref cs) (C := RX6) (T := TX6) (N := 6) hx hb hts ki_X6 hown hE.1 hP 0 rfl rfl 0 (by decide) (hts _ kw_1_98) (fun _ h9 => h9) rfl dc_X6_floor_8 ?_
    refine lv_iload_n hx hb dc_X6_floor_11 rfl (lv_at hl 1 rfl) ?_
    refine va_lald hx hb hE.1 hP 1 2 rfl rfl (rq_both hf_0).1 dc_X6_floor_12 ?_
    refine ky_cS0 (As := [.long ((u.1) (a1).toNatClampNeg)]) F (mt_X4_floorFrom l ((u.1) (a1).toNatClampNeg)) ks_X6_85 ⟨⟨rfl, rfl⟩, by decide, by decide⟩ rfl hl.1 rfl (Nat.le_of_ble_eq_true rfl) ⟨Nat.le_of_ble_eq_true rfl, Nat.le_of_ble_eq_true rfl⟩ dc_X6_floor_13 ?_
    refine ky_cVh (As := [.int (a2), .long (fn_X4_floorFrom ((u.1) (a1).toNatClampNeg))]) (wr := []) F (hE.at hfr hS) hfr (mt_X6_give l G (x) (cs) (sc) (pf) (u) (a2) (fn_X4_floorFrom ((u.1) (a1).toNatClampNeg)) H.size (rq_both hf_0).2) kv_X6_37 ⟨⟨rfl, rfl⟩, by decide, by decide⟩ rfl hl.1 rfl (Nat.le_of_ble_eq_true rfl) ⟨Nat.le_of_ble_eq_true rfl, Nat.le_of_ble_eq_true rfl⟩ (va_recv hE.1 hP (ci := 0) (q0 := 0) rfl rfl) trivial hP hD hS hA [0, 1] [] rfl rfl (by decide) (by decide) (by decide) dc_X6_floor_16 ?_
    rintro v9 u9 H locs ⟨rfl, rfl⟩ hP hD hS - hz hk9
    have hP : va_P G.1 kcl [(x, .inr (0, [.ref cs, .ref sc, .ref pf, .int ((fn_X6_give (a2) (fn_X4_floorFrom ((u.1) (a1).toNatClampNeg)) (u)).2.2.1), .int ((fn_X6_give (a2) (fn_X4_floorFrom ((u.1) (a1).toNatClampNeg)) (u)).2.2.2.1), .int ((fn_X6_give (a2) (fn_X4_floorFrom ((u.1) (a1).toNatClampNeg)) (u)).2.2.2.2)])), (cs, .inl (G.2.1 2, 6, .inr (.inl ((fn_X6_give (a2) (fn_X4_floorFrom ((u.1) (a1).toNatClampNeg)) (u)).2.1))))] H := hP
    have hD : va_D A [(x, .inr (0, [.ref cs, .ref sc, .ref pf, .int ((fn_X6_give (a2) (fn_X4_floorFrom ((u.1) (a1).toNatClampNeg)) (u)).2.2.1), .int ((fn_X6_give (a2) (fn_X4_floorFrom ((u.1) (a1).toNatClampNeg)) (u)).2.2.2.1), .int ((fn_X6_give (a2) (fn_X4_floorFrom ((u.1) (a1).toNatClampNeg)) (u)).2.2.2.2)])), (cs, .inl (G.2.1 2, 6, .inr (.inl ((fn_X6_give (a2) (fn_X4_floorFrom ((u.1) (a1).toNatClampNeg)) (u)).2.1))))] := hD
    refine W.widen (k := 2) (n := 12) (Nat.le_refl _) (Nat.le_refl _) ?_
    have hP9 := hP.sub (ws' := [(x, .inr (0, [.ref cs, .ref sc, .ref pf, .int ((fn_X6_give (a2) (fn_X4_floorFrom ((u.1) (a1).toNatClampNeg)) (u)).2.2.1), .int ((fn_X6_give (a2) (fn_X4_floorFrom ((u.1) (a1).toNatClampNeg)) (u)).2.2.2.1), .int ((fn_X6_give (a2) (fn_X4_floorFrom ((u.1) (a1).toNatClampNeg)) (u)).2.2.2.2)])), (cs, .inl (G.2.1 2, 6, .inr (.inl ((fn_X6_give (a2) (fn_X4_floorFrom ((u.1) (a1).toNatClampNeg)) (u)).2.1))))]) [0, 1] rfl
    have hD9 := hD.sub (ws' := [(x, .inr (0, [.ref cs, .ref sc, .ref pf, .int ((fn_X6_give (a2) (fn_X4_floorFrom ((u.1) (a1).toNatClampNeg)) (u)).2.2.1), .int ((fn_X6_give (a2) (fn_X4_floorFrom ((u.1) (a1).toNatClampNeg)) (u)).2.2.2.1), .int ((fn_X6_give (a2) (fn_X4_floorFrom ((u.1) (a1).toNatClampNeg)) (u)).2.2.2.2)])), (cs, .inl (G.2.1 2, 6, .inr (.inl ((fn_X6_give (a2) (fn_X4_floorFrom ((u.1) (a1).toNatClampNeg)) (u)).2.1))))]) [0, 1] (by decide) rfl
    refine W.widen (k := 2) (n := 12) (Nat.le_of_ble_eq_true rfl) (Nat.le_of_ble_eq_true rfl) ?_
    refine vx_ret ?_
    exact W.iret (v := (fn_X6_give (a2) (fn_X4_floorFrom ((u.1) (a1).toNatClampNeg)) (u)).1) hx hb hr (fun t ht hW => ⟨⟨_, (fn_X6_give (a2) (fn_X4_floorFrom ((u.1) (a1).toNatClampNeg)) (u)).2, rfl, ⟨(fn_X6_give (a2) (fn_X4_floorFrom ((u.1) (a1).toNatClampNeg)) (u)).1, (fn_X6_give (a2) (fn_X4_floorFrom ((u.1) (a1).toNatClampNeg)) (u)).2, hw, rfl, rfl⟩, by rw [ht]; exact hP9, hD9, trivial⟩, hS.F ht⟩) hS.2.2 dc_X6_floor_19
def fn_X6_ceil (a1 : Int32) (a2 : Int32) (u : ky_BS) : Sum String (Int32 × ky_BS) :=
  ky_b (fn_X6_requireBoth (a1) (a2)) (fun r_0 w_0 => .inr ((fn_X6_give (a2) (fn_X4_ceilFrom ((u.1) (a1).toNatClampNeg)) (u)).1, (fn_X6_give (a2) (fn_X4_ceilFrom ((u.1) (a1).toNatClampNeg)) (u)).2))
set_option linter.constructorNameAsVariable false in
set_option maxHeartbeats 4000000 in
set_option maxRecDepth 100000 in
theorem mt_X6_ceil (l : Launch) (hl9 : l.stackTraces = false) (G : ky_G) (x : Nat) (cs : Nat) (sc : Nat) (pf : Nat) (u : ky_BS) (a1 : Int32) (a2 : Int32) (sz : Nat)  : vx_Met l my_X6_ceil (.code my_X6_ceil prog_1_method_11_code 3 (some .int) :: ky_B) { frames := 8, cells := 2, slots := 12, locals := 123 } (ky_P G [.ref x, .int (a1), .int (a2)] (ky_WB G x cs sc pf u) sz (fun _ => True)) (ky_Q (S := ky_BS) G (va_A (ky_WB G x cs sc pf u) sz) (fun v u9 => ∃ (r9 : Int32) (w9 : ky_BS), fn_X6_ceil a1 a2 u = .inr (r9, w9) ∧ v = some (.int r9) ∧ u9 = w9) (fun u9 => ky_WB G x cs sc pf u9) (fun _ _ => True)) (ky_X G (va_A (ky_WB G x cs sc pf u) sz) (fun E => fn_X6_ceil a1 a2 u = .inl E) (ky_WB G x cs sc pf u)) 2 12 (va_A (ky_WB G x cs sc pf u) sz) := by
  refine ky_startX (by decide) (Nat.le_of_ble_eq_true rfl) (fun p e s m below meth c F hno hE A hAe hsz hA hfr hP hD hS hX ls hl => ?_)
  obtain ⟨hx, hb, hml, hown, hr, hlocks, hts⟩ := id F
  have hl : lv_has ls 3 [(0, .ref x), (1, .int (a1)), (2, .int (a2))] := hl
  have hP : va_P G.1 kcl [(x, .inr (0, [.ref cs, .ref sc, .ref pf, .int (u.2.1), .int (u.2.2.1), .int (u.2.2.2)])), (cs, .inl (G.2.1 2, 6, .inr (.inl (u.1))))] s.heap := hP
  have hD : va_D A [(x, .inr (0, [.ref cs, .ref sc, .ref pf, .int (u.2.1), .int (u.2.2.1), .int (u.2.2.2)])), (cs, .inl (G.2.1 2, 6, .inr (.inl (u.1))))] := hD
  have hw : fn_X6_ceil a1 a2 u = _ := fn_X6_ceil.eq_1 a1 a2 u
  refine lv_iload_n hx hb dc_X6_ceil_0 rfl (lv_at hl 1 rfl) ?_
  refine lv_iload_n hx hb dc_X6_ceil_1 rfl (lv_at hl 2 rfl) ?_
  refine ky_cSx (As := [.int (a1), .int (a2)]) (wr := [(x, .inr (0, [.ref cs, .ref sc, .ref pf, .int (u.2.1), .int (u.2.2.1), .int (u.2.2.2)])), (cs, .inl (G.2.1 2, 6, .inr (.inl (u.1))))]) F (hE.at hfr hS) hfr (mt_X6_requireBoth l hl9 G  (a1) (a2) s.heap.size ) ks_X6_81 ⟨⟨rfl, rfl⟩, by decide, by decide⟩ rfl hl.1 rfl (Nat.le_of_ble_eq_true rfl) ⟨Nat.le_of_ble_eq_true rfl, Nat.le_of_ble_eq_true rfl⟩ trivial hP hD hS hA [] [0, 1] rfl rfl (by decide) (by decide) (by decide) dc_X6_ceil_2 ?_ ?_
  · intro E ce q9 H locs hp hP hD hS hz hk9 hc1 hc2 hc3
    have hP9 := hP.sub (ws' := [(x, .inr (0, [.ref cs, .ref sc, .ref pf, .int (u.2.1), .int (u.2.2.1), .int (u.2.2.2)])), (cs, .inl (G.2.1 2, 6, .inr (.inl (u.1))))]) [0, 1] rfl
    have hD9 := hD.sub (ws' := [(x, .inr (0, [.ref cs, .ref sc, .ref pf, .int (u.2.1), .int (u.2.2.1), .int (u.2.2.2)])), (cs, .inl (G.2.1 2, 6, .inr (.inl (u.1))))]) [0, 1] (by decide) rfl
    exact vx_out (fun x h => (hno x h).elim) hlocks hc1 hc2 hc3 (fun t ht hW => ⟨hw.trans (ky_bl hp), by rw [ht]; exact hP9, hD9, hS.F ht⟩) hS.2.2 (Nat.le_of_ble_eq_true rfl) (Nat.le_of_ble_eq_true rfl)
  · rintro v9 u9 H locs ⟨r_0, w_0, hf_0, rfl, rfl⟩ hP hD hS - hz hk9
    have hw := hw.trans (ky_br hf_0)
    have hP : va_P G.1 kcl [(x, .inr (0, [.ref cs, .ref sc, .ref pf, .int (u.2.1), .int (u.2.2.1), .int (u.2.2.2)])), (cs, .inl (G.2.1 2, 6, .inr (.inl (u.1))))] H := hP
    have hD : va_D A [(x, .inr (0, [.ref cs, .ref sc, .ref pf, .int (u.2.1), .int (u.2.2.1), .int (u.2.2.2)])), (cs, .inl (G.2.1 2, 6, .inr (.inl (u.1))))] := hD
    refine W.widen (k := 2) (n := 12) (Nat.le_refl _) (Nat.le_refl _) ?_
    refine lv_aload_n hx hb dc_X6_ceil_5 rfl (lv_at hl 0 rfl) ?_
    refine lv_iload_n hx hb dc_X6_ceil_6 rfl (lv_at hl 2 rfl) ?_
    refine lv_aload_n hx hb dc_X6_ceil_7 rfl (lv_at hl 0 rfl) ?_
    refine va_get (D := G.1) (ci := 0) (v := .ref cs) (C := RX6) (T := TX6) (N := 6) hx hb hts ki_X6 hown hE.1 hP 0 rfl rfl 0 (by decide) (hts _ kw_1_98) (fun _ h9 => h9) rfl dc_X6_ceil_8 ?_
    refine lv_iload_n hx hb dc_X6_ceil_11 rfl (lv_at hl 1 rfl) ?_
    refine va_lald hx hb hE.1 hP 1 2 rfl rfl (rq_both hf_0).1 dc_X6_ceil_12 ?_
    refine ky_cS0 (As := [.long ((u.1) (a1).toNatClampNeg)]) F (mt_X4_ceilFrom l ((u.1) (a1).toNatClampNeg)) ks_X6_90 ⟨⟨rfl, rfl⟩, by decide, by decide⟩ rfl hl.1 rfl (Nat.le_of_ble_eq_true rfl) ⟨Nat.le_of_ble_eq_true rfl, Nat.le_of_ble_eq_true rfl⟩ dc_X6_ceil_13 ?_
    refine ky_cVh (As := [.int (a2), .long (fn_X4_ceilFrom ((u.1) (a1).toNatClampNeg))]) (wr := []) F (hE.at hfr hS) hfr (mt_X6_give l G (x) (cs) (sc) (pf) (u) (a2) (fn_X4_ceilFrom ((u.1) (a1).toNatClampNeg)) H.size (rq_both hf_0).2) kv_X6_37 ⟨⟨rfl, rfl⟩, by decide, by decide⟩ rfl hl.1 rfl (Nat.le_of_ble_eq_true rfl) ⟨Nat.le_of_ble_eq_true rfl, Nat.le_of_ble_eq_true rfl⟩ (va_recv hE.1 hP (ci := 0) (q0 := 0) rfl rfl) trivial hP hD hS hA [0, 1] [] rfl rfl (by decide) (by decide) (by decide) dc_X6_ceil_16 ?_
    rintro v9 u9 H locs ⟨rfl, rfl⟩ hP hD hS - hz hk9
    have hP : va_P G.1 kcl [(x, .inr (0, [.ref cs, .ref sc, .ref pf, .int ((fn_X6_give (a2) (fn_X4_ceilFrom ((u.1) (a1).toNatClampNeg)) (u)).2.2.1), .int ((fn_X6_give (a2) (fn_X4_ceilFrom ((u.1) (a1).toNatClampNeg)) (u)).2.2.2.1), .int ((fn_X6_give (a2) (fn_X4_ceilFrom ((u.1) (a1).toNatClampNeg)) (u)).2.2.2.2)])), (cs, .inl (G.2.1 2, 6, .inr (.inl ((fn_X6_give (a2) (fn_X4_ceilFrom ((u.1) (a1).toNatClampNeg)) (u)).2.1))))] H := hP
    have hD : va_D A [(x, .inr (0, [.ref cs, .ref sc, .ref pf, .int ((fn_X6_give (a2) (fn_X4_ceilFrom ((u.1) (a1).toNatClampNeg)) (u)).2.2.1), .int ((fn_X6_give (a2) (fn_X4_ceilFrom ((u.1) (a1).toNatClampNeg)) (u)).2.2.2.1), .int ((fn_X6_give (a2) (fn_X4_ceilFrom ((u.1) (a1).toNatClampNeg)) (u)).2.2.2.2)])), (cs, .inl (G.2.1 2, 6, .inr (.inl ((fn_X6_give (a2) (fn_X4_ceilFrom ((u.1) (a1).toNatClampNeg)) (u)).2.1))))] := hD
    refine W.widen (k := 2) (n := 12) (Nat.le_refl _) (Nat.le_refl _) ?_
    have hP9 := hP.sub (ws' := [(x, .inr (0, [.ref cs, .ref sc, .ref pf, .int ((fn_X6_give (a2) (fn_X4_ceilFrom ((u.1) (a1).toNatClampNeg)) (u)).2.2.1), .int ((fn_X6_give (a2) (fn_X4_ceilFrom ((u.1) (a1).toNatClampNeg)) (u)).2.2.2.1), .int ((fn_X6_give (a2) (fn_X4_ceilFrom ((u.1) (a1).toNatClampNeg)) (u)).2.2.2.2)])), (cs, .inl (G.2.1 2, 6, .inr (.inl ((fn_X6_give (a2) (fn_X4_ceilFrom ((u.1) (a1).toNatClampNeg)) (u)).2.1))))]) [0, 1] rfl
    have hD9 := hD.sub (ws' := [(x, .inr (0, [.ref cs, .ref sc, .ref pf, .int ((fn_X6_give (a2) (fn_X4_ceilFrom ((u.1) (a1).toNatClampNeg)) (u)).2.2.1), .int ((fn_X6_give (a2) (fn_X4_ceilFrom ((u.1) (a1).toNatClampNeg)) (u)).2.2.2.1), .int ((fn_X6_give (a2) (fn_X4_ceilFrom ((u.1) (a1).toNatClampNeg)) (u)).2.2.2.2)])), (cs, .inl (G.2.1 2, 6, .inr (.inl ((fn_X6_give (a2) (fn_X4_ceilFrom ((u.1) (a1).toNatClampNeg)) (u)).2.1))))]) [0, 1] (by decide) rfl
    refine W.widen (k := 2) (n := 12) (Nat.le_of_ble_eq_true rfl) (Nat.le_of_ble_eq_true rfl) ?_
    refine vx_ret ?_
    exact W.iret (v := (fn_X6_give (a2) (fn_X4_ceilFrom ((u.1) (a1).toNatClampNeg)) (u)).1) hx hb hr (fun t ht hW => ⟨⟨_, (fn_X6_give (a2) (fn_X4_ceilFrom ((u.1) (a1).toNatClampNeg)) (u)).2, rfl, ⟨(fn_X6_give (a2) (fn_X4_ceilFrom ((u.1) (a1).toNatClampNeg)) (u)).1, (fn_X6_give (a2) (fn_X4_ceilFrom ((u.1) (a1).toNatClampNeg)) (u)).2, hw, rfl, rfl⟩, by rw [ht]; exact hP9, hD9, trivial⟩, hS.F ht⟩) hS.2.2 dc_X6_ceil_19
def fn_X6_rint (a1 : Int32) (a2 : Int32) (u : ky_BS) : Sum String (Int32 × ky_BS) :=
  ky_b (fn_X6_requireBoth (a1) (a2)) (fun r_0 w_0 => .inr ((fn_X6_give (a2) (fn_X4_rintFrom ((u.1) (a1).toNatClampNeg)) (u)).1, (fn_X6_give (a2) (fn_X4_rintFrom ((u.1) (a1).toNatClampNeg)) (u)).2))
set_option linter.constructorNameAsVariable false in
set_option maxHeartbeats 4000000 in
set_option maxRecDepth 100000 in
theorem mt_X6_rint (l : Launch) (hl9 : l.stackTraces = false) (G : ky_G) (x : Nat) (cs : Nat) (sc : Nat) (pf : Nat) (u : ky_BS) (a1 : Int32) (a2 : Int32) (sz : Nat)  : vx_Met l my_X6_rint (.code my_X6_rint prog_1_method_12_code 3 (some .int) :: ky_B) { frames := 8, cells := 2, slots := 12, locals := 123 } (ky_P G [.ref x, .int (a1), .int (a2)] (ky_WB G x cs sc pf u) sz (fun _ => True)) (ky_Q (S := ky_BS) G (va_A (ky_WB G x cs sc pf u) sz) (fun v u9 => ∃ (r9 : Int32) (w9 : ky_BS), fn_X6_rint a1 a2 u = .inr (r9, w9) ∧ v = some (.int r9) ∧ u9 = w9) (fun u9 => ky_WB G x cs sc pf u9) (fun _ _ => True)) (ky_X G (va_A (ky_WB G x cs sc pf u) sz) (fun E => fn_X6_rint a1 a2 u = .inl E) (ky_WB G x cs sc pf u)) 2 12 (va_A (ky_WB G x cs sc pf u) sz) := by
  refine ky_startX (by decide) (Nat.le_of_ble_eq_true rfl) (fun p e s m below meth c F hno hE A hAe hsz hA hfr hP hD hS hX ls hl => ?_)
  obtain ⟨hx, hb, hml, hown, hr, hlocks, hts⟩ := id F
  have hl : lv_has ls 3 [(0, .ref x), (1, .int (a1)), (2, .int (a2))] := hl
  have hP : va_P G.1 kcl [(x, .inr (0, [.ref cs, .ref sc, .ref pf, .int (u.2.1), .int (u.2.2.1), .int (u.2.2.2)])), (cs, .inl (G.2.1 2, 6, .inr (.inl (u.1))))] s.heap := hP
  have hD : va_D A [(x, .inr (0, [.ref cs, .ref sc, .ref pf, .int (u.2.1), .int (u.2.2.1), .int (u.2.2.2)])), (cs, .inl (G.2.1 2, 6, .inr (.inl (u.1))))] := hD
  have hw : fn_X6_rint a1 a2 u = _ := fn_X6_rint.eq_1 a1 a2 u
  refine lv_iload_n hx hb dc_X6_rint_0 rfl (lv_at hl 1 rfl) ?_
  refine lv_iload_n hx hb dc_X6_rint_1 rfl (lv_at hl 2 rfl) ?_
  refine ky_cSx (As := [.int (a1), .int (a2)]) (wr := [(x, .inr (0, [.ref cs, .ref sc, .ref pf, .int (u.2.1), .int (u.2.2.1), .int (u.2.2.2)])), (cs, .inl (G.2.1 2, 6, .inr (.inl (u.1))))]) F (hE.at hfr hS) hfr (mt_X6_requireBoth l hl9 G  (a1) (a2) s.heap.size ) ks_X6_81 ⟨⟨rfl, rfl⟩, by decide, by decide⟩ rfl hl.1 rfl (Nat.le_of_ble_eq_true rfl) ⟨Nat.le_of_ble_eq_true rfl, Nat.le_of_ble_eq_true rfl⟩ trivial hP hD hS hA [] [0, 1] rfl rfl (by decide) (by decide) (by decide) dc_X6_rint_2 ?_ ?_
  · intro E ce q9 H locs hp hP hD hS hz hk9 hc1 hc2 hc3
    have hP9 := hP.sub (ws' := [(x, .inr (0, [.ref cs, .ref sc, .ref pf, .int (u.2.1), .int (u.2.2.1), .int (u.2.2.2)])), (cs, .inl (G.2.1 2, 6, .inr (.inl (u.1))))]) [0, 1] rfl
    have hD9 := hD.sub (ws' := [(x, .inr (0, [.ref cs, .ref sc, .ref pf, .int (u.2.1), .int (u.2.2.1), .int (u.2.2.2)])), (cs, .inl (G.2.1 2, 6, .inr (.inl (u.1))))]) [0, 1] (by decide) rfl
    exact vx_out (fun x h => (hno x h).elim) hlocks hc1 hc2 hc3 (fun t ht hW => ⟨hw.trans (ky_bl hp), by rw [ht]; exact hP9, hD9, hS.F ht⟩) hS.2.2 (Nat.le_of_ble_eq_true rfl) (Nat.le_of_ble_eq_true rfl)
  · rintro v9 u9 H locs ⟨r_0, w_0, hf_0, rfl, rfl⟩ hP hD hS - hz hk9
    have hw := hw.trans (ky_br hf_0)
    have hP : va_P G.1 kcl [(x, .inr (0, [.ref cs, .ref sc, .ref pf, .int (u.2.1), .int (u.2.2.1), .int (u.2.2.2)])), (cs, .inl (G.2.1 2, 6, .inr (.inl (u.1))))] H := hP
    have hD : va_D A [(x, .inr (0, [.ref cs, .ref sc, .ref pf, .int (u.2.1), .int (u.2.2.1), .int (u.2.2.2)])), (cs, .inl (G.2.1 2, 6, .inr (.inl (u.1))))] := hD
    refine W.widen (k := 2) (n := 12) (Nat.le_refl _) (Nat.le_refl _) ?_
    refine lv_aload_n hx hb dc_X6_rint_5 rfl (lv_at hl 0 rfl) ?_
    refine lv_iload_n hx hb dc_X6_rint_6 rfl (lv_at hl 2 rfl) ?_
    refine lv_aload_n hx hb dc_X6_rint_7 rfl (lv_at hl 0 rfl) ?_
    refine va_get (D := G.1) (ci := 0) (v := .ref cs) (C := RX6) (T := TX6) (N := 6) hx hb hts ki_X6 hown hE.1 hP 0 rfl rfl 0 (by decide) (hts _ kw_1_98) (fun _ h9 => h9) rfl dc_X6_rint_8 ?_
    refine lv_iload_n hx hb dc_X6_rint_11 rfl (lv_at hl 1 rfl) ?_
    refine va_lald hx hb hE.1 hP 1 2 rfl rfl (rq_both hf_0).1 dc_X6_rint_12 ?_
    refine ky_cS0 (As := [.long ((u.1) (a1).toNatClampNeg)]) F (mt_X4_rintFrom l ((u.1) (a1).toNatClampNeg)) ks_X6_93 ⟨⟨rfl, rfl⟩, by decide, by decide⟩ rfl hl.1 rfl (Nat.le_of_ble_eq_true rfl) ⟨Nat.le_of_ble_eq_true rfl, Nat.le_of_ble_eq_true rfl⟩ dc_X6_rint_13 ?_
    refine ky_cVh (As := [.int (a2), .long (fn_X4_rintFrom ((u.1) (a1).toNatClampNeg))]) (wr := []) F (hE.at hfr hS) hfr (mt_X6_give l G (x) (cs) (sc) (pf) (u) (a2) (fn_X4_rintFrom ((u.1) (a1).toNatClampNeg)) H.size (rq_both hf_0).2) kv_X6_37 ⟨⟨rfl, rfl⟩, by decide, by decide⟩ rfl hl.1 rfl (Nat.le_of_ble_eq_true rfl) ⟨Nat.le_of_ble_eq_true rfl, Nat.le_of_ble_eq_true rfl⟩ (va_recv hE.1 hP (ci := 0) (q0 := 0) rfl rfl) trivial hP hD hS hA [0, 1] [] rfl rfl (by decide) (by decide) (by decide) dc_X6_rint_16 ?_
    rintro v9 u9 H locs ⟨rfl, rfl⟩ hP hD hS - hz hk9
    have hP : va_P G.1 kcl [(x, .inr (0, [.ref cs, .ref sc, .ref pf, .int ((fn_X6_give (a2) (fn_X4_rintFrom ((u.1) (a1).toNatClampNeg)) (u)).2.2.1), .int ((fn_X6_give (a2) (fn_X4_rintFrom ((u.1) (a1).toNatClampNeg)) (u)).2.2.2.1), .int ((fn_X6_give (a2) (fn_X4_rintFrom ((u.1) (a1).toNatClampNeg)) (u)).2.2.2.2)])), (cs, .inl (G.2.1 2, 6, .inr (.inl ((fn_X6_give (a2) (fn_X4_rintFrom ((u.1) (a1).toNatClampNeg)) (u)).2.1))))] H := hP
    have hD : va_D A [(x, .inr (0, [.ref cs, .ref sc, .ref pf, .int ((fn_X6_give (a2) (fn_X4_rintFrom ((u.1) (a1).toNatClampNeg)) (u)).2.2.1), .int ((fn_X6_give (a2) (fn_X4_rintFrom ((u.1) (a1).toNatClampNeg)) (u)).2.2.2.1), .int ((fn_X6_give (a2) (fn_X4_rintFrom ((u.1) (a1).toNatClampNeg)) (u)).2.2.2.2)])), (cs, .inl (G.2.1 2, 6, .inr (.inl ((fn_X6_give (a2) (fn_X4_rintFrom ((u.1) (a1).toNatClampNeg)) (u)).2.1))))] := hD
    refine W.widen (k := 2) (n := 12) (Nat.le_refl _) (Nat.le_refl _) ?_
    have hP9 := hP.sub (ws' := [(x, .inr (0, [.ref cs, .ref sc, .ref pf, .int ((fn_X6_give (a2) (fn_X4_rintFrom ((u.1) (a1).toNatClampNeg)) (u)).2.2.1), .int ((fn_X6_give (a2) (fn_X4_rintFrom ((u.1) (a1).toNatClampNeg)) (u)).2.2.2.1), .int ((fn_X6_give (a2) (fn_X4_rintFrom ((u.1) (a1).toNatClampNeg)) (u)).2.2.2.2)])), (cs, .inl (G.2.1 2, 6, .inr (.inl ((fn_X6_give (a2) (fn_X4_rintFrom ((u.1) (a1).toNatClampNeg)) (u)).2.1))))]) [0, 1] rfl
    have hD9 := hD.sub (ws' := [(x, .inr (0, [.ref cs, .ref sc, .ref pf, .int ((fn_X6_give (a2) (fn_X4_rintFrom ((u.1) (a1).toNatClampNeg)) (u)).2.2.1), .int ((fn_X6_give (a2) (fn_X4_rintFrom ((u.1) (a1).toNatClampNeg)) (u)).2.2.2.1), .int ((fn_X6_give (a2) (fn_X4_rintFrom ((u.1) (a1).toNatClampNeg)) (u)).2.2.2.2)])), (cs, .inl (G.2.1 2, 6, .inr (.inl ((fn_X6_give (a2) (fn_X4_rintFrom ((u.1) (a1).toNatClampNeg)) (u)).2.1))))]) [0, 1] (by decide) rfl
    refine W.widen (k := 2) (n := 12) (Nat.le_of_ble_eq_true rfl) (Nat.le_of_ble_eq_true rfl) ?_
    refine vx_ret ?_
    exact W.iret (v := (fn_X6_give (a2) (fn_X4_rintFrom ((u.1) (a1).toNatClampNeg)) (u)).1) hx hb hr (fun t ht hW => ⟨⟨_, (fn_X6_give (a2) (fn_X4_rintFrom ((u.1) (a1).toNatClampNeg)) (u)).2, rfl, ⟨(fn_X6_give (a2) (fn_X4_rintFrom ((u.1) (a1).toNatClampNeg)) (u)).1, (fn_X6_give (a2) (fn_X4_rintFrom ((u.1) (a1).toNatClampNeg)) (u)).2, hw, rfl, rfl⟩, by rw [ht]; exact hP9, hD9, trivial⟩, hS.F ht⟩) hS.2.2 dc_X6_rint_19
def fn_X6_size (a1 : Int32) (a2 : Int32) (u : ky_BS) : Sum String (Int32 × ky_BS) :=
  ky_b (fn_X6_requireBoth (a1) (a2)) (fun r_0 w_0 => .inr ((fn_X6_give (a2) (fn_X0_sizeIn ((u.1) (a1).toNatClampNeg)) (u)).1, (fn_X6_give (a2) (fn_X0_sizeIn ((u.1) (a1).toNatClampNeg)) (u)).2))
set_option linter.constructorNameAsVariable false in
set_option maxHeartbeats 4000000 in
set_option maxRecDepth 100000 in
theorem mt_X6_size (l : Launch) (hl9 : l.stackTraces = false) (G : ky_G) (x : Nat) (cs : Nat) (sc : Nat) (pf : Nat) (u : ky_BS) (a1 : Int32) (a2 : Int32) (sz : Nat)  : vx_Met l my_X6_size (.code my_X6_size prog_1_method_13_code 3 (some .int) :: ky_B) { frames := 8, cells := 2, slots := 12, locals := 123 } (ky_P G [.ref x, .int (a1), .int (a2)] (ky_WB G x cs sc pf u) sz (fun _ => True)) (ky_Q (S := ky_BS) G (va_A (ky_WB G x cs sc pf u) sz) (fun v u9 => ∃ (r9 : Int32) (w9 : ky_BS), fn_X6_size a1 a2 u = .inr (r9, w9) ∧ v = some (.int r9) ∧ u9 = w9) (fun u9 => ky_WB G x cs sc pf u9) (fun _ _ => True)) (ky_X G (va_A (ky_WB G x cs sc pf u) sz) (fun E => fn_X6_size a1 a2 u = .inl E) (ky_WB G x cs sc pf u)) 2 12 (va_A (ky_WB G x cs sc pf u) sz) := by
  refine ky_startX (by decide) (Nat.le_of_ble_eq_true rfl) (fun p e s m below meth c F hno hE A hAe hsz hA hfr hP hD hS hX ls hl => ?_)
  obtain ⟨hx, hb, hml, hown, hr, hlocks, hts⟩ := id F
  have hl : lv_has ls 3 [(0, .ref x), (1, .int (a1)), (2, .int (a2))] := hl
  have hP : va_P G.1 kcl [(x, .inr (0, [.ref cs, .ref sc, .ref pf, .int (u.2.1), .int (u.2.2.1), .int (u.2.2.2)])), (cs, .inl (G.2.1 2, 6, .inr (.inl (u.1))))] s.heap := hP
  have hD : va_D A [(x, .inr (0, [.ref cs, .ref sc, .ref pf, .int (u.2.1), .int (u.2.2.1), .int (u.2.2.2)])), (cs, .inl (G.2.1 2, 6, .inr (.inl (u.1))))] := hD
  have hw : fn_X6_size a1 a2 u = _ := fn_X6_size.eq_1 a1 a2 u
  refine lv_iload_n hx hb dc_X6_size_0 rfl (lv_at hl 1 rfl) ?_
  refine lv_iload_n hx hb dc_X6_size_1 rfl (lv_at hl 2 rfl) ?_
  refine ky_cSx (As := [.int (a1), .int (a2)]) (wr := [(x, .inr (0, [.ref cs, .ref sc, .ref pf, .int (u.2.1), .int (u.2.2.1), .int (u.2.2.2)])), (cs, .inl (G.2.1 2, 6, .inr (.inl (u.1))))]) F (hE.at hfr hS) hfr (mt_X6_requireBoth l hl9 G  (a1) (a2) s.heap.size ) ks_X6_81 ⟨⟨rfl, rfl⟩, by decide, by decide⟩ rfl hl.1 rfl (Nat.le_of_ble_eq_true rfl) ⟨Nat.le_of_ble_eq_true rfl, Nat.le_of_ble_eq_true rfl⟩ trivial hP hD hS hA [] [0, 1] rfl rfl (by decide) (by decide) (by decide) dc_X6_size_2 ?_ ?_
  · intro E ce q9 H locs hp hP hD hS hz hk9 hc1 hc2 hc3
    have hP9 := hP.sub (ws' := [(x, .inr (0, [.ref cs, .ref sc, .ref pf, .int (u.2.1), .int (u.2.2.1), .int (u.2.2.2)])), (cs, .inl (G.2.1 2, 6, .inr (.inl (u.1))))]) [0, 1] rfl
    have hD9 := hD.sub (ws' := [(x, .inr (0, [.ref cs, .ref sc, .ref pf, .int (u.2.1), .int (u.2.2.1), .int (u.2.2.2)])), (cs, .inl (G.2.1 2, 6, .inr (.inl (u.1))))]) [0, 1] (by decide) rfl
    exact vx_out (fun x h => (hno x h).elim) hlocks hc1 hc2 hc3 (fun t ht hW => ⟨hw.trans (ky_bl hp), by rw [ht]; exact hP9, hD9, hS.F ht⟩) hS.2.2 (Nat.le_of_ble_eq_true rfl) (Nat.le_of_ble_eq_true rfl)
  · rintro v9 u9 H locs ⟨r_0, w_0, hf_0, rfl, rfl⟩ hP hD hS - hz hk9
    have hw := hw.trans (ky_br hf_0)
    have hP : va_P G.1 kcl [(x, .inr (0, [.ref cs, .ref sc, .ref pf, .int (u.2.1), .int (u.2.2.1), .int (u.2.2.2)])), (cs, .inl (G.2.1 2, 6, .inr (.inl (u.1))))] H := hP
    have hD : va_D A [(x, .inr (0, [.ref cs, .ref sc, .ref pf, .int (u.2.1), .int (u.2.2.1), .int (u.2.2.2)])), (cs, .inl (G.2.1 2, 6, .inr (.inl (u.1))))] := hD
    refine W.widen (k := 2) (n := 12) (Nat.le_refl _) (Nat.le_refl _) ?_
    refine lv_aload_n hx hb dc_X6_size_5 rfl (lv_at hl 0 rfl) ?_
    refine lv_iload_n hx hb dc_X6_size_6 rfl (lv_at hl 2 rfl) ?_
    refine lv_aload_n hx hb dc_X6_size_7 rfl (lv_at hl 0 rfl) ?_
    refine va_get (D := G.1) (ci := 0) (v := .ref cs) (C := RX6) (T := TX6) (N := 6) hx hb hts ki_X6 hown hE.1 hP 0 rfl rfl 0 (by decide) (hts _ kw_1_98) (fun _ h9 => h9) rfl dc_X6_size_8 ?_
    refine lv_iload_n hx hb dc_X6_size_11 rfl (lv_at hl 1 rfl) ?_
    refine va_lald hx hb hE.1 hP 1 2 rfl rfl (rq_both hf_0).1 dc_X6_size_12 ?_
    refine ky_cS0 (As := [.long ((u.1) (a1).toNatClampNeg)]) F (mt_X0_sizeIn l ((u.1) (a1).toNatClampNeg)) ks_X6_96 ⟨⟨rfl, rfl⟩, by decide, by decide⟩ rfl hl.1 rfl (Nat.le_of_ble_eq_true rfl) ⟨Nat.le_of_ble_eq_true rfl, Nat.le_of_ble_eq_true rfl⟩ dc_X6_size_13 ?_
    refine ky_cVh (As := [.int (a2), .long (fn_X0_sizeIn ((u.1) (a1).toNatClampNeg))]) (wr := []) F (hE.at hfr hS) hfr (mt_X6_give l G (x) (cs) (sc) (pf) (u) (a2) (fn_X0_sizeIn ((u.1) (a1).toNatClampNeg)) H.size (rq_both hf_0).2) kv_X6_37 ⟨⟨rfl, rfl⟩, by decide, by decide⟩ rfl hl.1 rfl (Nat.le_of_ble_eq_true rfl) ⟨Nat.le_of_ble_eq_true rfl, Nat.le_of_ble_eq_true rfl⟩ (va_recv hE.1 hP (ci := 0) (q0 := 0) rfl rfl) trivial hP hD hS hA [0, 1] [] rfl rfl (by decide) (by decide) (by decide) dc_X6_size_16 ?_
    rintro v9 u9 H locs ⟨rfl, rfl⟩ hP hD hS - hz hk9
    have hP : va_P G.1 kcl [(x, .inr (0, [.ref cs, .ref sc, .ref pf, .int ((fn_X6_give (a2) (fn_X0_sizeIn ((u.1) (a1).toNatClampNeg)) (u)).2.2.1), .int ((fn_X6_give (a2) (fn_X0_sizeIn ((u.1) (a1).toNatClampNeg)) (u)).2.2.2.1), .int ((fn_X6_give (a2) (fn_X0_sizeIn ((u.1) (a1).toNatClampNeg)) (u)).2.2.2.2)])), (cs, .inl (G.2.1 2, 6, .inr (.inl ((fn_X6_give (a2) (fn_X0_sizeIn ((u.1) (a1).toNatClampNeg)) (u)).2.1))))] H := hP
    have hD : va_D A [(x, .inr (0, [.ref cs, .ref sc, .ref pf, .int ((fn_X6_give (a2) (fn_X0_sizeIn ((u.1) (a1).toNatClampNeg)) (u)).2.2.1), .int ((fn_X6_give (a2) (fn_X0_sizeIn ((u.1) (a1).toNatClampNeg)) (u)).2.2.2.1), .int ((fn_X6_give (a2) (fn_X0_sizeIn ((u.1) (a1).toNatClampNeg)) (u)).2.2.2.2)])), (cs, .inl (G.2.1 2, 6, .inr (.inl ((fn_X6_give (a2) (fn_X0_sizeIn ((u.1) (a1).toNatClampNeg)) (u)).2.1))))] := hD
    refine W.widen (k := 2) (n := 12) (Nat.le_refl _) (Nat.le_refl _) ?_
    have hP9 := hP.sub (ws' := [(x, .inr (0, [.ref cs, .ref sc, .ref pf, .int ((fn_X6_give (a2) (fn_X0_sizeIn ((u.1) (a1).toNatClampNeg)) (u)).2.2.1), .int ((fn_X6_give (a2) (fn_X0_sizeIn ((u.1) (a1).toNatClampNeg)) (u)).2.2.2.1), .int ((fn_X6_give (a2) (fn_X0_sizeIn ((u.1) (a1).toNatClampNeg)) (u)).2.2.2.2)])), (cs, .inl (G.2.1 2, 6, .inr (.inl ((fn_X6_give (a2) (fn_X0_sizeIn ((u.1) (a1).toNatClampNeg)) (u)).2.1))))]) [0, 1] rfl
    have hD9 := hD.sub (ws' := [(x, .inr (0, [.ref cs, .ref sc, .ref pf, .int ((fn_X6_give (a2) (fn_X0_sizeIn ((u.1) (a1).toNatClampNeg)) (u)).2.2.1), .int ((fn_X6_give (a2) (fn_X0_sizeIn ((u.1) (a1).toNatClampNeg)) (u)).2.2.2.1), .int ((fn_X6_give (a2) (fn_X0_sizeIn ((u.1) (a1).toNatClampNeg)) (u)).2.2.2.2)])), (cs, .inl (G.2.1 2, 6, .inr (.inl ((fn_X6_give (a2) (fn_X0_sizeIn ((u.1) (a1).toNatClampNeg)) (u)).2.1))))]) [0, 1] (by decide) rfl
    refine W.widen (k := 2) (n := 12) (Nat.le_of_ble_eq_true rfl) (Nat.le_of_ble_eq_true rfl) ?_
    refine vx_ret ?_
    exact W.iret (v := (fn_X6_give (a2) (fn_X0_sizeIn ((u.1) (a1).toNatClampNeg)) (u)).1) hx hb hr (fun t ht hW => ⟨⟨_, (fn_X6_give (a2) (fn_X0_sizeIn ((u.1) (a1).toNatClampNeg)) (u)).2, rfl, ⟨(fn_X6_give (a2) (fn_X0_sizeIn ((u.1) (a1).toNatClampNeg)) (u)).1, (fn_X6_give (a2) (fn_X0_sizeIn ((u.1) (a1).toNatClampNeg)) (u)).2, hw, rfl, rfl⟩, by rw [ht]; exact hP9, hD9, trivial⟩, hS.F ht⟩) hS.2.2 dc_X6_size_19
def fn_X6_turn (a1 : Int32) (a2 : Int32) (u : ky_BS) : Sum String (Int32 × ky_BS) :=
  ky_b (fn_X6_requireBoth (a1) (a2)) (fun r_0 w_0 => .inr ((fn_X6_give (a2) (fn_X0_turned ((u.1) (a1).toNatClampNeg)) (u)).1, (fn_X6_give (a2) (fn_X0_turned ((u.1) (a1).toNatClampNeg)) (u)).2))
set_option linter.constructorNameAsVariable false in
set_option maxHeartbeats 4000000 in
set_option maxRecDepth 100000 in
theorem mt_X6_turn (l : Launch) (hl9 : l.stackTraces = false) (G : ky_G) (x : Nat) (cs : Nat) (sc : Nat) (pf : Nat) (u : ky_BS) (a1 : Int32) (a2 : Int32) (sz : Nat)  : vx_Met l my_X6_turn (.code my_X6_turn prog_1_method_14_code 3 (some .int) :: ky_B) { frames := 8, cells := 2, slots := 12, locals := 123 } (ky_P G [.ref x, .int (a1), .int (a2)] (ky_WB G x cs sc pf u) sz (fun _ => True)) (ky_Q (S := ky_BS) G (va_A (ky_WB G x cs sc pf u) sz) (fun v u9 => ∃ (r9 : Int32) (w9 : ky_BS), fn_X6_turn a1 a2 u = .inr (r9, w9) ∧ v = some (.int r9) ∧ u9 = w9) (fun u9 => ky_WB G x cs sc pf u9) (fun _ _ => True)) (ky_X G (va_A (ky_WB G x cs sc pf u) sz) (fun E => fn_X6_turn a1 a2 u = .inl E) (ky_WB G x cs sc pf u)) 2 12 (va_A (ky_WB G x cs sc pf u) sz) := by
  refine ky_startX (by decide) (Nat.le_of_ble_eq_true rfl) (fun p e s m below meth c F hno hE A hAe hsz hA hfr hP hD hS hX ls hl => ?_)
  obtain ⟨hx, hb, hml, hown, hr, hlocks, hts⟩ := id F
  have hl : lv_has ls 3 [(0, .ref x), (1, .int (a1)), (2, .int (a2))] := hl
  have hP : va_P G.1 kcl [(x, .inr (0, [.ref cs, .ref sc, .ref pf, .int (u.2.1), .int (u.2.2.1), .int (u.2.2.2)])), (cs, .inl (G.2.1 2, 6, .inr (.inl (u.1))))] s.heap := hP
  have hD : va_D A [(x, .inr (0, [.ref cs, .ref sc, .ref pf, .int (u.2.1), .int (u.2.2.1), .int (u.2.2.2)])), (cs, .inl (G.2.1 2, 6, .inr (.inl (u.1))))] := hD
  have hw : fn_X6_turn a1 a2 u = _ := fn_X6_turn.eq_1 a1 a2 u
  refine lv_iload_n hx hb dc_X6_turn_0 rfl (lv_at hl 1 rfl) ?_
  refine lv_iload_n hx hb dc_X6_turn_1 rfl (lv_at hl 2 rfl) ?_
  refine ky_cSx (As := [.int (a1), .int (a2)]) (wr := [(x, .inr (0, [.ref cs, .ref sc, .ref pf, .int (u.2.1), .int (u.2.2.1), .int (u.2.2.2)])), (cs, .inl (G.2.1 2, 6, .inr (.inl (u.1))))]) F (hE.at hfr hS) hfr (mt_X6_requireBoth l hl9 G  (a1) (a2) s.heap.size ) ks_X6_81 ⟨⟨rfl, rfl⟩, by decide, by decide⟩ rfl hl.1 rfl (Nat.le_of_ble_eq_true rfl) ⟨Nat.le_of_ble_eq_true rfl, Nat.le_of_ble_eq_true rfl⟩ trivial hP hD hS hA [] [0, 1] rfl rfl (by decide) (by decide) (by decide) dc_X6_turn_2 ?_ ?_
  · intro E ce q9 H locs hp hP hD hS hz hk9 hc1 hc2 hc3
    have hP9 := hP.sub (ws' := [(x, .inr (0, [.ref cs, .ref sc, .ref pf, .int (u.2.1), .int (u.2.2.1), .int (u.2.2.2)])), (cs, .inl (G.2.1 2, 6, .inr (.inl (u.1))))]) [0, 1] rfl
    have hD9 := hD.sub (ws' := [(x, .inr (0, [.ref cs, .ref sc, .ref pf, .int (u.2.1), .int (u.2.2.1), .int (u.2.2.2)])), (cs, .inl (G.2.1 2, 6, .inr (.inl (u.1))))]) [0, 1] (by decide) rfl
    exact vx_out (fun x h => (hno x h).elim) hlocks hc1 hc2 hc3 (fun t ht hW => ⟨hw.trans (ky_bl hp), by rw [ht]; exact hP9, hD9, hS.F ht⟩) hS.2.2 (Nat.le_of_ble_eq_true rfl) (Nat.le_of_ble_eq_true rfl)
  · rintro v9 u9 H locs ⟨r_0, w_0, hf_0, rfl, rfl⟩ hP hD hS - hz hk9
    have hw := hw.trans (ky_br hf_0)
    have hP : va_P G.1 kcl [(x, .inr (0, [.ref cs, .ref sc, .ref pf, .int (u.2.1), .int (u.2.2.1), .int (u.2.2.2)])), (cs, .inl (G.2.1 2, 6, .inr (.inl (u.1))))] H := hP
    have hD : va_D A [(x, .inr (0, [.ref cs, .ref sc, .ref pf, .int (u.2.1), .int (u.2.2.1), .int (u.2.2.2)])), (cs, .inl (G.2.1 2, 6, .inr (.inl (u.1))))] := hD
    refine W.widen (k := 2) (n := 12) (Nat.le_refl _) (Nat.le_refl _) ?_
    refine lv_aload_n hx hb dc_X6_turn_5 rfl (lv_at hl 0 rfl) ?_
    refine lv_iload_n hx hb dc_X6_turn_6 rfl (lv_at hl 2 rfl) ?_
    refine lv_aload_n hx hb dc_X6_turn_7 rfl (lv_at hl 0 rfl) ?_
    refine va_get (D := G.1) (ci := 0) (v := .ref cs) (C := RX6) (T := TX6) (N := 6) hx hb hts ki_X6 hown hE.1 hP 0 rfl rfl 0 (by decide) (hts _ kw_1_98) (fun _ h9 => h9) rfl dc_X6_turn_8 ?_
    refine lv_iload_n hx hb dc_X6_turn_11 rfl (lv_at hl 1 rfl) ?_
    refine va_lald hx hb hE.1 hP 1 2 rfl rfl (rq_both hf_0).1 dc_X6_turn_12 ?_
    refine ky_cS0 (As := [.long ((u.1) (a1).toNatClampNeg)]) F (mt_X0_turned l ((u.1) (a1).toNatClampNeg)) ks_X6_99 ⟨⟨rfl, rfl⟩, by decide, by decide⟩ rfl hl.1 rfl (Nat.le_of_ble_eq_true rfl) ⟨Nat.le_of_ble_eq_true rfl, Nat.le_of_ble_eq_true rfl⟩ dc_X6_turn_13 ?_
    refine ky_cVh (As := [.int (a2), .long (fn_X0_turned ((u.1) (a1).toNatClampNeg))]) (wr := []) F (hE.at hfr hS) hfr (mt_X6_give l G (x) (cs) (sc) (pf) (u) (a2) (fn_X0_turned ((u.1) (a1).toNatClampNeg)) H.size (rq_both hf_0).2) kv_X6_37 ⟨⟨rfl, rfl⟩, by decide, by decide⟩ rfl hl.1 rfl (Nat.le_of_ble_eq_true rfl) ⟨Nat.le_of_ble_eq_true rfl, Nat.le_of_ble_eq_true rfl⟩ (va_recv hE.1 hP (ci := 0) (q0 := 0) rfl rfl) trivial hP hD hS hA [0, 1] [] rfl rfl (by decide) (by decide) (by decide) dc_X6_turn_16 ?_
    rintro v9 u9 H locs ⟨rfl, rfl⟩ hP hD hS - hz hk9
    have hP : va_P G.1 kcl [(x, .inr (0, [.ref cs, .ref sc, .ref pf, .int ((fn_X6_give (a2) (fn_X0_turned ((u.1) (a1).toNatClampNeg)) (u)).2.2.1), .int ((fn_X6_give (a2) (fn_X0_turned ((u.1) (a1).toNatClampNeg)) (u)).2.2.2.1), .int ((fn_X6_give (a2) (fn_X0_turned ((u.1) (a1).toNatClampNeg)) (u)).2.2.2.2)])), (cs, .inl (G.2.1 2, 6, .inr (.inl ((fn_X6_give (a2) (fn_X0_turned ((u.1) (a1).toNatClampNeg)) (u)).2.1))))] H := hP
    have hD : va_D A [(x, .inr (0, [.ref cs, .ref sc, .ref pf, .int ((fn_X6_give (a2) (fn_X0_turned ((u.1) (a1).toNatClampNeg)) (u)).2.2.1), .int ((fn_X6_give (a2) (fn_X0_turned ((u.1) (a1).toNatClampNeg)) (u)).2.2.2.1), .int ((fn_X6_give (a2) (fn_X0_turned ((u.1) (a1).toNatClampNeg)) (u)).2.2.2.2)])), (cs, .inl (G.2.1 2, 6, .inr (.inl ((fn_X6_give (a2) (fn_X0_turned ((u.1) (a1).toNatClampNeg)) (u)).2.1))))] := hD
    refine W.widen (k := 2) (n := 12) (Nat.le_refl _) (Nat.le_refl _) ?_
    have hP9 := hP.sub (ws' := [(x, .inr (0, [.ref cs, .ref sc, .ref pf, .int ((fn_X6_give (a2) (fn_X0_turned ((u.1) (a1).toNatClampNeg)) (u)).2.2.1), .int ((fn_X6_give (a2) (fn_X0_turned ((u.1) (a1).toNatClampNeg)) (u)).2.2.2.1), .int ((fn_X6_give (a2) (fn_X0_turned ((u.1) (a1).toNatClampNeg)) (u)).2.2.2.2)])), (cs, .inl (G.2.1 2, 6, .inr (.inl ((fn_X6_give (a2) (fn_X0_turned ((u.1) (a1).toNatClampNeg)) (u)).2.1))))]) [0, 1] rfl
    have hD9 := hD.sub (ws' := [(x, .inr (0, [.ref cs, .ref sc, .ref pf, .int ((fn_X6_give (a2) (fn_X0_turned ((u.1) (a1).toNatClampNeg)) (u)).2.2.1), .int ((fn_X6_give (a2) (fn_X0_turned ((u.1) (a1).toNatClampNeg)) (u)).2.2.2.1), .int ((fn_X6_give (a2) (fn_X0_turned ((u.1) (a1).toNatClampNeg)) (u)).2.2.2.2)])), (cs, .inl (G.2.1 2, 6, .inr (.inl ((fn_X6_give (a2) (fn_X0_turned ((u.1) (a1).toNatClampNeg)) (u)).2.1))))]) [0, 1] (by decide) rfl
    refine W.widen (k := 2) (n := 12) (Nat.le_of_ble_eq_true rfl) (Nat.le_of_ble_eq_true rfl) ?_
    refine vx_ret ?_
    exact W.iret (v := (fn_X6_give (a2) (fn_X0_turned ((u.1) (a1).toNatClampNeg)) (u)).1) hx hb hr (fun t ht hW => ⟨⟨_, (fn_X6_give (a2) (fn_X0_turned ((u.1) (a1).toNatClampNeg)) (u)).2, rfl, ⟨(fn_X6_give (a2) (fn_X0_turned ((u.1) (a1).toNatClampNeg)) (u)).1, (fn_X6_give (a2) (fn_X0_turned ((u.1) (a1).toNatClampNeg)) (u)).2, hw, rfl, rfl⟩, by rw [ht]; exact hP9, hD9, trivial⟩, hS.F ht⟩) hS.2.2 dc_X6_turn_19
def fn_X6_sign (a1 : Int32) (a2 : Int32) (u : ky_BS) : Sum String (Int32 × ky_BS) :=
  ky_b (fn_X6_requireBoth (a1) (a2)) (fun r_0 w_0 => .inr ((fn_X6_give (a2) (fn_X4_signFrom ((u.1) (a1).toNatClampNeg)) (u)).1, (fn_X6_give (a2) (fn_X4_signFrom ((u.1) (a1).toNatClampNeg)) (u)).2))
set_option linter.constructorNameAsVariable false in
set_option maxHeartbeats 4000000 in
set_option maxRecDepth 100000 in
theorem mt_X6_sign (l : Launch) (hl9 : l.stackTraces = false) (G : ky_G) (x : Nat) (cs : Nat) (sc : Nat) (pf : Nat) (u : ky_BS) (a1 : Int32) (a2 : Int32) (sz : Nat)  : vx_Met l my_X6_sign (.code my_X6_sign prog_1_method_15_code 3 (some .int) :: ky_B) { frames := 8, cells := 2, slots := 12, locals := 123 } (ky_P G [.ref x, .int (a1), .int (a2)] (ky_WB G x cs sc pf u) sz (fun _ => True)) (ky_Q (S := ky_BS) G (va_A (ky_WB G x cs sc pf u) sz) (fun v u9 => ∃ (r9 : Int32) (w9 : ky_BS), fn_X6_sign a1 a2 u = .inr (r9, w9) ∧ v = some (.int r9) ∧ u9 = w9) (fun u9 => ky_WB G x cs sc pf u9) (fun _ _ => True)) (ky_X G (va_A (ky_WB G x cs sc pf u) sz) (fun E => fn_X6_sign a1 a2 u = .inl E) (ky_WB G x cs sc pf u)) 2 12 (va_A (ky_WB G x cs sc pf u) sz) := by
  refine ky_startX (by decide) (Nat.le_of_ble_eq_true rfl) (fun p e s m below meth c F hno hE A hAe hsz hA hfr hP hD hS hX ls hl => ?_)
  obtain ⟨hx, hb, hml, hown, hr, hlocks, hts⟩ := id F
  have hl : lv_has ls 3 [(0, .ref x), (1, .int (a1)), (2, .int (a2))] := hl
  have hP : va_P G.1 kcl [(x, .inr (0, [.ref cs, .ref sc, .ref pf, .int (u.2.1), .int (u.2.2.1), .int (u.2.2.2)])), (cs, .inl (G.2.1 2, 6, .inr (.inl (u.1))))] s.heap := hP
  have hD : va_D A [(x, .inr (0, [.ref cs, .ref sc, .ref pf, .int (u.2.1), .int (u.2.2.1), .int (u.2.2.2)])), (cs, .inl (G.2.1 2, 6, .inr (.inl (u.1))))] := hD
  have hw : fn_X6_sign a1 a2 u = _ := fn_X6_sign.eq_1 a1 a2 u
  refine lv_iload_n hx hb dc_X6_sign_0 rfl (lv_at hl 1 rfl) ?_
  refine lv_iload_n hx hb dc_X6_sign_1 rfl (lv_at hl 2 rfl) ?_
  refine ky_cSx (As := [.int (a1), .int (a2)]) (wr := [(x, .inr (0, [.ref cs, .ref sc, .ref pf, .int (u.2.1), .int (u.2.2.1), .int (u.2.2.2)])), (cs, .inl (G.2.1 2, 6, .inr (.inl (u.1))))]) F (hE.at hfr hS) hfr (mt_X6_requireBoth l hl9 G  (a1) (a2) s.heap.size ) ks_X6_81 ⟨⟨rfl, rfl⟩, by decide, by decide⟩ rfl hl.1 rfl (Nat.le_of_ble_eq_true rfl) ⟨Nat.le_of_ble_eq_true rfl, Nat.le_of_ble_eq_true rfl⟩ trivial hP hD hS hA [] [0, 1] rfl rfl (by decide) (by decide) (by decide) dc_X6_sign_2 ?_ ?_
  · intro E ce q9 H locs hp hP hD hS hz hk9 hc1 hc2 hc3
    have hP9 := hP.sub (ws' := [(x, .inr (0, [.ref cs, .ref sc, .ref pf, .int (u.2.1), .int (u.2.2.1), .int (u.2.2.2)])), (cs, .inl (G.2.1 2, 6, .inr (.inl (u.1))))]) [0, 1] rfl
    have hD9 := hD.sub (ws' := [(x, .inr (0, [.ref cs, .ref sc, .ref pf, .int (u.2.1), .int (u.2.2.1), .int (u.2.2.2)])), (cs, .inl (G.2.1 2, 6, .inr (.inl (u.1))))]) [0, 1] (by decide) rfl
    exact vx_out (fun x h => (hno x h).elim) hlocks hc1 hc2 hc3 (fun t ht hW => ⟨hw.trans (ky_bl hp), by rw [ht]; exact hP9, hD9, hS.F ht⟩) hS.2.2 (Nat.le_of_ble_eq_true rfl) (Nat.le_of_ble_eq_true rfl)
  · rintro v9 u9 H locs ⟨r_0, w_0, hf_0, rfl, rfl⟩ hP hD hS - hz hk9
    have hw := hw.trans (ky_br hf_0)
    have hP : va_P G.1 kcl [(x, .inr (0, [.ref cs, .ref sc, .ref pf, .int (u.2.1), .int (u.2.2.1), .int (u.2.2.2)])), (cs, .inl (G.2.1 2, 6, .inr (.inl (u.1))))] H := hP
    have hD : va_D A [(x, .inr (0, [.ref cs, .ref sc, .ref pf, .int (u.2.1), .int (u.2.2.1), .int (u.2.2.2)])), (cs, .inl (G.2.1 2, 6, .inr (.inl (u.1))))] := hD
    refine W.widen (k := 2) (n := 12) (Nat.le_refl _) (Nat.le_refl _) ?_
    refine lv_aload_n hx hb dc_X6_sign_5 rfl (lv_at hl 0 rfl) ?_
    refine lv_iload_n hx hb dc_X6_sign_6 rfl (lv_at hl 2 rfl) ?_
    refine lv_aload_n hx hb dc_X6_sign_7 rfl (lv_at hl 0 rfl) ?_
    refine va_get (D := G.1) (ci := 0) (v := .ref cs) (C := RX6) (T := TX6) (N := 6) hx hb hts ki_X6 hown hE.1 hP 0 rfl rfl 0 (by decide) (hts _ kw_1_98) (fun _ h9 => h9) rfl dc_X6_sign_8 ?_
    refine lv_iload_n hx hb dc_X6_sign_11 rfl (lv_at hl 1 rfl) ?_
    refine va_lald hx hb hE.1 hP 1 2 rfl rfl (rq_both hf_0).1 dc_X6_sign_12 ?_
    refine ky_cS0 (As := [.long ((u.1) (a1).toNatClampNeg)]) F (mt_X4_signFrom l ((u.1) (a1).toNatClampNeg)) ks_X6_102 ⟨⟨rfl, rfl⟩, by decide, by decide⟩ rfl hl.1 rfl (Nat.le_of_ble_eq_true rfl) ⟨Nat.le_of_ble_eq_true rfl, Nat.le_of_ble_eq_true rfl⟩ dc_X6_sign_13 ?_
    refine ky_cVh (As := [.int (a2), .long (fn_X4_signFrom ((u.1) (a1).toNatClampNeg))]) (wr := []) F (hE.at hfr hS) hfr (mt_X6_give l G (x) (cs) (sc) (pf) (u) (a2) (fn_X4_signFrom ((u.1) (a1).toNatClampNeg)) H.size (rq_both hf_0).2) kv_X6_37 ⟨⟨rfl, rfl⟩, by decide, by decide⟩ rfl hl.1 rfl (Nat.le_of_ble_eq_true rfl) ⟨Nat.le_of_ble_eq_true rfl, Nat.le_of_ble_eq_true rfl⟩ (va_recv hE.1 hP (ci := 0) (q0 := 0) rfl rfl) trivial hP hD hS hA [0, 1] [] rfl rfl (by decide) (by decide) (by decide) dc_X6_sign_16 ?_
    rintro v9 u9 H locs ⟨rfl, rfl⟩ hP hD hS - hz hk9
    have hP : va_P G.1 kcl [(x, .inr (0, [.ref cs, .ref sc, .ref pf, .int ((fn_X6_give (a2) (fn_X4_signFrom ((u.1) (a1).toNatClampNeg)) (u)).2.2.1), .int ((fn_X6_give (a2) (fn_X4_signFrom ((u.1) (a1).toNatClampNeg)) (u)).2.2.2.1), .int ((fn_X6_give (a2) (fn_X4_signFrom ((u.1) (a1).toNatClampNeg)) (u)).2.2.2.2)])), (cs, .inl (G.2.1 2, 6, .inr (.inl ((fn_X6_give (a2) (fn_X4_signFrom ((u.1) (a1).toNatClampNeg)) (u)).2.1))))] H := hP
    have hD : va_D A [(x, .inr (0, [.ref cs, .ref sc, .ref pf, .int ((fn_X6_give (a2) (fn_X4_signFrom ((u.1) (a1).toNatClampNeg)) (u)).2.2.1), .int ((fn_X6_give (a2) (fn_X4_signFrom ((u.1) (a1).toNatClampNeg)) (u)).2.2.2.1), .int ((fn_X6_give (a2) (fn_X4_signFrom ((u.1) (a1).toNatClampNeg)) (u)).2.2.2.2)])), (cs, .inl (G.2.1 2, 6, .inr (.inl ((fn_X6_give (a2) (fn_X4_signFrom ((u.1) (a1).toNatClampNeg)) (u)).2.1))))] := hD
    refine W.widen (k := 2) (n := 12) (Nat.le_refl _) (Nat.le_refl _) ?_
    have hP9 := hP.sub (ws' := [(x, .inr (0, [.ref cs, .ref sc, .ref pf, .int ((fn_X6_give (a2) (fn_X4_signFrom ((u.1) (a1).toNatClampNeg)) (u)).2.2.1), .int ((fn_X6_give (a2) (fn_X4_signFrom ((u.1) (a1).toNatClampNeg)) (u)).2.2.2.1), .int ((fn_X6_give (a2) (fn_X4_signFrom ((u.1) (a1).toNatClampNeg)) (u)).2.2.2.2)])), (cs, .inl (G.2.1 2, 6, .inr (.inl ((fn_X6_give (a2) (fn_X4_signFrom ((u.1) (a1).toNatClampNeg)) (u)).2.1))))]) [0, 1] rfl
    have hD9 := hD.sub (ws' := [(x, .inr (0, [.ref cs, .ref sc, .ref pf, .int ((fn_X6_give (a2) (fn_X4_signFrom ((u.1) (a1).toNatClampNeg)) (u)).2.2.1), .int ((fn_X6_give (a2) (fn_X4_signFrom ((u.1) (a1).toNatClampNeg)) (u)).2.2.2.1), .int ((fn_X6_give (a2) (fn_X4_signFrom ((u.1) (a1).toNatClampNeg)) (u)).2.2.2.2)])), (cs, .inl (G.2.1 2, 6, .inr (.inl ((fn_X6_give (a2) (fn_X4_signFrom ((u.1) (a1).toNatClampNeg)) (u)).2.1))))]) [0, 1] (by decide) rfl
    refine W.widen (k := 2) (n := 12) (Nat.le_of_ble_eq_true rfl) (Nat.le_of_ble_eq_true rfl) ?_
    refine vx_ret ?_
    exact W.iret (v := (fn_X6_give (a2) (fn_X4_signFrom ((u.1) (a1).toNatClampNeg)) (u)).1) hx hb hr (fun t ht hW => ⟨⟨_, (fn_X6_give (a2) (fn_X4_signFrom ((u.1) (a1).toNatClampNeg)) (u)).2, rfl, ⟨(fn_X6_give (a2) (fn_X4_signFrom ((u.1) (a1).toNatClampNeg)) (u)).1, (fn_X6_give (a2) (fn_X4_signFrom ((u.1) (a1).toNatClampNeg)) (u)).2, hw, rfl, rfl⟩, by rw [ht]; exact hP9, hD9, trivial⟩, hS.F ht⟩) hS.2.2 dc_X6_sign_19
def fn_X6_up (a1 : Int32) (a2 : Int32) (u : ky_BS) : Sum String (Int32 × ky_BS) :=
  ky_b (fn_X6_requireBoth (a1) (a2)) (fun r_0 w_0 => .inr ((fn_X6_give (a2) (fn_X4_upFrom ((u.1) (a1).toNatClampNeg)) (u)).1, (fn_X6_give (a2) (fn_X4_upFrom ((u.1) (a1).toNatClampNeg)) (u)).2))
set_option linter.constructorNameAsVariable false in
set_option maxHeartbeats 4000000 in
set_option maxRecDepth 100000 in
theorem mt_X6_up (l : Launch) (hl9 : l.stackTraces = false) (G : ky_G) (x : Nat) (cs : Nat) (sc : Nat) (pf : Nat) (u : ky_BS) (a1 : Int32) (a2 : Int32) (sz : Nat)  : vx_Met l my_X6_up (.code my_X6_up prog_1_method_16_code 3 (some .int) :: ky_B) { frames := 8, cells := 2, slots := 12, locals := 123 } (ky_P G [.ref x, .int (a1), .int (a2)] (ky_WB G x cs sc pf u) sz (fun _ => True)) (ky_Q (S := ky_BS) G (va_A (ky_WB G x cs sc pf u) sz) (fun v u9 => ∃ (r9 : Int32) (w9 : ky_BS), fn_X6_up a1 a2 u = .inr (r9, w9) ∧ v = some (.int r9) ∧ u9 = w9) (fun u9 => ky_WB G x cs sc pf u9) (fun _ _ => True)) (ky_X G (va_A (ky_WB G x cs sc pf u) sz) (fun E => fn_X6_up a1 a2 u = .inl E) (ky_WB G x cs sc pf u)) 2 12 (va_A (ky_WB G x cs sc pf u) sz) := by
  refine ky_startX (by decide) (Nat.le_of_ble_eq_true rfl) (fun p e s m below meth c F hno hE A hAe hsz hA hfr hP hD hS hX ls hl => ?_)
  obtain ⟨hx, hb, hml, hown, hr, hlocks, hts⟩ := id F
  have hl : lv_has ls 3 [(0, .ref x), (1, .int (a1)), (2, .int (a2))] := hl
  have hP : va_P G.1 kcl [(x, .inr (0, [.ref cs, .ref sc, .ref pf, .int (u.2.1), .int (u.2.2.1), .int (u.2.2.2)])), (cs, .inl (G.2.1 2, 6, .inr (.inl (u.1))))] s.heap := hP
  have hD : va_D A [(x, .inr (0, [.ref cs, .ref sc, .ref pf, .int (u.2.1), .int (u.2.2.1), .int (u.2.2.2)])), (cs, .inl (G.2.1 2, 6, .inr (.inl (u.1))))] := hD
  have hw : fn_X6_up a1 a2 u = _ := fn_X6_up.eq_1 a1 a2 u
  refine lv_iload_n hx hb dc_X6_up_0 rfl (lv_at hl 1 rfl) ?_
  refine lv_iload_n hx hb dc_X6_up_1 rfl (lv_at hl 2 rfl) ?_
  refine ky_cSx (As := [.int (a1), .int (a2)]) (wr := [(x, .inr (0, [.ref cs, .ref sc, .ref pf, .int (u.2.1), .int (u.2.2.1), .int (u.2.2.2)])), (cs, .inl (G.2.1 2, 6, .inr (.inl (u.1))))]) F (hE.at hfr hS) hfr (mt_X6_requireBoth l hl9 G  (a1) (a2) s.heap.size ) ks_X6_81 ⟨⟨rfl, rfl⟩, by decide, by decide⟩ rfl hl.1 rfl (Nat.le_of_ble_eq_true rfl) ⟨Nat.le_of_ble_eq_true rfl, Nat.le_of_ble_eq_true rfl⟩ trivial hP hD hS hA [] [0, 1] rfl rfl (by decide) (by decide) (by decide) dc_X6_up_2 ?_ ?_
  · intro E ce q9 H locs hp hP hD hS hz hk9 hc1 hc2 hc3
    have hP9 := hP.sub (ws' := [(x, .inr (0, [.ref cs, .ref sc, .ref pf, .int (u.2.1), .int (u.2.2.1), .int (u.2.2.2)])), (cs, .inl (G.2.1 2, 6, .inr (.inl (u.1))))]) [0, 1] rfl
    have hD9 := hD.sub (ws' := [(x, .inr (0, [.ref cs, .ref sc, .ref pf, .int (u.2.1), .int (u.2.2.1), .int (u.2.2.2)])), (cs, .inl (G.2.1 2, 6, .inr (.inl (u.1))))]) [0, 1] (by decide) rfl
    exact vx_out (fun x h => (hno x h).elim) hlocks hc1 hc2 hc3 (fun t ht hW => ⟨hw.trans (ky_bl hp), by rw [ht]; exact hP9, hD9, hS.F ht⟩) hS.2.2 (Nat.le_of_ble_eq_true rfl) (Nat.le_of_ble_eq_true rfl)
  · rintro v9 u9 H locs ⟨r_0, w_0, hf_0, rfl, rfl⟩ hP hD hS - hz hk9
    have hw := hw.trans (ky_br hf_0)
    have hP : va_P G.1 kcl [(x, .inr (0, [.ref cs, .ref sc, .ref pf, .int (u.2.1), .int (u.2.2.1), .int (u.2.2.2)])), (cs, .inl (G.2.1 2, 6, .inr (.inl (u.1))))] H := hP
    have hD : va_D A [(x, .inr (0, [.ref cs, .ref sc, .ref pf, .int (u.2.1), .int (u.2.2.1), .int (u.2.2.2)])), (cs, .inl (G.2.1 2, 6, .inr (.inl (u.1))))] := hD
    refine W.widen (k := 2) (n := 12) (Nat.le_refl _) (Nat.le_refl _) ?_
    refine lv_aload_n hx hb dc_X6_up_5 rfl (lv_at hl 0 rfl) ?_
    refine lv_iload_n hx hb dc_X6_up_6 rfl (lv_at hl 2 rfl) ?_
    refine lv_aload_n hx hb dc_X6_up_7 rfl (lv_at hl 0 rfl) ?_
    refine va_get (D := G.1) (ci := 0) (v := .ref cs) (C := RX6) (T := TX6) (N := 6) hx hb hts ki_X6 hown hE.1 hP 0 rfl rfl 0 (by decide) (hts _ kw_1_98) (fun _ h9 => h9) rfl dc_X6_up_8 ?_
    refine lv_iload_n hx hb dc_X6_up_11 rfl (lv_at hl 1 rfl) ?_
    refine va_lald hx hb hE.1 hP 1 2 rfl rfl (rq_both hf_0).1 dc_X6_up_12 ?_
    refine ky_cS0 (As := [.long ((u.1) (a1).toNatClampNeg)]) F (mt_X4_upFrom l ((u.1) (a1).toNatClampNeg)) ks_X6_105 ⟨⟨rfl, rfl⟩, by decide, by decide⟩ rfl hl.1 rfl (Nat.le_of_ble_eq_true rfl) ⟨Nat.le_of_ble_eq_true rfl, Nat.le_of_ble_eq_true rfl⟩ dc_X6_up_13 ?_
    refine ky_cVh (As := [.int (a2), .long (fn_X4_upFrom ((u.1) (a1).toNatClampNeg))]) (wr := []) F (hE.at hfr hS) hfr (mt_X6_give l G (x) (cs) (sc) (pf) (u) (a2) (fn_X4_upFrom ((u.1) (a1).toNatClampNeg)) H.size (rq_both hf_0).2) kv_X6_37 ⟨⟨rfl, rfl⟩, by decide, by decide⟩ rfl hl.1 rfl (Nat.le_of_ble_eq_true rfl) ⟨Nat.le_of_ble_eq_true rfl, Nat.le_of_ble_eq_true rfl⟩ (va_recv hE.1 hP (ci := 0) (q0 := 0) rfl rfl) trivial hP hD hS hA [0, 1] [] rfl rfl (by decide) (by decide) (by decide) dc_X6_up_16 ?_
    rintro v9 u9 H locs ⟨rfl, rfl⟩ hP hD hS - hz hk9
    have hP : va_P G.1 kcl [(x, .inr (0, [.ref cs, .ref sc, .ref pf, .int ((fn_X6_give (a2) (fn_X4_upFrom ((u.1) (a1).toNatClampNeg)) (u)).2.2.1), .int ((fn_X6_give (a2) (fn_X4_upFrom ((u.1) (a1).toNatClampNeg)) (u)).2.2.2.1), .int ((fn_X6_give (a2) (fn_X4_upFrom ((u.1) (a1).toNatClampNeg)) (u)).2.2.2.2)])), (cs, .inl (G.2.1 2, 6, .inr (.inl ((fn_X6_give (a2) (fn_X4_upFrom ((u.1) (a1).toNatClampNeg)) (u)).2.1))))] H := hP
    have hD : va_D A [(x, .inr (0, [.ref cs, .ref sc, .ref pf, .int ((fn_X6_give (a2) (fn_X4_upFrom ((u.1) (a1).toNatClampNeg)) (u)).2.2.1), .int ((fn_X6_give (a2) (fn_X4_upFrom ((u.1) (a1).toNatClampNeg)) (u)).2.2.2.1), .int ((fn_X6_give (a2) (fn_X4_upFrom ((u.1) (a1).toNatClampNeg)) (u)).2.2.2.2)])), (cs, .inl (G.2.1 2, 6, .inr (.inl ((fn_X6_give (a2) (fn_X4_upFrom ((u.1) (a1).toNatClampNeg)) (u)).2.1))))] := hD
    refine W.widen (k := 2) (n := 12) (Nat.le_refl _) (Nat.le_refl _) ?_
    have hP9 := hP.sub (ws' := [(x, .inr (0, [.ref cs, .ref sc, .ref pf, .int ((fn_X6_give (a2) (fn_X4_upFrom ((u.1) (a1).toNatClampNeg)) (u)).2.2.1), .int ((fn_X6_give (a2) (fn_X4_upFrom ((u.1) (a1).toNatClampNeg)) (u)).2.2.2.1), .int ((fn_X6_give (a2) (fn_X4_upFrom ((u.1) (a1).toNatClampNeg)) (u)).2.2.2.2)])), (cs, .inl (G.2.1 2, 6, .inr (.inl ((fn_X6_give (a2) (fn_X4_upFrom ((u.1) (a1).toNatClampNeg)) (u)).2.1))))]) [0, 1] rfl
    have hD9 := hD.sub (ws' := [(x, .inr (0, [.ref cs, .ref sc, .ref pf, .int ((fn_X6_give (a2) (fn_X4_upFrom ((u.1) (a1).toNatClampNeg)) (u)).2.2.1), .int ((fn_X6_give (a2) (fn_X4_upFrom ((u.1) (a1).toNatClampNeg)) (u)).2.2.2.1), .int ((fn_X6_give (a2) (fn_X4_upFrom ((u.1) (a1).toNatClampNeg)) (u)).2.2.2.2)])), (cs, .inl (G.2.1 2, 6, .inr (.inl ((fn_X6_give (a2) (fn_X4_upFrom ((u.1) (a1).toNatClampNeg)) (u)).2.1))))]) [0, 1] (by decide) rfl
    refine W.widen (k := 2) (n := 12) (Nat.le_of_ble_eq_true rfl) (Nat.le_of_ble_eq_true rfl) ?_
    refine vx_ret ?_
    exact W.iret (v := (fn_X6_give (a2) (fn_X4_upFrom ((u.1) (a1).toNatClampNeg)) (u)).1) hx hb hr (fun t ht hW => ⟨⟨_, (fn_X6_give (a2) (fn_X4_upFrom ((u.1) (a1).toNatClampNeg)) (u)).2, rfl, ⟨(fn_X6_give (a2) (fn_X4_upFrom ((u.1) (a1).toNatClampNeg)) (u)).1, (fn_X6_give (a2) (fn_X4_upFrom ((u.1) (a1).toNatClampNeg)) (u)).2, hw, rfl, rfl⟩, by rw [ht]; exact hP9, hD9, trivial⟩, hS.F ht⟩) hS.2.2 dc_X6_up_19
def fn_X6_down (a1 : Int32) (a2 : Int32) (u : ky_BS) : Sum String (Int32 × ky_BS) :=
  ky_b (fn_X6_requireBoth (a1) (a2)) (fun r_0 w_0 => .inr ((fn_X6_give (a2) (fn_X4_downFrom ((u.1) (a1).toNatClampNeg)) (u)).1, (fn_X6_give (a2) (fn_X4_downFrom ((u.1) (a1).toNatClampNeg)) (u)).2))
set_option linter.constructorNameAsVariable false in
set_option maxHeartbeats 4000000 in
set_option maxRecDepth 100000 in
theorem mt_X6_down (l : Launch) (hl9 : l.stackTraces = false) (G : ky_G) (x : Nat) (cs : Nat) (sc : Nat) (pf : Nat) (u : ky_BS) (a1 : Int32) (a2 : Int32) (sz : Nat)  : vx_Met l my_X6_down (.code my_X6_down prog_1_method_17_code 3 (some .int) :: ky_B) { frames := 8, cells := 2, slots := 12, locals := 123 } (ky_P G [.ref x, .int (a1), .int (a2)] (ky_WB G x cs sc pf u) sz (fun _ => True)) (ky_Q (S := ky_BS) G (va_A (ky_WB G x cs sc pf u) sz) (fun v u9 => ∃ (r9 : Int32) (w9 : ky_BS), fn_X6_down a1 a2 u = .inr (r9, w9) ∧ v = some (.int r9) ∧ u9 = w9) (fun u9 => ky_WB G x cs sc pf u9) (fun _ _ => True)) (ky_X G (va_A (ky_WB G x cs sc pf u) sz) (fun E => fn_X6_down a1 a2 u = .inl E) (ky_WB G x cs sc pf u)) 2 12 (va_A (ky_WB G x cs sc pf u) sz) := by
  refine ky_startX (by decide) (Nat.le_of_ble_eq_true rfl) (fun p e s m below meth c F hno hE A hAe hsz hA hfr hP hD hS hX ls hl => ?_)
  obtain ⟨hx, hb, hml, hown, hr, hlocks, hts⟩ := id F
  have hl : lv_has ls 3 [(0, .ref x), (1, .int (a1)), (2, .int (a2))] := hl
  have hP : va_P G.1 kcl [(x, .inr (0, [.ref cs, .ref sc, .ref pf, .int (u.2.1), .int (u.2.2.1), .int (u.2.2.2)])), (cs, .inl (G.2.1 2, 6, .inr (.inl (u.1))))] s.heap := hP
  have hD : va_D A [(x, .inr (0, [.ref cs, .ref sc, .ref pf, .int (u.2.1), .int (u.2.2.1), .int (u.2.2.2)])), (cs, .inl (G.2.1 2, 6, .inr (.inl (u.1))))] := hD
  have hw : fn_X6_down a1 a2 u = _ := fn_X6_down.eq_1 a1 a2 u
  refine lv_iload_n hx hb dc_X6_down_0 rfl (lv_at hl 1 rfl) ?_
  refine lv_iload_n hx hb dc_X6_down_1 rfl (lv_at hl 2 rfl) ?_
  refine ky_cSx (As := [.int (a1), .int (a2)]) (wr := [(x, .inr (0, [.ref cs, .ref sc, .ref pf, .int (u.2.1), .int (u.2.2.1), .int (u.2.2.2)])), (cs, .inl (G.2.1 2, 6, .inr (.inl (u.1))))]) F (hE.at hfr hS) hfr (mt_X6_requireBoth l hl9 G  (a1) (a2) s.heap.size ) ks_X6_81 ⟨⟨rfl, rfl⟩, by decide, by decide⟩ rfl hl.1 rfl (Nat.le_of_ble_eq_true rfl) ⟨Nat.le_of_ble_eq_true rfl, Nat.le_of_ble_eq_true rfl⟩ trivial hP hD hS hA [] [0, 1] rfl rfl (by decide) (by decide) (by decide) dc_X6_down_2 ?_ ?_
  · intro E ce q9 H locs hp hP hD hS hz hk9 hc1 hc2 hc3
    have hP9 := hP.sub (ws' := [(x, .inr (0, [.ref cs, .ref sc, .ref pf, .int (u.2.1), .int (u.2.2.1), .int (u.2.2.2)])), (cs, .inl (G.2.1 2, 6, .inr (.inl (u.1))))]) [0, 1] rfl
    have hD9 := hD.sub (ws' := [(x, .inr (0, [.ref cs, .ref sc, .ref pf, .int (u.2.1), .int (u.2.2.1), .int (u.2.2.2)])), (cs, .inl (G.2.1 2, 6, .inr (.inl (u.1))))]) [0, 1] (by decide) rfl
    exact vx_out (fun x h => (hno x h).elim) hlocks hc1 hc2 hc3 (fun t ht hW => ⟨hw.trans (ky_bl hp), by rw [ht]; exact hP9, hD9, hS.F ht⟩) hS.2.2 (Nat.le_of_ble_eq_true rfl) (Nat.le_of_ble_eq_true rfl)
  · rintro v9 u9 H locs ⟨r_0, w_0, hf_0, rfl, rfl⟩ hP hD hS - hz hk9
    have hw := hw.trans (ky_br hf_0)
    have hP : va_P G.1 kcl [(x, .inr (0, [.ref cs, .ref sc, .ref pf, .int (u.2.1), .int (u.2.2.1), .int (u.2.2.2)])), (cs, .inl (G.2.1 2, 6, .inr (.inl (u.1))))] H := hP
    have hD : va_D A [(x, .inr (0, [.ref cs, .ref sc, .ref pf, .int (u.2.1), .int (u.2.2.1), .int (u.2.2.2)])), (cs, .inl (G.2.1 2, 6, .inr (.inl (u.1))))] := hD
    refine W.widen (k := 2) (n := 12) (Nat.le_refl _) (Nat.le_refl _) ?_
    refine lv_aload_n hx hb dc_X6_down_5 rfl (lv_at hl 0 rfl) ?_
    refine lv_iload_n hx hb dc_X6_down_6 rfl (lv_at hl 2 rfl) ?_
    refine lv_aload_n hx hb dc_X6_down_7 rfl (lv_at hl 0 rfl) ?_
    refine va_get (D := G.1) (ci := 0) (v := .ref cs) (C := RX6) (T := TX6) (N := 6) hx hb hts ki_X6 hown hE.1 hP 0 rfl rfl 0 (by decide) (hts _ kw_1_98) (fun _ h9 => h9) rfl dc_X6_down_8 ?_
    refine lv_iload_n hx hb dc_X6_down_11 rfl (lv_at hl 1 rfl) ?_
    refine va_lald hx hb hE.1 hP 1 2 rfl rfl (rq_both hf_0).1 dc_X6_down_12 ?_
    refine ky_cS0 (As := [.long ((u.1) (a1).toNatClampNeg)]) F (mt_X4_downFrom l ((u.1) (a1).toNatClampNeg)) ks_X6_108 ⟨⟨rfl, rfl⟩, by decide, by decide⟩ rfl hl.1 rfl (Nat.le_of_ble_eq_true rfl) ⟨Nat.le_of_ble_eq_true rfl, Nat.le_of_ble_eq_true rfl⟩ dc_X6_down_13 ?_
    refine ky_cVh (As := [.int (a2), .long (fn_X4_downFrom ((u.1) (a1).toNatClampNeg))]) (wr := []) F (hE.at hfr hS) hfr (mt_X6_give l G (x) (cs) (sc) (pf) (u) (a2) (fn_X4_downFrom ((u.1) (a1).toNatClampNeg)) H.size (rq_both hf_0).2) kv_X6_37 ⟨⟨rfl, rfl⟩, by decide, by decide⟩ rfl hl.1 rfl (Nat.le_of_ble_eq_true rfl) ⟨Nat.le_of_ble_eq_true rfl, Nat.le_of_ble_eq_true rfl⟩ (va_recv hE.1 hP (ci := 0) (q0 := 0) rfl rfl) trivial hP hD hS hA [0, 1] [] rfl rfl (by decide) (by decide) (by decide) dc_X6_down_16 ?_
    rintro v9 u9 H locs ⟨rfl, rfl⟩ hP hD hS - hz hk9
    have hP : va_P G.1 kcl [(x, .inr (0, [.ref cs, .ref sc, .ref pf, .int ((fn_X6_give (a2) (fn_X4_downFrom ((u.1) (a1).toNatClampNeg)) (u)).2.2.1), .int ((fn_X6_give (a2) (fn_X4_downFrom ((u.1) (a1).toNatClampNeg)) (u)).2.2.2.1), .int ((fn_X6_give (a2) (fn_X4_downFrom ((u.1) (a1).toNatClampNeg)) (u)).2.2.2.2)])), (cs, .inl (G.2.1 2, 6, .inr (.inl ((fn_X6_give (a2) (fn_X4_downFrom ((u.1) (a1).toNatClampNeg)) (u)).2.1))))] H := hP
    have hD : va_D A [(x, .inr (0, [.ref cs, .ref sc, .ref pf, .int ((fn_X6_give (a2) (fn_X4_downFrom ((u.1) (a1).toNatClampNeg)) (u)).2.2.1), .int ((fn_X6_give (a2) (fn_X4_downFrom ((u.1) (a1).toNatClampNeg)) (u)).2.2.2.1), .int ((fn_X6_give (a2) (fn_X4_downFrom ((u.1) (a1).toNatClampNeg)) (u)).2.2.2.2)])), (cs, .inl (G.2.1 2, 6, .inr (.inl ((fn_X6_give (a2) (fn_X4_downFrom ((u.1) (a1).toNatClampNeg)) (u)).2.1))))] := hD
    refine W.widen (k := 2) (n := 12) (Nat.le_refl _) (Nat.le_refl _) ?_
    have hP9 := hP.sub (ws' := [(x, .inr (0, [.ref cs, .ref sc, .ref pf, .int ((fn_X6_give (a2) (fn_X4_downFrom ((u.1) (a1).toNatClampNeg)) (u)).2.2.1), .int ((fn_X6_give (a2) (fn_X4_downFrom ((u.1) (a1).toNatClampNeg)) (u)).2.2.2.1), .int ((fn_X6_give (a2) (fn_X4_downFrom ((u.1) (a1).toNatClampNeg)) (u)).2.2.2.2)])), (cs, .inl (G.2.1 2, 6, .inr (.inl ((fn_X6_give (a2) (fn_X4_downFrom ((u.1) (a1).toNatClampNeg)) (u)).2.1))))]) [0, 1] rfl
    have hD9 := hD.sub (ws' := [(x, .inr (0, [.ref cs, .ref sc, .ref pf, .int ((fn_X6_give (a2) (fn_X4_downFrom ((u.1) (a1).toNatClampNeg)) (u)).2.2.1), .int ((fn_X6_give (a2) (fn_X4_downFrom ((u.1) (a1).toNatClampNeg)) (u)).2.2.2.1), .int ((fn_X6_give (a2) (fn_X4_downFrom ((u.1) (a1).toNatClampNeg)) (u)).2.2.2.2)])), (cs, .inl (G.2.1 2, 6, .inr (.inl ((fn_X6_give (a2) (fn_X4_downFrom ((u.1) (a1).toNatClampNeg)) (u)).2.1))))]) [0, 1] (by decide) rfl
    refine W.widen (k := 2) (n := 12) (Nat.le_of_ble_eq_true rfl) (Nat.le_of_ble_eq_true rfl) ?_
    refine vx_ret ?_
    exact W.iret (v := (fn_X6_give (a2) (fn_X4_downFrom ((u.1) (a1).toNatClampNeg)) (u)).1) hx hb hr (fun t ht hW => ⟨⟨_, (fn_X6_give (a2) (fn_X4_downFrom ((u.1) (a1).toNatClampNeg)) (u)).2, rfl, ⟨(fn_X6_give (a2) (fn_X4_downFrom ((u.1) (a1).toNatClampNeg)) (u)).1, (fn_X6_give (a2) (fn_X4_downFrom ((u.1) (a1).toNatClampNeg)) (u)).2, hw, rfl, rfl⟩, by rw [ht]; exact hP9, hD9, trivial⟩, hS.F ht⟩) hS.2.2 dc_X6_down_19
def fn_X6_step (a1 : Int32) (a2 : Int32) (u : ky_BS) : Sum String (Int32 × ky_BS) :=
  ky_b (fn_X6_requireBoth (a1) (a2)) (fun r_0 w_0 => .inr ((fn_X6_give (a2) (fn_X4_stepFrom ((u.1) (a1).toNatClampNeg)) (u)).1, (fn_X6_give (a2) (fn_X4_stepFrom ((u.1) (a1).toNatClampNeg)) (u)).2))
set_option linter.constructorNameAsVariable false in
set_option maxHeartbeats 4000000 in
set_option maxRecDepth 100000 in
theorem mt_X6_step (l : Launch) (hl9 : l.stackTraces = false) (G : ky_G) (x : Nat) (cs : Nat) (sc : Nat) (pf : Nat) (u : ky_BS) (a1 : Int32) (a2 : Int32) (sz : Nat)  : vx_Met l my_X6_step (.code my_X6_step prog_1_method_18_code 3 (some .int) :: ky_B) { frames := 8, cells := 2, slots := 12, locals := 123 } (ky_P G [.ref x, .int (a1), .int (a2)] (ky_WB G x cs sc pf u) sz (fun _ => True)) (ky_Q (S := ky_BS) G (va_A (ky_WB G x cs sc pf u) sz) (fun v u9 => ∃ (r9 : Int32) (w9 : ky_BS), fn_X6_step a1 a2 u = .inr (r9, w9) ∧ v = some (.int r9) ∧ u9 = w9) (fun u9 => ky_WB G x cs sc pf u9) (fun _ _ => True)) (ky_X G (va_A (ky_WB G x cs sc pf u) sz) (fun E => fn_X6_step a1 a2 u = .inl E) (ky_WB G x cs sc pf u)) 2 12 (va_A (ky_WB G x cs sc pf u) sz) := by
  refine ky_startX (by decide) (Nat.le_of_ble_eq_true rfl) (fun p e s m below meth c F hno hE A hAe hsz hA hfr hP hD hS hX ls hl => ?_)
  obtain ⟨hx, hb, hml, hown, hr, hlocks, hts⟩ := id F
  have hl : lv_has ls 3 [(0, .ref x), (1, .int (a1)), (2, .int (a2))] := hl
  have hP : va_P G.1 kcl [(x, .inr (0, [.ref cs, .ref sc, .ref pf, .int (u.2.1), .int (u.2.2.1), .int (u.2.2.2)])), (cs, .inl (G.2.1 2, 6, .inr (.inl (u.1))))] s.heap := hP
  have hD : va_D A [(x, .inr (0, [.ref cs, .ref sc, .ref pf, .int (u.2.1), .int (u.2.2.1), .int (u.2.2.2)])), (cs, .inl (G.2.1 2, 6, .inr (.inl (u.1))))] := hD
  have hw : fn_X6_step a1 a2 u = _ := fn_X6_step.eq_1 a1 a2 u
  refine lv_iload_n hx hb dc_X6_step_0 rfl (lv_at hl 1 rfl) ?_
  refine lv_iload_n hx hb dc_X6_step_1 rfl (lv_at hl 2 rfl) ?_
  refine ky_cSx (As := [.int (a1), .int (a2)]) (wr := [(x, .inr (0, [.ref cs, .ref sc, .ref pf, .int (u.2.1), .int (u.2.2.1), .int (u.2.2.2)])), (cs, .inl (G.2.1 2, 6, .inr (.inl (u.1))))]) F (hE.at hfr hS) hfr (mt_X6_requireBoth l hl9 G  (a1) (a2) s.heap.size ) ks_X6_81 ⟨⟨rfl, rfl⟩, by decide, by decide⟩ rfl hl.1 rfl (Nat.le_of_ble_eq_true rfl) ⟨Nat.le_of_ble_eq_true rfl, Nat.le_of_ble_eq_true rfl⟩ trivial hP hD hS hA [] [0, 1] rfl rfl (by decide) (by decide) (by decide) dc_X6_step_2 ?_ ?_
  · intro E ce q9 H locs hp hP hD hS hz hk9 hc1 hc2 hc3
    have hP9 := hP.sub (ws' := [(x, .inr (0, [.ref cs, .ref sc, .ref pf, .int (u.2.1), .int (u.2.2.1), .int (u.2.2.2)])), (cs, .inl (G.2.1 2, 6, .inr (.inl (u.1))))]) [0, 1] rfl
    have hD9 := hD.sub (ws' := [(x, .inr (0, [.ref cs, .ref sc, .ref pf, .int (u.2.1), .int (u.2.2.1), .int (u.2.2.2)])), (cs, .inl (G.2.1 2, 6, .inr (.inl (u.1))))]) [0, 1] (by decide) rfl
    exact vx_out (fun x h => (hno x h).elim) hlocks hc1 hc2 hc3 (fun t ht hW => ⟨hw.trans (ky_bl hp), by rw [ht]; exact hP9, hD9, hS.F ht⟩) hS.2.2 (Nat.le_of_ble_eq_true rfl) (Nat.le_of_ble_eq_true rfl)
  · rintro v9 u9 H locs ⟨r_0, w_0, hf_0, rfl, rfl⟩ hP hD hS - hz hk9
    have hw := hw.trans (ky_br hf_0)
    have hP : va_P G.1 kcl [(x, .inr (0, [.ref cs, .ref sc, .ref pf, .int (u.2.1), .int (u.2.2.1), .int (u.2.2.2)])), (cs, .inl (G.2.1 2, 6, .inr (.inl (u.1))))] H := hP
    have hD : va_D A [(x, .inr (0, [.ref cs, .ref sc, .ref pf, .int (u.2.1), .int (u.2.2.1), .int (u.2.2.2)])), (cs, .inl (G.2.1 2, 6, .inr (.inl (u.1))))] := hD
    refine W.widen (k := 2) (n := 12) (Nat.le_refl _) (Nat.le_refl _) ?_
    refine lv_aload_n hx hb dc_X6_step_5 rfl (lv_at hl 0 rfl) ?_
    refine lv_iload_n hx hb dc_X6_step_6 rfl (lv_at hl 2 rfl) ?_
    refine lv_aload_n hx hb dc_X6_step_7 rfl (lv_at hl 0 rfl) ?_
    refine va_get (D := G.1) (ci := 0) (v := .ref cs) (C := RX6) (T := TX6) (N := 6) hx hb hts ki_X6 hown hE.1 hP 0 rfl rfl 0 (by decide) (hts _ kw_1_98) (fun _ h9 => h9) rfl dc_X6_step_8 ?_
    refine lv_iload_n hx hb dc_X6_step_11 rfl (lv_at hl 1 rfl) ?_
    refine va_lald hx hb hE.1 hP 1 2 rfl rfl (rq_both hf_0).1 dc_X6_step_12 ?_
    refine ky_cS0 (As := [.long ((u.1) (a1).toNatClampNeg)]) F (mt_X4_stepFrom l ((u.1) (a1).toNatClampNeg)) ks_X6_111 ⟨⟨rfl, rfl⟩, by decide, by decide⟩ rfl hl.1 rfl (Nat.le_of_ble_eq_true rfl) ⟨Nat.le_of_ble_eq_true rfl, Nat.le_of_ble_eq_true rfl⟩ dc_X6_step_13 ?_
    refine ky_cVh (As := [.int (a2), .long (fn_X4_stepFrom ((u.1) (a1).toNatClampNeg))]) (wr := []) F (hE.at hfr hS) hfr (mt_X6_give l G (x) (cs) (sc) (pf) (u) (a2) (fn_X4_stepFrom ((u.1) (a1).toNatClampNeg)) H.size (rq_both hf_0).2) kv_X6_37 ⟨⟨rfl, rfl⟩, by decide, by decide⟩ rfl hl.1 rfl (Nat.le_of_ble_eq_true rfl) ⟨Nat.le_of_ble_eq_true rfl, Nat.le_of_ble_eq_true rfl⟩ (va_recv hE.1 hP (ci := 0) (q0 := 0) rfl rfl) trivial hP hD hS hA [0, 1] [] rfl rfl (by decide) (by decide) (by decide) dc_X6_step_16 ?_
    rintro v9 u9 H locs ⟨rfl, rfl⟩ hP hD hS - hz hk9
    have hP : va_P G.1 kcl [(x, .inr (0, [.ref cs, .ref sc, .ref pf, .int ((fn_X6_give (a2) (fn_X4_stepFrom ((u.1) (a1).toNatClampNeg)) (u)).2.2.1), .int ((fn_X6_give (a2) (fn_X4_stepFrom ((u.1) (a1).toNatClampNeg)) (u)).2.2.2.1), .int ((fn_X6_give (a2) (fn_X4_stepFrom ((u.1) (a1).toNatClampNeg)) (u)).2.2.2.2)])), (cs, .inl (G.2.1 2, 6, .inr (.inl ((fn_X6_give (a2) (fn_X4_stepFrom ((u.1) (a1).toNatClampNeg)) (u)).2.1))))] H := hP
    have hD : va_D A [(x, .inr (0, [.ref cs, .ref sc, .ref pf, .int ((fn_X6_give (a2) (fn_X4_stepFrom ((u.1) (a1).toNatClampNeg)) (u)).2.2.1), .int ((fn_X6_give (a2) (fn_X4_stepFrom ((u.1) (a1).toNatClampNeg)) (u)).2.2.2.1), .int ((fn_X6_give (a2) (fn_X4_stepFrom ((u.1) (a1).toNatClampNeg)) (u)).2.2.2.2)])), (cs, .inl (G.2.1 2, 6, .inr (.inl ((fn_X6_give (a2) (fn_X4_stepFrom ((u.1) (a1).toNatClampNeg)) (u)).2.1))))] := hD
    refine W.widen (k := 2) (n := 12) (Nat.le_refl _) (Nat.le_refl _) ?_
    have hP9 := hP.sub (ws' := [(x, .inr (0, [.ref cs, .ref sc, .ref pf, .int ((fn_X6_give (a2) (fn_X4_stepFrom ((u.1) (a1).toNatClampNeg)) (u)).2.2.1), .int ((fn_X6_give (a2) (fn_X4_stepFrom ((u.1) (a1).toNatClampNeg)) (u)).2.2.2.1), .int ((fn_X6_give (a2) (fn_X4_stepFrom ((u.1) (a1).toNatClampNeg)) (u)).2.2.2.2)])), (cs, .inl (G.2.1 2, 6, .inr (.inl ((fn_X6_give (a2) (fn_X4_stepFrom ((u.1) (a1).toNatClampNeg)) (u)).2.1))))]) [0, 1] rfl
    have hD9 := hD.sub (ws' := [(x, .inr (0, [.ref cs, .ref sc, .ref pf, .int ((fn_X6_give (a2) (fn_X4_stepFrom ((u.1) (a1).toNatClampNeg)) (u)).2.2.1), .int ((fn_X6_give (a2) (fn_X4_stepFrom ((u.1) (a1).toNatClampNeg)) (u)).2.2.2.1), .int ((fn_X6_give (a2) (fn_X4_stepFrom ((u.1) (a1).toNatClampNeg)) (u)).2.2.2.2)])), (cs, .inl (G.2.1 2, 6, .inr (.inl ((fn_X6_give (a2) (fn_X4_stepFrom ((u.1) (a1).toNatClampNeg)) (u)).2.1))))]) [0, 1] (by decide) rfl
    refine W.widen (k := 2) (n := 12) (Nat.le_of_ble_eq_true rfl) (Nat.le_of_ble_eq_true rfl) ?_
    refine vx_ret ?_
    exact W.iret (v := (fn_X6_give (a2) (fn_X4_stepFrom ((u.1) (a1).toNatClampNeg)) (u)).1) hx hb hr (fun t ht hW => ⟨⟨_, (fn_X6_give (a2) (fn_X4_stepFrom ((u.1) (a1).toNatClampNeg)) (u)).2, rfl, ⟨(fn_X6_give (a2) (fn_X4_stepFrom ((u.1) (a1).toNatClampNeg)) (u)).1, (fn_X6_give (a2) (fn_X4_stepFrom ((u.1) (a1).toNatClampNeg)) (u)).2, hw, rfl, rfl⟩, by rw [ht]; exact hP9, hD9, trivial⟩, hS.F ht⟩) hS.2.2 dc_X6_step_19
def fn_X6_unit (a1 : Int32) (a2 : Int32) (u : ky_BS) : Sum String (Int32 × ky_BS) :=
  ky_b (fn_X6_requireBoth (a1) (a2)) (fun r_0 w_0 => .inr ((fn_X6_give (a2) (fn_X2_timesPower ((u.1) (a1).toNatClampNeg) (-(fn_X0_exponentIn ((u.1) (a1).toNatClampNeg)))) (u)).1, (fn_X6_give (a2) (fn_X2_timesPower ((u.1) (a1).toNatClampNeg) (-(fn_X0_exponentIn ((u.1) (a1).toNatClampNeg)))) (u)).2))
set_option linter.constructorNameAsVariable false in
set_option maxHeartbeats 4000000 in
set_option maxRecDepth 100000 in
theorem mt_X6_unit (l : Launch) (hl9 : l.stackTraces = false) (G : ky_G) (x : Nat) (cs : Nat) (sc : Nat) (pf : Nat) (u : ky_BS) (a1 : Int32) (a2 : Int32) (sz : Nat)  : vx_Met l my_X6_unit (.code my_X6_unit prog_1_method_19_code 3 (some .int) :: ky_B) { frames := 8, cells := 2, slots := 12, locals := 123 } (ky_P G [.ref x, .int (a1), .int (a2)] (ky_WB G x cs sc pf u) sz (fun _ => True)) (ky_Q (S := ky_BS) G (va_A (ky_WB G x cs sc pf u) sz) (fun v u9 => ∃ (r9 : Int32) (w9 : ky_BS), fn_X6_unit a1 a2 u = .inr (r9, w9) ∧ v = some (.int r9) ∧ u9 = w9) (fun u9 => ky_WB G x cs sc pf u9) (fun _ _ => True)) (ky_X G (va_A (ky_WB G x cs sc pf u) sz) (fun E => fn_X6_unit a1 a2 u = .inl E) (ky_WB G x cs sc pf u)) 2 12 (va_A (ky_WB G x cs sc pf u) sz) := by
  refine ky_startX (by decide) (Nat.le_of_ble_eq_true rfl) (fun p e s m below meth c F hno hE A hAe hsz hA hfr hP hD hS hX ls hl => ?_)
  obtain ⟨hx, hb, hml, hown, hr, hlocks, hts⟩ := id F
  have hl : lv_has ls 3 [(0, .ref x), (1, .int (a1)), (2, .int (a2))] := hl
  have hP : va_P G.1 kcl [(x, .inr (0, [.ref cs, .ref sc, .ref pf, .int (u.2.1), .int (u.2.2.1), .int (u.2.2.2)])), (cs, .inl (G.2.1 2, 6, .inr (.inl (u.1))))] s.heap := hP
  have hD : va_D A [(x, .inr (0, [.ref cs, .ref sc, .ref pf, .int (u.2.1), .int (u.2.2.1), .int (u.2.2.2)])), (cs, .inl (G.2.1 2, 6, .inr (.inl (u.1))))] := hD
  have hw : fn_X6_unit a1 a2 u = _ := fn_X6_unit.eq_1 a1 a2 u
  refine lv_iload_n hx hb dc_X6_unit_0 rfl (lv_at hl 1 rfl) ?_
  refine lv_iload_n hx hb dc_X6_unit_1 rfl (lv_at hl 2 rfl) ?_
  refine ky_cSx (As := [.int (a1), .int (a2)]) (wr := [(x, .inr (0, [.ref cs, .ref sc, .ref pf, .int (u.2.1), .int (u.2.2.1), .int (u.2.2.2)])), (cs, .inl (G.2.1 2, 6, .inr (.inl (u.1))))]) F (hE.at hfr hS) hfr (mt_X6_requireBoth l hl9 G  (a1) (a2) s.heap.size ) ks_X6_81 ⟨⟨rfl, rfl⟩, by decide, by decide⟩ rfl hl.1 rfl (Nat.le_of_ble_eq_true rfl) ⟨Nat.le_of_ble_eq_true rfl, Nat.le_of_ble_eq_true rfl⟩ trivial hP hD hS hA [] [0, 1] rfl rfl (by decide) (by decide) (by decide) dc_X6_unit_2 ?_ ?_
  · intro E ce q9 H locs hp hP hD hS hz hk9 hc1 hc2 hc3
    have hP9 := hP.sub (ws' := [(x, .inr (0, [.ref cs, .ref sc, .ref pf, .int (u.2.1), .int (u.2.2.1), .int (u.2.2.2)])), (cs, .inl (G.2.1 2, 6, .inr (.inl (u.1))))]) [0, 1] rfl
    have hD9 := hD.sub (ws' := [(x, .inr (0, [.ref cs, .ref sc, .ref pf, .int (u.2.1), .int (u.2.2.1), .int (u.2.2.2)])), (cs, .inl (G.2.1 2, 6, .inr (.inl (u.1))))]) [0, 1] (by decide) rfl
    exact vx_out (fun x h => (hno x h).elim) hlocks hc1 hc2 hc3 (fun t ht hW => ⟨hw.trans (ky_bl hp), by rw [ht]; exact hP9, hD9, hS.F ht⟩) hS.2.2 (Nat.le_of_ble_eq_true rfl) (Nat.le_of_ble_eq_true rfl)
  · rintro v9 u9 H locs ⟨r_0, w_0, hf_0, rfl, rfl⟩ hP hD hS - hz hk9
    have hw := hw.trans (ky_br hf_0)
    have hP : va_P G.1 kcl [(x, .inr (0, [.ref cs, .ref sc, .ref pf, .int (u.2.1), .int (u.2.2.1), .int (u.2.2.2)])), (cs, .inl (G.2.1 2, 6, .inr (.inl (u.1))))] H := hP
    have hD : va_D A [(x, .inr (0, [.ref cs, .ref sc, .ref pf, .int (u.2.1), .int (u.2.2.1), .int (u.2.2.2)])), (cs, .inl (G.2.1 2, 6, .inr (.inl (u.1))))] := hD
    refine W.widen (k := 2) (n := 12) (Nat.le_refl _) (Nat.le_refl _) ?_
    refine lv_aload_n hx hb dc_X6_unit_5 rfl (lv_at hl 0 rfl) ?_
    refine lv_iload_n hx hb dc_X6_unit_6 rfl (lv_at hl 2 rfl) ?_
    refine lv_aload_n hx hb dc_X6_unit_7 rfl (lv_at hl 0 rfl) ?_
    refine va_get (D := G.1) (ci := 0) (v := .ref cs) (C := RX6) (T := TX6) (N := 6) hx hb hts ki_X6 hown hE.1 hP 0 rfl rfl 0 (by decide) (hts _ kw_1_98) (fun _ h9 => h9) rfl dc_X6_unit_8 ?_
    refine lv_iload_n hx hb dc_X6_unit_11 rfl (lv_at hl 1 rfl) ?_
    refine va_lald hx hb hE.1 hP 1 2 rfl rfl (rq_both hf_0).1 dc_X6_unit_12 ?_
    refine lv_aload_n hx hb dc_X6_unit_13 rfl (lv_at hl 0 rfl) ?_
    refine va_get (D := G.1) (ci := 0) (v := .ref cs) (C := RX6) (T := TX6) (N := 6) hx hb hts ki_X6 hown hE.1 hP 0 rfl rfl 0 (by decide) (hts _ kw_1_98) (fun _ h9 => h9) rfl dc_X6_unit_14 ?_
    refine lv_iload_n hx hb dc_X6_unit_17 rfl (lv_at hl 1 rfl) ?_
    refine va_lald hx hb hE.1 hP 1 2 rfl rfl (rq_both hf_0).1 dc_X6_unit_18 ?_
    refine ky_cS0 (As := [.long ((u.1) (a1).toNatClampNeg)]) F (mt_X0_exponentIn l ((u.1) (a1).toNatClampNeg)) ks_X6_114 ⟨⟨rfl, rfl⟩, by decide, by decide⟩ rfl hl.1 rfl (Nat.le_of_ble_eq_true rfl) ⟨Nat.le_of_ble_eq_true rfl, Nat.le_of_ble_eq_true rfl⟩ dc_X6_unit_19 ?_
    refine lv_ineg hx hb dc_X6_unit_22 ?_
    refine ky_cS0 (As := [.long ((u.1) (a1).toNatClampNeg), .int (-(fn_X0_exponentIn ((u.1) (a1).toNatClampNeg)))]) F (mt_X2_timesPower l ((u.1) (a1).toNatClampNeg) (-(fn_X0_exponentIn ((u.1) (a1).toNatClampNeg)))) ks_X6_61 ⟨⟨rfl, rfl⟩, by decide, by decide⟩ rfl hl.1 rfl (Nat.le_of_ble_eq_true rfl) ⟨Nat.le_of_ble_eq_true rfl, Nat.le_of_ble_eq_true rfl⟩ dc_X6_unit_23 ?_
    refine ky_cVh (As := [.int (a2), .long (fn_X2_timesPower ((u.1) (a1).toNatClampNeg) (-(fn_X0_exponentIn ((u.1) (a1).toNatClampNeg))))]) (wr := []) F (hE.at hfr hS) hfr (mt_X6_give l G (x) (cs) (sc) (pf) (u) (a2) (fn_X2_timesPower ((u.1) (a1).toNatClampNeg) (-(fn_X0_exponentIn ((u.1) (a1).toNatClampNeg)))) H.size (rq_both hf_0).2) kv_X6_37 ⟨⟨rfl, rfl⟩, by decide, by decide⟩ rfl hl.1 rfl (Nat.le_of_ble_eq_true rfl) ⟨Nat.le_of_ble_eq_true rfl, Nat.le_of_ble_eq_true rfl⟩ (va_recv hE.1 hP (ci := 0) (q0 := 0) rfl rfl) trivial hP hD hS hA [0, 1] [] rfl rfl (by decide) (by decide) (by decide) dc_X6_unit_26 ?_
    rintro v9 u9 H locs ⟨rfl, rfl⟩ hP hD hS - hz hk9
    have hP : va_P G.1 kcl [(x, .inr (0, [.ref cs, .ref sc, .ref pf, .int ((fn_X6_give (a2) (fn_X2_timesPower ((u.1) (a1).toNatClampNeg) (-(fn_X0_exponentIn ((u.1) (a1).toNatClampNeg)))) (u)).2.2.1), .int ((fn_X6_give (a2) (fn_X2_timesPower ((u.1) (a1).toNatClampNeg) (-(fn_X0_exponentIn ((u.1) (a1).toNatClampNeg)))) (u)).2.2.2.1), .int ((fn_X6_give (a2) (fn_X2_timesPower ((u.1) (a1).toNatClampNeg) (-(fn_X0_exponentIn ((u.1) (a1).toNatClampNeg)))) (u)).2.2.2.2)])), (cs, .inl (G.2.1 2, 6, .inr (.inl ((fn_X6_give (a2) (fn_X2_timesPower ((u.1) (a1).toNatClampNeg) (-(fn_X0_exponentIn ((u.1) (a1).toNatClampNeg)))) (u)).2.1))))] H := hP
    have hD : va_D A [(x, .inr (0, [.ref cs, .ref sc, .ref pf, .int ((fn_X6_give (a2) (fn_X2_timesPower ((u.1) (a1).toNatClampNeg) (-(fn_X0_exponentIn ((u.1) (a1).toNatClampNeg)))) (u)).2.2.1), .int ((fn_X6_give (a2) (fn_X2_timesPower ((u.1) (a1).toNatClampNeg) (-(fn_X0_exponentIn ((u.1) (a1).toNatClampNeg)))) (u)).2.2.2.1), .int ((fn_X6_give (a2) (fn_X2_timesPower ((u.1) (a1).toNatClampNeg) (-(fn_X0_exponentIn ((u.1) (a1).toNatClampNeg)))) (u)).2.2.2.2)])), (cs, .inl (G.2.1 2, 6, .inr (.inl ((fn_X6_give (a2) (fn_X2_timesPower ((u.1) (a1).toNatClampNeg) (-(fn_X0_exponentIn ((u.1) (a1).toNatClampNeg)))) (u)).2.1))))] := hD
    refine W.widen (k := 2) (n := 12) (Nat.le_refl _) (Nat.le_refl _) ?_
    have hP9 := hP.sub (ws' := [(x, .inr (0, [.ref cs, .ref sc, .ref pf, .int ((fn_X6_give (a2) (fn_X2_timesPower ((u.1) (a1).toNatClampNeg) (-(fn_X0_exponentIn ((u.1) (a1).toNatClampNeg)))) (u)).2.2.1), .int ((fn_X6_give (a2) (fn_X2_timesPower ((u.1) (a1).toNatClampNeg) (-(fn_X0_exponentIn ((u.1) (a1).toNatClampNeg)))) (u)).2.2.2.1), .int ((fn_X6_give (a2) (fn_X2_timesPower ((u.1) (a1).toNatClampNeg) (-(fn_X0_exponentIn ((u.1) (a1).toNatClampNeg)))) (u)).2.2.2.2)])), (cs, .inl (G.2.1 2, 6, .inr (.inl ((fn_X6_give (a2) (fn_X2_timesPower ((u.1) (a1).toNatClampNeg) (-(fn_X0_exponentIn ((u.1) (a1).toNatClampNeg)))) (u)).2.1))))]) [0, 1] rfl
    have hD9 := hD.sub (ws' := [(x, .inr (0, [.ref cs, .ref sc, .ref pf, .int ((fn_X6_give (a2) (fn_X2_timesPower ((u.1) (a1).toNatClampNeg) (-(fn_X0_exponentIn ((u.1) (a1).toNatClampNeg)))) (u)).2.2.1), .int ((fn_X6_give (a2) (fn_X2_timesPower ((u.1) (a1).toNatClampNeg) (-(fn_X0_exponentIn ((u.1) (a1).toNatClampNeg)))) (u)).2.2.2.1), .int ((fn_X6_give (a2) (fn_X2_timesPower ((u.1) (a1).toNatClampNeg) (-(fn_X0_exponentIn ((u.1) (a1).toNatClampNeg)))) (u)).2.2.2.2)])), (cs, .inl (G.2.1 2, 6, .inr (.inl ((fn_X6_give (a2) (fn_X2_timesPower ((u.1) (a1).toNatClampNeg) (-(fn_X0_exponentIn ((u.1) (a1).toNatClampNeg)))) (u)).2.1))))]) [0, 1] (by decide) rfl
    refine W.widen (k := 2) (n := 12) (Nat.le_of_ble_eq_true rfl) (Nat.le_of_ble_eq_true rfl) ?_
    refine vx_ret ?_
    exact W.iret (v := (fn_X6_give (a2) (fn_X2_timesPower ((u.1) (a1).toNatClampNeg) (-(fn_X0_exponentIn ((u.1) (a1).toNatClampNeg)))) (u)).1) hx hb hr (fun t ht hW => ⟨⟨_, (fn_X6_give (a2) (fn_X2_timesPower ((u.1) (a1).toNatClampNeg) (-(fn_X0_exponentIn ((u.1) (a1).toNatClampNeg)))) (u)).2, rfl, ⟨(fn_X6_give (a2) (fn_X2_timesPower ((u.1) (a1).toNatClampNeg) (-(fn_X0_exponentIn ((u.1) (a1).toNatClampNeg)))) (u)).1, (fn_X6_give (a2) (fn_X2_timesPower ((u.1) (a1).toNatClampNeg) (-(fn_X0_exponentIn ((u.1) (a1).toNatClampNeg)))) (u)).2, hw, rfl, rfl⟩, by rw [ht]; exact hP9, hD9, trivial⟩, hS.F ht⟩) hS.2.2 dc_X6_unit_29
def fn_X6_times (a1 : Int32) (a2 : Int32) (a3 : Int32) (u : ky_BS) : Sum String (Int32 × ky_BS) :=
  ky_b (fn_X6_requireBoth (a1) (a3)) (fun r_0 w_0 => .inr ((fn_X6_give (a3) (fn_X2_timesPower ((u.1) (a1).toNatClampNeg) (a2)) (u)).1, (fn_X6_give (a3) (fn_X2_timesPower ((u.1) (a1).toNatClampNeg) (a2)) (u)).2))
set_option linter.constructorNameAsVariable false in
set_option maxHeartbeats 4000000 in
set_option maxRecDepth 100000 in
theorem mt_X6_times (l : Launch) (hl9 : l.stackTraces = false) (G : ky_G) (x : Nat) (cs : Nat) (sc : Nat) (pf : Nat) (u : ky_BS) (a1 : Int32) (a2 : Int32) (a3 : Int32) (sz : Nat)  : vx_Met l my_X6_times (.code my_X6_times prog_1_method_20_code 4 (some .int) :: ky_B) { frames := 8, cells := 2, slots := 12, locals := 123 } (ky_P G [.ref x, .int (a1), .int (a2), .int (a3)] (ky_WB G x cs sc pf u) sz (fun _ => True)) (ky_Q (S := ky_BS) G (va_A (ky_WB G x cs sc pf u) sz) (fun v u9 => ∃ (r9 : Int32) (w9 : ky_BS), fn_X6_times a1 a2 a3 u = .inr (r9, w9) ∧ v = some (.int r9) ∧ u9 = w9) (fun u9 => ky_WB G x cs sc pf u9) (fun _ _ => True)) (ky_X G (va_A (ky_WB G x cs sc pf u) sz) (fun E => fn_X6_times a1 a2 a3 u = .inl E) (ky_WB G x cs sc pf u)) 2 12 (va_A (ky_WB G x cs sc pf u) sz) := by
  refine ky_startX (by decide) (Nat.le_of_ble_eq_true rfl) (fun p e s m below meth c F hno hE A hAe hsz hA hfr hP hD hS hX ls hl => ?_)
  obtain ⟨hx, hb, hml, hown, hr, hlocks, hts⟩ := id F
  have hl : lv_has ls 4 [(0, .ref x), (1, .int (a1)), (2, .int (a2)), (3, .int (a3))] := hl
  have hP : va_P G.1 kcl [(x, .inr (0, [.ref cs, .ref sc, .ref pf, .int (u.2.1), .int (u.2.2.1), .int (u.2.2.2)])), (cs, .inl (G.2.1 2, 6, .inr (.inl (u.1))))] s.heap := hP
  have hD : va_D A [(x, .inr (0, [.ref cs, .ref sc, .ref pf, .int (u.2.1), .int (u.2.2.1), .int (u.2.2.2)])), (cs, .inl (G.2.1 2, 6, .inr (.inl (u.1))))] := hD
  have hw : fn_X6_times a1 a2 a3 u = _ := fn_X6_times.eq_1 a1 a2 a3 u
  refine lv_iload_n hx hb dc_X6_times_0 rfl (lv_at hl 1 rfl) ?_
  refine lv_iload_n hx hb dc_X6_times_1 rfl (lv_at hl 3 rfl) ?_
  refine ky_cSx (As := [.int (a1), .int (a3)]) (wr := [(x, .inr (0, [.ref cs, .ref sc, .ref pf, .int (u.2.1), .int (u.2.2.1), .int (u.2.2.2)])), (cs, .inl (G.2.1 2, 6, .inr (.inl (u.1))))]) F (hE.at hfr hS) hfr (mt_X6_requireBoth l hl9 G  (a1) (a3) s.heap.size ) ks_X6_81 ⟨⟨rfl, rfl⟩, by decide, by decide⟩ rfl hl.1 rfl (Nat.le_of_ble_eq_true rfl) ⟨Nat.le_of_ble_eq_true rfl, Nat.le_of_ble_eq_true rfl⟩ trivial hP hD hS hA [] [0, 1] rfl rfl (by decide) (by decide) (by decide) dc_X6_times_2 ?_ ?_
  · intro E ce q9 H locs hp hP hD hS hz hk9 hc1 hc2 hc3
    have hP9 := hP.sub (ws' := [(x, .inr (0, [.ref cs, .ref sc, .ref pf, .int (u.2.1), .int (u.2.2.1), .int (u.2.2.2)])), (cs, .inl (G.2.1 2, 6, .inr (.inl (u.1))))]) [0, 1] rfl
    have hD9 := hD.sub (ws' := [(x, .inr (0, [.ref cs, .ref sc, .ref pf, .int (u.2.1), .int (u.2.2.1), .int (u.2.2.2)])), (cs, .inl (G.2.1 2, 6, .inr (.inl (u.1))))]) [0, 1] (by decide) rfl
    exact vx_out (fun x h => (hno x h).elim) hlocks hc1 hc2 hc3 (fun t ht hW => ⟨hw.trans (ky_bl hp), by rw [ht]; exact hP9, hD9, hS.F ht⟩) hS.2.2 (Nat.le_of_ble_eq_true rfl) (Nat.le_of_ble_eq_true rfl)
  · rintro v9 u9 H locs ⟨r_0, w_0, hf_0, rfl, rfl⟩ hP hD hS - hz hk9
    have hw := hw.trans (ky_br hf_0)
    have hP : va_P G.1 kcl [(x, .inr (0, [.ref cs, .ref sc, .ref pf, .int (u.2.1), .int (u.2.2.1), .int (u.2.2.2)])), (cs, .inl (G.2.1 2, 6, .inr (.inl (u.1))))] H := hP
    have hD : va_D A [(x, .inr (0, [.ref cs, .ref sc, .ref pf, .int (u.2.1), .int (u.2.2.1), .int (u.2.2.2)])), (cs, .inl (G.2.1 2, 6, .inr (.inl (u.1))))] := hD
    refine W.widen (k := 2) (n := 12) (Nat.le_refl _) (Nat.le_refl _) ?_
    refine lv_aload_n hx hb dc_X6_times_5 rfl (lv_at hl 0 rfl) ?_
    refine lv_iload_n hx hb dc_X6_times_6 rfl (lv_at hl 3 rfl) ?_
    refine lv_aload_n hx hb dc_X6_times_7 rfl (lv_at hl 0 rfl) ?_
    refine va_get (D := G.1) (ci := 0) (v := .ref cs) (C := RX6) (T := TX6) (N := 6) hx hb hts ki_X6 hown hE.1 hP 0 rfl rfl 0 (by decide) (hts _ kw_1_98) (fun _ h9 => h9) rfl dc_X6_times_8 ?_
    refine lv_iload_n hx hb dc_X6_times_11 rfl (lv_at hl 1 rfl) ?_
    refine va_lald hx hb hE.1 hP 1 2 rfl rfl (rq_both hf_0).1 dc_X6_times_12 ?_
    refine lv_iload_n hx hb dc_X6_times_13 rfl (lv_at hl 2 rfl) ?_
    refine ky_cS0 (As := [.long ((u.1) (a1).toNatClampNeg), .int (a2)]) F (mt_X2_timesPower l ((u.1) (a1).toNatClampNeg) (a2)) ks_X6_61 ⟨⟨rfl, rfl⟩, by decide, by decide⟩ rfl hl.1 rfl (Nat.le_of_ble_eq_true rfl) ⟨Nat.le_of_ble_eq_true rfl, Nat.le_of_ble_eq_true rfl⟩ dc_X6_times_14 ?_
    refine ky_cVh (As := [.int (a3), .long (fn_X2_timesPower ((u.1) (a1).toNatClampNeg) (a2))]) (wr := []) F (hE.at hfr hS) hfr (mt_X6_give l G (x) (cs) (sc) (pf) (u) (a3) (fn_X2_timesPower ((u.1) (a1).toNatClampNeg) (a2)) H.size (rq_both hf_0).2) kv_X6_37 ⟨⟨rfl, rfl⟩, by decide, by decide⟩ rfl hl.1 rfl (Nat.le_of_ble_eq_true rfl) ⟨Nat.le_of_ble_eq_true rfl, Nat.le_of_ble_eq_true rfl⟩ (va_recv hE.1 hP (ci := 0) (q0 := 0) rfl rfl) trivial hP hD hS hA [0, 1] [] rfl rfl (by decide) (by decide) (by decide) dc_X6_times_17 ?_
    rintro v9 u9 H locs ⟨rfl, rfl⟩ hP hD hS - hz hk9
    have hP : va_P G.1 kcl [(x, .inr (0, [.ref cs, .ref sc, .ref pf, .int ((fn_X6_give (a3) (fn_X2_timesPower ((u.1) (a1).toNatClampNeg) (a2)) (u)).2.2.1), .int ((fn_X6_give (a3) (fn_X2_timesPower ((u.1) (a1).toNatClampNeg) (a2)) (u)).2.2.2.1), .int ((fn_X6_give (a3) (fn_X2_timesPower ((u.1) (a1).toNatClampNeg) (a2)) (u)).2.2.2.2)])), (cs, .inl (G.2.1 2, 6, .inr (.inl ((fn_X6_give (a3) (fn_X2_timesPower ((u.1) (a1).toNatClampNeg) (a2)) (u)).2.1))))] H := hP
    have hD : va_D A [(x, .inr (0, [.ref cs, .ref sc, .ref pf, .int ((fn_X6_give (a3) (fn_X2_timesPower ((u.1) (a1).toNatClampNeg) (a2)) (u)).2.2.1), .int ((fn_X6_give (a3) (fn_X2_timesPower ((u.1) (a1).toNatClampNeg) (a2)) (u)).2.2.2.1), .int ((fn_X6_give (a3) (fn_X2_timesPower ((u.1) (a1).toNatClampNeg) (a2)) (u)).2.2.2.2)])), (cs, .inl (G.2.1 2, 6, .inr (.inl ((fn_X6_give (a3) (fn_X2_timesPower ((u.1) (a1).toNatClampNeg) (a2)) (u)).2.1))))] := hD
    refine W.widen (k := 2) (n := 12) (Nat.le_refl _) (Nat.le_refl _) ?_
    have hP9 := hP.sub (ws' := [(x, .inr (0, [.ref cs, .ref sc, .ref pf, .int ((fn_X6_give (a3) (fn_X2_timesPower ((u.1) (a1).toNatClampNeg) (a2)) (u)).2.2.1), .int ((fn_X6_give (a3) (fn_X2_timesPower ((u.1) (a1).toNatClampNeg) (a2)) (u)).2.2.2.1), .int ((fn_X6_give (a3) (fn_X2_timesPower ((u.1) (a1).toNatClampNeg) (a2)) (u)).2.2.2.2)])), (cs, .inl (G.2.1 2, 6, .inr (.inl ((fn_X6_give (a3) (fn_X2_timesPower ((u.1) (a1).toNatClampNeg) (a2)) (u)).2.1))))]) [0, 1] rfl
    have hD9 := hD.sub (ws' := [(x, .inr (0, [.ref cs, .ref sc, .ref pf, .int ((fn_X6_give (a3) (fn_X2_timesPower ((u.1) (a1).toNatClampNeg) (a2)) (u)).2.2.1), .int ((fn_X6_give (a3) (fn_X2_timesPower ((u.1) (a1).toNatClampNeg) (a2)) (u)).2.2.2.1), .int ((fn_X6_give (a3) (fn_X2_timesPower ((u.1) (a1).toNatClampNeg) (a2)) (u)).2.2.2.2)])), (cs, .inl (G.2.1 2, 6, .inr (.inl ((fn_X6_give (a3) (fn_X2_timesPower ((u.1) (a1).toNatClampNeg) (a2)) (u)).2.1))))]) [0, 1] (by decide) rfl
    refine W.widen (k := 2) (n := 12) (Nat.le_of_ble_eq_true rfl) (Nat.le_of_ble_eq_true rfl) ?_
    refine vx_ret ?_
    exact W.iret (v := (fn_X6_give (a3) (fn_X2_timesPower ((u.1) (a1).toNatClampNeg) (a2)) (u)).1) hx hb hr (fun t ht hW => ⟨⟨_, (fn_X6_give (a3) (fn_X2_timesPower ((u.1) (a1).toNatClampNeg) (a2)) (u)).2, rfl, ⟨(fn_X6_give (a3) (fn_X2_timesPower ((u.1) (a1).toNatClampNeg) (a2)) (u)).1, (fn_X6_give (a3) (fn_X2_timesPower ((u.1) (a1).toNatClampNeg) (a2)) (u)).2, hw, rfl, rfl⟩, by rw [ht]; exact hP9, hD9, trivial⟩, hS.F ht⟩) hS.2.2 dc_X6_times_20
def fn_X6_side (a1 : Int32) (a2 : Int32) (a3 : Int32) (u : ky_BS) : Sum String (Int32 × ky_BS) :=
  ky_b (fn_X6_requireBoth (a1) (a2)) (fun r_0 w_0 => ky_b (fn_X6_requireCell (a3)) (fun r_1 w_1 => .inr ((fn_X6_give (a3) (fn_X0_joined ((u.1) (a1).toNatClampNeg) ((u.1) (a2).toNatClampNeg)) (u)).1, (fn_X6_give (a3) (fn_X0_joined ((u.1) (a1).toNatClampNeg) ((u.1) (a2).toNatClampNeg)) (u)).2)))
set_option linter.constructorNameAsVariable false in
set_option maxHeartbeats 4000000 in
set_option maxRecDepth 100000 in
theorem mt_X6_side (l : Launch) (hl9 : l.stackTraces = false) (G : ky_G) (x : Nat) (cs : Nat) (sc : Nat) (pf : Nat) (u : ky_BS) (a1 : Int32) (a2 : Int32) (a3 : Int32) (sz : Nat)  : vx_Met l my_X6_side (.code my_X6_side prog_1_method_21_code 4 (some .int) :: ky_B) { frames := 8, cells := 3, slots := 18, locals := 123 } (ky_P G [.ref x, .int (a1), .int (a2), .int (a3)] (ky_WB G x cs sc pf u) sz (fun _ => True)) (ky_Q (S := ky_BS) G (va_A (ky_WB G x cs sc pf u) sz) (fun v u9 => ∃ (r9 : Int32) (w9 : ky_BS), fn_X6_side a1 a2 a3 u = .inr (r9, w9) ∧ v = some (.int r9) ∧ u9 = w9) (fun u9 => ky_WB G x cs sc pf u9) (fun _ _ => True)) (ky_X G (va_A (ky_WB G x cs sc pf u) sz) (fun E => fn_X6_side a1 a2 a3 u = .inl E) (ky_WB G x cs sc pf u)) 3 18 (va_A (ky_WB G x cs sc pf u) sz) := by
  refine ky_startX (by decide) (Nat.le_of_ble_eq_true rfl) (fun p e s m below meth c F hno hE A hAe hsz hA hfr hP hD hS hX ls hl => ?_)
  obtain ⟨hx, hb, hml, hown, hr, hlocks, hts⟩ := id F
  have hl : lv_has ls 4 [(0, .ref x), (1, .int (a1)), (2, .int (a2)), (3, .int (a3))] := hl
  have hP : va_P G.1 kcl [(x, .inr (0, [.ref cs, .ref sc, .ref pf, .int (u.2.1), .int (u.2.2.1), .int (u.2.2.2)])), (cs, .inl (G.2.1 2, 6, .inr (.inl (u.1))))] s.heap := hP
  have hD : va_D A [(x, .inr (0, [.ref cs, .ref sc, .ref pf, .int (u.2.1), .int (u.2.2.1), .int (u.2.2.2)])), (cs, .inl (G.2.1 2, 6, .inr (.inl (u.1))))] := hD
  have hw : fn_X6_side a1 a2 a3 u = _ := fn_X6_side.eq_1 a1 a2 a3 u
  refine lv_iload_n hx hb dc_X6_side_0 rfl (lv_at hl 1 rfl) ?_
  refine lv_iload_n hx hb dc_X6_side_1 rfl (lv_at hl 2 rfl) ?_
  refine ky_cSx (As := [.int (a1), .int (a2)]) (wr := [(x, .inr (0, [.ref cs, .ref sc, .ref pf, .int (u.2.1), .int (u.2.2.1), .int (u.2.2.2)])), (cs, .inl (G.2.1 2, 6, .inr (.inl (u.1))))]) F (hE.at hfr hS) hfr (mt_X6_requireBoth l hl9 G  (a1) (a2) s.heap.size ) ks_X6_81 ⟨⟨rfl, rfl⟩, by decide, by decide⟩ rfl hl.1 rfl (Nat.le_of_ble_eq_true rfl) ⟨Nat.le_of_ble_eq_true rfl, Nat.le_of_ble_eq_true rfl⟩ trivial hP hD hS hA [] [0, 1] rfl rfl (by decide) (by decide) (by decide) dc_X6_side_2 ?_ ?_
  · intro E ce q9 H locs hp hP hD hS hz hk9 hc1 hc2 hc3
    have hP9 := hP.sub (ws' := [(x, .inr (0, [.ref cs, .ref sc, .ref pf, .int (u.2.1), .int (u.2.2.1), .int (u.2.2.2)])), (cs, .inl (G.2.1 2, 6, .inr (.inl (u.1))))]) [0, 1] rfl
    have hD9 := hD.sub (ws' := [(x, .inr (0, [.ref cs, .ref sc, .ref pf, .int (u.2.1), .int (u.2.2.1), .int (u.2.2.2)])), (cs, .inl (G.2.1 2, 6, .inr (.inl (u.1))))]) [0, 1] (by decide) rfl
    exact vx_out (fun x h => (hno x h).elim) hlocks hc1 hc2 hc3 (fun t ht hW => ⟨hw.trans (ky_bl hp), by rw [ht]; exact hP9, hD9, hS.F ht⟩) hS.2.2 (Nat.le_of_ble_eq_true rfl) (Nat.le_of_ble_eq_true rfl)
  · rintro v9 u9 H locs ⟨r_0, w_0, hf_0, rfl, rfl⟩ hP hD hS - hz hk9
    have hw := hw.trans (ky_br hf_0)
    have hP : va_P G.1 kcl [(x, .inr (0, [.ref cs, .ref sc, .ref pf, .int (u.2.1), .int (u.2.2.1), .int (u.2.2.2)])), (cs, .inl (G.2.1 2, 6, .inr (.inl (u.1))))] H := hP
    have hD : va_D A [(x, .inr (0, [.ref cs, .ref sc, .ref pf, .int (u.2.1), .int (u.2.2.1), .int (u.2.2.2)])), (cs, .inl (G.2.1 2, 6, .inr (.inl (u.1))))] := hD
    refine W.widen (k := 2) (n := 12) (Nat.le_refl _) (Nat.le_refl _) ?_
    refine lv_iload_n hx hb dc_X6_side_5 rfl (lv_at hl 3 rfl) ?_
    refine ky_cSx (As := [.int (a3)]) (wr := [(x, .inr (0, [.ref cs, .ref sc, .ref pf, .int (u.2.1), .int (u.2.2.1), .int (u.2.2.2)])), (cs, .inl (G.2.1 2, 6, .inr (.inl (u.1))))]) F (hE.at hfr hS) hfr (mt_X6_requireCell l hl9 G  (a3) H.size ) ks_X6_27 ⟨⟨rfl, rfl⟩, by decide, by decide⟩ rfl hl.1 rfl (Nat.le_of_ble_eq_true rfl) ⟨Nat.le_of_ble_eq_true rfl, Nat.le_of_ble_eq_true rfl⟩ trivial hP hD hS hA [] [0, 1] rfl rfl (by decide) (by decide) (by decide) dc_X6_side_6 ?_ ?_
    · intro E ce q9 H locs hp hP hD hS hz hk9 hc1 hc2 hc3
      have hP9 := hP.sub (ws' := [(x, .inr (0, [.ref cs, .ref sc, .ref pf, .int (u.2.1), .int (u.2.2.1), .int (u.2.2.2)])), (cs, .inl (G.2.1 2, 6, .inr (.inl (u.1))))]) [0, 1] rfl
      have hD9 := hD.sub (ws' := [(x, .inr (0, [.ref cs, .ref sc, .ref pf, .int (u.2.1), .int (u.2.2.1), .int (u.2.2.2)])), (cs, .inl (G.2.1 2, 6, .inr (.inl (u.1))))]) [0, 1] (by decide) rfl
      exact vx_out (fun x h => (hno x h).elim) hlocks hc1 hc2 hc3 (fun t ht hW => ⟨hw.trans (ky_bl hp), by rw [ht]; exact hP9, hD9, hS.F ht⟩) hS.2.2 (Nat.le_of_ble_eq_true rfl) (Nat.le_of_ble_eq_true rfl)
    · rintro v9 u9 H locs ⟨r_1, w_1, hf_1, rfl, rfl⟩ hP hD hS - hz hk9
      have hw := hw.trans (ky_br hf_1)
      have hP : va_P G.1 kcl [(x, .inr (0, [.ref cs, .ref sc, .ref pf, .int (u.2.1), .int (u.2.2.1), .int (u.2.2.2)])), (cs, .inl (G.2.1 2, 6, .inr (.inl (u.1))))] H := hP
      have hD : va_D A [(x, .inr (0, [.ref cs, .ref sc, .ref pf, .int (u.2.1), .int (u.2.2.1), .int (u.2.2.2)])), (cs, .inl (G.2.1 2, 6, .inr (.inl (u.1))))] := hD
      refine W.widen (k := 3) (n := 18) (Nat.le_refl _) (Nat.le_refl _) ?_
      refine lv_aload_n hx hb dc_X6_side_9 rfl (lv_at hl 0 rfl) ?_
      refine lv_iload_n hx hb dc_X6_side_10 rfl (lv_at hl 3 rfl) ?_
      refine lv_aload_n hx hb dc_X6_side_11 rfl (lv_at hl 0 rfl) ?_
      refine va_get (D := G.1) (ci := 0) (v := .ref cs) (C := RX6) (T := TX6) (N := 6) hx hb hts ki_X6 hown hE.1 hP 0 rfl rfl 0 (by decide) (hts _ kw_1_98) (fun _ h9 => h9) rfl dc_X6_side_12 ?_
      refine lv_iload_n hx hb dc_X6_side_15 rfl (lv_at hl 1 rfl) ?_
      refine va_lald hx hb hE.1 hP 1 2 rfl rfl (rq_both hf_0).1 dc_X6_side_16 ?_
      refine lv_aload_n hx hb dc_X6_side_17 rfl (lv_at hl 0 rfl) ?_
      refine va_get (D := G.1) (ci := 0) (v := .ref cs) (C := RX6) (T := TX6) (N := 6) hx hb hts ki_X6 hown hE.1 hP 0 rfl rfl 0 (by decide) (hts _ kw_1_98) (fun _ h9 => h9) rfl dc_X6_side_18 ?_
      refine lv_iload_n hx hb dc_X6_side_21 rfl (lv_at hl 2 rfl) ?_
      refine va_lald hx hb hE.1 hP 1 2 rfl rfl (rq_both hf_0).2 dc_X6_side_22 ?_
      refine ky_cS0 (As := [.long ((u.1) (a1).toNatClampNeg), .long ((u.1) (a2).toNatClampNeg)]) F (mt_X0_joined l ((u.1) (a1).toNatClampNeg) ((u.1) (a2).toNatClampNeg)) ks_X6_118 ⟨⟨rfl, rfl⟩, by decide, by decide⟩ rfl hl.1 rfl (Nat.le_of_ble_eq_true rfl) ⟨Nat.le_of_ble_eq_true rfl, Nat.le_of_ble_eq_true rfl⟩ dc_X6_side_23 ?_
      refine ky_cVh (As := [.int (a3), .long (fn_X0_joined ((u.1) (a1).toNatClampNeg) ((u.1) (a2).toNatClampNeg))]) (wr := []) F (hE.at hfr hS) hfr (mt_X6_give l G (x) (cs) (sc) (pf) (u) (a3) (fn_X0_joined ((u.1) (a1).toNatClampNeg) ((u.1) (a2).toNatClampNeg)) H.size (rq_cell hf_1)) kv_X6_37 ⟨⟨rfl, rfl⟩, by decide, by decide⟩ rfl hl.1 rfl (Nat.le_of_ble_eq_true rfl) ⟨Nat.le_of_ble_eq_true rfl, Nat.le_of_ble_eq_true rfl⟩ (va_recv hE.1 hP (ci := 0) (q0 := 0) rfl rfl) trivial hP hD hS hA [0, 1] [] rfl rfl (by decide) (by decide) (by decide) dc_X6_side_26 ?_
      rintro v9 u9 H locs ⟨rfl, rfl⟩ hP hD hS - hz hk9
      have hP : va_P G.1 kcl [(x, .inr (0, [.ref cs, .ref sc, .ref pf, .int ((fn_X6_give (a3) (fn_X0_joined ((u.1) (a1).toNatClampNeg) ((u.1) (a2).toNatClampNeg)) (u)).2.2.1), .int ((fn_X6_give (a3) (fn_X0_joined ((u.1) (a1).toNatClampNeg) ((u.1) (a2).toNatClampNeg)) (u)).2.2.2.1), .int ((fn_X6_give (a3) (fn_X0_joined ((u.1) (a1).toNatClampNeg) ((u.1) (a2).toNatClampNeg)) (u)).2.2.2.2)])), (cs, .inl (G.2.1 2, 6, .inr (.inl ((fn_X6_give (a3) (fn_X0_joined ((u.1) (a1).toNatClampNeg) ((u.1) (a2).toNatClampNeg)) (u)).2.1))))] H := hP
      have hD : va_D A [(x, .inr (0, [.ref cs, .ref sc, .ref pf, .int ((fn_X6_give (a3) (fn_X0_joined ((u.1) (a1).toNatClampNeg) ((u.1) (a2).toNatClampNeg)) (u)).2.2.1), .int ((fn_X6_give (a3) (fn_X0_joined ((u.1) (a1).toNatClampNeg) ((u.1) (a2).toNatClampNeg)) (u)).2.2.2.1), .int ((fn_X6_give (a3) (fn_X0_joined ((u.1) (a1).toNatClampNeg) ((u.1) (a2).toNatClampNeg)) (u)).2.2.2.2)])), (cs, .inl (G.2.1 2, 6, .inr (.inl ((fn_X6_give (a3) (fn_X0_joined ((u.1) (a1).toNatClampNeg) ((u.1) (a2).toNatClampNeg)) (u)).2.1))))] := hD
      refine W.widen (k := 3) (n := 18) (Nat.le_refl _) (Nat.le_refl _) ?_
      have hP9 := hP.sub (ws' := [(x, .inr (0, [.ref cs, .ref sc, .ref pf, .int ((fn_X6_give (a3) (fn_X0_joined ((u.1) (a1).toNatClampNeg) ((u.1) (a2).toNatClampNeg)) (u)).2.2.1), .int ((fn_X6_give (a3) (fn_X0_joined ((u.1) (a1).toNatClampNeg) ((u.1) (a2).toNatClampNeg)) (u)).2.2.2.1), .int ((fn_X6_give (a3) (fn_X0_joined ((u.1) (a1).toNatClampNeg) ((u.1) (a2).toNatClampNeg)) (u)).2.2.2.2)])), (cs, .inl (G.2.1 2, 6, .inr (.inl ((fn_X6_give (a3) (fn_X0_joined ((u.1) (a1).toNatClampNeg) ((u.1) (a2).toNatClampNeg)) (u)).2.1))))]) [0, 1] rfl
      have hD9 := hD.sub (ws' := [(x, .inr (0, [.ref cs, .ref sc, .ref pf, .int ((fn_X6_give (a3) (fn_X0_joined ((u.1) (a1).toNatClampNeg) ((u.1) (a2).toNatClampNeg)) (u)).2.2.1), .int ((fn_X6_give (a3) (fn_X0_joined ((u.1) (a1).toNatClampNeg) ((u.1) (a2).toNatClampNeg)) (u)).2.2.2.1), .int ((fn_X6_give (a3) (fn_X0_joined ((u.1) (a1).toNatClampNeg) ((u.1) (a2).toNatClampNeg)) (u)).2.2.2.2)])), (cs, .inl (G.2.1 2, 6, .inr (.inl ((fn_X6_give (a3) (fn_X0_joined ((u.1) (a1).toNatClampNeg) ((u.1) (a2).toNatClampNeg)) (u)).2.1))))]) [0, 1] (by decide) rfl
      refine W.widen (k := 3) (n := 18) (Nat.le_of_ble_eq_true rfl) (Nat.le_of_ble_eq_true rfl) ?_
      refine vx_ret ?_
      exact W.iret (v := (fn_X6_give (a3) (fn_X0_joined ((u.1) (a1).toNatClampNeg) ((u.1) (a2).toNatClampNeg)) (u)).1) hx hb hr (fun t ht hW => ⟨⟨_, (fn_X6_give (a3) (fn_X0_joined ((u.1) (a1).toNatClampNeg) ((u.1) (a2).toNatClampNeg)) (u)).2, rfl, ⟨(fn_X6_give (a3) (fn_X0_joined ((u.1) (a1).toNatClampNeg) ((u.1) (a2).toNatClampNeg)) (u)).1, (fn_X6_give (a3) (fn_X0_joined ((u.1) (a1).toNatClampNeg) ((u.1) (a2).toNatClampNeg)) (u)).2, hw, rfl, rfl⟩, by rw [ht]; exact hP9, hD9, trivial⟩, hS.F ht⟩) hS.2.2 dc_X6_side_29
def fn_X6_max (a1 : Int32) (a2 : Int32) (a3 : Int32) (u : ky_BS) : Sum String (Int32 × ky_BS) :=
  ky_b (fn_X6_requireBoth (a1) (a2)) (fun r_0 w_0 => ky_b (fn_X6_requireCell (a3)) (fun r_1 w_1 => .inr ((fn_X6_give (a3) (fn_X0_lastOf ((u.1) (a1).toNatClampNeg) ((u.1) (a2).toNatClampNeg)) (u)).1, (fn_X6_give (a3) (fn_X0_lastOf ((u.1) (a1).toNatClampNeg) ((u.1) (a2).toNatClampNeg)) (u)).2)))
set_option linter.constructorNameAsVariable false in
set_option maxHeartbeats 4000000 in
set_option maxRecDepth 100000 in
theorem mt_X6_max (l : Launch) (hl9 : l.stackTraces = false) (G : ky_G) (x : Nat) (cs : Nat) (sc : Nat) (pf : Nat) (u : ky_BS) (a1 : Int32) (a2 : Int32) (a3 : Int32) (sz : Nat)  : vx_Met l my_X6_max (.code my_X6_max prog_1_method_22_code 4 (some .int) :: ky_B) { frames := 8, cells := 3, slots := 18, locals := 123 } (ky_P G [.ref x, .int (a1), .int (a2), .int (a3)] (ky_WB G x cs sc pf u) sz (fun _ => True)) (ky_Q (S := ky_BS) G (va_A (ky_WB G x cs sc pf u) sz) (fun v u9 => ∃ (r9 : Int32) (w9 : ky_BS), fn_X6_max a1 a2 a3 u = .inr (r9, w9) ∧ v = some (.int r9) ∧ u9 = w9) (fun u9 => ky_WB G x cs sc pf u9) (fun _ _ => True)) (ky_X G (va_A (ky_WB G x cs sc pf u) sz) (fun E => fn_X6_max a1 a2 a3 u = .inl E) (ky_WB G x cs sc pf u)) 3 18 (va_A (ky_WB G x cs sc pf u) sz) := by
  refine ky_startX (by decide) (Nat.le_of_ble_eq_true rfl) (fun p e s m below meth c F hno hE A hAe hsz hA hfr hP hD hS hX ls hl => ?_)
  obtain ⟨hx, hb, hml, hown, hr, hlocks, hts⟩ := id F
  have hl : lv_has ls 4 [(0, .ref x), (1, .int (a1)), (2, .int (a2)), (3, .int (a3))] := hl
  have hP : va_P G.1 kcl [(x, .inr (0, [.ref cs, .ref sc, .ref pf, .int (u.2.1), .int (u.2.2.1), .int (u.2.2.2)])), (cs, .inl (G.2.1 2, 6, .inr (.inl (u.1))))] s.heap := hP
  have hD : va_D A [(x, .inr (0, [.ref cs, .ref sc, .ref pf, .int (u.2.1), .int (u.2.2.1), .int (u.2.2.2)])), (cs, .inl (G.2.1 2, 6, .inr (.inl (u.1))))] := hD
  have hw : fn_X6_max a1 a2 a3 u = _ := fn_X6_max.eq_1 a1 a2 a3 u
  refine lv_iload_n hx hb dc_X6_max_0 rfl (lv_at hl 1 rfl) ?_
  refine lv_iload_n hx hb dc_X6_max_1 rfl (lv_at hl 2 rfl) ?_
  refine ky_cSx (As := [.int (a1), .int (a2)]) (wr := [(x, .inr (0, [.ref cs, .ref sc, .ref pf, .int (u.2.1), .int (u.2.2.1), .int (u.2.2.2)])), (cs, .inl (G.2.1 2, 6, .inr (.inl (u.1))))]) F (hE.at hfr hS) hfr (mt_X6_requireBoth l hl9 G  (a1) (a2) s.heap.size ) ks_X6_81 ⟨⟨rfl, rfl⟩, by decide, by decide⟩ rfl hl.1 rfl (Nat.le_of_ble_eq_true rfl) ⟨Nat.le_of_ble_eq_true rfl, Nat.le_of_ble_eq_true rfl⟩ trivial hP hD hS hA [] [0, 1] rfl rfl (by decide) (by decide) (by decide) dc_X6_max_2 ?_ ?_
  · intro E ce q9 H locs hp hP hD hS hz hk9 hc1 hc2 hc3
    have hP9 := hP.sub (ws' := [(x, .inr (0, [.ref cs, .ref sc, .ref pf, .int (u.2.1), .int (u.2.2.1), .int (u.2.2.2)])), (cs, .inl (G.2.1 2, 6, .inr (.inl (u.1))))]) [0, 1] rfl
    have hD9 := hD.sub (ws' := [(x, .inr (0, [.ref cs, .ref sc, .ref pf, .int (u.2.1), .int (u.2.2.1), .int (u.2.2.2)])), (cs, .inl (G.2.1 2, 6, .inr (.inl (u.1))))]) [0, 1] (by decide) rfl
    exact vx_out (fun x h => (hno x h).elim) hlocks hc1 hc2 hc3 (fun t ht hW => ⟨hw.trans (ky_bl hp), by rw [ht]; exact hP9, hD9, hS.F ht⟩) hS.2.2 (Nat.le_of_ble_eq_true rfl) (Nat.le_of_ble_eq_true rfl)
  · rintro v9 u9 H locs ⟨r_0, w_0, hf_0, rfl, rfl⟩ hP hD hS - hz hk9
    have hw := hw.trans (ky_br hf_0)
    have hP : va_P G.1 kcl [(x, .inr (0, [.ref cs, .ref sc, .ref pf, .int (u.2.1), .int (u.2.2.1), .int (u.2.2.2)])), (cs, .inl (G.2.1 2, 6, .inr (.inl (u.1))))] H := hP
    have hD : va_D A [(x, .inr (0, [.ref cs, .ref sc, .ref pf, .int (u.2.1), .int (u.2.2.1), .int (u.2.2.2)])), (cs, .inl (G.2.1 2, 6, .inr (.inl (u.1))))] := hD
    refine W.widen (k := 2) (n := 12) (Nat.le_refl _) (Nat.le_refl _) ?_
    refine lv_iload_n hx hb dc_X6_max_5 rfl (lv_at hl 3 rfl) ?_
    refine ky_cSx (As := [.int (a3)]) (wr := [(x, .inr (0, [.ref cs, .ref sc, .ref pf, .int (u.2.1), .int (u.2.2.1), .int (u.2.2.2)])), (cs, .inl (G.2.1 2, 6, .inr (.inl (u.1))))]) F (hE.at hfr hS) hfr (mt_X6_requireCell l hl9 G  (a3) H.size ) ks_X6_27 ⟨⟨rfl, rfl⟩, by decide, by decide⟩ rfl hl.1 rfl (Nat.le_of_ble_eq_true rfl) ⟨Nat.le_of_ble_eq_true rfl, Nat.le_of_ble_eq_true rfl⟩ trivial hP hD hS hA [] [0, 1] rfl rfl (by decide) (by decide) (by decide) dc_X6_max_6 ?_ ?_
    · intro E ce q9 H locs hp hP hD hS hz hk9 hc1 hc2 hc3
      have hP9 := hP.sub (ws' := [(x, .inr (0, [.ref cs, .ref sc, .ref pf, .int (u.2.1), .int (u.2.2.1), .int (u.2.2.2)])), (cs, .inl (G.2.1 2, 6, .inr (.inl (u.1))))]) [0, 1] rfl
      have hD9 := hD.sub (ws' := [(x, .inr (0, [.ref cs, .ref sc, .ref pf, .int (u.2.1), .int (u.2.2.1), .int (u.2.2.2)])), (cs, .inl (G.2.1 2, 6, .inr (.inl (u.1))))]) [0, 1] (by decide) rfl
      exact vx_out (fun x h => (hno x h).elim) hlocks hc1 hc2 hc3 (fun t ht hW => ⟨hw.trans (ky_bl hp), by rw [ht]; exact hP9, hD9, hS.F ht⟩) hS.2.2 (Nat.le_of_ble_eq_true rfl) (Nat.le_of_ble_eq_true rfl)
    · rintro v9 u9 H locs ⟨r_1, w_1, hf_1, rfl, rfl⟩ hP hD hS - hz hk9
      have hw := hw.trans (ky_br hf_1)
      have hP : va_P G.1 kcl [(x, .inr (0, [.ref cs, .ref sc, .ref pf, .int (u.2.1), .int (u.2.2.1), .int (u.2.2.2)])), (cs, .inl (G.2.1 2, 6, .inr (.inl (u.1))))] H := hP
      have hD : va_D A [(x, .inr (0, [.ref cs, .ref sc, .ref pf, .int (u.2.1), .int (u.2.2.1), .int (u.2.2.2)])), (cs, .inl (G.2.1 2, 6, .inr (.inl (u.1))))] := hD
      refine W.widen (k := 3) (n := 18) (Nat.le_refl _) (Nat.le_refl _) ?_
      refine lv_aload_n hx hb dc_X6_max_9 rfl (lv_at hl 0 rfl) ?_
      refine lv_iload_n hx hb dc_X6_max_10 rfl (lv_at hl 3 rfl) ?_
      refine lv_aload_n hx hb dc_X6_max_11 rfl (lv_at hl 0 rfl) ?_
      refine va_get (D := G.1) (ci := 0) (v := .ref cs) (C := RX6) (T := TX6) (N := 6) hx hb hts ki_X6 hown hE.1 hP 0 rfl rfl 0 (by decide) (hts _ kw_1_98) (fun _ h9 => h9) rfl dc_X6_max_12 ?_
      refine lv_iload_n hx hb dc_X6_max_15 rfl (lv_at hl 1 rfl) ?_
      refine va_lald hx hb hE.1 hP 1 2 rfl rfl (rq_both hf_0).1 dc_X6_max_16 ?_
      refine lv_aload_n hx hb dc_X6_max_17 rfl (lv_at hl 0 rfl) ?_
      refine va_get (D := G.1) (ci := 0) (v := .ref cs) (C := RX6) (T := TX6) (N := 6) hx hb hts ki_X6 hown hE.1 hP 0 rfl rfl 0 (by decide) (hts _ kw_1_98) (fun _ h9 => h9) rfl dc_X6_max_18 ?_
      refine lv_iload_n hx hb dc_X6_max_21 rfl (lv_at hl 2 rfl) ?_
      refine va_lald hx hb hE.1 hP 1 2 rfl rfl (rq_both hf_0).2 dc_X6_max_22 ?_
      refine ky_cS0 (As := [.long ((u.1) (a1).toNatClampNeg), .long ((u.1) (a2).toNatClampNeg)]) F (mt_X0_lastOf l ((u.1) (a1).toNatClampNeg) ((u.1) (a2).toNatClampNeg)) ks_X6_122 ⟨⟨rfl, rfl⟩, by decide, by decide⟩ rfl hl.1 rfl (Nat.le_of_ble_eq_true rfl) ⟨Nat.le_of_ble_eq_true rfl, Nat.le_of_ble_eq_true rfl⟩ dc_X6_max_23 ?_
      refine ky_cVh (As := [.int (a3), .long (fn_X0_lastOf ((u.1) (a1).toNatClampNeg) ((u.1) (a2).toNatClampNeg))]) (wr := []) F (hE.at hfr hS) hfr (mt_X6_give l G (x) (cs) (sc) (pf) (u) (a3) (fn_X0_lastOf ((u.1) (a1).toNatClampNeg) ((u.1) (a2).toNatClampNeg)) H.size (rq_cell hf_1)) kv_X6_37 ⟨⟨rfl, rfl⟩, by decide, by decide⟩ rfl hl.1 rfl (Nat.le_of_ble_eq_true rfl) ⟨Nat.le_of_ble_eq_true rfl, Nat.le_of_ble_eq_true rfl⟩ (va_recv hE.1 hP (ci := 0) (q0 := 0) rfl rfl) trivial hP hD hS hA [0, 1] [] rfl rfl (by decide) (by decide) (by decide) dc_X6_max_26 ?_
      rintro v9 u9 H locs ⟨rfl, rfl⟩ hP hD hS - hz hk9
      have hP : va_P G.1 kcl [(x, .inr (0, [.ref cs, .ref sc, .ref pf, .int ((fn_X6_give (a3) (fn_X0_lastOf ((u.1) (a1).toNatClampNeg) ((u.1) (a2).toNatClampNeg)) (u)).2.2.1), .int ((fn_X6_give (a3) (fn_X0_lastOf ((u.1) (a1).toNatClampNeg) ((u.1) (a2).toNatClampNeg)) (u)).2.2.2.1), .int ((fn_X6_give (a3) (fn_X0_lastOf ((u.1) (a1).toNatClampNeg) ((u.1) (a2).toNatClampNeg)) (u)).2.2.2.2)])), (cs, .inl (G.2.1 2, 6, .inr (.inl ((fn_X6_give (a3) (fn_X0_lastOf ((u.1) (a1).toNatClampNeg) ((u.1) (a2).toNatClampNeg)) (u)).2.1))))] H := hP
      have hD : va_D A [(x, .inr (0, [.ref cs, .ref sc, .ref pf, .int ((fn_X6_give (a3) (fn_X0_lastOf ((u.1) (a1).toNatClampNeg) ((u.1) (a2).toNatClampNeg)) (u)).2.2.1), .int ((fn_X6_give (a3) (fn_X0_lastOf ((u.1) (a1).toNatClampNeg) ((u.1) (a2).toNatClampNeg)) (u)).2.2.2.1), .int ((fn_X6_give (a3) (fn_X0_lastOf ((u.1) (a1).toNatClampNeg) ((u.1) (a2).toNatClampNeg)) (u)).2.2.2.2)])), (cs, .inl (G.2.1 2, 6, .inr (.inl ((fn_X6_give (a3) (fn_X0_lastOf ((u.1) (a1).toNatClampNeg) ((u.1) (a2).toNatClampNeg)) (u)).2.1))))] := hD
      refine W.widen (k := 3) (n := 18) (Nat.le_refl _) (Nat.le_refl _) ?_
      have hP9 := hP.sub (ws' := [(x, .inr (0, [.ref cs, .ref sc, .ref pf, .int ((fn_X6_give (a3) (fn_X0_lastOf ((u.1) (a1).toNatClampNeg) ((u.1) (a2).toNatClampNeg)) (u)).2.2.1), .int ((fn_X6_give (a3) (fn_X0_lastOf ((u.1) (a1).toNatClampNeg) ((u.1) (a2).toNatClampNeg)) (u)).2.2.2.1), .int ((fn_X6_give (a3) (fn_X0_lastOf ((u.1) (a1).toNatClampNeg) ((u.1) (a2).toNatClampNeg)) (u)).2.2.2.2)])), (cs, .inl (G.2.1 2, 6, .inr (.inl ((fn_X6_give (a3) (fn_X0_lastOf ((u.1) (a1).toNatClampNeg) ((u.1) (a2).toNatClampNeg)) (u)).2.1))))]) [0, 1] rfl
      have hD9 := hD.sub (ws' := [(x, .inr (0, [.ref cs, .ref sc, .ref pf, .int ((fn_X6_give (a3) (fn_X0_lastOf ((u.1) (a1).toNatClampNeg) ((u.1) (a2).toNatClampNeg)) (u)).2.2.1), .int ((fn_X6_give (a3) (fn_X0_lastOf ((u.1) (a1).toNatClampNeg) ((u.1) (a2).toNatClampNeg)) (u)).2.2.2.1), .int ((fn_X6_give (a3) (fn_X0_lastOf ((u.1) (a1).toNatClampNeg) ((u.1) (a2).toNatClampNeg)) (u)).2.2.2.2)])), (cs, .inl (G.2.1 2, 6, .inr (.inl ((fn_X6_give (a3) (fn_X0_lastOf ((u.1) (a1).toNatClampNeg) ((u.1) (a2).toNatClampNeg)) (u)).2.1))))]) [0, 1] (by decide) rfl
      refine W.widen (k := 3) (n := 18) (Nat.le_of_ble_eq_true rfl) (Nat.le_of_ble_eq_true rfl) ?_
      refine vx_ret ?_
      exact W.iret (v := (fn_X6_give (a3) (fn_X0_lastOf ((u.1) (a1).toNatClampNeg) ((u.1) (a2).toNatClampNeg)) (u)).1) hx hb hr (fun t ht hW => ⟨⟨_, (fn_X6_give (a3) (fn_X0_lastOf ((u.1) (a1).toNatClampNeg) ((u.1) (a2).toNatClampNeg)) (u)).2, rfl, ⟨(fn_X6_give (a3) (fn_X0_lastOf ((u.1) (a1).toNatClampNeg) ((u.1) (a2).toNatClampNeg)) (u)).1, (fn_X6_give (a3) (fn_X0_lastOf ((u.1) (a1).toNatClampNeg) ((u.1) (a2).toNatClampNeg)) (u)).2, hw, rfl, rfl⟩, by rw [ht]; exact hP9, hD9, trivial⟩, hS.F ht⟩) hS.2.2 dc_X6_max_29
def fn_X6_min (a1 : Int32) (a2 : Int32) (a3 : Int32) (u : ky_BS) : Sum String (Int32 × ky_BS) :=
  ky_b (fn_X6_requireBoth (a1) (a2)) (fun r_0 w_0 => ky_b (fn_X6_requireCell (a3)) (fun r_1 w_1 => .inr ((fn_X6_give (a3) (fn_X0_firstOf ((u.1) (a1).toNatClampNeg) ((u.1) (a2).toNatClampNeg)) (u)).1, (fn_X6_give (a3) (fn_X0_firstOf ((u.1) (a1).toNatClampNeg) ((u.1) (a2).toNatClampNeg)) (u)).2)))
set_option linter.constructorNameAsVariable false in
set_option maxHeartbeats 4000000 in
set_option maxRecDepth 100000 in
theorem mt_X6_min (l : Launch) (hl9 : l.stackTraces = false) (G : ky_G) (x : Nat) (cs : Nat) (sc : Nat) (pf : Nat) (u : ky_BS) (a1 : Int32) (a2 : Int32) (a3 : Int32) (sz : Nat)  : vx_Met l my_X6_min (.code my_X6_min prog_1_method_23_code 4 (some .int) :: ky_B) { frames := 8, cells := 3, slots := 18, locals := 123 } (ky_P G [.ref x, .int (a1), .int (a2), .int (a3)] (ky_WB G x cs sc pf u) sz (fun _ => True)) (ky_Q (S := ky_BS) G (va_A (ky_WB G x cs sc pf u) sz) (fun v u9 => ∃ (r9 : Int32) (w9 : ky_BS), fn_X6_min a1 a2 a3 u = .inr (r9, w9) ∧ v = some (.int r9) ∧ u9 = w9) (fun u9 => ky_WB G x cs sc pf u9) (fun _ _ => True)) (ky_X G (va_A (ky_WB G x cs sc pf u) sz) (fun E => fn_X6_min a1 a2 a3 u = .inl E) (ky_WB G x cs sc pf u)) 3 18 (va_A (ky_WB G x cs sc pf u) sz) := by
  refine ky_startX (by decide) (Nat.le_of_ble_eq_true rfl) (fun p e s m below meth c F hno hE A hAe hsz hA hfr hP hD hS hX ls hl => ?_)
  obtain ⟨hx, hb, hml, hown, hr, hlocks, hts⟩ := id F
  have hl : lv_has ls 4 [(0, .ref x), (1, .int (a1)), (2, .int (a2)), (3, .int (a3))] := hl
  have hP : va_P G.1 kcl [(x, .inr (0, [.ref cs, .ref sc, .ref pf, .int (u.2.1), .int (u.2.2.1), .int (u.2.2.2)])), (cs, .inl (G.2.1 2, 6, .inr (.inl (u.1))))] s.heap := hP
  have hD : va_D A [(x, .inr (0, [.ref cs, .ref sc, .ref pf, .int (u.2.1), .int (u.2.2.1), .int (u.2.2.2)])), (cs, .inl (G.2.1 2, 6, .inr (.inl (u.1))))] := hD
  have hw : fn_X6_min a1 a2 a3 u = _ := fn_X6_min.eq_1 a1 a2 a3 u
  refine lv_iload_n hx hb dc_X6_min_0 rfl (lv_at hl 1 rfl) ?_
  refine lv_iload_n hx hb dc_X6_min_1 rfl (lv_at hl 2 rfl) ?_
  refine ky_cSx (As := [.int (a1), .int (a2)]) (wr := [(x, .inr (0, [.ref cs, .ref sc, .ref pf, .int (u.2.1), .int (u.2.2.1), .int (u.2.2.2)])), (cs, .inl (G.2.1 2, 6, .inr (.inl (u.1))))]) F (hE.at hfr hS) hfr (mt_X6_requireBoth l hl9 G  (a1) (a2) s.heap.size ) ks_X6_81 ⟨⟨rfl, rfl⟩, by decide, by decide⟩ rfl hl.1 rfl (Nat.le_of_ble_eq_true rfl) ⟨Nat.le_of_ble_eq_true rfl, Nat.le_of_ble_eq_true rfl⟩ trivial hP hD hS hA [] [0, 1] rfl rfl (by decide) (by decide) (by decide) dc_X6_min_2 ?_ ?_
  · intro E ce q9 H locs hp hP hD hS hz hk9 hc1 hc2 hc3
    have hP9 := hP.sub (ws' := [(x, .inr (0, [.ref cs, .ref sc, .ref pf, .int (u.2.1), .int (u.2.2.1), .int (u.2.2.2)])), (cs, .inl (G.2.1 2, 6, .inr (.inl (u.1))))]) [0, 1] rfl
    have hD9 := hD.sub (ws' := [(x, .inr (0, [.ref cs, .ref sc, .ref pf, .int (u.2.1), .int (u.2.2.1), .int (u.2.2.2)])), (cs, .inl (G.2.1 2, 6, .inr (.inl (u.1))))]) [0, 1] (by decide) rfl
    exact vx_out (fun x h => (hno x h).elim) hlocks hc1 hc2 hc3 (fun t ht hW => ⟨hw.trans (ky_bl hp), by rw [ht]; exact hP9, hD9, hS.F ht⟩) hS.2.2 (Nat.le_of_ble_eq_true rfl) (Nat.le_of_ble_eq_true rfl)
  · rintro v9 u9 H locs ⟨r_0, w_0, hf_0, rfl, rfl⟩ hP hD hS - hz hk9
    have hw := hw.trans (ky_br hf_0)
    have hP : va_P G.1 kcl [(x, .inr (0, [.ref cs, .ref sc, .ref pf, .int (u.2.1), .int (u.2.2.1), .int (u.2.2.2)])), (cs, .inl (G.2.1 2, 6, .inr (.inl (u.1))))] H := hP
    have hD : va_D A [(x, .inr (0, [.ref cs, .ref sc, .ref pf, .int (u.2.1), .int (u.2.2.1), .int (u.2.2.2)])), (cs, .inl (G.2.1 2, 6, .inr (.inl (u.1))))] := hD
    refine W.widen (k := 2) (n := 12) (Nat.le_refl _) (Nat.le_refl _) ?_
    refine lv_iload_n hx hb dc_X6_min_5 rfl (lv_at hl 3 rfl) ?_
    refine ky_cSx (As := [.int (a3)]) (wr := [(x, .inr (0, [.ref cs, .ref sc, .ref pf, .int (u.2.1), .int (u.2.2.1), .int (u.2.2.2)])), (cs, .inl (G.2.1 2, 6, .inr (.inl (u.1))))]) F (hE.at hfr hS) hfr (mt_X6_requireCell l hl9 G  (a3) H.size ) ks_X6_27 ⟨⟨rfl, rfl⟩, by decide, by decide⟩ rfl hl.1 rfl (Nat.le_of_ble_eq_true rfl) ⟨Nat.le_of_ble_eq_true rfl, Nat.le_of_ble_eq_true rfl⟩ trivial hP hD hS hA [] [0, 1] rfl rfl (by decide) (by decide) (by decide) dc_X6_min_6 ?_ ?_
    · intro E ce q9 H locs hp hP hD hS hz hk9 hc1 hc2 hc3
      have hP9 := hP.sub (ws' := [(x, .inr (0, [.ref cs, .ref sc, .ref pf, .int (u.2.1), .int (u.2.2.1), .int (u.2.2.2)])), (cs, .inl (G.2.1 2, 6, .inr (.inl (u.1))))]) [0, 1] rfl
      have hD9 := hD.sub (ws' := [(x, .inr (0, [.ref cs, .ref sc, .ref pf, .int (u.2.1), .int (u.2.2.1), .int (u.2.2.2)])), (cs, .inl (G.2.1 2, 6, .inr (.inl (u.1))))]) [0, 1] (by decide) rfl
      exact vx_out (fun x h => (hno x h).elim) hlocks hc1 hc2 hc3 (fun t ht hW => ⟨hw.trans (ky_bl hp), by rw [ht]; exact hP9, hD9, hS.F ht⟩) hS.2.2 (Nat.le_of_ble_eq_true rfl) (Nat.le_of_ble_eq_true rfl)
    · rintro v9 u9 H locs ⟨r_1, w_1, hf_1, rfl, rfl⟩ hP hD hS - hz hk9
      have hw := hw.trans (ky_br hf_1)
      have hP : va_P G.1 kcl [(x, .inr (0, [.ref cs, .ref sc, .ref pf, .int (u.2.1), .int (u.2.2.1), .int (u.2.2.2)])), (cs, .inl (G.2.1 2, 6, .inr (.inl (u.1))))] H := hP
      have hD : va_D A [(x, .inr (0, [.ref cs, .ref sc, .ref pf, .int (u.2.1), .int (u.2.2.1), .int (u.2.2.2)])), (cs, .inl (G.2.1 2, 6, .inr (.inl (u.1))))] := hD
      refine W.widen (k := 3) (n := 18) (Nat.le_refl _) (Nat.le_refl _) ?_
      refine lv_aload_n hx hb dc_X6_min_9 rfl (lv_at hl 0 rfl) ?_
      refine lv_iload_n hx hb dc_X6_min_10 rfl (lv_at hl 3 rfl) ?_
      refine lv_aload_n hx hb dc_X6_min_11 rfl (lv_at hl 0 rfl) ?_
      refine va_get (D := G.1) (ci := 0) (v := .ref cs) (C := RX6) (T := TX6) (N := 6) hx hb hts ki_X6 hown hE.1 hP 0 rfl rfl 0 (by decide) (hts _ kw_1_98) (fun _ h9 => h9) rfl dc_X6_min_12 ?_
      refine lv_iload_n hx hb dc_X6_min_15 rfl (lv_at hl 1 rfl) ?_
      refine va_lald hx hb hE.1 hP 1 2 rfl rfl (rq_both hf_0).1 dc_X6_min_16 ?_
      refine lv_aload_n hx hb dc_X6_min_17 rfl (lv_at hl 0 rfl) ?_
      refine va_get (D := G.1) (ci := 0) (v := .ref cs) (C := RX6) (T := TX6) (N := 6) hx hb hts ki_X6 hown hE.1 hP 0 rfl rfl 0 (by decide) (hts _ kw_1_98) (fun _ h9 => h9) rfl dc_X6_min_18 ?_
      refine lv_iload_n hx hb dc_X6_min_21 rfl (lv_at hl 2 rfl) ?_
      refine va_lald hx hb hE.1 hP 1 2 rfl rfl (rq_both hf_0).2 dc_X6_min_22 ?_
      refine ky_cS0 (As := [.long ((u.1) (a1).toNatClampNeg), .long ((u.1) (a2).toNatClampNeg)]) F (mt_X0_firstOf l ((u.1) (a1).toNatClampNeg) ((u.1) (a2).toNatClampNeg)) ks_X6_125 ⟨⟨rfl, rfl⟩, by decide, by decide⟩ rfl hl.1 rfl (Nat.le_of_ble_eq_true rfl) ⟨Nat.le_of_ble_eq_true rfl, Nat.le_of_ble_eq_true rfl⟩ dc_X6_min_23 ?_
      refine ky_cVh (As := [.int (a3), .long (fn_X0_firstOf ((u.1) (a1).toNatClampNeg) ((u.1) (a2).toNatClampNeg))]) (wr := []) F (hE.at hfr hS) hfr (mt_X6_give l G (x) (cs) (sc) (pf) (u) (a3) (fn_X0_firstOf ((u.1) (a1).toNatClampNeg) ((u.1) (a2).toNatClampNeg)) H.size (rq_cell hf_1)) kv_X6_37 ⟨⟨rfl, rfl⟩, by decide, by decide⟩ rfl hl.1 rfl (Nat.le_of_ble_eq_true rfl) ⟨Nat.le_of_ble_eq_true rfl, Nat.le_of_ble_eq_true rfl⟩ (va_recv hE.1 hP (ci := 0) (q0 := 0) rfl rfl) trivial hP hD hS hA [0, 1] [] rfl rfl (by decide) (by decide) (by decide) dc_X6_min_26 ?_
      rintro v9 u9 H locs ⟨rfl, rfl⟩ hP hD hS - hz hk9
      have hP : va_P G.1 kcl [(x, .inr (0, [.ref cs, .ref sc, .ref pf, .int ((fn_X6_give (a3) (fn_X0_firstOf ((u.1) (a1).toNatClampNeg) ((u.1) (a2).toNatClampNeg)) (u)).2.2.1), .int ((fn_X6_give (a3) (fn_X0_firstOf ((u.1) (a1).toNatClampNeg) ((u.1) (a2).toNatClampNeg)) (u)).2.2.2.1), .int ((fn_X6_give (a3) (fn_X0_firstOf ((u.1) (a1).toNatClampNeg) ((u.1) (a2).toNatClampNeg)) (u)).2.2.2.2)])), (cs, .inl (G.2.1 2, 6, .inr (.inl ((fn_X6_give (a3) (fn_X0_firstOf ((u.1) (a1).toNatClampNeg) ((u.1) (a2).toNatClampNeg)) (u)).2.1))))] H := hP
      have hD : va_D A [(x, .inr (0, [.ref cs, .ref sc, .ref pf, .int ((fn_X6_give (a3) (fn_X0_firstOf ((u.1) (a1).toNatClampNeg) ((u.1) (a2).toNatClampNeg)) (u)).2.2.1), .int ((fn_X6_give (a3) (fn_X0_firstOf ((u.1) (a1).toNatClampNeg) ((u.1) (a2).toNatClampNeg)) (u)).2.2.2.1), .int ((fn_X6_give (a3) (fn_X0_firstOf ((u.1) (a1).toNatClampNeg) ((u.1) (a2).toNatClampNeg)) (u)).2.2.2.2)])), (cs, .inl (G.2.1 2, 6, .inr (.inl ((fn_X6_give (a3) (fn_X0_firstOf ((u.1) (a1).toNatClampNeg) ((u.1) (a2).toNatClampNeg)) (u)).2.1))))] := hD
      refine W.widen (k := 3) (n := 18) (Nat.le_refl _) (Nat.le_refl _) ?_
      have hP9 := hP.sub (ws' := [(x, .inr (0, [.ref cs, .ref sc, .ref pf, .int ((fn_X6_give (a3) (fn_X0_firstOf ((u.1) (a1).toNatClampNeg) ((u.1) (a2).toNatClampNeg)) (u)).2.2.1), .int ((fn_X6_give (a3) (fn_X0_firstOf ((u.1) (a1).toNatClampNeg) ((u.1) (a2).toNatClampNeg)) (u)).2.2.2.1), .int ((fn_X6_give (a3) (fn_X0_firstOf ((u.1) (a1).toNatClampNeg) ((u.1) (a2).toNatClampNeg)) (u)).2.2.2.2)])), (cs, .inl (G.2.1 2, 6, .inr (.inl ((fn_X6_give (a3) (fn_X0_firstOf ((u.1) (a1).toNatClampNeg) ((u.1) (a2).toNatClampNeg)) (u)).2.1))))]) [0, 1] rfl
      have hD9 := hD.sub (ws' := [(x, .inr (0, [.ref cs, .ref sc, .ref pf, .int ((fn_X6_give (a3) (fn_X0_firstOf ((u.1) (a1).toNatClampNeg) ((u.1) (a2).toNatClampNeg)) (u)).2.2.1), .int ((fn_X6_give (a3) (fn_X0_firstOf ((u.1) (a1).toNatClampNeg) ((u.1) (a2).toNatClampNeg)) (u)).2.2.2.1), .int ((fn_X6_give (a3) (fn_X0_firstOf ((u.1) (a1).toNatClampNeg) ((u.1) (a2).toNatClampNeg)) (u)).2.2.2.2)])), (cs, .inl (G.2.1 2, 6, .inr (.inl ((fn_X6_give (a3) (fn_X0_firstOf ((u.1) (a1).toNatClampNeg) ((u.1) (a2).toNatClampNeg)) (u)).2.1))))]) [0, 1] (by decide) rfl
      refine W.widen (k := 3) (n := 18) (Nat.le_of_ble_eq_true rfl) (Nat.le_of_ble_eq_true rfl) ?_
      refine vx_ret ?_
      exact W.iret (v := (fn_X6_give (a3) (fn_X0_firstOf ((u.1) (a1).toNatClampNeg) ((u.1) (a2).toNatClampNeg)) (u)).1) hx hb hr (fun t ht hW => ⟨⟨_, (fn_X6_give (a3) (fn_X0_firstOf ((u.1) (a1).toNatClampNeg) ((u.1) (a2).toNatClampNeg)) (u)).2, rfl, ⟨(fn_X6_give (a3) (fn_X0_firstOf ((u.1) (a1).toNatClampNeg) ((u.1) (a2).toNatClampNeg)) (u)).1, (fn_X6_give (a3) (fn_X0_firstOf ((u.1) (a1).toNatClampNeg) ((u.1) (a2).toNatClampNeg)) (u)).2, hw, rfl, rfl⟩, by rw [ht]; exact hP9, hD9, trivial⟩, hS.F ht⟩) hS.2.2 dc_X6_min_29
def fn_X6_walk (a1 : Int32) (a2 : Int32) (u : ky_BS) : Sum String (Int32 × ky_BS) :=
  ky_b (fn_X6_requireCell (a1)) (fun r_0 w_0 => ky_b (fn_X6_requireWithin (a2) ((-40 : Int32)) ((40 : Int32))) (fun r_1 w_1 => .inr ((fn_X6_give (a1) (fn_X4_walkFrom ((u.1) (a1).toNatClampNeg) (a2)) (u)).1, (fn_X6_give (a1) (fn_X4_walkFrom ((u.1) (a1).toNatClampNeg) (a2)) (u)).2)))
set_option linter.constructorNameAsVariable false in
set_option maxHeartbeats 4000000 in
set_option maxRecDepth 100000 in
theorem mt_X6_walk (l : Launch) (hl9 : l.stackTraces = false) (G : ky_G) (x : Nat) (cs : Nat) (sc : Nat) (pf : Nat) (u : ky_BS) (a1 : Int32) (a2 : Int32) (sz : Nat)  : vx_Met l my_X6_walk (.code my_X6_walk prog_1_method_24_code 3 (some .int) :: ky_B) { frames := 7, cells := 2, slots := 12, locals := 107 } (ky_P G [.ref x, .int (a1), .int (a2)] (ky_WB G x cs sc pf u) sz (fun _ => True)) (ky_Q (S := ky_BS) G (va_A (ky_WB G x cs sc pf u) sz) (fun v u9 => ∃ (r9 : Int32) (w9 : ky_BS), fn_X6_walk a1 a2 u = .inr (r9, w9) ∧ v = some (.int r9) ∧ u9 = w9) (fun u9 => ky_WB G x cs sc pf u9) (fun _ _ => True)) (ky_X G (va_A (ky_WB G x cs sc pf u) sz) (fun E => fn_X6_walk a1 a2 u = .inl E) (ky_WB G x cs sc pf u)) 2 12 (va_A (ky_WB G x cs sc pf u) sz) := by
  refine ky_startX (by decide) (Nat.le_of_ble_eq_true rfl) (fun p e s m below meth c F hno hE A hAe hsz hA hfr hP hD hS hX ls hl => ?_)
  obtain ⟨hx, hb, hml, hown, hr, hlocks, hts⟩ := id F
  have hl : lv_has ls 3 [(0, .ref x), (1, .int (a1)), (2, .int (a2))] := hl
  have hP : va_P G.1 kcl [(x, .inr (0, [.ref cs, .ref sc, .ref pf, .int (u.2.1), .int (u.2.2.1), .int (u.2.2.2)])), (cs, .inl (G.2.1 2, 6, .inr (.inl (u.1))))] s.heap := hP
  have hD : va_D A [(x, .inr (0, [.ref cs, .ref sc, .ref pf, .int (u.2.1), .int (u.2.2.1), .int (u.2.2.2)])), (cs, .inl (G.2.1 2, 6, .inr (.inl (u.1))))] := hD
  have hw : fn_X6_walk a1 a2 u = _ := fn_X6_walk.eq_1 a1 a2 u
  refine lv_iload_n hx hb dc_X6_walk_0 rfl (lv_at hl 1 rfl) ?_
  refine ky_cSx (As := [.int (a1)]) (wr := [(x, .inr (0, [.ref cs, .ref sc, .ref pf, .int (u.2.1), .int (u.2.2.1), .int (u.2.2.2)])), (cs, .inl (G.2.1 2, 6, .inr (.inl (u.1))))]) F (hE.at hfr hS) hfr (mt_X6_requireCell l hl9 G  (a1) s.heap.size ) ks_X6_27 ⟨⟨rfl, rfl⟩, by decide, by decide⟩ rfl hl.1 rfl (Nat.le_of_ble_eq_true rfl) ⟨Nat.le_of_ble_eq_true rfl, Nat.le_of_ble_eq_true rfl⟩ trivial hP hD hS hA [] [0, 1] rfl rfl (by decide) (by decide) (by decide) dc_X6_walk_1 ?_ ?_
  · intro E ce q9 H locs hp hP hD hS hz hk9 hc1 hc2 hc3
    have hP9 := hP.sub (ws' := [(x, .inr (0, [.ref cs, .ref sc, .ref pf, .int (u.2.1), .int (u.2.2.1), .int (u.2.2.2)])), (cs, .inl (G.2.1 2, 6, .inr (.inl (u.1))))]) [0, 1] rfl
    have hD9 := hD.sub (ws' := [(x, .inr (0, [.ref cs, .ref sc, .ref pf, .int (u.2.1), .int (u.2.2.1), .int (u.2.2.2)])), (cs, .inl (G.2.1 2, 6, .inr (.inl (u.1))))]) [0, 1] (by decide) rfl
    exact vx_out (fun x h => (hno x h).elim) hlocks hc1 hc2 hc3 (fun t ht hW => ⟨hw.trans (ky_bl hp), by rw [ht]; exact hP9, hD9, hS.F ht⟩) hS.2.2 (Nat.le_of_ble_eq_true rfl) (Nat.le_of_ble_eq_true rfl)
  · rintro v9 u9 H locs ⟨r_0, w_0, hf_0, rfl, rfl⟩ hP hD hS - hz hk9
    have hw := hw.trans (ky_br hf_0)
    have hP : va_P G.1 kcl [(x, .inr (0, [.ref cs, .ref sc, .ref pf, .int (u.2.1), .int (u.2.2.1), .int (u.2.2.2)])), (cs, .inl (G.2.1 2, 6, .inr (.inl (u.1))))] H := hP
    have hD : va_D A [(x, .inr (0, [.ref cs, .ref sc, .ref pf, .int (u.2.1), .int (u.2.2.1), .int (u.2.2.2)])), (cs, .inl (G.2.1 2, 6, .inr (.inl (u.1))))] := hD
    refine W.widen (k := 1) (n := 6) (Nat.le_refl _) (Nat.le_refl _) ?_
    refine lv_iload_n hx hb dc_X6_walk_4 rfl (lv_at hl 2 rfl) ?_
    refine lv_bipush (v := (-40)) hx hb dc_X6_walk_5 (by decide) ?_
    refine lv_bipush (v := 40) hx hb dc_X6_walk_7 (by decide) ?_
    refine ky_cSx (As := [.int (a2), .int ((-40 : Int32)), .int ((40 : Int32))]) (wr := [(x, .inr (0, [.ref cs, .ref sc, .ref pf, .int (u.2.1), .int (u.2.2.1), .int (u.2.2.2)])), (cs, .inl (G.2.1 2, 6, .inr (.inl (u.1))))]) F (hE.at hfr hS) hfr (mt_X6_requireWithin l hl9 G  (a2) ((-40 : Int32)) ((40 : Int32)) H.size ) ks_X6_55 ⟨⟨rfl, rfl⟩, by decide, by decide⟩ rfl hl.1 rfl (Nat.le_of_ble_eq_true rfl) ⟨Nat.le_of_ble_eq_true rfl, Nat.le_of_ble_eq_true rfl⟩ trivial hP hD hS hA [] [0, 1] rfl rfl (by decide) (by decide) (by decide) dc_X6_walk_9 ?_ ?_
    · intro E ce q9 H locs hp hP hD hS hz hk9 hc1 hc2 hc3
      have hP9 := hP.sub (ws' := [(x, .inr (0, [.ref cs, .ref sc, .ref pf, .int (u.2.1), .int (u.2.2.1), .int (u.2.2.2)])), (cs, .inl (G.2.1 2, 6, .inr (.inl (u.1))))]) [0, 1] rfl
      have hD9 := hD.sub (ws' := [(x, .inr (0, [.ref cs, .ref sc, .ref pf, .int (u.2.1), .int (u.2.2.1), .int (u.2.2.2)])), (cs, .inl (G.2.1 2, 6, .inr (.inl (u.1))))]) [0, 1] (by decide) rfl
      exact vx_out (fun x h => (hno x h).elim) hlocks hc1 hc2 hc3 (fun t ht hW => ⟨hw.trans (ky_bl hp), by rw [ht]; exact hP9, hD9, hS.F ht⟩) hS.2.2 (Nat.le_of_ble_eq_true rfl) (Nat.le_of_ble_eq_true rfl)
    · rintro v9 u9 H locs ⟨r_1, w_1, hf_1, rfl, rfl⟩ hP hD hS - hz hk9
      have hw := hw.trans (ky_br hf_1)
      have hP : va_P G.1 kcl [(x, .inr (0, [.ref cs, .ref sc, .ref pf, .int (u.2.1), .int (u.2.2.1), .int (u.2.2.2)])), (cs, .inl (G.2.1 2, 6, .inr (.inl (u.1))))] H := hP
      have hD : va_D A [(x, .inr (0, [.ref cs, .ref sc, .ref pf, .int (u.2.1), .int (u.2.2.1), .int (u.2.2.2)])), (cs, .inl (G.2.1 2, 6, .inr (.inl (u.1))))] := hD
      refine W.widen (k := 2) (n := 12) (Nat.le_refl _) (Nat.le_refl _) ?_
      refine lv_aload_n hx hb dc_X6_walk_12 rfl (lv_at hl 0 rfl) ?_
      refine lv_iload_n hx hb dc_X6_walk_13 rfl (lv_at hl 1 rfl) ?_
      refine lv_aload_n hx hb dc_X6_walk_14 rfl (lv_at hl 0 rfl) ?_
      refine va_get (D := G.1) (ci := 0) (v := .ref cs) (C := RX6) (T := TX6) (N := 6) hx hb hts ki_X6 hown hE.1 hP 0 rfl rfl 0 (by decide) (hts _ kw_1_98) (fun _ h9 => h9) rfl dc_X6_walk_15 ?_
      refine lv_iload_n hx hb dc_X6_walk_18 rfl (lv_at hl 1 rfl) ?_
      refine va_lald hx hb hE.1 hP 1 2 rfl rfl (rq_cell hf_0) dc_X6_walk_19 ?_
      refine lv_iload_n hx hb dc_X6_walk_20 rfl (lv_at hl 2 rfl) ?_
      refine ky_cS0 (As := [.long ((u.1) (a1).toNatClampNeg), .int (a2)]) F (mt_X4_walkFrom l ((u.1) (a1).toNatClampNeg) (a2)) ks_X6_128 ⟨⟨rfl, rfl⟩, by decide, by decide⟩ rfl hl.1 rfl (Nat.le_of_ble_eq_true rfl) ⟨Nat.le_of_ble_eq_true rfl, Nat.le_of_ble_eq_true rfl⟩ dc_X6_walk_21 ?_
      refine ky_cVh (As := [.int (a1), .long (fn_X4_walkFrom ((u.1) (a1).toNatClampNeg) (a2))]) (wr := []) F (hE.at hfr hS) hfr (mt_X6_give l G (x) (cs) (sc) (pf) (u) (a1) (fn_X4_walkFrom ((u.1) (a1).toNatClampNeg) (a2)) H.size (rq_cell hf_0)) kv_X6_37 ⟨⟨rfl, rfl⟩, by decide, by decide⟩ rfl hl.1 rfl (Nat.le_of_ble_eq_true rfl) ⟨Nat.le_of_ble_eq_true rfl, Nat.le_of_ble_eq_true rfl⟩ (va_recv hE.1 hP (ci := 0) (q0 := 0) rfl rfl) trivial hP hD hS hA [0, 1] [] rfl rfl (by decide) (by decide) (by decide) dc_X6_walk_24 ?_
      rintro v9 u9 H locs ⟨rfl, rfl⟩ hP hD hS - hz hk9
      have hP : va_P G.1 kcl [(x, .inr (0, [.ref cs, .ref sc, .ref pf, .int ((fn_X6_give (a1) (fn_X4_walkFrom ((u.1) (a1).toNatClampNeg) (a2)) (u)).2.2.1), .int ((fn_X6_give (a1) (fn_X4_walkFrom ((u.1) (a1).toNatClampNeg) (a2)) (u)).2.2.2.1), .int ((fn_X6_give (a1) (fn_X4_walkFrom ((u.1) (a1).toNatClampNeg) (a2)) (u)).2.2.2.2)])), (cs, .inl (G.2.1 2, 6, .inr (.inl ((fn_X6_give (a1) (fn_X4_walkFrom ((u.1) (a1).toNatClampNeg) (a2)) (u)).2.1))))] H := hP
      have hD : va_D A [(x, .inr (0, [.ref cs, .ref sc, .ref pf, .int ((fn_X6_give (a1) (fn_X4_walkFrom ((u.1) (a1).toNatClampNeg) (a2)) (u)).2.2.1), .int ((fn_X6_give (a1) (fn_X4_walkFrom ((u.1) (a1).toNatClampNeg) (a2)) (u)).2.2.2.1), .int ((fn_X6_give (a1) (fn_X4_walkFrom ((u.1) (a1).toNatClampNeg) (a2)) (u)).2.2.2.2)])), (cs, .inl (G.2.1 2, 6, .inr (.inl ((fn_X6_give (a1) (fn_X4_walkFrom ((u.1) (a1).toNatClampNeg) (a2)) (u)).2.1))))] := hD
      refine W.widen (k := 2) (n := 12) (Nat.le_refl _) (Nat.le_refl _) ?_
      have hP9 := hP.sub (ws' := [(x, .inr (0, [.ref cs, .ref sc, .ref pf, .int ((fn_X6_give (a1) (fn_X4_walkFrom ((u.1) (a1).toNatClampNeg) (a2)) (u)).2.2.1), .int ((fn_X6_give (a1) (fn_X4_walkFrom ((u.1) (a1).toNatClampNeg) (a2)) (u)).2.2.2.1), .int ((fn_X6_give (a1) (fn_X4_walkFrom ((u.1) (a1).toNatClampNeg) (a2)) (u)).2.2.2.2)])), (cs, .inl (G.2.1 2, 6, .inr (.inl ((fn_X6_give (a1) (fn_X4_walkFrom ((u.1) (a1).toNatClampNeg) (a2)) (u)).2.1))))]) [0, 1] rfl
      have hD9 := hD.sub (ws' := [(x, .inr (0, [.ref cs, .ref sc, .ref pf, .int ((fn_X6_give (a1) (fn_X4_walkFrom ((u.1) (a1).toNatClampNeg) (a2)) (u)).2.2.1), .int ((fn_X6_give (a1) (fn_X4_walkFrom ((u.1) (a1).toNatClampNeg) (a2)) (u)).2.2.2.1), .int ((fn_X6_give (a1) (fn_X4_walkFrom ((u.1) (a1).toNatClampNeg) (a2)) (u)).2.2.2.2)])), (cs, .inl (G.2.1 2, 6, .inr (.inl ((fn_X6_give (a1) (fn_X4_walkFrom ((u.1) (a1).toNatClampNeg) (a2)) (u)).2.1))))]) [0, 1] (by decide) rfl
      refine W.widen (k := 2) (n := 12) (Nat.le_of_ble_eq_true rfl) (Nat.le_of_ble_eq_true rfl) ?_
      refine vx_ret ?_
      exact W.iret (v := (fn_X6_give (a1) (fn_X4_walkFrom ((u.1) (a1).toNatClampNeg) (a2)) (u)).1) hx hb hr (fun t ht hW => ⟨⟨_, (fn_X6_give (a1) (fn_X4_walkFrom ((u.1) (a1).toNatClampNeg) (a2)) (u)).2, rfl, ⟨(fn_X6_give (a1) (fn_X4_walkFrom ((u.1) (a1).toNatClampNeg) (a2)) (u)).1, (fn_X6_give (a1) (fn_X4_walkFrom ((u.1) (a1).toNatClampNeg) (a2)) (u)).2, hw, rfl, rfl⟩, by rw [ht]; exact hP9, hD9, trivial⟩, hS.F ht⟩) hS.2.2 dc_X6_walk_27
