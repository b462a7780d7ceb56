def fn_X6_give (a1 : Int32) (a2 : Int64) (u : ky_BS) : Int32 × ky_BS :=
  (fn_X0_kindIn (a2), (vp_updL (u.1) (a1).toNatClampNeg (a2), (u.2.1) + ((1 : Int32)), u.2.2.1, u.2.2.2))
set_option maxHeartbeats 4000000 in
set_option maxRecDepth 100000 in
theorem mt_X6_give (l : Launch) (G : ky_G) (x : Nat) (cs : Nat) (sc : Nat) (pf : Nat) (u : ky_BS) (a1 : Int32) (a2 : Int64) (sz : Nat) (h1 : vp_in (a1) 6) : Met l my_X6_give (.code my_X6_give prog_1_method_61_code 4 (some .int) :: ky_B) { frames := 4, cells := 0, slots := 0, locals := 84 } (ky_P G [.ref x, .int (a1), .long (a2)] (ky_WB G x cs sc pf u) sz (fun _ => True)) (ky_Q (S := ky_BS) G (va_A (ky_WB G x cs sc pf u) sz) (fun v u9 => v = some (.int (fn_X6_give a1 a2 u).1) ∧ u9 = (fn_X6_give a1 a2 u).2) (fun u9 => ky_WB G x cs sc pf u9) (fun _ _ => True)) 0 0 (va_A (ky_WB G x cs sc pf u) sz) := by
  refine ky_start (by decide) (Nat.le_of_ble_eq_true rfl) (fun p e s m below meth c F hE A hAe hsz hA hfr hP hD hS hX ls hl => ?_)
  obtain ⟨hx, hb, hml, hown, hr, hlocks, hts⟩ := id F
  have hl : lv_has ls 4 [(0, .ref x), (1, .int (a1)), (2, .long (a2))] := hl
  have hP : va_P G.1 kcl [(x, .inr (0, [.ref cs, .ref sc, .ref pf, .int (u.2.1), .int (u.2.2.1), .int (u.2.2.2)])), (cs, .inl (G.2.1 2, 6, .inr (.inl (u.1))))] s.heap := hP
  have hD : va_D A [(x, .inr (0, [.ref cs, .ref sc, .ref pf, .int (u.2.1), .int (u.2.2.1), .int (u.2.2.2)])), (cs, .inl (G.2.1 2, 6, .inr (.inl (u.1))))] := hD
  have hw : fn_X6_give a1 a2 u = _ := fn_X6_give.eq_1 a1 a2 u
  refine lv_aload_n hx hb dc_X6_give_0 rfl (lv_at hl 0 rfl) ?_
  refine va_get (D := G.1) (ci := 0) (v := .ref cs) (C := RX6) (T := TX6) (N := 6) hx hb hts ki_X6 hown hE.1 hP 0 rfl rfl 0 (by decide) (hts _ kw_1_98) (fun _ h9 => h9) rfl dc_X6_give_1 ?_
  refine lv_iload_n hx hb dc_X6_give_4 rfl (lv_at hl 1 rfl) ?_
  refine lv_lload_n hx hb dc_X6_give_5 rfl (lv_at hl 2 rfl) ?_
  refine va_last hx hb hE.1 hP hD hS 1 2 rfl rfl h1 dc_X6_give_6 (fun H locs hP hD hS => ?_)
  have hP : va_P G.1 kcl [(x, .inr (0, [.ref cs, .ref sc, .ref pf, .int (u.2.1), .int (u.2.2.1), .int (u.2.2.2)])), (cs, .inl (G.2.1 2, 6, .inr (.inl (vp_updL (u.1) (a1).toNatClampNeg (a2)))))] H := hP
  have hD : va_D A [(x, .inr (0, [.ref cs, .ref sc, .ref pf, .int (u.2.1), .int (u.2.2.1), .int (u.2.2.2)])), (cs, .inl (G.2.1 2, 6, .inr (.inl (vp_updL (u.1) (a1).toNatClampNeg (a2)))))] := hD
  refine lv_aload_n hx hb dc_X6_give_7 rfl (lv_at hl 0 rfl) ?_
  refine lv_dup hx hb dc_X6_give_8 rfl ?_
  refine va_get (D := G.1) (ci := 0) (v := .int (u.2.1)) (C := RX6) (T := TX6) (N := 6) hx hb hts ki_X6 hown hE.1 hP 0 rfl rfl 3 (by decide) (hts _ kw_1_101) (fun _ h9 => h9) rfl dc_X6_give_9 ?_
  refine lv_iconst (v := 1) hx hb dc_X6_give_12 (by decide) ?_
  refine lv_iadd hx hb dc_X6_give_13 ?_
  refine va_put (D := G.1) (ci := 0) (v := .int ((u.2.1) + ((1 : Int32)))) (ty := .int) (C := RX6) (T := TX6) (N := 6) hx hb hts ki_X6 tyX6 tyX6_ok nmX6 hown hE.1 hP hD hS 0 rfl rfl 3 (by decide) (hts _ kw_1_101) (fun _ h9 => h9) rfl (by decide +kernel) rfl rfl (Nat.le_of_ble_eq_true rfl) dc_X6_give_14 (fun H locs hP hD hS => ?_)
  have hP : va_P G.1 kcl [(x, .inr (0, [.ref cs, .ref sc, .ref pf, .int ((u.2.1) + ((1 : Int32))), .int (u.2.2.1), .int (u.2.2.2)])), (cs, .inl (G.2.1 2, 6, .inr (.inl (vp_updL (u.1) (a1).toNatClampNeg (a2)))))] H := hP
  have hD : va_D A [(x, .inr (0, [.ref cs, .ref sc, .ref pf, .int ((u.2.1) + ((1 : Int32))), .int (u.2.2.1), .int (u.2.2.2)])), (cs, .inl (G.2.1 2, 6, .inr (.inl (vp_updL (u.1) (a1).toNatClampNeg (a2)))))] := hD
  refine lv_lload_n hx hb dc_X6_give_17 rfl (lv_at hl 2 rfl) ?_
  refine ky_cS0 (As := [.long (a2)]) F (mt_X0_kindIn l (a2)) ks_X6_131 ⟨⟨rfl, rfl⟩, by decide, by decide⟩ rfl hl.1 rfl (Nat.le_of_ble_eq_true rfl) ⟨Nat.le_of_ble_eq_true rfl, Nat.le_of_ble_eq_true rfl⟩ dc_X6_give_18 ?_
  have hP9 := hP.sub (ws' := [(x, .inr (0, [.ref cs, .ref sc, .ref pf, .int ((u.2.1) + ((1 : Int32))), .int (u.2.2.1), .int (u.2.2.2)])), (cs, .inl (G.2.1 2, 6, .inr (.inl (vp_updL (u.1) (a1).toNatClampNeg (a2)))))]) [0, 1] rfl
  have hD9 := hD.sub (ws' := [(x, .inr (0, [.ref cs, .ref sc, .ref pf, .int ((u.2.1) + ((1 : Int32))), .int (u.2.2.1), .int (u.2.2.2)])), (cs, .inl (G.2.1 2, 6, .inr (.inl (vp_updL (u.1) (a1).toNatClampNeg (a2)))))]) [0, 1] (by decide) rfl
  refine W.widen (k := 0) (n := 0) (Nat.le_of_ble_eq_true rfl) (Nat.le_of_ble_eq_true rfl) ?_
  exact W.iret (v := fn_X0_kindIn (a2)) hx hb hr (fun t ht hW => ⟨⟨_, (vp_updL (u.1) (a1).toNatClampNeg (a2), (u.2.1) + ((1 : Int32)), u.2.2.1, u.2.2.2), rfl, ⟨by rw [hw], by rw [hw]⟩, by rw [ht]; exact hP9, hD9, trivial⟩, hS.F ht⟩) hS.2.2 dc_X6_give_21
def fn_X6_zero (a1 : Int32) (a2 : Int32) (u : ky_BS) : Sum String (Int32 × ky_BS) :=
  ky_b (fn_X6_requireCell (a1)) (fun z_0 => .inr ((fn_X6_give (a1) (fn_X0_withSide ((0 : Int64)) (a2)) (u)).1, (fn_X6_give (a1) (fn_X0_withSide ((0 : Int64)) (a2)) (u)).2))
set_option maxHeartbeats 4000000 in
set_option maxRecDepth 100000 in
theorem mt_X6_zero (l : Launch) (hl9 : l.stackTraces = false) (G : ky_G) (x : Nat) (cs : Nat) (sc : Nat) (pf : Nat) (u : ky_BS) (a1 : Int32) (a2 : Int32) (sz : Nat)  : vx_Met l my_X6_zero (.code my_X6_zero prog_1_method_2_code 3 (some .int) :: ky_B) { frames := 7, cells := 1, slots := 6, locals := 107 } (ky_P G [.ref x, .int (a1), .int (a2)] (ky_WB G x cs sc pf u) sz (fun _ => True)) (ky_Q (S := ky_BS) G (va_A (ky_WB G x cs sc pf u) sz) (fun v u9 => ∃ z : Int32 × ky_BS, fn_X6_zero a1 a2 u = .inr z ∧ v = some (.int z.1) ∧ u9 = z.2) (fun u9 => ky_WB G x cs sc pf u9) (fun _ _ => True)) (ky_X G (va_A (ky_WB G x cs sc pf u) sz) (fun E => fn_X6_zero a1 a2 u = .inl E) (ky_WB G x cs sc pf u)) 1 6 (va_A (ky_WB G x cs sc pf u) sz) := by
  refine ky_startX (by decide) (Nat.le_of_ble_eq_true rfl) (fun p e s m below meth c F hno hE A hAe hsz hA hfr hP hD hS hX ls hl => ?_)
  obtain ⟨hx, hb, hml, hown, hr, hlocks, hts⟩ := id F
  have hl : lv_has ls 3 [(0, .ref x), (1, .int (a1)), (2, .int (a2))] := hl
  have hP : va_P G.1 kcl [(x, .inr (0, [.ref cs, .ref sc, .ref pf, .int (u.2.1), .int (u.2.2.1), .int (u.2.2.2)])), (cs, .inl (G.2.1 2, 6, .inr (.inl (u.1))))] s.heap := hP
  have hD : va_D A [(x, .inr (0, [.ref cs, .ref sc, .ref pf, .int (u.2.1), .int (u.2.2.1), .int (u.2.2.2)])), (cs, .inl (G.2.1 2, 6, .inr (.inl (u.1))))] := hD
  have hw : fn_X6_zero a1 a2 u = _ := fn_X6_zero.eq_1 a1 a2 u
  refine lv_iload_n hx hb dc_X6_zero_0 rfl (lv_at hl 1 rfl) ?_
  refine ky_cSx (As := [.int (a1)]) (wr := [(x, .inr (0, [.ref cs, .ref sc, .ref pf, .int (u.2.1), .int (u.2.2.1), .int (u.2.2.2)])), (cs, .inl (G.2.1 2, 6, .inr (.inl (u.1))))]) F (hE.at hfr hS) hfr (mt_X6_requireCell l hl9 G  (a1) s.heap.size ) ks_X6_27 ⟨⟨rfl, rfl⟩, by decide, by decide⟩ rfl hl.1 rfl (Nat.le_of_ble_eq_true rfl) ⟨Nat.le_of_ble_eq_true rfl, Nat.le_of_ble_eq_true rfl⟩ trivial hP hD hS hA [] [0, 1] rfl rfl (by decide) (by decide) (by decide) dc_X6_zero_1 ?_ ?_
  · intro E ce q9 H locs hp hP hD hS hz hk hc1 hc2 hc3
    have hP9 := hP.sub (ws' := [(x, .inr (0, [.ref cs, .ref sc, .ref pf, .int (u.2.1), .int (u.2.2.1), .int (u.2.2.2)])), (cs, .inl (G.2.1 2, 6, .inr (.inl (u.1))))]) [0, 1] rfl
    have hD9 := hD.sub (ws' := [(x, .inr (0, [.ref cs, .ref sc, .ref pf, .int (u.2.1), .int (u.2.2.1), .int (u.2.2.2)])), (cs, .inl (G.2.1 2, 6, .inr (.inl (u.1))))]) [0, 1] (by decide) rfl
    exact vx_out (fun x h => (hno x h).elim) hlocks hc1 hc2 hc3 (fun t ht hW => ⟨hw.trans (ky_bl hp), by rw [ht]; exact hP9, hD9, hS.F ht⟩) hS.2.2 (Nat.le_of_ble_eq_true rfl) (Nat.le_of_ble_eq_true rfl)
  · rintro v9 u9 H locs ⟨z_0, hf_0, rfl, rfl⟩ hP hD hS - hz hk
    have hw := hw.trans (ky_br hf_0)
    have hP : va_P G.1 kcl [(x, .inr (0, [.ref cs, .ref sc, .ref pf, .int (u.2.1), .int (u.2.2.1), .int (u.2.2.2)])), (cs, .inl (G.2.1 2, 6, .inr (.inl (u.1))))] H := hP
    have hD : va_D A [(x, .inr (0, [.ref cs, .ref sc, .ref pf, .int (u.2.1), .int (u.2.2.1), .int (u.2.2.2)])), (cs, .inl (G.2.1 2, 6, .inr (.inl (u.1))))] := hD
    refine W.widen (k := 1) (n := 6) (Nat.le_refl _) (Nat.le_refl _) ?_
    refine lv_aload_n hx hb dc_X6_zero_4 rfl (lv_at hl 0 rfl) ?_
    refine lv_iload_n hx hb dc_X6_zero_5 rfl (lv_at hl 1 rfl) ?_
    refine lv_lconst (v := 0) hx hb dc_X6_zero_6 (by decide) ?_
    refine lv_iload_n hx hb dc_X6_zero_7 rfl (lv_at hl 2 rfl) ?_
    refine ky_cS0 (As := [.long ((0 : Int64)), .int (a2)]) F (mt_X0_withSide l ((0 : Int64)) (a2)) ks_X6_31 ⟨⟨rfl, rfl⟩, by decide, by decide⟩ rfl hl.1 rfl (Nat.le_of_ble_eq_true rfl) ⟨Nat.le_of_ble_eq_true rfl, Nat.le_of_ble_eq_true rfl⟩ dc_X6_zero_8 ?_
    refine ky_cVh (As := [.int (a1), .long (fn_X0_withSide ((0 : Int64)) (a2))]) (wr := []) F (hE.at hfr hS) hfr (mt_X6_give l G (x) (cs) (sc) (pf) (u) (a1) (fn_X0_withSide ((0 : Int64)) (a2)) H.size (rq_cell hf_0)) kv_X6_37 ⟨⟨rfl, rfl⟩, by decide, by decide⟩ rfl hl.1 rfl (Nat.le_of_ble_eq_true rfl) ⟨Nat.le_of_ble_eq_true rfl, Nat.le_of_ble_eq_true rfl⟩ (va_recv hE.1 hP (ci := 0) (q0 := 0) rfl rfl) trivial hP hD hS hA [0, 1] [] rfl rfl (by decide) (by decide) (by decide) dc_X6_zero_11 ?_
    rintro v9 u9 H locs ⟨rfl, rfl⟩ hP hD hS - hz hk
    have hP : va_P G.1 kcl [(x, .inr (0, [.ref cs, .ref sc, .ref pf, .int ((fn_X6_give (a1) (fn_X0_withSide ((0 : Int64)) (a2)) (u)).2.2.1), .int ((fn_X6_give (a1) (fn_X0_withSide ((0 : Int64)) (a2)) (u)).2.2.2.1), .int ((fn_X6_give (a1) (fn_X0_withSide ((0 : Int64)) (a2)) (u)).2.2.2.2)])), (cs, .inl (G.2.1 2, 6, .inr (.inl ((fn_X6_give (a1) (fn_X0_withSide ((0 : Int64)) (a2)) (u)).2.1))))] H := hP
    have hD : va_D A [(x, .inr (0, [.ref cs, .ref sc, .ref pf, .int ((fn_X6_give (a1) (fn_X0_withSide ((0 : Int64)) (a2)) (u)).2.2.1), .int ((fn_X6_give (a1) (fn_X0_withSide ((0 : Int64)) (a2)) (u)).2.2.2.1), .int ((fn_X6_give (a1) (fn_X0_withSide ((0 : Int64)) (a2)) (u)).2.2.2.2)])), (cs, .inl (G.2.1 2, 6, .inr (.inl ((fn_X6_give (a1) (fn_X0_withSide ((0 : Int64)) (a2)) (u)).2.1))))] := hD
    refine W.widen (k := 1) (n := 6) (Nat.le_refl _) (Nat.le_refl _) ?_
    have hP9 := hP.sub (ws' := [(x, .inr (0, [.ref cs, .ref sc, .ref pf, .int ((fn_X6_give (a1) (fn_X0_withSide ((0 : Int64)) (a2)) (u)).2.2.1), .int ((fn_X6_give (a1) (fn_X0_withSide ((0 : Int64)) (a2)) (u)).2.2.2.1), .int ((fn_X6_give (a1) (fn_X0_withSide ((0 : Int64)) (a2)) (u)).2.2.2.2)])), (cs, .inl (G.2.1 2, 6, .inr (.inl ((fn_X6_give (a1) (fn_X0_withSide ((0 : Int64)) (a2)) (u)).2.1))))]) [0, 1] rfl
    have hD9 := hD.sub (ws' := [(x, .inr (0, [.ref cs, .ref sc, .ref pf, .int ((fn_X6_give (a1) (fn_X0_withSide ((0 : Int64)) (a2)) (u)).2.2.1), .int ((fn_X6_give (a1) (fn_X0_withSide ((0 : Int64)) (a2)) (u)).2.2.2.1), .int ((fn_X6_give (a1) (fn_X0_withSide ((0 : Int64)) (a2)) (u)).2.2.2.2)])), (cs, .inl (G.2.1 2, 6, .inr (.inl ((fn_X6_give (a1) (fn_X0_withSide ((0 : Int64)) (a2)) (u)).2.1))))]) [0, 1] (by decide) rfl
    refine W.widen (k := 1) (n := 6) (Nat.le_of_ble_eq_true rfl) (Nat.le_of_ble_eq_true rfl) ?_
    refine vx_ret ?_
    exact W.iret (v := (fn_X6_give (a1) (fn_X0_withSide ((0 : Int64)) (a2)) (u)).1) hx hb hr (fun t ht hW => ⟨⟨_, (fn_X6_give (a1) (fn_X0_withSide ((0 : Int64)) (a2)) (u)).2, rfl, ⟨((fn_X6_give (a1) (fn_X0_withSide ((0 : Int64)) (a2)) (u)).1, (fn_X6_give (a1) (fn_X0_withSide ((0 : Int64)) (a2)) (u)).2), hw, rfl, rfl⟩, by rw [ht]; exact hP9, hD9, trivial⟩, hS.F ht⟩) hS.2.2 dc_X6_zero_14
