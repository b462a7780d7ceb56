def fn_X6_countOf (a1 : Int32) (u : ky_BS) : Int32 × ky_BS :=
  if (a1) = 0 then ((u.2.1, u)) else (if (a1) = 1 then ((u.2.2.1, u)) else (if (a1) = 2 then ((u.2.2.2, u)) else (((fn_X6_countWholeOnes (u)).1, (fn_X6_countWholeOnes (u)).2))))
def fk_X6_countOf (a1 : Int32) (u : ky_BS) : Prop :=
  ((((a1) = 0) → (True)) ∧ (¬ ((a1) = 0) → ((((a1) = 1) → (True)) ∧ (¬ ((a1) = 1) → ((((a1) = 2) → (True)) ∧ (¬ ((a1) = 2) → ((fk_X6_countWholeOnes (u)) ∧ (True)))))))) ∧ True
set_option linter.constructorNameAsVariable false in
set_option maxHeartbeats 4000000 in
set_option maxRecDepth 100000 in
theorem mt_X6_countOf (l : Launch) (G : ky_G) (x : Nat) (cs : Nat) (sc : Nat) (pf : Nat) (u : ky_BS) (a1 : Int32) (sz : Nat)  (hk : fk_X6_countOf a1 u) : Met l my_X6_countOf (.code my_X6_countOf prog_1_method_62_code 2 (some .int) :: ky_B) { frames := 5, cells := 0, slots := 0, locals := 106 } (ky_P G [.ref x, .int (a1)] (ky_WB G x cs sc pf u) sz (fun _ => True)) (ky_Q (S := ky_BS) G (va_A (ky_WB G x cs sc pf u) sz) (fun v u9 => v = some (.int (fn_X6_countOf a1 u).1) ∧ u9 = (fn_X6_countOf a1 u).2) (fun u9 => ky_WB G x cs sc pf u9) (fun _ _ => True)) 0 0 (va_A (ky_WB G x cs sc pf u) sz) := by
  refine ky_start (by decide) (Nat.le_of_ble_eq_true rfl) (fun p e s m below meth c F hE A hAe hsz hA hfr hP hD hS hX ls hl => ?_)
  obtain ⟨hx, hb, hml, hown, hr, hlocks, hts⟩ := id F
  have hl : lv_has ls 2 [(0, .ref x), (1, .int (a1))] := hl
  have hP : va_P G.1 kcl [(x, .inr (0, [.ref cs, .ref sc, .ref pf, .int (u.2.1), .int (u.2.2.1), .int (u.2.2.2)])), (cs, .inl (G.2.1 2, 6, .inr (.inl (u.1))))] s.heap := hP
  have hD : va_D A [(x, .inr (0, [.ref cs, .ref sc, .ref pf, .int (u.2.1), .int (u.2.2.1), .int (u.2.2.2)])), (cs, .inl (G.2.1 2, 6, .inr (.inl (u.1))))] := hD
  have hw : fn_X6_countOf a1 u = _ := fn_X6_countOf.eq_1 a1 u
  have hk : (((a1) = 0) → (True)) ∧ (¬ ((a1) = 0) → ((((a1) = 1) → (True)) ∧ (¬ ((a1) = 1) → ((((a1) = 2) → (True)) ∧ (¬ ((a1) = 2) → ((fk_X6_countWholeOnes (u)) ∧ (True))))))) := hk.1
  refine lv_iload_n hx hb dc_X6_countOf_0 rfl (lv_at hl 1 rfl) ?_
  by_cases c_0 : (a1) = 0
  · have hw := hw.trans (if_pos c_0)
    refine lv_tableIn (off := 27) (tgt := 28) hx hb dc_X6_countOf_1 (by rw [c_0]; decide) (by rw [c_0]; decide) (by rw [c_0]; rfl) (by decide) ?_
    have hk := hk.1 c_0
    refine lv_aload_n hx hb dc_X6_countOf_28 rfl (lv_at hl 0 rfl) ?_
    refine va_get (D := G.1) (ci := 0) (v := .int (u.2.1)) (C := RX6) (T := TX6) (N := 6) hx hb hts ki_X6 hown hE.1 hP 0 rfl rfl 3 (by decide) (hts _ kw_1_101) (fun _ h9 => h9) rfl dc_X6_countOf_29 ?_
    have hP9 := hP.sub (ws' := [(x, .inr (0, [.ref cs, .ref sc, .ref pf, .int (u.2.1), .int (u.2.2.1), .int (u.2.2.2)])), (cs, .inl (G.2.1 2, 6, .inr (.inl (u.1))))]) [0, 1] rfl
    have hD9 := hD.sub (ws' := [(x, .inr (0, [.ref cs, .ref sc, .ref pf, .int (u.2.1), .int (u.2.2.1), .int (u.2.2.2)])), (cs, .inl (G.2.1 2, 6, .inr (.inl (u.1))))]) [0, 1] (by decide) rfl
    refine W.widen (k := 0) (n := 0) (Nat.le_of_ble_eq_true rfl) (Nat.le_of_ble_eq_true rfl) ?_
    exact W.iret (v := u.2.1) hx hb hr (fun t ht hW => ⟨⟨_, u, rfl, ky_pi hw, by rw [ht]; exact hP9, hD9, trivial⟩, hS.F ht⟩) hS.2.2 dc_X6_countOf_32
  have hw := hw.trans (if_neg c_0)
  have hk := hk.2 c_0
  by_cases c_1 : (a1) = 1
  · have hw := hw.trans (if_pos c_1)
    refine lv_tableIn (off := 32) (tgt := 33) hx hb dc_X6_countOf_1 (by rw [c_1]; decide) (by rw [c_1]; decide) (by rw [c_1]; rfl) (by decide) ?_
    have hk := hk.1 c_1
    refine lv_aload_n hx hb dc_X6_countOf_33 rfl (lv_at hl 0 rfl) ?_
    refine va_get (D := G.1) (ci := 0) (v := .int (u.2.2.1)) (C := RX6) (T := TX6) (N := 6) hx hb hts ki_X6 hown hE.1 hP 0 rfl rfl 4 (by decide) (hts _ kw_1_102) (fun _ h9 => h9) rfl dc_X6_countOf_34 ?_
    have hP9 := hP.sub (ws' := [(x, .inr (0, [.ref cs, .ref sc, .ref pf, .int (u.2.1), .int (u.2.2.1), .int (u.2.2.2)])), (cs, .inl (G.2.1 2, 6, .inr (.inl (u.1))))]) [0, 1] rfl
    have hD9 := hD.sub (ws' := [(x, .inr (0, [.ref cs, .ref sc, .ref pf, .int (u.2.1), .int (u.2.2.1), .int (u.2.2.2)])), (cs, .inl (G.2.1 2, 6, .inr (.inl (u.1))))]) [0, 1] (by decide) rfl
    refine W.widen (k := 0) (n := 0) (Nat.le_of_ble_eq_true rfl) (Nat.le_of_ble_eq_true rfl) ?_
    exact W.iret (v := u.2.2.1) hx hb hr (fun t ht hW => ⟨⟨_, u, rfl, ky_pi hw, by rw [ht]; exact hP9, hD9, trivial⟩, hS.F ht⟩) hS.2.2 dc_X6_countOf_37
  have hw := hw.trans (if_neg c_1)
  have hk := hk.2 c_1
  by_cases c_2 : (a1) = 2
  · have hw := hw.trans (if_pos c_2)
    refine lv_tableIn (off := 37) (tgt := 38) hx hb dc_X6_countOf_1 (by rw [c_2]; decide) (by rw [c_2]; decide) (by rw [c_2]; rfl) (by decide) ?_
    have hk := hk.1 c_2
    refine lv_aload_n hx hb dc_X6_countOf_38 rfl (lv_at hl 0 rfl) ?_
    refine va_get (D := G.1) (ci := 0) (v := .int (u.2.2.2)) (C := RX6) (T := TX6) (N := 6) hx hb hts ki_X6 hown hE.1 hP 0 rfl rfl 5 (by decide) (hts _ kw_1_103) (fun _ h9 => h9) rfl dc_X6_countOf_39 ?_
    have hP9 := hP.sub (ws' := [(x, .inr (0, [.ref cs, .ref sc, .ref pf, .int (u.2.1), .int (u.2.2.1), .int (u.2.2.2)])), (cs, .inl (G.2.1 2, 6, .inr (.inl (u.1))))]) [0, 1] rfl
    have hD9 := hD.sub (ws' := [(x, .inr (0, [.ref cs, .ref sc, .ref pf, .int (u.2.1), .int (u.2.2.1), .int (u.2.2.2)])), (cs, .inl (G.2.1 2, 6, .inr (.inl (u.1))))]) [0, 1] (by decide) rfl
    refine W.widen (k := 0) (n := 0) (Nat.le_of_ble_eq_true rfl) (Nat.le_of_ble_eq_true rfl) ?_
    exact W.iret (v := u.2.2.2) hx hb hr (fun t ht hW => ⟨⟨_, u, rfl, ky_pi hw, by rw [ht]; exact hP9, hD9, trivial⟩, hS.F ht⟩) hS.2.2 dc_X6_countOf_42
  have hw := hw.trans (if_neg c_2)
  have hk := hk.2 c_2
  refine lv_tableOut (tgt := 43) hx hb dc_X6_countOf_1 (ky_out3 c_0 c_1 c_2) (by decide) ?_
  refine lv_aload_n hx hb dc_X6_countOf_43 rfl (lv_at hl 0 rfl) ?_
  obtain ⟨hq_3, hk⟩ := hk
  refine ky_cVh (As := []) (wr := []) F (hE.at hfr hS) hfr (mt_X6_countWholeOnes l G (x) (cs) (sc) (pf) (u)  s.heap.size hq_3) kv_X6_231 ⟨⟨rfl, rfl⟩, by decide, by decide⟩ rfl hl.1 rfl (Nat.le_of_ble_eq_true rfl) ⟨Nat.le_of_ble_eq_true rfl, Nat.le_of_ble_eq_true rfl⟩ (va_recv hE.1 hP (ci := 0) (q0 := 0) rfl rfl) trivial hP hD hS hA [0, 1] [] rfl rfl (by decide) (by decide) (by decide) dc_X6_countOf_44 ?_
  rintro v9 u9 H locs ⟨rfl, rfl⟩ hP hD hS - hz hk9
  have hP : va_P G.1 kcl [(x, .inr (0, [.ref cs, .ref sc, .ref pf, .int ((fn_X6_countWholeOnes (u)).2.2.1), .int ((fn_X6_countWholeOnes (u)).2.2.2.1), .int ((fn_X6_countWholeOnes (u)).2.2.2.2)])), (cs, .inl (G.2.1 2, 6, .inr (.inl ((fn_X6_countWholeOnes (u)).2.1))))] H := hP
  have hD : va_D A [(x, .inr (0, [.ref cs, .ref sc, .ref pf, .int ((fn_X6_countWholeOnes (u)).2.2.1), .int ((fn_X6_countWholeOnes (u)).2.2.2.1), .int ((fn_X6_countWholeOnes (u)).2.2.2.2)])), (cs, .inl (G.2.1 2, 6, .inr (.inl ((fn_X6_countWholeOnes (u)).2.1))))] := hD
  refine W.widen (k := 0) (n := 0) (Nat.le_refl _) (Nat.le_refl _) ?_
  have hP9 := hP.sub (ws' := [(x, .inr (0, [.ref cs, .ref sc, .ref pf, .int ((fn_X6_countWholeOnes (u)).2.2.1), .int ((fn_X6_countWholeOnes (u)).2.2.2.1), .int ((fn_X6_countWholeOnes (u)).2.2.2.2)])), (cs, .inl (G.2.1 2, 6, .inr (.inl ((fn_X6_countWholeOnes (u)).2.1))))]) [0, 1] rfl
  have hD9 := hD.sub (ws' := [(x, .inr (0, [.ref cs, .ref sc, .ref pf, .int ((fn_X6_countWholeOnes (u)).2.2.1), .int ((fn_X6_countWholeOnes (u)).2.2.2.1), .int ((fn_X6_countWholeOnes (u)).2.2.2.2)])), (cs, .inl (G.2.1 2, 6, .inr (.inl ((fn_X6_countWholeOnes (u)).2.1))))]) [0, 1] (by decide) rfl
  refine W.widen (k := 0) (n := 0) (Nat.le_of_ble_eq_true rfl) (Nat.le_of_ble_eq_true rfl) ?_
  exact W.iret (v := (fn_X6_countWholeOnes (u)).1) hx hb hr (fun t ht hW => ⟨⟨_, (fn_X6_countWholeOnes (u)).2, rfl, ky_pi hw, by rw [ht]; exact hP9, hD9, trivial⟩, hS.F ht⟩) hS.2.2 dc_X6_countOf_47
