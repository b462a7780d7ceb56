def fn_X9_areNo (a1 : Int32) (a2 : Int32)  : Int32 :=
  if (fn_X9_isNo (a1)) = (0 : Int32) then (if (fn_X9_isNo (a2)) = (0 : Int32) then ((0 : Int32)) else ((1 : Int32))) else ((1 : Int32))
set_option linter.constructorNameAsVariable false in
set_option maxHeartbeats 4000000 in
set_option maxRecDepth 100000 in
theorem mt_X9_areNo (l : Launch) (G : ky_G) (b0 : Nat)  (a1 : Int32) (a2 : Int32) : Met l my_X9_areNo (.code my_X9_areNo prog_10_method_19_code 3 (some .boolean) :: ky_B) { frames := 2, cells := 0, slots := 0, locals := 42 } (ky_P1 G [.ref b0, .int (a1), .int (a2)] (fun H => True)) (ky_Q0 (some (.int (fn_X9_areNo a1 a2)))) 0 0 (fun _ => False) := by
  refine ky_start1 (by decide) (Nat.le_of_ble_eq_true rfl) (fun p e s m below meth c F hE hX ls hl => ?_)
  obtain ⟨hx, hb, hml, hown, hr, hlocks, hts⟩ := id F
  skip
  have hl : lv_has ls 3 [(0, .ref b0), (1, .int (a1)), (2, .int (a2))] := hl
  have hw : fn_X9_areNo a1 a2 = _ := fn_X9_areNo.eq_1 a1 a2
  refine lv_iload_n hx hb dc_X9_areNo_0 rfl (lv_at hl 1 rfl) ?_
  refine ky_cS0 (As := [.int (a1)]) F (mt_X9_isNo l (a1)) ks_X9_51 ⟨⟨rfl, rfl⟩, by decide, by decide⟩ rfl hl.1 rfl (Nat.le_of_ble_eq_true rfl) ⟨Nat.zero_le _, Nat.zero_le _⟩ dc_X9_areNo_1 ?_
  refine lv_if_ne (tgt := 14) hx hb dc_X9_areNo_4 (by decide) (fun c_0 => ?_) (fun c_0 => ?_)
  · have hw := hw.trans (if_neg c_0)
    refine lv_iconst (v := 1) hx hb dc_X9_areNo_14 (by decide) ?_
    refine lv_goto (tgt := 19) hx hb dc_X9_areNo_15 (by decide) ?_
    exact W.zret hx hb hr (by decide) (fun t ht hW => ⟨congrArg (fun z => Outcome.returned (some (Value.int z))) hw.symm, ht⟩) ky_nil dc_X9_areNo_19
  · have hw := hw.trans (if_pos c_0)
    refine lv_iload_n hx hb dc_X9_areNo_7 rfl (lv_at hl 2 rfl) ?_
    refine ky_cS0 (As := [.int (a2)]) F (mt_X9_isNo l (a2)) ks_X9_51 ⟨⟨rfl, rfl⟩, by decide, by decide⟩ rfl hl.1 rfl (Nat.le_of_ble_eq_true rfl) ⟨Nat.zero_le _, Nat.zero_le _⟩ dc_X9_areNo_8 ?_
    refine lv_if_eq (tgt := 18) hx hb dc_X9_areNo_11 (by decide) (fun c_1 => ?_) (fun c_1 => ?_)
    · have hw := hw.trans (if_pos c_1)
      refine lv_iconst (v := 0) hx hb dc_X9_areNo_18 (by decide) ?_
      exact W.zret hx hb hr (by decide) (fun t ht hW => ⟨congrArg (fun z => Outcome.returned (some (Value.int z))) hw.symm, ht⟩) ky_nil dc_X9_areNo_19
    · have hw := hw.trans (if_neg c_1)
      refine lv_iconst (v := 1) hx hb dc_X9_areNo_14 (by decide) ?_
      refine lv_goto (tgt := 19) hx hb dc_X9_areNo_15 (by decide) ?_
      exact W.zret hx hb hr (by decide) (fun t ht hW => ⟨congrArg (fun z => Outcome.returned (some (Value.int z))) hw.symm, ht⟩) ky_nil dc_X9_areNo_19
theorem fz_X9_areNo (a1 : Int32) (a2 : Int32)  : fn_X9_areNo a1 a2 = 0 ∨ fn_X9_areNo a1 a2 = 1 := by
  unfold fn_X9_areNo
  repeat' split
  all_goals first | exact Or.inl rfl | exact Or.inr rfl
def fn_X9_refuse (a1 : Int32) (a2 : Int32) (tq : ky_MQ) : Int32 × ky_MQ :=
  if (a1) = (0 : Int32) then (if (tq.1) ≤ (0 : Int32) then (((0 : Int32), tq)) else (((1 : Int32), tq))) else (if (tq.1) = (0 : Int32) then (if (a2) ≤ (0 : Int32) then (((0 : Int32), (a2, tq.2.1, tq.2.2.1, tq.2.2.2))) else (((1 : Int32), (a2, tq.2.1, tq.2.2.1, tq.2.2.2)))) else (if (tq.1) ≤ (0 : Int32) then (((0 : Int32), tq)) else (((1 : Int32), tq))))
set_option linter.constructorNameAsVariable false in
set_option maxHeartbeats 4000000 in
set_option maxRecDepth 100000 in
theorem mt_X9_refuse (l : Launch) (G : ky_G) (mo : Nat) (cs : Nat) (tq : ky_MQ) (f : Nat → Option Nat) (a1 : Int32) (a2 : Int32) (sz : Nat)  : Met l my_X9_refuse (.code my_X9_refuse prog_10_method_8_code 3 (some .boolean) :: ky_B) { frames := 0, cells := 0, slots := 0, locals := 0 } (ky_P G [.ref mo, .int (a1), .int (a2)] (ky_WQ G mo cs tq f) sz (fun _ => True)) (ky_Q (S := ky_MQ) G (va_A (ky_WQ G mo cs tq f) sz) (fun v u9 => v = some (.int (fn_X9_refuse a1 a2 tq).1) ∧ u9 = (fn_X9_refuse a1 a2 tq).2) (fun u9 => ky_WQ G mo cs u9 f) (fun _ _ => True)) 0 0 (va_A (ky_WQ G mo cs tq f) sz) := by
  refine ky_start (by decide) (Nat.le_of_ble_eq_true rfl) (fun p e s m below meth c F hE A hAe hsz hA hfr hP hD hS hX ls hl => ?_)
  obtain ⟨hx, hb, hml, hown, hr, hlocks, hts⟩ := id F
  have hl : lv_has ls 3 [(0, .ref mo), (1, .int (a1)), (2, .int (a2))] := hl
  have hP : va_P G.1 kcl [(mo, .inr (5, [.int (tq.1), .ref cs, .int (tq.2.1), .int (tq.2.2.1), .int (tq.2.2.2)])), (cs, .inl (G.2.1 3, 6, .inr (.inr (.inr (.inr (f))))))] s.heap := hP
  have hD : va_D A [(mo, .inr (5, [.int (tq.1), .ref cs, .int (tq.2.1), .int (tq.2.2.1), .int (tq.2.2.2)])), (cs, .inl (G.2.1 3, 6, .inr (.inr (.inr (.inr (f))))))] := hD
  have hw : fn_X9_refuse a1 a2 tq = _ := fn_X9_refuse.eq_1 a1 a2 tq
  refine lv_iload_n hx hb dc_X9_refuse_0 rfl (lv_at hl 1 rfl) ?_
  refine lv_if_eq (tgt := 16) hx hb dc_X9_refuse_1 (by decide) (fun c_0 => ?_) (fun c_0 => ?_)
  · have hw := hw.trans (if_pos c_0)
    refine lv_aload_n hx hb dc_X9_refuse_16 rfl (lv_at hl 0 rfl) ?_
    refine va_get (D := G.1) (ci := 5) (v := .int (tq.1)) (C := RX9) (T := TX9) (N := 5) hx hb hts ki_X9 hown hE.1 hP 0 rfl rfl 0 (by decide) (hts _ kw_6_19) (fun _ h9 => h9) rfl dc_X9_refuse_17 ?_
    refine lv_if_le (tgt := 27) hx hb dc_X9_refuse_20 (by decide) (fun c_1 => ?_) (fun c_1 => ?_)
    · have hw := hw.trans (if_pos c_1)
      refine lv_iconst (v := 0) hx hb dc_X9_refuse_27 (by decide) ?_
      have hP9 := hP.sub (ws' := [(mo, .inr (5, [.int (tq.1), .ref cs, .int (tq.2.1), .int (tq.2.2.1), .int (tq.2.2.2)])), (cs, .inl (G.2.1 3, 6, .inr (.inr (.inr (.inr (f))))))]) [0, 1] rfl
      have hD9 := hD.sub (ws' := [(mo, .inr (5, [.int (tq.1), .ref cs, .int (tq.2.1), .int (tq.2.2.1), .int (tq.2.2.2)])), (cs, .inl (G.2.1 3, 6, .inr (.inr (.inr (.inr (f))))))]) [0, 1] (by decide) rfl
      refine W.widen (k := 0) (n := 0) (Nat.le_of_ble_eq_true rfl) (Nat.le_of_ble_eq_true rfl) ?_
      exact W.zret (v := (0 : Int32)) hx hb hr (by decide) (fun t ht hW => ⟨⟨_, tq, rfl, ky_pi hw, by rw [ht]; exact hP9, hD9, trivial⟩, hS.F ht⟩) hS.2.2 dc_X9_refuse_28
    · have hw := hw.trans (if_neg c_1)
      refine lv_iconst (v := 1) hx hb dc_X9_refuse_23 (by decide) ?_
      refine lv_goto (tgt := 28) hx hb dc_X9_refuse_24 (by decide) ?_
      have hP9 := hP.sub (ws' := [(mo, .inr (5, [.int (tq.1), .ref cs, .int (tq.2.1), .int (tq.2.2.1), .int (tq.2.2.2)])), (cs, .inl (G.2.1 3, 6, .inr (.inr (.inr (.inr (f))))))]) [0, 1] rfl
      have hD9 := hD.sub (ws' := [(mo, .inr (5, [.int (tq.1), .ref cs, .int (tq.2.1), .int (tq.2.2.1), .int (tq.2.2.2)])), (cs, .inl (G.2.1 3, 6, .inr (.inr (.inr (.inr (f))))))]) [0, 1] (by decide) rfl
      refine W.widen (k := 0) (n := 0) (Nat.le_of_ble_eq_true rfl) (Nat.le_of_ble_eq_true rfl) ?_
      exact W.zret (v := (1 : Int32)) hx hb hr (by decide) (fun t ht hW => ⟨⟨_, tq, rfl, ky_pi hw, by rw [ht]; exact hP9, hD9, trivial⟩, hS.F ht⟩) hS.2.2 dc_X9_refuse_28
  · have hw := hw.trans (if_neg c_0)
    refine lv_aload_n hx hb dc_X9_refuse_4 rfl (lv_at hl 0 rfl) ?_
    refine va_get (D := G.1) (ci := 5) (v := .int (tq.1)) (C := RX9) (T := TX9) (N := 5) hx hb hts ki_X9 hown hE.1 hP 0 rfl rfl 0 (by decide) (hts _ kw_6_19) (fun _ h9 => h9) rfl dc_X9_refuse_5 ?_
    refine lv_if_ne (tgt := 16) hx hb dc_X9_refuse_8 (by decide) (fun c_1 => ?_) (fun c_1 => ?_)
    · have hw := hw.trans (if_neg c_1)
      refine lv_aload_n hx hb dc_X9_refuse_16 rfl (lv_at hl 0 rfl) ?_
      refine va_get (D := G.1) (ci := 5) (v := .int (tq.1)) (C := RX9) (T := TX9) (N := 5) hx hb hts ki_X9 hown hE.1 hP 0 rfl rfl 0 (by decide) (hts _ kw_6_19) (fun _ h9 => h9) rfl dc_X9_refuse_17 ?_
      refine lv_if_le (tgt := 27) hx hb dc_X9_refuse_20 (by decide) (fun c_2 => ?_) (fun c_2 => ?_)
      · have hw := hw.trans (if_pos c_2)
        refine lv_iconst (v := 0) hx hb dc_X9_refuse_27 (by decide) ?_
        have hP9 := hP.sub (ws' := [(mo, .inr (5, [.int (tq.1), .ref cs, .int (tq.2.1), .int (tq.2.2.1), .int (tq.2.2.2)])), (cs, .inl (G.2.1 3, 6, .inr (.inr (.inr (.inr (f))))))]) [0, 1] rfl
        have hD9 := hD.sub (ws' := [(mo, .inr (5, [.int (tq.1), .ref cs, .int (tq.2.1), .int (tq.2.2.1), .int (tq.2.2.2)])), (cs, .inl (G.2.1 3, 6, .inr (.inr (.inr (.inr (f))))))]) [0, 1] (by decide) rfl
        refine W.widen (k := 0) (n := 0) (Nat.le_of_ble_eq_true rfl) (Nat.le_of_ble_eq_true rfl) ?_
        exact W.zret (v := (0 : Int32)) hx hb hr (by decide) (fun t ht hW => ⟨⟨_, tq, rfl, ky_pi hw, by rw [ht]; exact hP9, hD9, trivial⟩, hS.F ht⟩) hS.2.2 dc_X9_refuse_28
      · have hw := hw.trans (if_neg c_2)
        refine lv_iconst (v := 1) hx hb dc_X9_refuse_23 (by decide) ?_
        refine lv_goto (tgt := 28) hx hb dc_X9_refuse_24 (by decide) ?_
        have hP9 := hP.sub (ws' := [(mo, .inr (5, [.int (tq.1), .ref cs, .int (tq.2.1), .int (tq.2.2.1), .int (tq.2.2.2)])), (cs, .inl (G.2.1 3, 6, .inr (.inr (.inr (.inr (f))))))]) [0, 1] rfl
        have hD9 := hD.sub (ws' := [(mo, .inr (5, [.int (tq.1), .ref cs, .int (tq.2.1), .int (tq.2.2.1), .int (tq.2.2.2)])), (cs, .inl (G.2.1 3, 6, .inr (.inr (.inr (.inr (f))))))]) [0, 1] (by decide) rfl
        refine W.widen (k := 0) (n := 0) (Nat.le_of_ble_eq_true rfl) (Nat.le_of_ble_eq_true rfl) ?_
        exact W.zret (v := (1 : Int32)) hx hb hr (by decide) (fun t ht hW => ⟨⟨_, tq, rfl, ky_pi hw, by rw [ht]; exact hP9, hD9, trivial⟩, hS.F ht⟩) hS.2.2 dc_X9_refuse_28
    · have hw := hw.trans (if_pos c_1)
      refine lv_aload_n hx hb dc_X9_refuse_11 rfl (lv_at hl 0 rfl) ?_
      refine lv_iload_n hx hb dc_X9_refuse_12 rfl (lv_at hl 2 rfl) ?_
      refine va_put (D := G.1) (ci := 5) (v := .int (a2)) (ty := .int) (C := RX9) (T := TX9) (N := 5) hx hb hts ki_X9 tyX9 tyX9_ok nmX9 hown hE.1 hP hD hS 0 rfl rfl 0 (by decide) (hts _ kw_6_19) (fun _ h9 => h9) rfl (by decide +kernel) rfl rfl (Nat.le_of_ble_eq_true rfl) dc_X9_refuse_13 (fun H locs hP hD hS => ?_)
      have hP : va_P G.1 kcl [(mo, .inr (5, [.int (a2), .ref cs, .int (tq.2.1), .int (tq.2.2.1), .int (tq.2.2.2)])), (cs, .inl (G.2.1 3, 6, .inr (.inr (.inr (.inr (f))))))] H := hP
      have hD : va_D A [(mo, .inr (5, [.int (a2), .ref cs, .int (tq.2.1), .int (tq.2.2.1), .int (tq.2.2.2)])), (cs, .inl (G.2.1 3, 6, .inr (.inr (.inr (.inr (f))))))] := hD
      refine lv_aload_n hx hb dc_X9_refuse_16 rfl (lv_at hl 0 rfl) ?_
      refine va_get (D := G.1) (ci := 5) (v := .int (a2)) (C := RX9) (T := TX9) (N := 5) hx hb hts ki_X9 hown hE.1 hP 0 rfl rfl 0 (by decide) (hts _ kw_6_19) (fun _ h9 => h9) rfl dc_X9_refuse_17 ?_
      refine lv_if_le (tgt := 27) hx hb dc_X9_refuse_20 (by decide) (fun c_2 => ?_) (fun c_2 => ?_)
      · have hw := hw.trans (if_pos c_2)
        refine lv_iconst (v := 0) hx hb dc_X9_refuse_27 (by decide) ?_
        have hP9 := hP.sub (ws' := [(mo, .inr (5, [.int (a2), .ref cs, .int (tq.2.1), .int (tq.2.2.1), .int (tq.2.2.2)])), (cs, .inl (G.2.1 3, 6, .inr (.inr (.inr (.inr (f))))))]) [0, 1] rfl
        have hD9 := hD.sub (ws' := [(mo, .inr (5, [.int (a2), .ref cs, .int (tq.2.1), .int (tq.2.2.1), .int (tq.2.2.2)])), (cs, .inl (G.2.1 3, 6, .inr (.inr (.inr (.inr (f))))))]) [0, 1] (by decide) rfl
        refine W.widen (k := 0) (n := 0) (Nat.le_of_ble_eq_true rfl) (Nat.le_of_ble_eq_true rfl) ?_
        exact W.zret (v := (0 : Int32)) hx hb hr (by decide) (fun t ht hW => ⟨⟨_, (a2, tq.2.1, tq.2.2.1, tq.2.2.2), rfl, ky_pi hw, by rw [ht]; exact hP9, hD9, trivial⟩, hS.F ht⟩) hS.2.2 dc_X9_refuse_28
      · have hw := hw.trans (if_neg c_2)
        refine lv_iconst (v := 1) hx hb dc_X9_refuse_23 (by decide) ?_
        refine lv_goto (tgt := 28) hx hb dc_X9_refuse_24 (by decide) ?_
        have hP9 := hP.sub (ws' := [(mo, .inr (5, [.int (a2), .ref cs, .int (tq.2.1), .int (tq.2.2.1), .int (tq.2.2.2)])), (cs, .inl (G.2.1 3, 6, .inr (.inr (.inr (.inr (f))))))]) [0, 1] rfl
        have hD9 := hD.sub (ws' := [(mo, .inr (5, [.int (a2), .ref cs, .int (tq.2.1), .int (tq.2.2.1), .int (tq.2.2.2)])), (cs, .inl (G.2.1 3, 6, .inr (.inr (.inr (.inr (f))))))]) [0, 1] (by decide) rfl
        refine W.widen (k := 0) (n := 0) (Nat.le_of_ble_eq_true rfl) (Nat.le_of_ble_eq_true rfl) ?_
        exact W.zret (v := (1 : Int32)) hx hb hr (by decide) (fun t ht hW => ⟨⟨_, (a2, tq.2.1, tq.2.2.1, tq.2.2.2), rfl, ky_pi hw, by rw [ht]; exact hP9, hD9, trivial⟩, hS.F ht⟩) hS.2.2 dc_X9_refuse_28
theorem fz_X9_refuse (a1 : Int32) (a2 : Int32) (tq : ky_MQ) : (fn_X9_refuse a1 a2 tq).1 = 0 ∨ (fn_X9_refuse a1 a2 tq).1 = 1 := by
  unfold fn_X9_refuse
  repeat' split
  all_goals first | exact Or.inl rfl | exact Or.inr rfl
def fn_X9_start (a1 : Int32) (tq : ky_MQ) : Int32 × ky_MQ :=
  ((fn_X9_refuse (a1) ((1 : Int32)) (((0 : Int32), tq.2.1, tq.2.2.1, tq.2.2.2))).1, (fn_X9_refuse (a1) ((1 : Int32)) (((0 : Int32), tq.2.1, tq.2.2.1, tq.2.2.2))).2)
set_option linter.constructorNameAsVariable false in
set_option maxHeartbeats 4000000 in
set_option maxRecDepth 100000 in
theorem mt_X9_start (l : Launch) (G : ky_G) (mo : Nat) (cs : Nat) (tq : ky_MQ) (f : Nat → Option Nat) (a1 : Int32) (sz : Nat)  : Met l my_X9_start (.code my_X9_start prog_10_method_9_code 2 (some .boolean) :: ky_B) { frames := 1, cells := 0, slots := 0, locals := 22 } (ky_P G [.ref mo, .int (a1)] (ky_WQ G mo cs tq f) sz (fun _ => True)) (ky_Q (S := ky_MQ) G (va_A (ky_WQ G mo cs tq f) sz) (fun v u9 => v = some (.int (fn_X9_start a1 tq).1) ∧ u9 = (fn_X9_start a1 tq).2) (fun u9 => ky_WQ G mo cs u9 f) (fun _ _ => True)) 0 0 (va_A (ky_WQ G mo cs tq f) sz) := by
  refine ky_start (by decide) (Nat.le_of_ble_eq_true rfl) (fun p e s m below meth c F hE A hAe hsz hA hfr hP hD hS hX ls hl => ?_)
  obtain ⟨hx, hb, hml, hown, hr, hlocks, hts⟩ := id F
  have hl : lv_has ls 2 [(0, .ref mo), (1, .int (a1))] := hl
  have hP : va_P G.1 kcl [(mo, .inr (5, [.int (tq.1), .ref cs, .int (tq.2.1), .int (tq.2.2.1), .int (tq.2.2.2)])), (cs, .inl (G.2.1 3, 6, .inr (.inr (.inr (.inr (f))))))] s.heap := hP
  have hD : va_D A [(mo, .inr (5, [.int (tq.1), .ref cs, .int (tq.2.1), .int (tq.2.2.1), .int (tq.2.2.2)])), (cs, .inl (G.2.1 3, 6, .inr (.inr (.inr (.inr (f))))))] := hD
  have hw : fn_X9_start a1 tq = _ := fn_X9_start.eq_1 a1 tq
  refine lv_aload_n hx hb dc_X9_start_0 rfl (lv_at hl 0 rfl) ?_
  refine lv_iconst (v := 0) hx hb dc_X9_start_1 (by decide) ?_
  refine va_put (D := G.1) (ci := 5) (v := .int ((0 : Int32))) (ty := .int) (C := RX9) (T := TX9) (N := 5) hx hb hts ki_X9 tyX9 tyX9_ok nmX9 hown hE.1 hP hD hS 0 rfl rfl 0 (by decide) (hts _ kw_6_19) (fun _ h9 => h9) rfl (by decide +kernel) rfl rfl (Nat.le_of_ble_eq_true rfl) dc_X9_start_2 (fun H locs hP hD hS => ?_)
  have hP : va_P G.1 kcl [(mo, .inr (5, [.int ((0 : Int32)), .ref cs, .int (tq.2.1), .int (tq.2.2.1), .int (tq.2.2.2)])), (cs, .inl (G.2.1 3, 6, .inr (.inr (.inr (.inr (f))))))] H := hP
  have hD : va_D A [(mo, .inr (5, [.int ((0 : Int32)), .ref cs, .int (tq.2.1), .int (tq.2.2.1), .int (tq.2.2.2)])), (cs, .inl (G.2.1 3, 6, .inr (.inr (.inr (.inr (f))))))] := hD
  refine lv_aload_n hx hb dc_X9_start_5 rfl (lv_at hl 0 rfl) ?_
  refine lv_iload_n hx hb dc_X9_start_6 rfl (lv_at hl 1 rfl) ?_
  refine lv_iconst (v := 1) hx hb dc_X9_start_7 (by decide) ?_
  refine ky_cVh (As := [.int (a1), .int ((1 : Int32))]) (wr := []) F (hE.at hfr hS) hfr (mt_X9_refuse l G (mo) (cs) (((0 : Int32), tq.2.1, tq.2.2.1, tq.2.2.2)) (f) (a1) ((1 : Int32)) H.size ) kv_X9_36 ⟨⟨rfl, rfl⟩, by decide, by decide⟩ rfl hl.1 rfl (Nat.le_of_ble_eq_true rfl) ⟨Nat.le_of_ble_eq_true rfl, Nat.le_of_ble_eq_true rfl⟩ (va_recv hE.1 hP (ci := 5) (q0 := 0) rfl rfl) trivial hP hD hS hA [0, 1] [] rfl rfl (by decide) (by decide) (by decide) dc_X9_start_8 ?_
  rintro v9 u9 H locs ⟨rfl, rfl⟩ hP hD hS - hz hk9
  have hP : va_P G.1 kcl [(mo, .inr (5, [.int ((fn_X9_refuse (a1) ((1 : Int32)) (((0 : Int32), tq.2.1, tq.2.2.1, tq.2.2.2))).2.1), .ref cs, .int ((fn_X9_refuse (a1) ((1 : Int32)) (((0 : Int32), tq.2.1, tq.2.2.1, tq.2.2.2))).2.2.1), .int ((fn_X9_refuse (a1) ((1 : Int32)) (((0 : Int32), tq.2.1, tq.2.2.1, tq.2.2.2))).2.2.2.1), .int ((fn_X9_refuse (a1) ((1 : Int32)) (((0 : Int32), tq.2.1, tq.2.2.1, tq.2.2.2))).2.2.2.2)])), (cs, .inl (G.2.1 3, 6, .inr (.inr (.inr (.inr (f))))))] H := hP
  have hD : va_D A [(mo, .inr (5, [.int ((fn_X9_refuse (a1) ((1 : Int32)) (((0 : Int32), tq.2.1, tq.2.2.1, tq.2.2.2))).2.1), .ref cs, .int ((fn_X9_refuse (a1) ((1 : Int32)) (((0 : Int32), tq.2.1, tq.2.2.1, tq.2.2.2))).2.2.1), .int ((fn_X9_refuse (a1) ((1 : Int32)) (((0 : Int32), tq.2.1, tq.2.2.1, tq.2.2.2))).2.2.2.1), .int ((fn_X9_refuse (a1) ((1 : Int32)) (((0 : Int32), tq.2.1, tq.2.2.1, tq.2.2.2))).2.2.2.2)])), (cs, .inl (G.2.1 3, 6, .inr (.inr (.inr (.inr (f))))))] := hD
  refine W.widen (k := 0) (n := 0) (Nat.le_refl _) (Nat.le_refl _) ?_
  have hP9 := hP.sub (ws' := [(mo, .inr (5, [.int ((fn_X9_refuse (a1) ((1 : Int32)) (((0 : Int32), tq.2.1, tq.2.2.1, tq.2.2.2))).2.1), .ref cs, .int ((fn_X9_refuse (a1) ((1 : Int32)) (((0 : Int32), tq.2.1, tq.2.2.1, tq.2.2.2))).2.2.1), .int ((fn_X9_refuse (a1) ((1 : Int32)) (((0 : Int32), tq.2.1, tq.2.2.1, tq.2.2.2))).2.2.2.1), .int ((fn_X9_refuse (a1) ((1 : Int32)) (((0 : Int32), tq.2.1, tq.2.2.1, tq.2.2.2))).2.2.2.2)])), (cs, .inl (G.2.1 3, 6, .inr (.inr (.inr (.inr (f))))))]) [0, 1] rfl
  have hD9 := hD.sub (ws' := [(mo, .inr (5, [.int ((fn_X9_refuse (a1) ((1 : Int32)) (((0 : Int32), tq.2.1, tq.2.2.1, tq.2.2.2))).2.1), .ref cs, .int ((fn_X9_refuse (a1) ((1 : Int32)) (((0 : Int32), tq.2.1, tq.2.2.1, tq.2.2.2))).2.2.1), .int ((fn_X9_refuse (a1) ((1 : Int32)) (((0 : Int32), tq.2.1, tq.2.2.1, tq.2.2.2))).2.2.2.1), .int ((fn_X9_refuse (a1) ((1 : Int32)) (((0 : Int32), tq.2.1, tq.2.2.1, tq.2.2.2))).2.2.2.2)])), (cs, .inl (G.2.1 3, 6, .inr (.inr (.inr (.inr (f))))))]) [0, 1] (by decide) rfl
  refine W.widen (k := 0) (n := 0) (Nat.le_of_ble_eq_true rfl) (Nat.le_of_ble_eq_true rfl) ?_
  exact W.zret (v := (fn_X9_refuse (a1) ((1 : Int32)) (((0 : Int32), tq.2.1, tq.2.2.1, tq.2.2.2))).1) hx hb hr (ky_nz (fz_X9_refuse (a1) ((1 : Int32)) (((0 : Int32), tq.2.1, tq.2.2.1, tq.2.2.2)))) (fun t ht hW => ⟨⟨_, (fn_X9_refuse (a1) ((1 : Int32)) (((0 : Int32), tq.2.1, tq.2.2.1, tq.2.2.2))).2, rfl, ky_pi hw, by rw [ht]; exact hP9, hD9, trivial⟩, hS.F ht⟩) hS.2.2 dc_X9_start_11
theorem fz_X9_start (a1 : Int32) (tq : ky_MQ) : (fn_X9_start a1 tq).1 = 0 ∨ (fn_X9_start a1 tq).1 = 1 := by
  unfold fn_X9_start
  repeat' split
  all_goals first | exact Or.inl rfl | exact Or.inr rfl | exact fz_X9_refuse _ _ _
/-- what start tells and keeps -/
def jst (a : Int32) : Int32 := if a = 0 then 0 else 1
theorem fz_jst (a : Int32) : jst a = 0 ∨ jst a = 1 := by
  unfold jst
  split
  · exact Or.inl rfl
  · exact Or.inr rfl
theorem st_start (a : Int32) (t : ky_MQ) : fn_X9_start a t = (jst a, jst a, t.2.1, t.2.2.1, t.2.2.2) := by
  unfold fn_X9_start fn_X9_refuse jst
  by_cases e : a = 0
  · simp only [e, if_true]
    rfl
  · simp only [e, if_false, if_true]
    rfl
/-- what refuse tells and keeps -/
def jrt (a b t : Int32) : Int32 := if a = 0 then t else if t = 0 then b else t
def jrr (t : Int32) : Int32 := if t ≤ 0 then 0 else 1
theorem st_refuse (a b : Int32) (t : ky_MQ) : fn_X9_refuse a b t = (jrr (jrt a b t.1), jrt a b t.1, t.2.1, t.2.2.1, t.2.2.2) := by
  unfold fn_X9_refuse jrr jrt
  by_cases e : a = 0
  · simp only [e, if_true]
    split <;> rfl
  · simp only [e, if_false]
    by_cases e2 : t.1 = 0
    · simp only [e2, if_true]
      split <;> rfl
    · simp only [e2, if_false]
      split <;> rfl
theorem mt_X9_startJ (l : Launch) (G : ky_G) (mo : Nat) (cs : Nat) (tq : ky_MQ) (f : Nat → Option Nat) (a1 : Int32) (sz : Nat)  : Met l my_X9_start (.code my_X9_start prog_10_method_9_code 2 (some .boolean) :: ky_B) { frames := 1, cells := 0, slots := 0, locals := 22 } (ky_P G [.ref mo, .int (a1)] (ky_WQ G mo cs tq f) sz (fun _ => True)) (ky_Q (S := ky_MQ) G (va_A (ky_WQ G mo cs tq f) sz) (fun v u9 => v = some (.int (jst a1)) ∧ u9 = (jst a1, tq.2.1, tq.2.2.1, tq.2.2.2)) (fun u9 => ky_WQ G mo cs u9 f) (fun _ _ => True)) 0 0 (va_A (ky_WQ G mo cs tq f) sz) := by
  have h := mt_X9_start l G mo cs tq f a1 sz
  rw [st_start] at h
  exact h
theorem mt_X9_refuseJ (l : Launch) (G : ky_G) (mo : Nat) (cs : Nat) (tq : ky_MQ) (f : Nat → Option Nat) (a1 : Int32) (a2 : Int32) (sz : Nat)  : Met l my_X9_refuse (.code my_X9_refuse prog_10_method_8_code 3 (some .boolean) :: ky_B) { frames := 0, cells := 0, slots := 0, locals := 0 } (ky_P G [.ref mo, .int (a1), .int (a2)] (ky_WQ G mo cs tq f) sz (fun _ => True)) (ky_Q (S := ky_MQ) G (va_A (ky_WQ G mo cs tq f) sz) (fun v u9 => v = some (.int (jrr (jrt a1 a2 tq.1))) ∧ u9 = (jrt a1 a2 tq.1, tq.2.1, tq.2.2.1, tq.2.2.2)) (fun u9 => ky_WQ G mo cs u9 f) (fun _ _ => True)) 0 0 (va_A (ky_WQ G mo cs tq f) sz) := by
  have h := mt_X9_refuse l G mo cs tq f a1 a2 sz
  rw [st_refuse] at h
  exact h
theorem lr_isNo {a : Int32} (h : fn_X9_isNo a = 0) : vp_in a 6 := by
  have h2 : ¬ fn_X9_isOf a 0 5 = 0 := by
    intro z
    unfold fn_X9_isNo at h
    rw [if_pos z] at h
    exact absurd h (by decide)
  have h3 : ¬ a < 0 := by
    intro z
    apply h2
    unfold fn_X9_isOf
    rw [if_pos z]
  have h4 : ¬ (5 : Int32) < a := by
    intro z
    apply h2
    unfold fn_X9_isOf
    rw [if_neg h3, if_pos z]
  rw [Int32.lt_iff_toInt_lt] at h3 h4
  refine vp_in_iff.mpr ⟨?_, ?_⟩
  · have : (0 : Int32).toInt = 0 := rfl
    omega
  · have : (5 : Int32).toInt = 5 := rfl
    omega
theorem lr_jst {a : Int32} (h : jst a = 0) : a = 0 := by
  by_cases e : a = 0
  · exact e
  · unfold jst at h
    rw [if_neg e] at h
    exact absurd h (by decide)
theorem lr_start {a : Int32} (h : jst (fn_X9_isNo a) = 0) : vp_in a 6 := lr_isNo (lr_jst h)
theorem lr_areNo {a b : Int32} (h : fn_X9_areNo a b = 0) : vp_in a 6 ∧ vp_in b 6 := by
  unfold fn_X9_areNo at h
  by_cases e : fn_X9_isNo a = 0
  · rw [if_pos e] at h
    by_cases e2 : fn_X9_isNo b = 0
    · exact ⟨lr_isNo e, lr_isNo e2⟩
    · rw [if_neg e2] at h
      exact absurd h (by decide)
  · rw [if_neg e] at h
    exact absurd h (by decide)
theorem lr_startB {a b : Int32} (h : jst (fn_X9_areNo a b) = 0) : vp_in a 6 ∧ vp_in b 6 := lr_areNo (lr_jst h)
