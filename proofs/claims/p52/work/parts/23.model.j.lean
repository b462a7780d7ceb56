section
def fn_X9_areNo (a1 : Int32) (a2 : Int32)  : Int32 :=
  if (fn_X9_isNo (a1)) = (0 : Int32) then (if (fn_X9_isNo (a2)) = (0 : Int32) then ((0 : Int32)) else ((1 : Int32))) else ((1 : Int32))
set_option linter.constructorNameAsVariable false in
set_option maxHeartbeats 4000000 in
set_option maxRecDepth 100000 in
theorem mt_X9_areNo (l : Launch) (G : ky_G) (b0 : Nat)  (a1 : Int32) (a2 : Int32) : Met l my_X9_areNo (.code my_X9_areNo prog_10_method_19_code 3 (some .boolean) :: ky_B) { frames := 2, cells := 0, slots := 0, locals := 42 } (ky_P1 G [.ref b0, .int (a1), .int (a2)] (fun H => True)) (ky_Q0 (some (.int (fn_X9_areNo a1 a2)))) 0 0 (fun _ => False) := by
  refine ky_start1 (by decide) (Nat.le_of_ble_eq_true rfl) (fun p e s m below meth c F hE hX ls hl => ?_)
  obtain ⟨hx, hb, hml, hown, hr, hlocks, hts⟩ := id F
  skip
  have hl : lv_has ls 3 [(0, .ref b0), (1, .int (a1)), (2, .int (a2))] := hl
  have hw : fn_X9_areNo a1 a2 = _ := fn_X9_areNo.eq_1 a1 a2
  refine lv_iload_n hx hb dc_X9_areNo_0 rfl (lv_at hl 1 rfl) ?_
  refine ky_cS0 (As := [.int (a1)]) F (mt_X9_isNo l (a1)) ks_X9_51 ⟨⟨rfl, rfl⟩, by decide, by decide⟩ rfl hl.1 rfl (Nat.le_of_ble_eq_true rfl) ⟨Nat.zero_le _, Nat.zero_le _⟩ dc_X9_areNo_1 ?_
  refine lv_if_ne (tgt := 14) hx hb dc_X9_areNo_4 (by decide) (fun c_0 => ?_) (fun c_0 => ?_)
  · have hw := hw.trans (if_neg c_0)
    refine lv_iconst (v := 1) hx hb dc_X9_areNo_14 (by decide) ?_
    refine lv_goto (tgt := 19) hx hb dc_X9_areNo_15 (by decide) ?_
    exact W.zret hx hb hr (by decide) (fun t ht hW => ⟨congrArg (fun z => Outcome.returned (some (Value.int z))) hw.symm, ht⟩) ky_nil dc_X9_areNo_19
  · have hw := hw.trans (if_pos c_0)
    refine lv_iload_n hx hb dc_X9_areNo_7 rfl (lv_at hl 2 rfl) ?_
    refine ky_cS0 (As := [.int (a2)]) F (mt_X9_isNo l (a2)) ks_X9_51 ⟨⟨rfl, rfl⟩, by decide, by decide⟩ rfl hl.1 rfl (Nat.le_of_ble_eq_true rfl) ⟨Nat.zero_le _, Nat.zero_le _⟩ dc_X9_areNo_8 ?_
    refine lv_if_eq (tgt := 18) hx hb dc_X9_areNo_11 (by decide) (fun c_1 => ?_) (fun c_1 => ?_)
    · have hw := hw.trans (if_pos c_1)
      refine lv_iconst (v := 0) hx hb dc_X9_areNo_18 (by decide) ?_
      exact W.zret hx hb hr (by decide) (fun t ht hW => ⟨congrArg (fun z => Outcome.returned (some (Value.int z))) hw.symm, ht⟩) ky_nil dc_X9_areNo_19
    · have hw := hw.trans (if_neg c_1)
      refine lv_iconst (v := 1) hx hb dc_X9_areNo_14 (by decide) ?_
      refine lv_goto (tgt := 19) hx hb dc_X9_areNo_15 (by decide) ?_
      exact W.zret hx hb hr (by decide) (fun t ht hW => ⟨congrArg (fun z => Outcome.returned (some (Value.int z))) hw.symm, ht⟩) ky_nil dc_X9_areNo_19
theorem fz_X9_areNo (a1 : Int32) (a2 : Int32)  : fn_X9_areNo a1 a2 = 0 ∨ fn_X9_areNo a1 a2 = 1 := by
  unfold fn_X9_areNo
  repeat' split
  all_goals first | exact Or.inl rfl | exact Or.inr rfl
def fn_X9_thrown (tq : ky_MQ) : Int32 × ky_MQ :=
  (tq.1, tq)
set_option linter.constructorNameAsVariable false in
set_option maxHeartbeats 4000000 in
set_option maxRecDepth 100000 in
theorem mt_X9_thrown (l : Launch) (G : ky_G) (mo : Nat) (cs : Nat) (tq : ky_MQ) (f : Nat → Option Nat)  (sz : Nat)  : Met l my_X9_thrown (.code my_X9_thrown prog_10_method_7_code 1 (some .int) :: ky_B) { frames := 0, cells := 0, slots := 0, locals := 0 } (ky_P G [.ref mo] (ky_WQ G mo cs tq f) sz (fun _ => True)) (ky_Q (S := ky_MQ) G (va_A (ky_WQ G mo cs tq f) sz) (fun v u9 => v = some (.int (fn_X9_thrown tq).1) ∧ u9 = (fn_X9_thrown tq).2) (fun u9 => ky_WQ G mo cs u9 f) (fun _ _ => True)) 0 0 (va_A (ky_WQ G mo cs tq f) sz) := by
  refine ky_start (by decide) (Nat.le_of_ble_eq_true rfl) (fun p e s m below meth c F hE A hAe hsz hA hfr hP hD hS hX ls hl => ?_)
  obtain ⟨hx, hb, hml, hown, hr, hlocks, hts⟩ := id F
  have hl : lv_has ls 1 [(0, .ref mo)] := hl
  have hP : va_P G.1 kcl [(mo, .inr (5, [.int (tq.1), .ref cs, .int (tq.2.1), .int (tq.2.2.1), .int (tq.2.2.2)])), (cs, .inl (G.2.1 3, 6, .inr (.inr (.inr (.inr (f))))))] s.heap := hP
  have hD : va_D A [(mo, .inr (5, [.int (tq.1), .ref cs, .int (tq.2.1), .int (tq.2.2.1), .int (tq.2.2.2)])), (cs, .inl (G.2.1 3, 6, .inr (.inr (.inr (.inr (f))))))] := hD
  have hw : fn_X9_thrown tq = _ := fn_X9_thrown.eq_1 tq
  refine lv_aload_n hx hb dc_X9_thrown_0 rfl (lv_at hl 0 rfl) ?_
  refine va_get (D := G.1) (ci := 5) (v := .int (tq.1)) (C := RX9) (T := TX9) (N := 5) hx hb hts ki_X9 hown hE.1 hP 0 rfl rfl 0 (by decide) (hts _ kw_6_19) (fun _ h9 => h9) rfl dc_X9_thrown_1 ?_
  have hP9 := hP.sub (ws' := [(mo, .inr (5, [.int (tq.1), .ref cs, .int (tq.2.1), .int (tq.2.2.1), .int (tq.2.2.2)])), (cs, .inl (G.2.1 3, 6, .inr (.inr (.inr (.inr (f))))))]) [0, 1] rfl
  have hD9 := hD.sub (ws' := [(mo, .inr (5, [.int (tq.1), .ref cs, .int (tq.2.1), .int (tq.2.2.1), .int (tq.2.2.2)])), (cs, .inl (G.2.1 3, 6, .inr (.inr (.inr (.inr (f))))))]) [0, 1] (by decide) rfl
  refine W.widen (k := 0) (n := 0) (Nat.le_of_ble_eq_true rfl) (Nat.le_of_ble_eq_true rfl) ?_
  exact W.iret (v := tq.1) hx hb hr (fun t ht hW => ⟨⟨_, tq, rfl, ky_pi hw, by rw [ht]; exact hP9, hD9, trivial⟩, hS.F ht⟩) hS.2.2 dc_X9_thrown_4
def fn_X9_refuse (a1 : Int32) (a2 : Int32) (tq : ky_MQ) : Int32 × ky_MQ :=
  if (a1) = (0 : Int32) then (if (tq.1) ≤ (0 : Int32) then (((0 : Int32), tq)) else (((1 : Int32), tq))) else (if (tq.1) = (0 : Int32) then (if (a2) ≤ (0 : Int32) then (((0 : Int32), (a2, tq.2.1, tq.2.2.1, tq.2.2.2))) else (((1 : Int32), (a2, tq.2.1, tq.2.2.1, tq.2.2.2)))) else (if (tq.1) ≤ (0 : Int32) then (((0 : Int32), tq)) else (((1 : Int32), tq))))
set_option linter.constructorNameAsVariable false in
set_option maxHeartbeats 4000000 in
set_option maxRecDepth 100000 in
theorem mt_X9_refuse (l : Launch) (G : ky_G) (mo : Nat) (cs : Nat) (tq : ky_MQ) (f : Nat → Option Nat) (a1 : Int32) (a2 : Int32) (sz : Nat)  : Met l my_X9_refuse (.code my_X9_refuse prog_10_method_8_code 3 (some .boolean) :: ky_B) { frames := 0, cells := 0, slots := 0, locals := 0 } (ky_P G [.ref mo, .int (a1), .int (a2)] (ky_WQ G mo cs tq f) sz (fun _ => True)) (ky_Q (S := ky_MQ) G (va_A (ky_WQ G mo cs tq f) sz) (fun v u9 => v = some (.int (fn_X9_refuse a1 a2 tq).1) ∧ u9 = (fn_X9_refuse a1 a2 tq).2) (fun u9 => ky_WQ G mo cs u9 f) (fun _ _ => True)) 0 0 (va_A (ky_WQ G mo cs tq f) sz) := by
  refine ky_start (by decide) (Nat.le_of_ble_eq_true rfl) (fun p e s m below meth c F hE A hAe hsz hA hfr hP hD hS hX ls hl => ?_)
  obtain ⟨hx, hb, hml, hown, hr, hlocks, hts⟩ := id F
  have hl : lv_has ls 3 [(0, .ref mo), (1, .int (a1)), (2, .int (a2))] := hl
  have hP : va_P G.1 kcl [(mo, .inr (5, [.int (tq.1), .ref cs, .int (tq.2.1), .int (tq.2.2.1), .int (tq.2.2.2)])), (cs, .inl (G.2.1 3, 6, .inr (.inr (.inr (.inr (f))))))] s.heap := hP
  have hD : va_D A [(mo, .inr (5, [.int (tq.1), .ref cs, .int (tq.2.1), .int (tq.2.2.1), .int (tq.2.2.2)])), (cs, .inl (G.2.1 3, 6, .inr (.inr (.inr (.inr (f))))))] := hD
  have hw : fn_X9_refuse a1 a2 tq = _ := fn_X9_refuse.eq_1 a1 a2 tq
  refine lv_iload_n hx hb dc_X9_refuse_0 rfl (lv_at hl 1 rfl) ?_
  refine lv_if_eq (tgt := 16) hx hb dc_X9_refuse_1 (by decide) (fun c_0 => ?_) (fun c_0 => ?_)
  · have hw := hw.trans (if_pos c_0)
    refine lv_aload_n hx hb dc_X9_refuse_16 rfl (lv_at hl 0 rfl) ?_
    refine va_get (D := G.1) (ci := 5) (v := .int (tq.1)) (C := RX9) (T := TX9) (N := 5) hx hb hts ki_X9 hown hE.1 hP 0 rfl rfl 0 (by decide) (hts _ kw_6_19) (fun _ h9 => h9) rfl dc_X9_refuse_17 ?_
    refine lv_if_le (tgt := 27) hx hb dc_X9_refuse_20 (by decide) (fun c_1 => ?_) (fun c_1 => ?_)
    · have hw := hw.trans (if_pos c_1)
      refine lv_iconst (v := 0) hx hb dc_X9_refuse_27 (by decide) ?_
      have hP9 := hP.sub (ws' := [(mo, .inr (5, [.int (tq.1), .ref cs, .int (tq.2.1), .int (tq.2.2.1), .int (tq.2.2.2)])), (cs, .inl (G.2.1 3, 6, .inr (.inr (.inr (.inr (f))))))]) [0, 1] rfl
      have hD9 := hD.sub (ws' := [(mo, .inr (5, [.int (tq.1), .ref cs, .int (tq.2.1), .int (tq.2.2.1), .int (tq.2.2.2)])), (cs, .inl (G.2.1 3, 6, .inr (.inr (.inr (.inr (f))))))]) [0, 1] (by decide) rfl
      refine W.widen (k := 0) (n := 0) (Nat.le_of_ble_eq_true rfl) (Nat.le_of_ble_eq_true rfl) ?_
      exact W.zret (v := (0 : Int32)) hx hb hr (by decide) (fun t ht hW => ⟨⟨_, tq, rfl, ky_pi hw, by rw [ht]; exact hP9, hD9, trivial⟩, hS.F ht⟩) hS.2.2 dc_X9_refuse_28
    · have hw := hw.trans (if_neg c_1)
      refine lv_iconst (v := 1) hx hb dc_X9_refuse_23 (by decide) ?_
      refine lv_goto (tgt := 28) hx hb dc_X9_refuse_24 (by decide) ?_
      have hP9 := hP.sub (ws' := [(mo, .inr (5, [.int (tq.1), .ref cs, .int (tq.2.1), .int (tq.2.2.1), .int (tq.2.2.2)])), (cs, .inl (G.2.1 3, 6, .inr (.inr (.inr (.inr (f))))))]) [0, 1] rfl
      have hD9 := hD.sub (ws' := [(mo, .inr (5, [.int (tq.1), .ref cs, .int (tq.2.1), .int (tq.2.2.1), .int (tq.2.2.2)])), (cs, .inl (G.2.1 3, 6, .inr (.inr (.inr (.inr (f))))))]) [0, 1] (by decide) rfl
      refine W.widen (k := 0) (n := 0) (Nat.le_of_ble_eq_true rfl) (Nat.le_of_ble_eq_true rfl) ?_
      exact W.zret (v := (1 : Int32)) hx hb hr (by decide) (fun t ht hW => ⟨⟨_, tq, rfl, ky_pi hw, by rw [ht]; exact hP9, hD9, trivial⟩, hS.F ht⟩) hS.2.2 dc_X9_refuse_28
  · have hw := hw.trans (if_neg c_0)
    refine lv_aload_n hx hb dc_X9_refuse_4 rfl (lv_at hl 0 rfl) ?_
    refine va_get (D := G.1) (ci := 5) (v := .int (tq.1)) (C := RX9) (T := TX9) (N := 5) hx hb hts ki_X9 hown hE.1 hP 0 rfl rfl 0 (by decide) (hts _ kw_6_19) (fun _ h9 => h9) rfl dc_X9_refuse_5 ?_
    refine lv_if_ne (tgt := 16) hx hb dc_X9_refuse_8 (by decide) (fun c_1 => ?_) (fun c_1 => ?_)
    · have hw := hw.trans (if_neg c_1)
      refine lv_aload_n hx hb dc_X9_refuse_16 rfl (lv_at hl 0 rfl) ?_
      refine va_get (D := G.1) (ci := 5) (v := .int (tq.1)) (C := RX9) (T := TX9) (N := 5) hx hb hts ki_X9 hown hE.1 hP 0 rfl rfl 0 (by decide) (hts _ kw_6_19) (fun _ h9 => h9) rfl dc_X9_refuse_17 ?_
      refine lv_if_le (tgt := 27) hx hb dc_X9_refuse_20 (by decide) (fun c_2 => ?_) (fun c_2 => ?_)
      · have hw := hw.trans (if_pos c_2)
        refine lv_iconst (v := 0) hx hb dc_X9_refuse_27 (by decide) ?_
        have hP9 := hP.sub (ws' := [(mo, .inr (5, [.int (tq.1), .ref cs, .int (tq.2.1), .int (tq.2.2.1), .int (tq.2.2.2)])), (cs, .inl (G.2.1 3, 6, .inr (.inr (.inr (.inr (f))))))]) [0, 1] rfl
        have hD9 := hD.sub (ws' := [(mo, .inr (5, [.int (tq.1), .ref cs, .int (tq.2.1), .int (tq.2.2.1), .int (tq.2.2.2)])), (cs, .inl (G.2.1 3, 6, .inr (.inr (.inr (.inr (f))))))]) [0, 1] (by decide) rfl
        refine W.widen (k := 0) (n := 0) (Nat.le_of_ble_eq_true rfl) (Nat.le_of_ble_eq_true rfl) ?_
        exact W.zret (v := (0 : Int32)) hx hb hr (by decide) (fun t ht hW => ⟨⟨_, tq, rfl, ky_pi hw, by rw [ht]; exact hP9, hD9, trivial⟩, hS.F ht⟩) hS.2.2 dc_X9_refuse_28
      · have hw := hw.trans (if_neg c_2)
        refine lv_iconst (v := 1) hx hb dc_X9_refuse_23 (by decide) ?_
        refine lv_goto (tgt := 28) hx hb dc_X9_refuse_24 (by decide) ?_
        have hP9 := hP.sub (ws' := [(mo, .inr (5, [.int (tq.1), .ref cs, .int (tq.2.1), .int (tq.2.2.1), .int (tq.2.2.2)])), (cs, .inl (G.2.1 3, 6, .inr (.inr (.inr (.inr (f))))))]) [0, 1] rfl
        have hD9 := hD.sub (ws' := [(mo, .inr (5, [.int (tq.1), .ref cs, .int (tq.2.1), .int (tq.2.2.1), .int (tq.2.2.2)])), (cs, .inl (G.2.1 3, 6, .inr (.inr (.inr (.inr (f))))))]) [0, 1] (by decide) rfl
        refine W.widen (k := 0) (n := 0) (Nat.le_of_ble_eq_true rfl) (Nat.le_of_ble_eq_true rfl) ?_
        exact W.zret (v := (1 : Int32)) hx hb hr (by decide) (fun t ht hW => ⟨⟨_, tq, rfl, ky_pi hw, by rw [ht]; exact hP9, hD9, trivial⟩, hS.F ht⟩) hS.2.2 dc_X9_refuse_28
    · have hw := hw.trans (if_pos c_1)
      refine lv_aload_n hx hb dc_X9_refuse_11 rfl (lv_at hl 0 rfl) ?_
      refine lv_iload_n hx hb dc_X9_refuse_12 rfl (lv_at hl 2 rfl) ?_
      refine va_put (D := G.1) (ci := 5) (v := .int (a2)) (ty := .int) (C := RX9) (T := TX9) (N := 5) hx hb hts ki_X9 tyX9 tyX9_ok nmX9 hown hE.1 hP hD hS 0 rfl rfl 0 (by decide) (hts _ kw_6_19) (fun _ h9 => h9) rfl (by decide +kernel) rfl rfl (Nat.le_of_ble_eq_true rfl) dc_X9_refuse_13 (fun H locs hP hD hS => ?_)
      have hP : va_P G.1 kcl [(mo, .inr (5, [.int (a2), .ref cs, .int (tq.2.1), .int (tq.2.2.1), .int (tq.2.2.2)])), (cs, .inl (G.2.1 3, 6, .inr (.inr (.inr (.inr (f))))))] H := hP
      have hD : va_D A [(mo, .inr (5, [.int (a2), .ref cs, .int (tq.2.1), .int (tq.2.2.1), .int (tq.2.2.2)])), (cs, .inl (G.2.1 3, 6, .inr (.inr (.inr (.inr (f))))))] := hD
      refine lv_aload_n hx hb dc_X9_refuse_16 rfl (lv_at hl 0 rfl) ?_
      refine va_get (D := G.1) (ci := 5) (v := .int (a2)) (C := RX9) (T := TX9) (N := 5) hx hb hts ki_X9 hown hE.1 hP 0 rfl rfl 0 (by decide) (hts _ kw_6_19) (fun _ h9 => h9) rfl dc_X9_refuse_17 ?_
      refine lv_if_le (tgt := 27) hx hb dc_X9_refuse_20 (by decide) (fun c_2 => ?_) (fun c_2 => ?_)
      · have hw := hw.trans (if_pos c_2)
        refine lv_iconst (v := 0) hx hb dc_X9_refuse_27 (by decide) ?_
        have hP9 := hP.sub (ws' := [(mo, .inr (5, [.int (a2), .ref cs, .int (tq.2.1), .int (tq.2.2.1), .int (tq.2.2.2)])), (cs, .inl (G.2.1 3, 6, .inr (.inr (.inr (.inr (f))))))]) [0, 1] rfl
        have hD9 := hD.sub (ws' := [(mo, .inr (5, [.int (a2), .ref cs, .int (tq.2.1), .int (tq.2.2.1), .int (tq.2.2.2)])), (cs, .inl (G.2.1 3, 6, .inr (.inr (.inr (.inr (f))))))]) [0, 1] (by decide) rfl
        refine W.widen (k := 0) (n := 0) (Nat.le_of_ble_eq_true rfl) (Nat.le_of_ble_eq_true rfl) ?_
        exact W.zret (v := (0 : Int32)) hx hb hr (by decide) (fun t ht hW => ⟨⟨_, (a2, tq.2.1, tq.2.2.1, tq.2.2.2), rfl, ky_pi hw, by rw [ht]; exact hP9, hD9, trivial⟩, hS.F ht⟩) hS.2.2 dc_X9_refuse_28
      · have hw := hw.trans (if_neg c_2)
        refine lv_iconst (v := 1) hx hb dc_X9_refuse_23 (by decide) ?_
        refine lv_goto (tgt := 28) hx hb dc_X9_refuse_24 (by decide) ?_
        have hP9 := hP.sub (ws' := [(mo, .inr (5, [.int (a2), .ref cs, .int (tq.2.1), .int (tq.2.2.1), .int (tq.2.2.2)])), (cs, .inl (G.2.1 3, 6, .inr (.inr (.inr (.inr (f))))))]) [0, 1] rfl
        have hD9 := hD.sub (ws' := [(mo, .inr (5, [.int (a2), .ref cs, .int (tq.2.1), .int (tq.2.2.1), .int (tq.2.2.2)])), (cs, .inl (G.2.1 3, 6, .inr (.inr (.inr (.inr (f))))))]) [0, 1] (by decide) rfl
        refine W.widen (k := 0) (n := 0) (Nat.le_of_ble_eq_true rfl) (Nat.le_of_ble_eq_true rfl) ?_
        exact W.zret (v := (1 : Int32)) hx hb hr (by decide) (fun t ht hW => ⟨⟨_, (a2, tq.2.1, tq.2.2.1, tq.2.2.2), rfl, ky_pi hw, by rw [ht]; exact hP9, hD9, trivial⟩, hS.F ht⟩) hS.2.2 dc_X9_refuse_28
theorem fz_X9_refuse (a1 : Int32) (a2 : Int32) (tq : ky_MQ) : (fn_X9_refuse a1 a2 tq).1 = 0 ∨ (fn_X9_refuse a1 a2 tq).1 = 1 := by
  unfold fn_X9_refuse
  repeat' split
  all_goals first | exact Or.inl rfl | exact Or.inr rfl
def fn_X9_start (a1 : Int32) (tq : ky_MQ) : Int32 × ky_MQ :=
  ((fn_X9_refuse (a1) ((1 : Int32)) (((0 : Int32), tq.2.1, tq.2.2.1, tq.2.2.2))).1, (fn_X9_refuse (a1) ((1 : Int32)) (((0 : Int32), tq.2.1, tq.2.2.1, tq.2.2.2))).2)
set_option linter.constructorNameAsVariable false in
set_option maxHeartbeats 4000000 in
set_option maxRecDepth 100000 in
theorem mt_X9_start (l : Launch) (G : ky_G) (mo : Nat) (cs : Nat) (tq : ky_MQ) (f : Nat → Option Nat) (a1 : Int32) (sz : Nat)  : Met l my_X9_start (.code my_X9_start prog_10_method_9_code 2 (some .boolean) :: ky_B) { frames := 1, cells := 0, slots := 0, locals := 22 } (ky_P G [.ref mo, .int (a1)] (ky_WQ G mo cs tq f) sz (fun _ => True)) (ky_Q (S := ky_MQ) G (va_A (ky_WQ G mo cs tq f) sz) (fun v u9 => v = some (.int (fn_X9_start a1 tq).1) ∧ u9 = (fn_X9_start a1 tq).2) (fun u9 => ky_WQ G mo cs u9 f) (fun _ _ => True)) 0 0 (va_A (ky_WQ G mo cs tq f) sz) := by
  refine ky_start (by decide) (Nat.le_of_ble_eq_true rfl) (fun p e s m below meth c F hE A hAe hsz hA hfr hP hD hS hX ls hl => ?_)
  obtain ⟨hx, hb, hml, hown, hr, hlocks, hts⟩ := id F
  have hl : lv_has ls 2 [(0, .ref mo), (1, .int (a1))] := hl
  have hP : va_P G.1 kcl [(mo, .inr (5, [.int (tq.1), .ref cs, .int (tq.2.1), .int (tq.2.2.1), .int (tq.2.2.2)])), (cs, .inl (G.2.1 3, 6, .inr (.inr (.inr (.inr (f))))))] s.heap := hP
  have hD : va_D A [(mo, .inr (5, [.int (tq.1), .ref cs, .int (tq.2.1), .int (tq.2.2.1), .int (tq.2.2.2)])), (cs, .inl (G.2.1 3, 6, .inr (.inr (.inr (.inr (f))))))] := hD
  have hw : fn_X9_start a1 tq = _ := fn_X9_start.eq_1 a1 tq
  refine lv_aload_n hx hb dc_X9_start_0 rfl (lv_at hl 0 rfl) ?_
  refine lv_iconst (v := 0) hx hb dc_X9_start_1 (by decide) ?_
  refine va_put (D := G.1) (ci := 5) (v := .int ((0 : Int32))) (ty := .int) (C := RX9) (T := TX9) (N := 5) hx hb hts ki_X9 tyX9 tyX9_ok nmX9 hown hE.1 hP hD hS 0 rfl rfl 0 (by decide) (hts _ kw_6_19) (fun _ h9 => h9) rfl (by decide +kernel) rfl rfl (Nat.le_of_ble_eq_true rfl) dc_X9_start_2 (fun H locs hP hD hS => ?_)
  have hP : va_P G.1 kcl [(mo, .inr (5, [.int ((0 : Int32)), .ref cs, .int (tq.2.1), .int (tq.2.2.1), .int (tq.2.2.2)])), (cs, .inl (G.2.1 3, 6, .inr (.inr (.inr (.inr (f))))))] H := hP
  have hD : va_D A [(mo, .inr (5, [.int ((0 : Int32)), .ref cs, .int (tq.2.1), .int (tq.2.2.1), .int (tq.2.2.2)])), (cs, .inl (G.2.1 3, 6, .inr (.inr (.inr (.inr (f))))))] := hD
  refine lv_aload_n hx hb dc_X9_start_5 rfl (lv_at hl 0 rfl) ?_
  refine lv_iload_n hx hb dc_X9_start_6 rfl (lv_at hl 1 rfl) ?_
  refine lv_iconst (v := 1) hx hb dc_X9_start_7 (by decide) ?_
  refine ky_cVh (As := [.int (a1), .int ((1 : Int32))]) (wr := []) F (hE.at hfr hS) hfr (mt_X9_refuse l G (mo) (cs) (((0 : Int32), tq.2.1, tq.2.2.1, tq.2.2.2)) (f) (a1) ((1 : Int32)) H.size ) kv_X9_36 ⟨⟨rfl, rfl⟩, by decide, by decide⟩ rfl hl.1 rfl (Nat.le_of_ble_eq_true rfl) ⟨Nat.le_of_ble_eq_true rfl, Nat.le_of_ble_eq_true rfl⟩ (va_recv hE.1 hP (ci := 5) (q0 := 0) rfl rfl) trivial hP hD hS hA [0, 1] [] rfl rfl (by decide) (by decide) (by decide) dc_X9_start_8 ?_
  rintro v9 u9 H locs ⟨rfl, rfl⟩ hP hD hS - hz hk9
  have hP : va_P G.1 kcl [(mo, .inr (5, [.int ((fn_X9_refuse (a1) ((1 : Int32)) (((0 : Int32), tq.2.1, tq.2.2.1, tq.2.2.2))).2.1), .ref cs, .int ((fn_X9_refuse (a1) ((1 : Int32)) (((0 : Int32), tq.2.1, tq.2.2.1, tq.2.2.2))).2.2.1), .int ((fn_X9_refuse (a1) ((1 : Int32)) (((0 : Int32), tq.2.1, tq.2.2.1, tq.2.2.2))).2.2.2.1), .int ((fn_X9_refuse (a1) ((1 : Int32)) (((0 : Int32), tq.2.1, tq.2.2.1, tq.2.2.2))).2.2.2.2)])), (cs, .inl (G.2.1 3, 6, .inr (.inr (.inr (.inr (f))))))] H := hP
  have hD : va_D A [(mo, .inr (5, [.int ((fn_X9_refuse (a1) ((1 : Int32)) (((0 : Int32), tq.2.1, tq.2.2.1, tq.2.2.2))).2.1), .ref cs, .int ((fn_X9_refuse (a1) ((1 : Int32)) (((0 : Int32), tq.2.1, tq.2.2.1, tq.2.2.2))).2.2.1), .int ((fn_X9_refuse (a1) ((1 : Int32)) (((0 : Int32), tq.2.1, tq.2.2.1, tq.2.2.2))).2.2.2.1), .int ((fn_X9_refuse (a1) ((1 : Int32)) (((0 : Int32), tq.2.1, tq.2.2.1, tq.2.2.2))).2.2.2.2)])), (cs, .inl (G.2.1 3, 6, .inr (.inr (.inr (.inr (f))))))] := hD
  refine W.widen (k := 0) (n := 0) (Nat.le_refl _) (Nat.le_refl _) ?_
  have hP9 := hP.sub (ws' := [(mo, .inr (5, [.int ((fn_X9_refuse (a1) ((1 : Int32)) (((0 : Int32), tq.2.1, tq.2.2.1, tq.2.2.2))).2.1), .ref cs, .int ((fn_X9_refuse (a1) ((1 : Int32)) (((0 : Int32), tq.2.1, tq.2.2.1, tq.2.2.2))).2.2.1), .int ((fn_X9_refuse (a1) ((1 : Int32)) (((0 : Int32), tq.2.1, tq.2.2.1, tq.2.2.2))).2.2.2.1), .int ((fn_X9_refuse (a1) ((1 : Int32)) (((0 : Int32), tq.2.1, tq.2.2.1, tq.2.2.2))).2.2.2.2)])), (cs, .inl (G.2.1 3, 6, .inr (.inr (.inr (.inr (f))))))]) [0, 1] rfl
  have hD9 := hD.sub (ws' := [(mo, .inr (5, [.int ((fn_X9_refuse (a1) ((1 : Int32)) (((0 : Int32), tq.2.1, tq.2.2.1, tq.2.2.2))).2.1), .ref cs, .int ((fn_X9_refuse (a1) ((1 : Int32)) (((0 : Int32), tq.2.1, tq.2.2.1, tq.2.2.2))).2.2.1), .int ((fn_X9_refuse (a1) ((1 : Int32)) (((0 : Int32), tq.2.1, tq.2.2.1, tq.2.2.2))).2.2.2.1), .int ((fn_X9_refuse (a1) ((1 : Int32)) (((0 : Int32), tq.2.1, tq.2.2.1, tq.2.2.2))).2.2.2.2)])), (cs, .inl (G.2.1 3, 6, .inr (.inr (.inr (.inr (f))))))]) [0, 1] (by decide) rfl
  refine W.widen (k := 0) (n := 0) (Nat.le_of_ble_eq_true rfl) (Nat.le_of_ble_eq_true rfl) ?_
  exact W.zret (v := (fn_X9_refuse (a1) ((1 : Int32)) (((0 : Int32), tq.2.1, tq.2.2.1, tq.2.2.2))).1) hx hb hr (ky_nz (fz_X9_refuse (a1) ((1 : Int32)) (((0 : Int32), tq.2.1, tq.2.2.1, tq.2.2.2)))) (fun t ht hW => ⟨⟨_, (fn_X9_refuse (a1) ((1 : Int32)) (((0 : Int32), tq.2.1, tq.2.2.1, tq.2.2.2))).2, rfl, ky_pi hw, by rw [ht]; exact hP9, hD9, trivial⟩, hS.F ht⟩) hS.2.2 dc_X9_start_11
theorem fz_X9_start (a1 : Int32) (tq : ky_MQ) : (fn_X9_start a1 tq).1 = 0 ∨ (fn_X9_start a1 tq).1 = 1 := by
  unfold fn_X9_start
  repeat' split
  all_goals first | exact Or.inl rfl | exact Or.inr rfl | exact fz_X9_refuse _ _ _
/-- what start tells and keeps -/
def jst (a : Int32) : Int32 := if a = 0 then 0 else 1
theorem fz_jst (a : Int32) : jst a = 0 ∨ jst a = 1 := by
  unfold jst
  split
  · exact Or.inl rfl
  · exact Or.inr rfl
theorem st_start (a : Int32) (t : ky_MQ) : fn_X9_start a t = (jst a, jst a, t.2.1, t.2.2.1, t.2.2.2) := by
  unfold fn_X9_start fn_X9_refuse jst
  by_cases e : a = 0
  · simp only [e, if_true]
    rfl
  · simp only [e, if_false, if_true]
    rfl
/-- what refuse tells and keeps -/
def jrt (a b t : Int32) : Int32 := if a = 0 then t else if t = 0 then b else t
def jrr (t : Int32) : Int32 := if t ≤ 0 then 0 else 1
theorem st_refuse (a b : Int32) (t : ky_MQ) : fn_X9_refuse a b t = (jrr (jrt a b t.1), jrt a b t.1, t.2.1, t.2.2.1, t.2.2.2) := by
  unfold fn_X9_refuse jrr jrt
  by_cases e : a = 0
  · simp only [e, if_true]
    split <;> rfl
  · simp only [e, if_false]
    by_cases e2 : t.1 = 0
    · simp only [e2, if_true]
      split <;> rfl
    · simp only [e2, if_false]
      split <;> rfl
theorem mt_X9_startJ (l : Launch) (G : ky_G) (mo : Nat) (cs : Nat) (tq : ky_MQ) (f : Nat → Option Nat) (a1 : Int32) (sz : Nat)  : Met l my_X9_start (.code my_X9_start prog_10_method_9_code 2 (some .boolean) :: ky_B) { frames := 1, cells := 0, slots := 0, locals := 22 } (ky_P G [.ref mo, .int (a1)] (ky_WQ G mo cs tq f) sz (fun _ => True)) (ky_Q (S := ky_MQ) G (va_A (ky_WQ G mo cs tq f) sz) (fun v u9 => v = some (.int (jst a1)) ∧ u9 = (jst a1, tq.2.1, tq.2.2.1, tq.2.2.2)) (fun u9 => ky_WQ G mo cs u9 f) (fun _ _ => True)) 0 0 (va_A (ky_WQ G mo cs tq f) sz) := by
  have h := mt_X9_start l G mo cs tq f a1 sz
  rw [st_start] at h
  exact h
theorem mt_X9_refuseJ (l : Launch) (G : ky_G) (mo : Nat) (cs : Nat) (tq : ky_MQ) (f : Nat → Option Nat) (a1 : Int32) (a2 : Int32) (sz : Nat)  : Met l my_X9_refuse (.code my_X9_refuse prog_10_method_8_code 3 (some .boolean) :: ky_B) { frames := 0, cells := 0, slots := 0, locals := 0 } (ky_P G [.ref mo, .int (a1), .int (a2)] (ky_WQ G mo cs tq f) sz (fun _ => True)) (ky_Q (S := ky_MQ) G (va_A (ky_WQ G mo cs tq f) sz) (fun v u9 => v = some (.int (jrr (jrt a1 a2 tq.1))) ∧ u9 = (jrt a1 a2 tq.1, tq.2.1, tq.2.2.1, tq.2.2.2)) (fun u9 => ky_WQ G mo cs u9 f) (fun _ _ => True)) 0 0 (va_A (ky_WQ G mo cs tq f) sz) := by
  have h := mt_X9_refuse l G mo cs tq f a1 a2 sz
  rw [st_refuse] at h
  exact h
theorem lr_isNo {a : Int32} (h : fn_X9_isNo a = 0) : vp_in a 6 := by
  have h2 : ¬ fn_X9_isOf a 0 5 = 0 := by
    intro z
    unfold fn_X9_isNo at h
    rw [if_pos z] at h
    exact absurd h (by decide)
  have h3 : ¬ a < 0 := by
    intro z
    apply h2
    unfold fn_X9_isOf
    rw [if_pos z]
  have h4 : ¬ (5 : Int32) < a := by
    intro z
    apply h2
    unfold fn_X9_isOf
    rw [if_neg h3, if_pos z]
  rw [Int32.lt_iff_toInt_lt] at h3 h4
  refine vp_in_iff.mpr ⟨?_, ?_⟩
  · have : (0 : Int32).toInt = 0 := rfl
    omega
  · have : (5 : Int32).toInt = 5 := rfl
    omega
theorem lr_jst {a : Int32} (h : jst a = 0) : a = 0 := by
  by_cases e : a = 0
  · exact e
  · unfold jst at h
    rw [if_neg e] at h
    exact absurd h (by decide)
theorem lr_start {a : Int32} (h : jst (fn_X9_isNo a) = 0) : vp_in a 6 := lr_isNo (lr_jst h)
theorem lr_areNo {a b : Int32} (h : fn_X9_areNo a b = 0) : vp_in a 6 ∧ vp_in b 6 := by
  unfold fn_X9_areNo at h
  by_cases e : fn_X9_isNo a = 0
  · rw [if_pos e] at h
    by_cases e2 : fn_X9_isNo b = 0
    · exact ⟨lr_isNo e, lr_isNo e2⟩
    · rw [if_neg e2] at h
      exact absurd h (by decide)
  · rw [if_neg e] at h
    exact absurd h (by decide)
theorem lr_startB {a b : Int32} (h : jst (fn_X9_areNo a b) = 0) : vp_in a 6 ∧ vp_in b 6 := lr_areNo (lr_jst h)
end
section
def fn_X9_give (a1 : Int32) (v2 : Int32 × Int64) (w : ky_MV) : Int32 × ky_MV :=
  (fn_X8_kind v2, (w.1, (w.2.1) + ((1 : Int32)), w.2.2.1, w.2.2.2.1, ky_vu (w.2.2.2.2) (a1).toNatClampNeg (v2)))
set_option linter.constructorNameAsVariable false in
set_option maxHeartbeats 4000000 in
set_option maxRecDepth 100000 in
theorem mt_X9_give (l : Launch) (G : ky_G) (mo cs : Nat) (N : Nat → Prop) (w : ky_MV) (f : Nat → Option Nat) (b2 : Nat) (v2 : Int32 × Int64) (ho2 : ky_ok mo cs N b2) (a1 : Int32) (sz : Nat) (h1 : vp_in (a1) 6) : Met l my_X9_give (.code my_X9_give prog_10_method_11_code 3 (some .int) :: ky_B) { frames := 5, cells := 0, slots := 0, locals := 105 } (ky_P G [.ref mo, .int (a1), .ref b2] (ky_WM G mo cs w f) sz (fun H => ky_IT G mo cs N f w.2.2.2.2 H ∧ ky_It G b2 v2 H)) (ky_Q (S := ky_MV × (Nat → Option Nat)) G (va_A (ky_WM G mo cs w f) sz) (fun v u => v = some (.int (fn_X9_give a1 v2 w).1) ∧ u.1 = (fn_X9_give a1 v2 w).2) (fun u => ky_WM G mo cs u.1 u.2) (fun u H => ky_IT G mo cs N u.2 u.1.2.2.2.2 H)) 0 0 (va_A (ky_WM G mo cs w f) sz) := by
  refine ky_start (by decide) (Nat.le_of_ble_eq_true rfl) (fun p e s m below meth c F hE A hAe hsz hA hfr hP hD hS hX ls hl => ?_)
  obtain ⟨hx, hb, hml, hown, hr, hlocks, hts⟩ := id F
  obtain ⟨hIT0, hX2⟩ := hX
  have hIT := hIT0
  have hI2 := hX2
  have hl : lv_has ls 3 [(0, .ref mo), (1, .int (a1)), (2, .ref b2)] := hl
  have hP : va_P G.1 kcl [(mo, .inr (5, [.int (w.1), .ref cs, .int (w.2.1), .int (w.2.2.1), .int (w.2.2.2.1)])), (cs, .inl (G.2.1 3, 6, .inr (.inr (.inr (.inr (f))))))] s.heap := hP
  have hD : va_D A [(mo, .inr (5, [.int (w.1), .ref cs, .int (w.2.1), .int (w.2.2.1), .int (w.2.2.2.1)])), (cs, .inl (G.2.1 3, 6, .inr (.inr (.inr (.inr (f))))))] := hD
  have hw : fn_X9_give a1 v2 w = _ := fn_X9_give.eq_1 a1 v2 w
  refine lv_aload_n hx hb dc_X9_give_0 rfl (lv_at hl 0 rfl) ?_
  refine va_get (D := G.1) (ci := 5) (v := .ref cs) (C := RX9) (T := TX9) (N := 5) hx hb hts ki_X9 hown hE.1 hP 0 rfl rfl 1 (by decide) (hts _ kw_6_20) (fun _ h9 => h9) rfl dc_X9_give_1 ?_
  refine lv_iload_n hx hb dc_X9_give_4 rfl (lv_at hl 1 rfl) ?_
  refine lv_aload_n hx hb dc_X9_give_5 rfl (lv_at hl 2 rfl) ?_
  refine ky_astI hx hb hE.1 hP hD hS 1 rfl hI2 h1 dc_X9_give_6 (fun H locs hP hD hS => ?_)
  have hP : va_P G.1 kcl [(mo, .inr (5, [.int (w.1), .ref cs, .int (w.2.1), .int (w.2.2.1), .int (w.2.2.2.1)])), (cs, .inl (G.2.1 3, 6, .inr (.inr (.inr (.inr (va_up (f) (a1).toNatClampNeg (some b2)))))))] H := hP
  have hD : va_D A [(mo, .inr (5, [.int (w.1), .ref cs, .int (w.2.1), .int (w.2.2.1), .int (w.2.2.2.1)])), (cs, .inl (G.2.1 3, 6, .inr (.inr (.inr (.inr (va_up (f) (a1).toNatClampNeg (some b2)))))))] := hD
  have hIT := hIT0.ro hAe hS
  have hI2 := ky_ro2 hX2 ho2 hAe hS
  refine lv_aload_n hx hb dc_X9_give_7 rfl (lv_at hl 0 rfl) ?_
  refine lv_dup hx hb dc_X9_give_8 rfl ?_
  refine va_get (D := G.1) (ci := 5) (v := .int (w.2.1)) (C := RX9) (T := TX9) (N := 5) hx hb hts ki_X9 hown hE.1 hP 0 rfl rfl 2 (by decide) (hts _ kw_6_21) (fun _ h9 => h9) rfl dc_X9_give_9 ?_
  refine lv_iconst (v := 1) hx hb dc_X9_give_12 (by decide) ?_
  refine lv_iadd hx hb dc_X9_give_13 ?_
  refine va_put (D := G.1) (ci := 5) (v := .int ((w.2.1) + ((1 : Int32)))) (ty := .int) (C := RX9) (T := TX9) (N := 5) hx hb hts ki_X9 tyX9 tyX9_ok nmX9 hown hE.1 hP hD hS 0 rfl rfl 2 (by decide) (hts _ kw_6_21) (fun _ h9 => h9) rfl (by decide +kernel) rfl rfl (Nat.le_of_ble_eq_true rfl) dc_X9_give_14 (fun H locs hP hD hS => ?_)
  have hP : va_P G.1 kcl [(mo, .inr (5, [.int (w.1), .ref cs, .int ((w.2.1) + ((1 : Int32))), .int (w.2.2.1), .int (w.2.2.2.1)])), (cs, .inl (G.2.1 3, 6, .inr (.inr (.inr (.inr (va_up (f) (a1).toNatClampNeg (some b2)))))))] H := hP
  have hD : va_D A [(mo, .inr (5, [.int (w.1), .ref cs, .int ((w.2.1) + ((1 : Int32))), .int (w.2.2.1), .int (w.2.2.2.1)])), (cs, .inl (G.2.1 3, 6, .inr (.inr (.inr (.inr (va_up (f) (a1).toNatClampNeg (some b2)))))))] := hD
  have hIT := hIT0.ro hAe hS
  have hI2 := ky_ro2 hX2 ho2 hAe hS
  refine lv_aload_n hx hb dc_X9_give_17 rfl (lv_at hl 2 rfl) ?_
  refine ky_cV1 (As := []) F (hE.at hfr hS) (mt_X8_kind l G (b2) (v2) ) kv_X9_47 ⟨⟨rfl, rfl⟩, by decide, by decide⟩ rfl hl.1 rfl (Nat.le_of_ble_eq_true rfl) ⟨Nat.le_of_ble_eq_true rfl, Nat.le_of_ble_eq_true rfl⟩ (va_recv hE.1 hI2 (ci := 4) (q0 := 0) rfl rfl) hI2 dc_X9_give_18 ?_
  have hP9 : va_P G.1 kcl (ky_WM G mo cs ((w.1, (w.2.1) + ((1 : Int32)), w.2.2.1, w.2.2.2.1, ky_vu (w.2.2.2.2) (a1).toNatClampNeg (v2))) (va_up (f) (a1).toNatClampNeg (some b2))) H := hP.sub [0, 1] rfl
  have hD9 : va_D A (ky_WM G mo cs ((w.1, (w.2.1) + ((1 : Int32)), w.2.2.1, w.2.2.2.1, ky_vu (w.2.2.2.2) (a1).toNatClampNeg (v2))) (va_up (f) (a1).toNatClampNeg (some b2))) := hD.sub [0, 1] (by decide) rfl
  refine W.widen (k := 0) (n := 0) (Nat.le_of_ble_eq_true rfl) (Nat.le_of_ble_eq_true rfl) ?_
  exact W.iret (v := fn_X8_kind v2) hx hb hr (fun t ht hW => ⟨by rw [ht]; exact ky_endM (fun z => some (.int z)) (fn_X8_kind v2) hw hP9 hD9 (hIT.put hI2 ho2), hS.F ht⟩) hS.2.2 dc_X9_give_21
end
section
def fn_X9_zero (a1 : Int32) (a2 : Int32)  (w : ky_MV) : Int32 × ky_MV :=
  if (jst (fn_X9_isNo (a1))) = (0 : Int32) then (((fn_X9_give (a1) (fn_X9_one (a2), (0 : Int64)) (jst (fn_X9_isNo (a1)), w.2.1, w.2.2.1, w.2.2.2.1, w.2.2.2.2)).1, ((fn_X9_give (a1) (fn_X9_one (a2), (0 : Int64)) (jst (fn_X9_isNo (a1)), w.2.1, w.2.2.1, w.2.2.2.1, w.2.2.2.2)).2))) else (((0 : Int32), (jst (fn_X9_isNo (a1)), w.2.1, w.2.2.1, w.2.2.2.1, w.2.2.2.2)))
set_option linter.constructorNameAsVariable false in
set_option maxHeartbeats 4000000 in
set_option maxRecDepth 100000 in
theorem mt_X9_zero (l : Launch) (G : ky_G) (mo cs : Nat) (N : Nat → Prop) (w : ky_MV) (f : Nat → Option Nat)    (a1 : Int32) (a2 : Int32) (sz : Nat) : Met l my_X9_zero (.code my_X9_zero prog_10_method_12_code 3 (some .int) :: ky_B) { frames := 6, cells := 1, slots := 2, locals := 127 } (ky_P G [.ref mo, .int (a1), .int (a2)] (ky_WM G mo cs w f) sz (fun H => ky_IT G mo cs N f w.2.2.2.2 H)) (ky_Q (S := ky_MV × (Nat → Option Nat)) G (va_A (ky_WM G mo cs w f) sz) (fun v u => v = some (.int (fn_X9_zero a1 a2 w).1) ∧ u.1 = (fn_X9_zero a1 a2 w).2) (fun u => ky_WM G mo cs u.1 u.2) (fun u H => ky_IT G mo cs N u.2 u.1.2.2.2.2 H)) 1 2 (va_A (ky_WM G mo cs w f) sz) := by
  refine ky_start (by decide) (Nat.le_of_ble_eq_true rfl) (fun p e s m below meth c F hE A hAe hsz hA hfr hP hD hS hX ls hl => ?_)
  obtain ⟨hx, hb, hml, hown, hr, hlocks, hts⟩ := id F
  have hIT0 := hX
  have hIT := hIT0
  have hl : lv_has ls 3 [(0, .ref mo), (1, .int (a1)), (2, .int (a2))] := hl
  have hP : va_P G.1 kcl [(mo, .inr (5, [.int (w.1), .ref cs, .int (w.2.1), .int (w.2.2.1), .int (w.2.2.2.1)])), (cs, .inl (G.2.1 3, 6, .inr (.inr (.inr (.inr (f))))))] s.heap := hP
  have hD : va_D A [(mo, .inr (5, [.int (w.1), .ref cs, .int (w.2.1), .int (w.2.2.1), .int (w.2.2.2.1)])), (cs, .inl (G.2.1 3, 6, .inr (.inr (.inr (.inr (f))))))] := hD
  have hw : fn_X9_zero a1 a2 w = _ := fn_X9_zero.eq_1 a1 a2 w
  refine lv_aload_n hx hb dc_X9_zero_0 rfl (lv_at hl 0 rfl) ?_
  refine lv_iload_n hx hb dc_X9_zero_1 rfl (lv_at hl 1 rfl) ?_
  refine ky_cS0 (As := [.int (a1)]) F (mt_X9_isNo l (a1)) ks_X9_51 ⟨⟨rfl, rfl⟩, by decide, by decide⟩ rfl hl.1 rfl (Nat.le_of_ble_eq_true rfl) ⟨Nat.le_of_ble_eq_true rfl, Nat.le_of_ble_eq_true rfl⟩ dc_X9_zero_2 ?_
  refine ky_cVh (As := [.int (fn_X9_isNo (a1))]) (wr := []) F (hE.at hfr hS) hfr (mt_X9_startJ l G (mo) (cs) ((w.1, w.2.1, w.2.2.1, w.2.2.2.1)) (f) (fn_X9_isNo (a1)) s.heap.size ) kv_X9_55 ⟨⟨rfl, rfl⟩, by decide, by decide⟩ rfl hl.1 rfl (Nat.le_of_ble_eq_true rfl) ⟨Nat.le_of_ble_eq_true rfl, Nat.le_of_ble_eq_true rfl⟩ (va_recv hE.1 hP (ci := 5) (q0 := 0) rfl rfl) trivial hP hD hS hA [0, 1] [] rfl rfl (by decide) (by decide) (by decide) dc_X9_zero_5 ?_
  rintro v9 u9 H locs ⟨rfl, rfl⟩ hP hD hS - hz hk9
  obtain ⟨j_1, hj_1⟩ : ∃ j9, j9 = jst (fn_X9_isNo (a1)) := ⟨_, rfl⟩
  rw [← hj_1] at hP hD ⊢
  try rw [← hj_1] at hw
  have hP : va_P G.1 kcl [(mo, .inr (5, [.int (j_1), .ref cs, .int (w.2.1), .int (w.2.2.1), .int (w.2.2.2.1)])), (cs, .inl (G.2.1 3, 6, .inr (.inr (.inr (.inr (f))))))] H := hP
  have hD : va_D A [(mo, .inr (5, [.int (j_1), .ref cs, .int (w.2.1), .int (w.2.2.1), .int (w.2.2.2.1)])), (cs, .inl (G.2.1 3, 6, .inr (.inr (.inr (.inr (f))))))] := hD
  have hIT := hIT0.ro hAe hS
  refine W.widen (k := 0) (n := 0) (Nat.le_refl _) (Nat.le_refl _) ?_
  refine lv_if_eq (tgt := 15) hx hb dc_X9_zero_8 (by decide) (fun c_2 => ?_) (fun c_2 => ?_)
  · have hw := hw.trans (if_pos c_2)
    refine lv_aload_n hx hb dc_X9_zero_15 rfl (lv_at hl 0 rfl) ?_
    refine lv_iload_n hx hb dc_X9_zero_16 rfl (lv_at hl 1 rfl) ?_
    refine va_new (ci := 4) (fs := [.int (0), .long (0)]) (C := RX8) (T := TX8) (N := 2) hx hb hts ki_X8 tyX8 tyX8_ok hown (hts _ kw_6_3) (hts _ kw_6_5) (hts _ kw_1_9) hE.1 hP hD hS hA rfl (fun j hj => by rcases (show j = 0 ∨ j = 1 by omega) with rfl | rfl <;> rfl) (Nat.le_of_ble_eq_true rfl) (Nat.le_of_ble_eq_true rfl) dc_X9_zero_17 (fun q_3 H hP hD hS => ?_)
    have hP : va_P G.1 kcl [(mo, .inr (5, [.int (j_1), .ref cs, .int (w.2.1), .int (w.2.2.1), .int (w.2.2.2.1)])), (cs, .inl (G.2.1 3, 6, .inr (.inr (.inr (.inr (f)))))), (q_3, .inr (4, [.int (0), .long (0)]))] H := hP
    have hD : va_D A [(mo, .inr (5, [.int (j_1), .ref cs, .int (w.2.1), .int (w.2.2.1), .int (w.2.2.2.1)])), (cs, .inl (G.2.1 3, 6, .inr (.inr (.inr (.inr (f)))))), (q_3, .inr (4, [.int (0), .long (0)]))] := hD
    have hIT := hIT0.ro hAe hS
    refine W.widen (k := 1) (n := 2) (Nat.le_refl _) (Nat.le_refl _) ?_
    refine lv_dup hx hb dc_X9_zero_20 rfl ?_
    refine lv_iload_n hx hb dc_X9_zero_21 rfl (lv_at hl 2 rfl) ?_
    refine ky_cS0 (As := [.int (a2)]) F (mt_X9_one l (a2)) ks_X9_59 ⟨⟨rfl, rfl⟩, by decide, by decide⟩ rfl hl.1 rfl (Nat.le_of_ble_eq_true rfl) ⟨Nat.le_of_ble_eq_true rfl, Nat.le_of_ble_eq_true rfl⟩ dc_X9_zero_22 ?_
    refine lv_lconst (v := 0) hx hb dc_X9_zero_25 (by decide) ?_
    refine ky_cIh (As := [.int (fn_X9_one (a2)), .long ((0 : Int64))]) (wr := [(mo, .inr (5, [.int (j_1), .ref cs, .int (w.2.1), .int (w.2.2.1), .int (w.2.2.2.1)])), (cs, .inl (G.2.1 3, 6, .inr (.inr (.inr (.inr (f))))))]) F (hE.at hfr hS) hfr (mt_X8_init l G (q_3) (fn_X9_one (a2)) ((0 : Int64)) H.size ) kI_X9_29 ⟨⟨rfl, rfl⟩, by decide, by decide⟩ rfl hl.1 rfl (Nat.le_of_ble_eq_true rfl) ⟨Nat.le_of_ble_eq_true rfl, Nat.le_of_ble_eq_true rfl⟩ trivial hP hD hS hA [2] [0, 1] rfl rfl (by decide) (by decide) (by decide) dc_X9_zero_26 ?_
    rintro v9 u9 H locs ⟨rfl, rfl⟩ hP hD hS - hz hk9
    have hP : va_P G.1 kcl [(mo, .inr (5, [.int (j_1), .ref cs, .int (w.2.1), .int (w.2.2.1), .int (w.2.2.2.1)])), (cs, .inl (G.2.1 3, 6, .inr (.inr (.inr (.inr (f)))))), (q_3, .inr (4, [.int (fn_X9_one (a2)), .long ((0 : Int64))]))] H := hP
    have hD : va_D A [(mo, .inr (5, [.int (j_1), .ref cs, .int (w.2.1), .int (w.2.2.1), .int (w.2.2.2.1)])), (cs, .inl (G.2.1 3, 6, .inr (.inr (.inr (.inr (f)))))), (q_3, .inr (4, [.int (fn_X9_one (a2)), .long ((0 : Int64))]))] := hD
    have hIT := hIT0.ro hAe hS
    refine W.widen (k := 1) (n := 2) (Nat.le_refl _) (Nat.le_refl _) ?_
    have hJ_5 : ky_It G q_3 ((fn_X9_one (a2), (0 : Int64))) H := ky_itp (hP.sub (ws' := [(q_3, .inr (4, [.int (fn_X9_one (a2)), .long ((0 : Int64))]))]) [2] rfl)
    have hk_5 : ky_ok mo cs N q_3 := ky_ok.own hAe hIT0.1 hD 0 1 2 rfl rfl rfl (by decide) (by decide)
    refine ky_cVh (As := [.int (a1), .ref q_3]) (wr := [(q_3, .inr (4, [.int (fn_X9_one (a2)), .long ((0 : Int64))]))]) F (hE.at hfr hS) hfr (mt_X9_give l G mo cs N (j_1, w.2.1, w.2.2.1, w.2.2.2.1, w.2.2.2.2) (f) (q_3) (fn_X9_one (a2), (0 : Int64)) hk_5 (a1) H.size (lr_start (hj_1.symm.trans c_2))) kv_X9_63 ⟨⟨rfl, rfl⟩, by decide, by decide⟩ rfl hl.1 rfl (Nat.le_of_ble_eq_true rfl) ⟨Nat.le_of_ble_eq_true rfl, Nat.le_of_ble_eq_true rfl⟩ (va_recv hE.1 hP (ci := 5) (q0 := 0) rfl rfl) ⟨hIT, hJ_5⟩ hP hD hS hA [0, 1] [2] rfl rfl (by decide) (by decide) (by decide) dc_X9_zero_29 ?_
    rintro v9 ⟨w_6, f_6⟩ H locs ⟨rfl, hw_6⟩ hP hD hS hIT9 hz hk9
    have hw_6 : w_6 = (fn_X9_give (a1) (fn_X9_one (a2), (0 : Int64)) (j_1, w.2.1, w.2.2.1, w.2.2.2.1, w.2.2.2.2)).2 := hw_6
    try rw [← hw_6] at hw
    have hP : va_P G.1 kcl [(q_3, .inr (4, [.int (fn_X9_one (a2)), .long ((0 : Int64))])), (mo, .inr (5, [.int ((w_6).1), .ref cs, .int ((w_6).2.1), .int ((w_6).2.2.1), .int ((w_6).2.2.2.1)])), (cs, .inl (G.2.1 3, 6, .inr (.inr (.inr (.inr (f_6))))))] H := hP
    have hD : va_D A [(q_3, .inr (4, [.int (fn_X9_one (a2)), .long ((0 : Int64))])), (mo, .inr (5, [.int ((w_6).1), .ref cs, .int ((w_6).2.1), .int ((w_6).2.2.1), .int ((w_6).2.2.2.1)])), (cs, .inl (G.2.1 3, 6, .inr (.inr (.inr (.inr (f_6))))))] := hD
    have hIT : ky_IT G mo cs N f_6 ((w_6).2.2.2.2) H := hIT9
    refine W.widen (k := 1) (n := 2) (Nat.le_refl _) (Nat.le_refl _) ?_
    have hP9 : va_P G.1 kcl (ky_WM G mo cs ((w_6)) (f_6)) H := hP.sub [1, 2] rfl
    have hD9 : va_D A (ky_WM G mo cs ((w_6)) (f_6)) := hD.sub [1, 2] (by decide) rfl
    refine W.widen (k := 1) (n := 2) (Nat.le_of_ble_eq_true rfl) (Nat.le_of_ble_eq_true rfl) ?_
    exact W.iret (v := (fn_X9_give (a1) (fn_X9_one (a2), (0 : Int64)) (j_1, w.2.1, w.2.2.1, w.2.2.2.1, w.2.2.2.2)).1) hx hb hr (fun t ht hW => ⟨by rw [ht]; exact ky_endM (fun z => some (.int z)) ((fn_X9_give (a1) (fn_X9_one (a2), (0 : Int64)) (j_1, w.2.1, w.2.2.1, w.2.2.2.1, w.2.2.2.2)).1) hw hP9 hD9 (hIT), hS.F ht⟩) hS.2.2 dc_X9_zero_32
  · have hw := hw.trans (if_neg c_2)
    refine lv_iconst (v := 0) hx hb dc_X9_zero_11 (by decide) ?_
    refine lv_goto (tgt := 32) hx hb dc_X9_zero_12 (by decide) ?_
    have hP9 : va_P G.1 kcl (ky_WM G mo cs ((j_1, w.2.1, w.2.2.1, w.2.2.2.1, w.2.2.2.2)) (f)) H := hP.sub [0, 1] rfl
    have hD9 : va_D A (ky_WM G mo cs ((j_1, w.2.1, w.2.2.1, w.2.2.2.1, w.2.2.2.2)) (f)) := hD.sub [0, 1] (by decide) rfl
    refine W.widen (k := 1) (n := 2) (Nat.le_of_ble_eq_true rfl) (Nat.le_of_ble_eq_true rfl) ?_
    exact W.iret (v := (0 : Int32)) hx hb hr (fun t ht hW => ⟨by rw [ht]; exact ky_endM (fun z => some (.int z)) ((0 : Int32)) hw hP9 hD9 (hIT), hS.F ht⟩) hS.2.2 dc_X9_zero_32
end
section
def fn_X9_endless (a1 : Int32) (a2 : Int32)  (w : ky_MV) : Int32 × ky_MV :=
  if (jst (fn_X9_isNo (a1))) = (0 : Int32) then (((fn_X9_give (a1) (fn_X9_one (a2), (9218868437227405312 : Int64)) (jst (fn_X9_isNo (a1)), w.2.1, w.2.2.1, w.2.2.2.1, w.2.2.2.2)).1, ((fn_X9_give (a1) (fn_X9_one (a2), (9218868437227405312 : Int64)) (jst (fn_X9_isNo (a1)), w.2.1, w.2.2.1, w.2.2.2.1, w.2.2.2.2)).2))) else (((0 : Int32), (jst (fn_X9_isNo (a1)), w.2.1, w.2.2.1, w.2.2.2.1, w.2.2.2.2)))
set_option linter.constructorNameAsVariable false in
set_option maxHeartbeats 4000000 in
set_option maxRecDepth 100000 in
theorem mt_X9_endless (l : Launch) (G : ky_G) (mo cs : Nat) (N : Nat → Prop) (w : ky_MV) (f : Nat → Option Nat)    (a1 : Int32) (a2 : Int32) (sz : Nat) : Met l my_X9_endless (.code my_X9_endless prog_10_method_13_code 3 (some .int) :: ky_B) { frames := 6, cells := 1, slots := 2, locals := 127 } (ky_P G [.ref mo, .int (a1), .int (a2)] (ky_WM G mo cs w f) sz (fun H => ky_IT G mo cs N f w.2.2.2.2 H)) (ky_Q (S := ky_MV × (Nat → Option Nat)) G (va_A (ky_WM G mo cs w f) sz) (fun v u => v = some (.int (fn_X9_endless a1 a2 w).1) ∧ u.1 = (fn_X9_endless a1 a2 w).2) (fun u => ky_WM G mo cs u.1 u.2) (fun u H => ky_IT G mo cs N u.2 u.1.2.2.2.2 H)) 1 2 (va_A (ky_WM G mo cs w f) sz) := by
  refine ky_start (by decide) (Nat.le_of_ble_eq_true rfl) (fun p e s m below meth c F hE A hAe hsz hA hfr hP hD hS hX ls hl => ?_)
  obtain ⟨hx, hb, hml, hown, hr, hlocks, hts⟩ := id F
  have hIT0 := hX
  have hIT := hIT0
  have hl : lv_has ls 3 [(0, .ref mo), (1, .int (a1)), (2, .int (a2))] := hl
  have hP : va_P G.1 kcl [(mo, .inr (5, [.int (w.1), .ref cs, .int (w.2.1), .int (w.2.2.1), .int (w.2.2.2.1)])), (cs, .inl (G.2.1 3, 6, .inr (.inr (.inr (.inr (f))))))] s.heap := hP
  have hD : va_D A [(mo, .inr (5, [.int (w.1), .ref cs, .int (w.2.1), .int (w.2.2.1), .int (w.2.2.2.1)])), (cs, .inl (G.2.1 3, 6, .inr (.inr (.inr (.inr (f))))))] := hD
  have hw : fn_X9_endless a1 a2 w = _ := fn_X9_endless.eq_1 a1 a2 w
  refine lv_aload_n hx hb dc_X9_endless_0 rfl (lv_at hl 0 rfl) ?_
  refine lv_iload_n hx hb dc_X9_endless_1 rfl (lv_at hl 1 rfl) ?_
  refine ky_cS0 (As := [.int (a1)]) F (mt_X9_isNo l (a1)) ks_X9_51 ⟨⟨rfl, rfl⟩, by decide, by decide⟩ rfl hl.1 rfl (Nat.le_of_ble_eq_true rfl) ⟨Nat.le_of_ble_eq_true rfl, Nat.le_of_ble_eq_true rfl⟩ dc_X9_endless_2 ?_
  refine ky_cVh (As := [.int (fn_X9_isNo (a1))]) (wr := []) F (hE.at hfr hS) hfr (mt_X9_startJ l G (mo) (cs) ((w.1, w.2.1, w.2.2.1, w.2.2.2.1)) (f) (fn_X9_isNo (a1)) s.heap.size ) kv_X9_55 ⟨⟨rfl, rfl⟩, by decide, by decide⟩ rfl hl.1 rfl (Nat.le_of_ble_eq_true rfl) ⟨Nat.le_of_ble_eq_true rfl, Nat.le_of_ble_eq_true rfl⟩ (va_recv hE.1 hP (ci := 5) (q0 := 0) rfl rfl) trivial hP hD hS hA [0, 1] [] rfl rfl (by decide) (by decide) (by decide) dc_X9_endless_5 ?_
  rintro v9 u9 H locs ⟨rfl, rfl⟩ hP hD hS - hz hk9
  obtain ⟨j_1, hj_1⟩ : ∃ j9, j9 = jst (fn_X9_isNo (a1)) := ⟨_, rfl⟩
  rw [← hj_1] at hP hD ⊢
  try rw [← hj_1] at hw
  have hP : va_P G.1 kcl [(mo, .inr (5, [.int (j_1), .ref cs, .int (w.2.1), .int (w.2.2.1), .int (w.2.2.2.1)])), (cs, .inl (G.2.1 3, 6, .inr (.inr (.inr (.inr (f))))))] H := hP
  have hD : va_D A [(mo, .inr (5, [.int (j_1), .ref cs, .int (w.2.1), .int (w.2.2.1), .int (w.2.2.2.1)])), (cs, .inl (G.2.1 3, 6, .inr (.inr (.inr (.inr (f))))))] := hD
  have hIT := hIT0.ro hAe hS
  refine W.widen (k := 0) (n := 0) (Nat.le_refl _) (Nat.le_refl _) ?_
  refine lv_if_eq (tgt := 15) hx hb dc_X9_endless_8 (by decide) (fun c_2 => ?_) (fun c_2 => ?_)
  · have hw := hw.trans (if_pos c_2)
    refine lv_aload_n hx hb dc_X9_endless_15 rfl (lv_at hl 0 rfl) ?_
    refine lv_iload_n hx hb dc_X9_endless_16 rfl (lv_at hl 1 rfl) ?_
    refine va_new (ci := 4) (fs := [.int (0), .long (0)]) (C := RX8) (T := TX8) (N := 2) hx hb hts ki_X8 tyX8 tyX8_ok hown (hts _ kw_6_3) (hts _ kw_6_5) (hts _ kw_1_9) hE.1 hP hD hS hA rfl (fun j hj => by rcases (show j = 0 ∨ j = 1 by omega) with rfl | rfl <;> rfl) (Nat.le_of_ble_eq_true rfl) (Nat.le_of_ble_eq_true rfl) dc_X9_endless_17 (fun q_3 H hP hD hS => ?_)
    have hP : va_P G.1 kcl [(mo, .inr (5, [.int (j_1), .ref cs, .int (w.2.1), .int (w.2.2.1), .int (w.2.2.2.1)])), (cs, .inl (G.2.1 3, 6, .inr (.inr (.inr (.inr (f)))))), (q_3, .inr (4, [.int (0), .long (0)]))] H := hP
    have hD : va_D A [(mo, .inr (5, [.int (j_1), .ref cs, .int (w.2.1), .int (w.2.2.1), .int (w.2.2.2.1)])), (cs, .inl (G.2.1 3, 6, .inr (.inr (.inr (.inr (f)))))), (q_3, .inr (4, [.int (0), .long (0)]))] := hD
    have hIT := hIT0.ro hAe hS
    refine W.widen (k := 1) (n := 2) (Nat.le_refl _) (Nat.le_refl _) ?_
    refine lv_dup hx hb dc_X9_endless_20 rfl ?_
    refine lv_iload_n hx hb dc_X9_endless_21 rfl (lv_at hl 2 rfl) ?_
    refine ky_cS0 (As := [.int (a2)]) F (mt_X9_one l (a2)) ks_X9_59 ⟨⟨rfl, rfl⟩, by decide, by decide⟩ rfl hl.1 rfl (Nat.le_of_ble_eq_true rfl) ⟨Nat.le_of_ble_eq_true rfl, Nat.le_of_ble_eq_true rfl⟩ dc_X9_endless_22 ?_
    refine lv_ldc2 (v := 9218868437227405312) hx hb hown (hts _ kw_6_103) dc_X9_endless_25 ?_
    refine ky_cIh (As := [.int (fn_X9_one (a2)), .long ((9218868437227405312 : Int64))]) (wr := [(mo, .inr (5, [.int (j_1), .ref cs, .int (w.2.1), .int (w.2.2.1), .int (w.2.2.2.1)])), (cs, .inl (G.2.1 3, 6, .inr (.inr (.inr (.inr (f))))))]) F (hE.at hfr hS) hfr (mt_X8_init l G (q_3) (fn_X9_one (a2)) ((9218868437227405312 : Int64)) H.size ) kI_X9_29 ⟨⟨rfl, rfl⟩, by decide, by decide⟩ rfl hl.1 rfl (Nat.le_of_ble_eq_true rfl) ⟨Nat.le_of_ble_eq_true rfl, Nat.le_of_ble_eq_true rfl⟩ trivial hP hD hS hA [2] [0, 1] rfl rfl (by decide) (by decide) (by decide) dc_X9_endless_28 ?_
    rintro v9 u9 H locs ⟨rfl, rfl⟩ hP hD hS - hz hk9
    have hP : va_P G.1 kcl [(mo, .inr (5, [.int (j_1), .ref cs, .int (w.2.1), .int (w.2.2.1), .int (w.2.2.2.1)])), (cs, .inl (G.2.1 3, 6, .inr (.inr (.inr (.inr (f)))))), (q_3, .inr (4, [.int (fn_X9_one (a2)), .long ((9218868437227405312 : Int64))]))] H := hP
    have hD : va_D A [(mo, .inr (5, [.int (j_1), .ref cs, .int (w.2.1), .int (w.2.2.1), .int (w.2.2.2.1)])), (cs, .inl (G.2.1 3, 6, .inr (.inr (.inr (.inr (f)))))), (q_3, .inr (4, [.int (fn_X9_one (a2)), .long ((9218868437227405312 : Int64))]))] := hD
    have hIT := hIT0.ro hAe hS
    refine W.widen (k := 1) (n := 2) (Nat.le_refl _) (Nat.le_refl _) ?_
    have hJ_5 : ky_It G q_3 ((fn_X9_one (a2), (9218868437227405312 : Int64))) H := ky_itp (hP.sub (ws' := [(q_3, .inr (4, [.int (fn_X9_one (a2)), .long ((9218868437227405312 : Int64))]))]) [2] rfl)
    have hk_5 : ky_ok mo cs N q_3 := ky_ok.own hAe hIT0.1 hD 0 1 2 rfl rfl rfl (by decide) (by decide)
    refine ky_cVh (As := [.int (a1), .ref q_3]) (wr := [(q_3, .inr (4, [.int (fn_X9_one (a2)), .long ((9218868437227405312 : Int64))]))]) F (hE.at hfr hS) hfr (mt_X9_give l G mo cs N (j_1, w.2.1, w.2.2.1, w.2.2.2.1, w.2.2.2.2) (f) (q_3) (fn_X9_one (a2), (9218868437227405312 : Int64)) hk_5 (a1) H.size (lr_start (hj_1.symm.trans c_2))) kv_X9_63 ⟨⟨rfl, rfl⟩, by decide, by decide⟩ rfl hl.1 rfl (Nat.le_of_ble_eq_true rfl) ⟨Nat.le_of_ble_eq_true rfl, Nat.le_of_ble_eq_true rfl⟩ (va_recv hE.1 hP (ci := 5) (q0 := 0) rfl rfl) ⟨hIT, hJ_5⟩ hP hD hS hA [0, 1] [2] rfl rfl (by decide) (by decide) (by decide) dc_X9_endless_31 ?_
    rintro v9 ⟨w_6, f_6⟩ H locs ⟨rfl, hw_6⟩ hP hD hS hIT9 hz hk9
    have hw_6 : w_6 = (fn_X9_give (a1) (fn_X9_one (a2), (9218868437227405312 : Int64)) (j_1, w.2.1, w.2.2.1, w.2.2.2.1, w.2.2.2.2)).2 := hw_6
    try rw [← hw_6] at hw
    have hP : va_P G.1 kcl [(q_3, .inr (4, [.int (fn_X9_one (a2)), .long ((9218868437227405312 : Int64))])), (mo, .inr (5, [.int ((w_6).1), .ref cs, .int ((w_6).2.1), .int ((w_6).2.2.1), .int ((w_6).2.2.2.1)])), (cs, .inl (G.2.1 3, 6, .inr (.inr (.inr (.inr (f_6))))))] H := hP
    have hD : va_D A [(q_3, .inr (4, [.int (fn_X9_one (a2)), .long ((9218868437227405312 : Int64))])), (mo, .inr (5, [.int ((w_6).1), .ref cs, .int ((w_6).2.1), .int ((w_6).2.2.1), .int ((w_6).2.2.2.1)])), (cs, .inl (G.2.1 3, 6, .inr (.inr (.inr (.inr (f_6))))))] := hD
    have hIT : ky_IT G mo cs N f_6 ((w_6).2.2.2.2) H := hIT9
    refine W.widen (k := 1) (n := 2) (Nat.le_refl _) (Nat.le_refl _) ?_
    have hP9 : va_P G.1 kcl (ky_WM G mo cs ((w_6)) (f_6)) H := hP.sub [1, 2] rfl
    have hD9 : va_D A (ky_WM G mo cs ((w_6)) (f_6)) := hD.sub [1, 2] (by decide) rfl
    refine W.widen (k := 1) (n := 2) (Nat.le_of_ble_eq_true rfl) (Nat.le_of_ble_eq_true rfl) ?_
    exact W.iret (v := (fn_X9_give (a1) (fn_X9_one (a2), (9218868437227405312 : Int64)) (j_1, w.2.1, w.2.2.1, w.2.2.2.1, w.2.2.2.2)).1) hx hb hr (fun t ht hW => ⟨by rw [ht]; exact ky_endM (fun z => some (.int z)) ((fn_X9_give (a1) (fn_X9_one (a2), (9218868437227405312 : Int64)) (j_1, w.2.1, w.2.2.1, w.2.2.2.1, w.2.2.2.2)).1) hw hP9 hD9 (hIT), hS.F ht⟩) hS.2.2 dc_X9_endless_34
  · have hw := hw.trans (if_neg c_2)
    refine lv_iconst (v := 0) hx hb dc_X9_endless_11 (by decide) ?_
    refine lv_goto (tgt := 34) hx hb dc_X9_endless_12 (by decide) ?_
    have hP9 : va_P G.1 kcl (ky_WM G mo cs ((j_1, w.2.1, w.2.2.1, w.2.2.2.1, w.2.2.2.2)) (f)) H := hP.sub [0, 1] rfl
    have hD9 : va_D A (ky_WM G mo cs ((j_1, w.2.1, w.2.2.1, w.2.2.2.1, w.2.2.2.2)) (f)) := hD.sub [0, 1] (by decide) rfl
    refine W.widen (k := 1) (n := 2) (Nat.le_of_ble_eq_true rfl) (Nat.le_of_ble_eq_true rfl) ?_
    exact W.iret (v := (0 : Int32)) hx hb hr (fun t ht hW => ⟨by rw [ht]; exact ky_endM (fun z => some (.int z)) ((0 : Int32)) hw hP9 hD9 (hIT), hS.F ht⟩) hS.2.2 dc_X9_endless_34
end
section
def fn_X9_bits (a1 : Int32) (a2 : Int32) (a3 : Int32)  (w : ky_MV) : Int32 × ky_MV :=
  if (jst (fn_X9_isNo (a1))) = (0 : Int32) then (if (lg_cmp (((jlshl ((a2).toInt64) ((32 : Int32))) + (((a3).toInt64) &&& ((4294967295 : Int64)))) &&& ((9223372036854775807 : Int64))) ((9218868437227405312 : Int64))) ≤ (0 : Int32) then (if (0 : Int32) ≤ (a2) then (((fn_X9_give (a1) (fn_X9_one ((0 : Int32)), ((jlshl ((a2).toInt64) ((32 : Int32))) + (((a3).toInt64) &&& ((4294967295 : Int64)))) &&& ((9223372036854775807 : Int64))) (jst (fn_X9_isNo (a1)), w.2.1, w.2.2.1, w.2.2.2.1, w.2.2.2.2)).1, ((fn_X9_give (a1) (fn_X9_one ((0 : Int32)), ((jlshl ((a2).toInt64) ((32 : Int32))) + (((a3).toInt64) &&& ((4294967295 : Int64)))) &&& ((9223372036854775807 : Int64))) (jst (fn_X9_isNo (a1)), w.2.1, w.2.2.1, w.2.2.2.1, w.2.2.2.2)).2))) else (((fn_X9_give (a1) (fn_X9_one ((1 : Int32)), ((jlshl ((a2).toInt64) ((32 : Int32))) + (((a3).toInt64) &&& ((4294967295 : Int64)))) &&& ((9223372036854775807 : Int64))) (jst (fn_X9_isNo (a1)), w.2.1, w.2.2.1, w.2.2.2.1, w.2.2.2.2)).1, ((fn_X9_give (a1) (fn_X9_one ((1 : Int32)), ((jlshl ((a2).toInt64) ((32 : Int32))) + (((a3).toInt64) &&& ((4294967295 : Int64)))) &&& ((9223372036854775807 : Int64))) (jst (fn_X9_isNo (a1)), w.2.1, w.2.2.1, w.2.2.2.1, w.2.2.2.2)).2)))) else (((-9 : Int32), (jst (fn_X9_isNo (a1)), w.2.1, (w.2.2.1) + ((1 : Int32)), w.2.2.2.1, w.2.2.2.2)))) else (((0 : Int32), (jst (fn_X9_isNo (a1)), w.2.1, w.2.2.1, w.2.2.2.1, w.2.2.2.2)))
set_option linter.constructorNameAsVariable false in
set_option maxHeartbeats 4000000 in
set_option maxRecDepth 100000 in
theorem mt_X9_bits (l : Launch) (G : ky_G) (mo cs : Nat) (N : Nat → Prop) (w : ky_MV) (f : Nat → Option Nat)    (a1 : Int32) (a2 : Int32) (a3 : Int32) (sz : Nat) : Met l my_X9_bits (.code my_X9_bits prog_10_method_16_code 8 (some .int) :: ky_B) { frames := 6, cells := 1, slots := 2, locals := 127 } (ky_P G [.ref mo, .int (a1), .int (a2), .int (a3)] (ky_WM G mo cs w f) sz (fun H => ky_IT G mo cs N f w.2.2.2.2 H)) (ky_Q (S := ky_MV × (Nat → Option Nat)) G (va_A (ky_WM G mo cs w f) sz) (fun v u => v = some (.int (fn_X9_bits a1 a2 a3 w).1) ∧ u.1 = (fn_X9_bits a1 a2 a3 w).2) (fun u => ky_WM G mo cs u.1 u.2) (fun u H => ky_IT G mo cs N u.2 u.1.2.2.2.2 H)) 1 2 (va_A (ky_WM G mo cs w f) sz) := by
  refine ky_start (by decide) (Nat.le_of_ble_eq_true rfl) (fun p e s m below meth c F hE A hAe hsz hA hfr hP hD hS hX ls hl => ?_)
  obtain ⟨hx, hb, hml, hown, hr, hlocks, hts⟩ := id F
  have hIT0 := hX
  have hIT := hIT0
  have hl : lv_has ls 8 [(0, .ref mo), (1, .int (a1)), (2, .int (a2)), (3, .int (a3))] := hl
  have hP : va_P G.1 kcl [(mo, .inr (5, [.int (w.1), .ref cs, .int (w.2.1), .int (w.2.2.1), .int (w.2.2.2.1)])), (cs, .inl (G.2.1 3, 6, .inr (.inr (.inr (.inr (f))))))] s.heap := hP
  have hD : va_D A [(mo, .inr (5, [.int (w.1), .ref cs, .int (w.2.1), .int (w.2.2.1), .int (w.2.2.2.1)])), (cs, .inl (G.2.1 3, 6, .inr (.inr (.inr (.inr (f))))))] := hD
  have hw : fn_X9_bits a1 a2 a3 w = _ := fn_X9_bits.eq_1 a1 a2 a3 w
  refine lv_aload_n hx hb dc_X9_bits_0 rfl (lv_at hl 0 rfl) ?_
  refine lv_iload_n hx hb dc_X9_bits_1 rfl (lv_at hl 1 rfl) ?_
  refine ky_cS0 (As := [.int (a1)]) F (mt_X9_isNo l (a1)) ks_X9_51 ⟨⟨rfl, rfl⟩, by decide, by decide⟩ rfl hl.1 rfl (Nat.le_of_ble_eq_true rfl) ⟨Nat.le_of_ble_eq_true rfl, Nat.le_of_ble_eq_true rfl⟩ dc_X9_bits_2 ?_
  refine ky_cVh (As := [.int (fn_X9_isNo (a1))]) (wr := []) F (hE.at hfr hS) hfr (mt_X9_startJ l G (mo) (cs) ((w.1, w.2.1, w.2.2.1, w.2.2.2.1)) (f) (fn_X9_isNo (a1)) s.heap.size ) kv_X9_55 ⟨⟨rfl, rfl⟩, by decide, by decide⟩ rfl hl.1 rfl (Nat.le_of_ble_eq_true rfl) ⟨Nat.le_of_ble_eq_true rfl, Nat.le_of_ble_eq_true rfl⟩ (va_recv hE.1 hP (ci := 5) (q0 := 0) rfl rfl) trivial hP hD hS hA [0, 1] [] rfl rfl (by decide) (by decide) (by decide) dc_X9_bits_5 ?_
  rintro v9 u9 H locs ⟨rfl, rfl⟩ hP hD hS - hz hk9
  obtain ⟨j_1, hj_1⟩ : ∃ j9, j9 = jst (fn_X9_isNo (a1)) := ⟨_, rfl⟩
  rw [← hj_1] at hP hD ⊢
  try rw [← hj_1] at hw
  have hP : va_P G.1 kcl [(mo, .inr (5, [.int (j_1), .ref cs, .int (w.2.1), .int (w.2.2.1), .int (w.2.2.2.1)])), (cs, .inl (G.2.1 3, 6, .inr (.inr (.inr (.inr (f))))))] H := hP
  have hD : va_D A [(mo, .inr (5, [.int (j_1), .ref cs, .int (w.2.1), .int (w.2.2.1), .int (w.2.2.2.1)])), (cs, .inl (G.2.1 3, 6, .inr (.inr (.inr (.inr (f))))))] := hD
  have hIT := hIT0.ro hAe hS
  refine W.widen (k := 0) (n := 0) (Nat.le_refl _) (Nat.le_refl _) ?_
  refine lv_if_eq (tgt := 13) hx hb dc_X9_bits_8 (by decide) (fun c_2 => ?_) (fun c_2 => ?_)
  · have hw := hw.trans (if_pos c_2)
    refine lv_iload_n hx hb dc_X9_bits_13 rfl (lv_at hl 2 rfl) ?_
    refine lv_i2l (v := (a2).toInt64) hx hb dc_X9_bits_14 rfl ?_
    refine lv_bipush (v := 32) hx hb dc_X9_bits_15 (by decide) ?_
    refine lv_lshl (v := jlshl ((a2).toInt64) ((32 : Int32))) hx hb dc_X9_bits_17 rfl ?_
    refine lv_iload_n hx hb dc_X9_bits_18 rfl (lv_at hl 3 rfl) ?_
    refine lv_i2l (v := (a3).toInt64) hx hb dc_X9_bits_19 rfl ?_
    refine lv_ldc2 (v := 4294967295) hx hb hown (hts _ kw_6_126) dc_X9_bits_20 ?_
    refine lv_land hx hb dc_X9_bits_23 ?_
    refine lv_ladd hx hb dc_X9_bits_24 ?_
    refine lv_lstore (lv' := [(4, .long ((jlshl ((a2).toInt64) ((32 : Int32))) + (((a3).toInt64) &&& ((4294967295 : Int64))))), (0, .ref mo), (1, .int (a1)), (2, .int (a2)), (3, .int (a3))]) hx hb dc_X9_bits_25 hl (by decide) rfl (fun ls hl => ?_)
    refine lv_lload hx hb dc_X9_bits_27 (lv_at hl 0 rfl) ?_
    refine lv_ldc2 (v := 9223372036854775807) hx hb hown (hts _ kw_6_127) dc_X9_bits_29 ?_
    refine lv_land hx hb dc_X9_bits_32 ?_
    refine lv_lstore (lv' := [(6, .long (((jlshl ((a2).toInt64) ((32 : Int32))) + (((a3).toInt64) &&& ((4294967295 : Int64)))) &&& ((9223372036854775807 : Int64)))), (4, .long ((jlshl ((a2).toInt64) ((32 : Int32))) + (((a3).toInt64) &&& ((4294967295 : Int64))))), (0, .ref mo), (1, .int (a1)), (2, .int (a2)), (3, .int (a3))]) hx hb dc_X9_bits_33 hl (by decide) rfl (fun ls hl => ?_)
    refine lv_lload hx hb dc_X9_bits_35 (lv_at hl 0 rfl) ?_
    refine lv_ldc2 (v := 9218868437227405312) hx hb hown (hts _ kw_6_103) dc_X9_bits_37 ?_
    refine W.lcmp hx hb dc_X9_bits_40 ?_
    refine lv_if_le (tgt := 57) hx hb dc_X9_bits_41 (by decide) (fun c_3 => ?_) (fun c_3 => ?_)
    · have hw := hw.trans (if_pos c_3)
      refine lv_aload_n hx hb dc_X9_bits_57 rfl (lv_at hl 2 rfl) ?_
      refine lv_iload_n hx hb dc_X9_bits_58 rfl (lv_at hl 3 rfl) ?_
      refine va_new (ci := 4) (fs := [.int (0), .long (0)]) (C := RX8) (T := TX8) (N := 2) hx hb hts ki_X8 tyX8 tyX8_ok hown (hts _ kw_6_3) (hts _ kw_6_5) (hts _ kw_1_9) hE.1 hP hD hS hA rfl (fun j hj => by rcases (show j = 0 ∨ j = 1 by omega) with rfl | rfl <;> rfl) (Nat.le_of_ble_eq_true rfl) (Nat.le_of_ble_eq_true rfl) dc_X9_bits_59 (fun q_4 H hP hD hS => ?_)
      have hP : va_P G.1 kcl [(mo, .inr (5, [.int (j_1), .ref cs, .int (w.2.1), .int (w.2.2.1), .int (w.2.2.2.1)])), (cs, .inl (G.2.1 3, 6, .inr (.inr (.inr (.inr (f)))))), (q_4, .inr (4, [.int (0), .long (0)]))] H := hP
      have hD : va_D A [(mo, .inr (5, [.int (j_1), .ref cs, .int (w.2.1), .int (w.2.2.1), .int (w.2.2.2.1)])), (cs, .inl (G.2.1 3, 6, .inr (.inr (.inr (.inr (f)))))), (q_4, .inr (4, [.int (0), .long (0)]))] := hD
      have hIT := hIT0.ro hAe hS
      refine W.widen (k := 1) (n := 2) (Nat.le_refl _) (Nat.le_refl _) ?_
      refine lv_dup hx hb dc_X9_bits_62 rfl ?_
      refine lv_iload_n hx hb dc_X9_bits_63 rfl (lv_at hl 4 rfl) ?_
      refine lv_if_ge (tgt := 71) hx hb dc_X9_bits_64 (by decide) (fun c_5 => ?_) (fun c_5 => ?_)
      · have hw := hw.trans (if_pos c_5)
        refine lv_iconst (v := 0) hx hb dc_X9_bits_71 (by decide) ?_
        refine ky_cS0 (As := [.int ((0 : Int32))]) F (mt_X9_one l ((0 : Int32))) ks_X9_59 ⟨⟨rfl, rfl⟩, by decide, by decide⟩ rfl hl.1 rfl (Nat.le_of_ble_eq_true rfl) ⟨Nat.le_of_ble_eq_true rfl, Nat.le_of_ble_eq_true rfl⟩ dc_X9_bits_72 ?_
        refine lv_lload hx hb dc_X9_bits_75 (lv_at hl 0 rfl) ?_
        refine ky_cIh (As := [.int (fn_X9_one ((0 : Int32))), .long (((jlshl ((a2).toInt64) ((32 : Int32))) + (((a3).toInt64) &&& ((4294967295 : Int64)))) &&& ((9223372036854775807 : Int64)))]) (wr := [(mo, .inr (5, [.int (j_1), .ref cs, .int (w.2.1), .int (w.2.2.1), .int (w.2.2.2.1)])), (cs, .inl (G.2.1 3, 6, .inr (.inr (.inr (.inr (f))))))]) F (hE.at hfr hS) hfr (mt_X8_init l G (q_4) (fn_X9_one ((0 : Int32))) (((jlshl ((a2).toInt64) ((32 : Int32))) + (((a3).toInt64) &&& ((4294967295 : Int64)))) &&& ((9223372036854775807 : Int64))) H.size ) kI_X9_29 ⟨⟨rfl, rfl⟩, by decide, by decide⟩ rfl hl.1 rfl (Nat.le_of_ble_eq_true rfl) ⟨Nat.le_of_ble_eq_true rfl, Nat.le_of_ble_eq_true rfl⟩ trivial hP hD hS hA [2] [0, 1] rfl rfl (by decide) (by decide) (by decide) dc_X9_bits_77 ?_
        rintro v9 u9 H locs ⟨rfl, rfl⟩ hP hD hS - hz hk9
        have hP : va_P G.1 kcl [(mo, .inr (5, [.int (j_1), .ref cs, .int (w.2.1), .int (w.2.2.1), .int (w.2.2.2.1)])), (cs, .inl (G.2.1 3, 6, .inr (.inr (.inr (.inr (f)))))), (q_4, .inr (4, [.int (fn_X9_one ((0 : Int32))), .long (((jlshl ((a2).toInt64) ((32 : Int32))) + (((a3).toInt64) &&& ((4294967295 : Int64)))) &&& ((9223372036854775807 : Int64)))]))] H := hP
        have hD : va_D A [(mo, .inr (5, [.int (j_1), .ref cs, .int (w.2.1), .int (w.2.2.1), .int (w.2.2.2.1)])), (cs, .inl (G.2.1 3, 6, .inr (.inr (.inr (.inr (f)))))), (q_4, .inr (4, [.int (fn_X9_one ((0 : Int32))), .long (((jlshl ((a2).toInt64) ((32 : Int32))) + (((a3).toInt64) &&& ((4294967295 : Int64)))) &&& ((9223372036854775807 : Int64)))]))] := hD
        have hIT := hIT0.ro hAe hS
        refine W.widen (k := 1) (n := 2) (Nat.le_refl _) (Nat.le_refl _) ?_
        have hJ_7 : ky_It G q_4 ((fn_X9_one ((0 : Int32)), ((jlshl ((a2).toInt64) ((32 : Int32))) + (((a3).toInt64) &&& ((4294967295 : Int64)))) &&& ((9223372036854775807 : Int64)))) H := ky_itp (hP.sub (ws' := [(q_4, .inr (4, [.int (fn_X9_one ((0 : Int32))), .long (((jlshl ((a2).toInt64) ((32 : Int32))) + (((a3).toInt64) &&& ((4294967295 : Int64)))) &&& ((9223372036854775807 : Int64)))]))]) [2] rfl)
        have hk_7 : ky_ok mo cs N q_4 := ky_ok.own hAe hIT0.1 hD 0 1 2 rfl rfl rfl (by decide) (by decide)
        refine ky_cVh (As := [.int (a1), .ref q_4]) (wr := [(q_4, .inr (4, [.int (fn_X9_one ((0 : Int32))), .long (((jlshl ((a2).toInt64) ((32 : Int32))) + (((a3).toInt64) &&& ((4294967295 : Int64)))) &&& ((9223372036854775807 : Int64)))]))]) F (hE.at hfr hS) hfr (mt_X9_give l G mo cs N (j_1, w.2.1, w.2.2.1, w.2.2.2.1, w.2.2.2.2) (f) (q_4) (fn_X9_one ((0 : Int32)), ((jlshl ((a2).toInt64) ((32 : Int32))) + (((a3).toInt64) &&& ((4294967295 : Int64)))) &&& ((9223372036854775807 : Int64))) hk_7 (a1) H.size (lr_start (hj_1.symm.trans c_2))) kv_X9_63 ⟨⟨rfl, rfl⟩, by decide, by decide⟩ rfl hl.1 rfl (Nat.le_of_ble_eq_true rfl) ⟨Nat.le_of_ble_eq_true rfl, Nat.le_of_ble_eq_true rfl⟩ (va_recv hE.1 hP (ci := 5) (q0 := 0) rfl rfl) ⟨hIT, hJ_7⟩ hP hD hS hA [0, 1] [2] rfl rfl (by decide) (by decide) (by decide) dc_X9_bits_80 ?_
        rintro v9 ⟨w_8, f_8⟩ H locs ⟨rfl, hw_8⟩ hP hD hS hIT9 hz hk9
        have hw_8 : w_8 = (fn_X9_give (a1) (fn_X9_one ((0 : Int32)), ((jlshl ((a2).toInt64) ((32 : Int32))) + (((a3).toInt64) &&& ((4294967295 : Int64)))) &&& ((9223372036854775807 : Int64))) (j_1, w.2.1, w.2.2.1, w.2.2.2.1, w.2.2.2.2)).2 := hw_8
        try rw [← hw_8] at hw
        have hP : va_P G.1 kcl [(q_4, .inr (4, [.int (fn_X9_one ((0 : Int32))), .long (((jlshl ((a2).toInt64) ((32 : Int32))) + (((a3).toInt64) &&& ((4294967295 : Int64)))) &&& ((9223372036854775807 : Int64)))])), (mo, .inr (5, [.int ((w_8).1), .ref cs, .int ((w_8).2.1), .int ((w_8).2.2.1), .int ((w_8).2.2.2.1)])), (cs, .inl (G.2.1 3, 6, .inr (.inr (.inr (.inr (f_8))))))] H := hP
        have hD : va_D A [(q_4, .inr (4, [.int (fn_X9_one ((0 : Int32))), .long (((jlshl ((a2).toInt64) ((32 : Int32))) + (((a3).toInt64) &&& ((4294967295 : Int64)))) &&& ((9223372036854775807 : Int64)))])), (mo, .inr (5, [.int ((w_8).1), .ref cs, .int ((w_8).2.1), .int ((w_8).2.2.1), .int ((w_8).2.2.2.1)])), (cs, .inl (G.2.1 3, 6, .inr (.inr (.inr (.inr (f_8))))))] := hD
        have hIT : ky_IT G mo cs N f_8 ((w_8).2.2.2.2) H := hIT9
        refine W.widen (k := 1) (n := 2) (Nat.le_refl _) (Nat.le_refl _) ?_
        have hP9 : va_P G.1 kcl (ky_WM G mo cs ((w_8)) (f_8)) H := hP.sub [1, 2] rfl
        have hD9 : va_D A (ky_WM G mo cs ((w_8)) (f_8)) := hD.sub [1, 2] (by decide) rfl
        refine W.widen (k := 1) (n := 2) (Nat.le_of_ble_eq_true rfl) (Nat.le_of_ble_eq_true rfl) ?_
        exact W.iret (v := (fn_X9_give (a1) (fn_X9_one ((0 : Int32)), ((jlshl ((a2).toInt64) ((32 : Int32))) + (((a3).toInt64) &&& ((4294967295 : Int64)))) &&& ((9223372036854775807 : Int64))) (j_1, w.2.1, w.2.2.1, w.2.2.2.1, w.2.2.2.2)).1) hx hb hr (fun t ht hW => ⟨by rw [ht]; exact ky_endM (fun z => some (.int z)) ((fn_X9_give (a1) (fn_X9_one ((0 : Int32)), ((jlshl ((a2).toInt64) ((32 : Int32))) + (((a3).toInt64) &&& ((4294967295 : Int64)))) &&& ((9223372036854775807 : Int64))) (j_1, w.2.1, w.2.2.1, w.2.2.2.1, w.2.2.2.2)).1) hw hP9 hD9 (hIT), hS.F ht⟩) hS.2.2 dc_X9_bits_83
      · have hw := hw.trans (if_neg c_5)
        refine lv_iconst (v := 1) hx hb dc_X9_bits_67 (by decide) ?_
        refine lv_goto (tgt := 72) hx hb dc_X9_bits_68 (by decide) ?_
        refine ky_cS0 (As := [.int ((1 : Int32))]) F (mt_X9_one l ((1 : Int32))) ks_X9_59 ⟨⟨rfl, rfl⟩, by decide, by decide⟩ rfl hl.1 rfl (Nat.le_of_ble_eq_true rfl) ⟨Nat.le_of_ble_eq_true rfl, Nat.le_of_ble_eq_true rfl⟩ dc_X9_bits_72 ?_
        refine lv_lload hx hb dc_X9_bits_75 (lv_at hl 0 rfl) ?_
        refine ky_cIh (As := [.int (fn_X9_one ((1 : Int32))), .long (((jlshl ((a2).toInt64) ((32 : Int32))) + (((a3).toInt64) &&& ((4294967295 : Int64)))) &&& ((9223372036854775807 : Int64)))]) (wr := [(mo, .inr (5, [.int (j_1), .ref cs, .int (w.2.1), .int (w.2.2.1), .int (w.2.2.2.1)])), (cs, .inl (G.2.1 3, 6, .inr (.inr (.inr (.inr (f))))))]) F (hE.at hfr hS) hfr (mt_X8_init l G (q_4) (fn_X9_one ((1 : Int32))) (((jlshl ((a2).toInt64) ((32 : Int32))) + (((a3).toInt64) &&& ((4294967295 : Int64)))) &&& ((9223372036854775807 : Int64))) H.size ) kI_X9_29 ⟨⟨rfl, rfl⟩, by decide, by decide⟩ rfl hl.1 rfl (Nat.le_of_ble_eq_true rfl) ⟨Nat.le_of_ble_eq_true rfl, Nat.le_of_ble_eq_true rfl⟩ trivial hP hD hS hA [2] [0, 1] rfl rfl (by decide) (by decide) (by decide) dc_X9_bits_77 ?_
        rintro v9 u9 H locs ⟨rfl, rfl⟩ hP hD hS - hz hk9
        have hP : va_P G.1 kcl [(mo, .inr (5, [.int (j_1), .ref cs, .int (w.2.1), .int (w.2.2.1), .int (w.2.2.2.1)])), (cs, .inl (G.2.1 3, 6, .inr (.inr (.inr (.inr (f)))))), (q_4, .inr (4, [.int (fn_X9_one ((1 : Int32))), .long (((jlshl ((a2).toInt64) ((32 : Int32))) + (((a3).toInt64) &&& ((4294967295 : Int64)))) &&& ((9223372036854775807 : Int64)))]))] H := hP
        have hD : va_D A [(mo, .inr (5, [.int (j_1), .ref cs, .int (w.2.1), .int (w.2.2.1), .int (w.2.2.2.1)])), (cs, .inl (G.2.1 3, 6, .inr (.inr (.inr (.inr (f)))))), (q_4, .inr (4, [.int (fn_X9_one ((1 : Int32))), .long (((jlshl ((a2).toInt64) ((32 : Int32))) + (((a3).toInt64) &&& ((4294967295 : Int64)))) &&& ((9223372036854775807 : Int64)))]))] := hD
        have hIT := hIT0.ro hAe hS
        refine W.widen (k := 1) (n := 2) (Nat.le_refl _) (Nat.le_refl _) ?_
        have hJ_7 : ky_It G q_4 ((fn_X9_one ((1 : Int32)), ((jlshl ((a2).toInt64) ((32 : Int32))) + (((a3).toInt64) &&& ((4294967295 : Int64)))) &&& ((9223372036854775807 : Int64)))) H := ky_itp (hP.sub (ws' := [(q_4, .inr (4, [.int (fn_X9_one ((1 : Int32))), .long (((jlshl ((a2).toInt64) ((32 : Int32))) + (((a3).toInt64) &&& ((4294967295 : Int64)))) &&& ((9223372036854775807 : Int64)))]))]) [2] rfl)
        have hk_7 : ky_ok mo cs N q_4 := ky_ok.own hAe hIT0.1 hD 0 1 2 rfl rfl rfl (by decide) (by decide)
        refine ky_cVh (As := [.int (a1), .ref q_4]) (wr := [(q_4, .inr (4, [.int (fn_X9_one ((1 : Int32))), .long (((jlshl ((a2).toInt64) ((32 : Int32))) + (((a3).toInt64) &&& ((4294967295 : Int64)))) &&& ((9223372036854775807 : Int64)))]))]) F (hE.at hfr hS) hfr (mt_X9_give l G mo cs N (j_1, w.2.1, w.2.2.1, w.2.2.2.1, w.2.2.2.2) (f) (q_4) (fn_X9_one ((1 : Int32)), ((jlshl ((a2).toInt64) ((32 : Int32))) + (((a3).toInt64) &&& ((4294967295 : Int64)))) &&& ((9223372036854775807 : Int64))) hk_7 (a1) H.size (lr_start (hj_1.symm.trans c_2))) kv_X9_63 ⟨⟨rfl, rfl⟩, by decide, by decide⟩ rfl hl.1 rfl (Nat.le_of_ble_eq_true rfl) ⟨Nat.le_of_ble_eq_true rfl, Nat.le_of_ble_eq_true rfl⟩ (va_recv hE.1 hP (ci := 5) (q0 := 0) rfl rfl) ⟨hIT, hJ_7⟩ hP hD hS hA [0, 1] [2] rfl rfl (by decide) (by decide) (by decide) dc_X9_bits_80 ?_
        rintro v9 ⟨w_8, f_8⟩ H locs ⟨rfl, hw_8⟩ hP hD hS hIT9 hz hk9
        have hw_8 : w_8 = (fn_X9_give (a1) (fn_X9_one ((1 : Int32)), ((jlshl ((a2).toInt64) ((32 : Int32))) + (((a3).toInt64) &&& ((4294967295 : Int64)))) &&& ((9223372036854775807 : Int64))) (j_1, w.2.1, w.2.2.1, w.2.2.2.1, w.2.2.2.2)).2 := hw_8
        try rw [← hw_8] at hw
        have hP : va_P G.1 kcl [(q_4, .inr (4, [.int (fn_X9_one ((1 : Int32))), .long (((jlshl ((a2).toInt64) ((32 : Int32))) + (((a3).toInt64) &&& ((4294967295 : Int64)))) &&& ((9223372036854775807 : Int64)))])), (mo, .inr (5, [.int ((w_8).1), .ref cs, .int ((w_8).2.1), .int ((w_8).2.2.1), .int ((w_8).2.2.2.1)])), (cs, .inl (G.2.1 3, 6, .inr (.inr (.inr (.inr (f_8))))))] H := hP
        have hD : va_D A [(q_4, .inr (4, [.int (fn_X9_one ((1 : Int32))), .long (((jlshl ((a2).toInt64) ((32 : Int32))) + (((a3).toInt64) &&& ((4294967295 : Int64)))) &&& ((9223372036854775807 : Int64)))])), (mo, .inr (5, [.int ((w_8).1), .ref cs, .int ((w_8).2.1), .int ((w_8).2.2.1), .int ((w_8).2.2.2.1)])), (cs, .inl (G.2.1 3, 6, .inr (.inr (.inr (.inr (f_8))))))] := hD
        have hIT : ky_IT G mo cs N f_8 ((w_8).2.2.2.2) H := hIT9
        refine W.widen (k := 1) (n := 2) (Nat.le_refl _) (Nat.le_refl _) ?_
        have hP9 : va_P G.1 kcl (ky_WM G mo cs ((w_8)) (f_8)) H := hP.sub [1, 2] rfl
        have hD9 : va_D A (ky_WM G mo cs ((w_8)) (f_8)) := hD.sub [1, 2] (by decide) rfl
        refine W.widen (k := 1) (n := 2) (Nat.le_of_ble_eq_true rfl) (Nat.le_of_ble_eq_true rfl) ?_
        exact W.iret (v := (fn_X9_give (a1) (fn_X9_one ((1 : Int32)), ((jlshl ((a2).toInt64) ((32 : Int32))) + (((a3).toInt64) &&& ((4294967295 : Int64)))) &&& ((9223372036854775807 : Int64))) (j_1, w.2.1, w.2.2.1, w.2.2.2.1, w.2.2.2.2)).1) hx hb hr (fun t ht hW => ⟨by rw [ht]; exact ky_endM (fun z => some (.int z)) ((fn_X9_give (a1) (fn_X9_one ((1 : Int32)), ((jlshl ((a2).toInt64) ((32 : Int32))) + (((a3).toInt64) &&& ((4294967295 : Int64)))) &&& ((9223372036854775807 : Int64))) (j_1, w.2.1, w.2.2.1, w.2.2.2.1, w.2.2.2.2)).1) hw hP9 hD9 (hIT), hS.F ht⟩) hS.2.2 dc_X9_bits_83
    · have hw := hw.trans (if_neg c_3)
      refine lv_aload_n hx hb dc_X9_bits_44 rfl (lv_at hl 2 rfl) ?_
      refine lv_dup hx hb dc_X9_bits_45 rfl ?_
      refine va_get (D := G.1) (ci := 5) (v := .int (w.2.2.1)) (C := RX9) (T := TX9) (N := 5) hx hb hts ki_X9 hown hE.1 hP 0 rfl rfl 3 (by decide) (hts _ kw_6_22) (fun _ h9 => h9) rfl dc_X9_bits_46 ?_
      refine lv_iconst (v := 1) hx hb dc_X9_bits_49 (by decide) ?_
      refine lv_iadd hx hb dc_X9_bits_50 ?_
      refine va_put (D := G.1) (ci := 5) (v := .int ((w.2.2.1) + ((1 : Int32)))) (ty := .int) (C := RX9) (T := TX9) (N := 5) hx hb hts ki_X9 tyX9 tyX9_ok nmX9 hown hE.1 hP hD hS 0 rfl rfl 3 (by decide) (hts _ kw_6_22) (fun _ h9 => h9) rfl (by decide +kernel) rfl rfl (Nat.le_of_ble_eq_true rfl) dc_X9_bits_51 (fun H locs hP hD hS => ?_)
      have hP : va_P G.1 kcl [(mo, .inr (5, [.int (j_1), .ref cs, .int (w.2.1), .int ((w.2.2.1) + ((1 : Int32))), .int (w.2.2.2.1)])), (cs, .inl (G.2.1 3, 6, .inr (.inr (.inr (.inr (f))))))] H := hP
      have hD : va_D A [(mo, .inr (5, [.int (j_1), .ref cs, .int (w.2.1), .int ((w.2.2.1) + ((1 : Int32))), .int (w.2.2.2.1)])), (cs, .inl (G.2.1 3, 6, .inr (.inr (.inr (.inr (f))))))] := hD
      have hIT := hIT0.ro hAe hS
      refine lv_bipush (v := (-9)) hx hb dc_X9_bits_54 (by decide) ?_
      have hP9 : va_P G.1 kcl (ky_WM G mo cs ((j_1, w.2.1, (w.2.2.1) + ((1 : Int32)), w.2.2.2.1, w.2.2.2.2)) (f)) H := hP.sub [0, 1] rfl
      have hD9 : va_D A (ky_WM G mo cs ((j_1, w.2.1, (w.2.2.1) + ((1 : Int32)), w.2.2.2.1, w.2.2.2.2)) (f)) := hD.sub [0, 1] (by decide) rfl
      refine W.widen (k := 1) (n := 2) (Nat.le_of_ble_eq_true rfl) (Nat.le_of_ble_eq_true rfl) ?_
      exact W.iret (v := (-9 : Int32)) hx hb hr (fun t ht hW => ⟨by rw [ht]; exact ky_endM (fun z => some (.int z)) ((-9 : Int32)) hw hP9 hD9 (hIT), hS.F ht⟩) hS.2.2 dc_X9_bits_56
  · have hw := hw.trans (if_neg c_2)
    refine lv_iconst (v := 0) hx hb dc_X9_bits_11 (by decide) ?_
    have hP9 : va_P G.1 kcl (ky_WM G mo cs ((j_1, w.2.1, w.2.2.1, w.2.2.2.1, w.2.2.2.2)) (f)) H := hP.sub [0, 1] rfl
    have hD9 : va_D A (ky_WM G mo cs ((j_1, w.2.1, w.2.2.1, w.2.2.2.1, w.2.2.2.2)) (f)) := hD.sub [0, 1] (by decide) rfl
    refine W.widen (k := 1) (n := 2) (Nat.le_of_ble_eq_true rfl) (Nat.le_of_ble_eq_true rfl) ?_
    exact W.iret (v := (0 : Int32)) hx hb hr (fun t ht hW => ⟨by rw [ht]; exact ky_endM (fun z => some (.int z)) ((0 : Int32)) hw hP9 hD9 (hIT), hS.F ht⟩) hS.2.2 dc_X9_bits_12
end
section
def fn_X9_copy (a1 : Int32) (a2 : Int32)  (w : ky_MV) : Int32 × ky_MV :=
  if (jst (fn_X9_areNo (a1) (a2))) = (0 : Int32) then (((fn_X9_give (a2) ((w.2.2.2.2) (a1).toNatClampNeg) (jst (fn_X9_areNo (a1) (a2)), w.2.1, w.2.2.1, w.2.2.2.1, w.2.2.2.2)).1, ((fn_X9_give (a2) ((w.2.2.2.2) (a1).toNatClampNeg) (jst (fn_X9_areNo (a1) (a2)), w.2.1, w.2.2.1, w.2.2.2.1, w.2.2.2.2)).2))) else (((0 : Int32), (jst (fn_X9_areNo (a1) (a2)), w.2.1, w.2.2.1, w.2.2.2.1, w.2.2.2.2)))
set_option linter.constructorNameAsVariable false in
set_option maxHeartbeats 4000000 in
set_option maxRecDepth 100000 in
theorem mt_X9_copy (l : Launch) (G : ky_G) (mo cs : Nat) (N : Nat → Prop) (w : ky_MV) (f : Nat → Option Nat)    (a1 : Int32) (a2 : Int32) (sz : Nat) : Met l my_X9_copy (.code my_X9_copy prog_10_method_20_code 3 (some .int) :: ky_B) { frames := 6, cells := 0, slots := 0, locals := 127 } (ky_P G [.ref mo, .int (a1), .int (a2)] (ky_WM G mo cs w f) sz (fun H => ky_IT G mo cs N f w.2.2.2.2 H)) (ky_Q (S := ky_MV × (Nat → Option Nat)) G (va_A (ky_WM G mo cs w f) sz) (fun v u => v = some (.int (fn_X9_copy a1 a2 w).1) ∧ u.1 = (fn_X9_copy a1 a2 w).2) (fun u => ky_WM G mo cs u.1 u.2) (fun u H => ky_IT G mo cs N u.2 u.1.2.2.2.2 H)) 0 0 (va_A (ky_WM G mo cs w f) sz) := by
  refine ky_start (by decide) (Nat.le_of_ble_eq_true rfl) (fun p e s m below meth c F hE A hAe hsz hA hfr hP hD hS hX ls hl => ?_)
  obtain ⟨hx, hb, hml, hown, hr, hlocks, hts⟩ := id F
  have hIT0 := hX
  have hIT := hIT0
  have hl : lv_has ls 3 [(0, .ref mo), (1, .int (a1)), (2, .int (a2))] := hl
  have hP : va_P G.1 kcl [(mo, .inr (5, [.int (w.1), .ref cs, .int (w.2.1), .int (w.2.2.1), .int (w.2.2.2.1)])), (cs, .inl (G.2.1 3, 6, .inr (.inr (.inr (.inr (f))))))] s.heap := hP
  have hD : va_D A [(mo, .inr (5, [.int (w.1), .ref cs, .int (w.2.1), .int (w.2.2.1), .int (w.2.2.2.1)])), (cs, .inl (G.2.1 3, 6, .inr (.inr (.inr (.inr (f))))))] := hD
  have hw : fn_X9_copy a1 a2 w = _ := fn_X9_copy.eq_1 a1 a2 w
  refine lv_aload_n hx hb dc_X9_copy_0 rfl (lv_at hl 0 rfl) ?_
  refine lv_aload_n hx hb dc_X9_copy_1 rfl (lv_at hl 0 rfl) ?_
  refine lv_iload_n hx hb dc_X9_copy_2 rfl (lv_at hl 1 rfl) ?_
  refine lv_iload_n hx hb dc_X9_copy_3 rfl (lv_at hl 2 rfl) ?_
  refine ky_cV1 (As := [.int (a1), .int (a2)]) F (hE.at hfr hS) (mt_X9_areNo l G (mo) (a1) (a2)) kv_X9_104 ⟨⟨rfl, rfl⟩, by decide, by decide⟩ rfl hl.1 rfl (Nat.le_of_ble_eq_true rfl) ⟨Nat.le_of_ble_eq_true rfl, Nat.le_of_ble_eq_true rfl⟩ (va_recv hE.1 hP (ci := 5) (q0 := 0) rfl rfl) trivial dc_X9_copy_4 ?_
  refine ky_cVh (As := [.int (fn_X9_areNo (a1) (a2))]) (wr := []) F (hE.at hfr hS) hfr (mt_X9_startJ l G (mo) (cs) ((w.1, w.2.1, w.2.2.1, w.2.2.2.1)) (f) (fn_X9_areNo (a1) (a2)) s.heap.size ) kv_X9_55 ⟨⟨rfl, rfl⟩, by decide, by decide⟩ rfl hl.1 rfl (Nat.le_of_ble_eq_true rfl) ⟨Nat.le_of_ble_eq_true rfl, Nat.le_of_ble_eq_true rfl⟩ (va_recv hE.1 hP (ci := 5) (q0 := 0) rfl rfl) trivial hP hD hS hA [0, 1] [] rfl rfl (by decide) (by decide) (by decide) dc_X9_copy_7 ?_
  rintro v9 u9 H locs ⟨rfl, rfl⟩ hP hD hS - hz hk9
  obtain ⟨j_1, hj_1⟩ : ∃ j9, j9 = jst (fn_X9_areNo (a1) (a2)) := ⟨_, rfl⟩
  rw [← hj_1] at hP hD ⊢
  try rw [← hj_1] at hw
  have hP : va_P G.1 kcl [(mo, .inr (5, [.int (j_1), .ref cs, .int (w.2.1), .int (w.2.2.1), .int (w.2.2.2.1)])), (cs, .inl (G.2.1 3, 6, .inr (.inr (.inr (.inr (f))))))] H := hP
  have hD : va_D A [(mo, .inr (5, [.int (j_1), .ref cs, .int (w.2.1), .int (w.2.2.1), .int (w.2.2.2.1)])), (cs, .inl (G.2.1 3, 6, .inr (.inr (.inr (.inr (f))))))] := hD
  have hIT := hIT0.ro hAe hS
  refine W.widen (k := 0) (n := 0) (Nat.le_refl _) (Nat.le_refl _) ?_
  refine lv_if_eq (tgt := 17) hx hb dc_X9_copy_10 (by decide) (fun c_2 => ?_) (fun c_2 => ?_)
  · have hw := hw.trans (if_pos c_2)
    refine lv_aload_n hx hb dc_X9_copy_17 rfl (lv_at hl 0 rfl) ?_
    refine lv_iload_n hx hb dc_X9_copy_18 rfl (lv_at hl 2 rfl) ?_
    refine lv_aload_n hx hb dc_X9_copy_19 rfl (lv_at hl 0 rfl) ?_
    refine va_get (D := G.1) (ci := 5) (v := .ref cs) (C := RX9) (T := TX9) (N := 5) hx hb hts ki_X9 hown hE.1 hP 0 rfl rfl 1 (by decide) (hts _ kw_6_20) (fun _ h9 => h9) rfl dc_X9_copy_20 ?_
    refine lv_iload_n hx hb dc_X9_copy_23 rfl (lv_at hl 1 rfl) ?_
    refine va_aldq hx hb hE.1 hP 1 3 rfl rfl (lr_startB (hj_1.symm.trans c_2)).1 dc_X9_copy_24 ?_
    obtain ⟨b_3, hb_3, hI_3, ho_3⟩ := hIT.2 _ (ky_i6 (lr_startB (hj_1.symm.trans c_2)).1)
    rw [ky_rf hb_3]
    have hX_3 : ky_It G b_3 ((w.2.2.2.2) (a1).toNatClampNeg) s.heap := by obtain ⟨b9, e9, i9, -⟩ := hIT0.2 _ (ky_i6 (lr_startB (hj_1.symm.trans c_2)).1); have z9 : b9 = b_3 := Option.some.inj (e9.symm.trans hb_3); exact z9 ▸ i9
    refine ky_cVh (As := [.int (a2), .ref b_3]) (wr := []) F (hE.at hfr hS) hfr (mt_X9_give l G mo cs N (j_1, w.2.1, w.2.2.1, w.2.2.2.1, w.2.2.2.2) (f) (b_3) ((w.2.2.2.2) (a1).toNatClampNeg) ho_3 (a2) H.size (lr_startB (hj_1.symm.trans c_2)).2) kv_X9_63 ⟨⟨rfl, rfl⟩, by decide, by decide⟩ rfl hl.1 rfl (Nat.le_of_ble_eq_true rfl) ⟨Nat.le_of_ble_eq_true rfl, Nat.le_of_ble_eq_true rfl⟩ (va_recv hE.1 hP (ci := 5) (q0 := 0) rfl rfl) ⟨hIT, hI_3⟩ hP hD hS hA [0, 1] [] rfl rfl (by decide) (by decide) (by decide) dc_X9_copy_25 ?_
    rintro v9 ⟨w_4, f_4⟩ H locs ⟨rfl, hw_4⟩ hP hD hS hIT9 hz hk9
    have hw_4 : w_4 = (fn_X9_give (a2) ((w.2.2.2.2) (a1).toNatClampNeg) (j_1, w.2.1, w.2.2.1, w.2.2.2.1, w.2.2.2.2)).2 := hw_4
    try rw [← hw_4] at hw
    have hP : va_P G.1 kcl [(mo, .inr (5, [.int ((w_4).1), .ref cs, .int ((w_4).2.1), .int ((w_4).2.2.1), .int ((w_4).2.2.2.1)])), (cs, .inl (G.2.1 3, 6, .inr (.inr (.inr (.inr (f_4))))))] H := hP
    have hD : va_D A [(mo, .inr (5, [.int ((w_4).1), .ref cs, .int ((w_4).2.1), .int ((w_4).2.2.1), .int ((w_4).2.2.2.1)])), (cs, .inl (G.2.1 3, 6, .inr (.inr (.inr (.inr (f_4))))))] := hD
    have hI_3 := hI_3.keep (hk9 _ hI_3.low (ky_nwc ho_3 hI_3.low))
    have hIT : ky_IT G mo cs N f_4 ((w_4).2.2.2.2) H := hIT9
    refine W.widen (k := 0) (n := 0) (Nat.le_refl _) (Nat.le_refl _) ?_
    have hP9 : va_P G.1 kcl (ky_WM G mo cs ((w_4)) (f_4)) H := hP.sub [0, 1] rfl
    have hD9 : va_D A (ky_WM G mo cs ((w_4)) (f_4)) := hD.sub [0, 1] (by decide) rfl
    refine W.widen (k := 0) (n := 0) (Nat.le_of_ble_eq_true rfl) (Nat.le_of_ble_eq_true rfl) ?_
    exact W.iret (v := (fn_X9_give (a2) ((w.2.2.2.2) (a1).toNatClampNeg) (j_1, w.2.1, w.2.2.1, w.2.2.2.1, w.2.2.2.2)).1) hx hb hr (fun t ht hW => ⟨by rw [ht]; exact ky_endM (fun z => some (.int z)) ((fn_X9_give (a2) ((w.2.2.2.2) (a1).toNatClampNeg) (j_1, w.2.1, w.2.2.1, w.2.2.2.1, w.2.2.2.2)).1) hw hP9 hD9 (hIT), hS.F ht⟩) hS.2.2 dc_X9_copy_28
  · have hw := hw.trans (if_neg c_2)
    refine lv_iconst (v := 0) hx hb dc_X9_copy_13 (by decide) ?_
    refine lv_goto (tgt := 28) hx hb dc_X9_copy_14 (by decide) ?_
    have hP9 : va_P G.1 kcl (ky_WM G mo cs ((j_1, w.2.1, w.2.2.1, w.2.2.2.1, w.2.2.2.2)) (f)) H := hP.sub [0, 1] rfl
    have hD9 : va_D A (ky_WM G mo cs ((j_1, w.2.1, w.2.2.1, w.2.2.2.1, w.2.2.2.2)) (f)) := hD.sub [0, 1] (by decide) rfl
    refine W.widen (k := 0) (n := 0) (Nat.le_of_ble_eq_true rfl) (Nat.le_of_ble_eq_true rfl) ?_
    exact W.iret (v := (0 : Int32)) hx hb hr (fun t ht hW => ⟨by rw [ht]; exact ky_endM (fun z => some (.int z)) ((0 : Int32)) hw hP9 hD9 (hIT), hS.F ht⟩) hS.2.2 dc_X9_copy_28
end
section
def fn_X9_swap (a1 : Int32) (a2 : Int32)  (w : ky_MV) : Int32 × ky_MV :=
  if (jst (fn_X9_areNo (a1) (a2))) = (0 : Int32) then ((fn_X8_kind ((((fn_X9_give (a2) ((w.2.2.2.2) (a1).toNatClampNeg) ((fn_X9_give (a1) ((w.2.2.2.2) (a2).toNatClampNeg) (jst (fn_X9_areNo (a1) (a2)), w.2.1, w.2.2.1, w.2.2.2.1, w.2.2.2.2)).2)).2).2.2.2.2) (a1).toNatClampNeg), ((fn_X9_give (a2) ((w.2.2.2.2) (a1).toNatClampNeg) ((fn_X9_give (a1) ((w.2.2.2.2) (a2).toNatClampNeg) (jst (fn_X9_areNo (a1) (a2)), w.2.1, w.2.2.1, w.2.2.2.1, w.2.2.2.2)).2)).2))) else (((0 : Int32), (jst (fn_X9_areNo (a1) (a2)), w.2.1, w.2.2.1, w.2.2.2.1, w.2.2.2.2)))
set_option linter.constructorNameAsVariable false in
set_option maxHeartbeats 4000000 in
set_option maxRecDepth 100000 in
theorem mt_X9_swap (l : Launch) (G : ky_G) (mo cs : Nat) (N : Nat → Prop) (w : ky_MV) (f : Nat → Option Nat)    (a1 : Int32) (a2 : Int32) (sz : Nat) : Met l my_X9_swap (.code my_X9_swap prog_10_method_21_code 4 (some .int) :: ky_B) { frames := 6, cells := 0, slots := 0, locals := 127 } (ky_P G [.ref mo, .int (a1), .int (a2)] (ky_WM G mo cs w f) sz (fun H => ky_IT G mo cs N f w.2.2.2.2 H)) (ky_Q (S := ky_MV × (Nat → Option Nat)) G (va_A (ky_WM G mo cs w f) sz) (fun v u => v = some (.int (fn_X9_swap a1 a2 w).1) ∧ u.1 = (fn_X9_swap a1 a2 w).2) (fun u => ky_WM G mo cs u.1 u.2) (fun u H => ky_IT G mo cs N u.2 u.1.2.2.2.2 H)) 0 0 (va_A (ky_WM G mo cs w f) sz) := by
  refine ky_start (by decide) (Nat.le_of_ble_eq_true rfl) (fun p e s m below meth c F hE A hAe hsz hA hfr hP hD hS hX ls hl => ?_)
  obtain ⟨hx, hb, hml, hown, hr, hlocks, hts⟩ := id F
  have hIT0 := hX
  have hIT := hIT0
  have hl : lv_has ls 4 [(0, .ref mo), (1, .int (a1)), (2, .int (a2))] := hl
  have hP : va_P G.1 kcl [(mo, .inr (5, [.int (w.1), .ref cs, .int (w.2.1), .int (w.2.2.1), .int (w.2.2.2.1)])), (cs, .inl (G.2.1 3, 6, .inr (.inr (.inr (.inr (f))))))] s.heap := hP
  have hD : va_D A [(mo, .inr (5, [.int (w.1), .ref cs, .int (w.2.1), .int (w.2.2.1), .int (w.2.2.2.1)])), (cs, .inl (G.2.1 3, 6, .inr (.inr (.inr (.inr (f))))))] := hD
  have hw : fn_X9_swap a1 a2 w = _ := fn_X9_swap.eq_1 a1 a2 w
  refine lv_aload_n hx hb dc_X9_swap_0 rfl (lv_at hl 0 rfl) ?_
  refine lv_aload_n hx hb dc_X9_swap_1 rfl (lv_at hl 0 rfl) ?_
  refine lv_iload_n hx hb dc_X9_swap_2 rfl (lv_at hl 1 rfl) ?_
  refine lv_iload_n hx hb dc_X9_swap_3 rfl (lv_at hl 2 rfl) ?_
  refine ky_cV1 (As := [.int (a1), .int (a2)]) F (hE.at hfr hS) (mt_X9_areNo l G (mo) (a1) (a2)) kv_X9_104 ⟨⟨rfl, rfl⟩, by decide, by decide⟩ rfl hl.1 rfl (Nat.le_of_ble_eq_true rfl) ⟨Nat.le_of_ble_eq_true rfl, Nat.le_of_ble_eq_true rfl⟩ (va_recv hE.1 hP (ci := 5) (q0 := 0) rfl rfl) trivial dc_X9_swap_4 ?_
  refine ky_cVh (As := [.int (fn_X9_areNo (a1) (a2))]) (wr := []) F (hE.at hfr hS) hfr (mt_X9_startJ l G (mo) (cs) ((w.1, w.2.1, w.2.2.1, w.2.2.2.1)) (f) (fn_X9_areNo (a1) (a2)) s.heap.size ) kv_X9_55 ⟨⟨rfl, rfl⟩, by decide, by decide⟩ rfl hl.1 rfl (Nat.le_of_ble_eq_true rfl) ⟨Nat.le_of_ble_eq_true rfl, Nat.le_of_ble_eq_true rfl⟩ (va_recv hE.1 hP (ci := 5) (q0 := 0) rfl rfl) trivial hP hD hS hA [0, 1] [] rfl rfl (by decide) (by decide) (by decide) dc_X9_swap_7 ?_
  rintro v9 u9 H locs ⟨rfl, rfl⟩ hP hD hS - hz hk9
  obtain ⟨j_1, hj_1⟩ : ∃ j9, j9 = jst (fn_X9_areNo (a1) (a2)) := ⟨_, rfl⟩
  rw [← hj_1] at hP hD ⊢
  try rw [← hj_1] at hw
  have hP : va_P G.1 kcl [(mo, .inr (5, [.int (j_1), .ref cs, .int (w.2.1), .int (w.2.2.1), .int (w.2.2.2.1)])), (cs, .inl (G.2.1 3, 6, .inr (.inr (.inr (.inr (f))))))] H := hP
  have hD : va_D A [(mo, .inr (5, [.int (j_1), .ref cs, .int (w.2.1), .int (w.2.2.1), .int (w.2.2.2.1)])), (cs, .inl (G.2.1 3, 6, .inr (.inr (.inr (.inr (f))))))] := hD
  have hIT := hIT0.ro hAe hS
  refine W.widen (k := 0) (n := 0) (Nat.le_refl _) (Nat.le_refl _) ?_
  refine lv_if_eq (tgt := 15) hx hb dc_X9_swap_10 (by decide) (fun c_2 => ?_) (fun c_2 => ?_)
  · have hw := hw.trans (if_pos c_2)
    refine lv_aload_n hx hb dc_X9_swap_15 rfl (lv_at hl 0 rfl) ?_
    refine va_get (D := G.1) (ci := 5) (v := .ref cs) (C := RX9) (T := TX9) (N := 5) hx hb hts ki_X9 hown hE.1 hP 0 rfl rfl 1 (by decide) (hts _ kw_6_20) (fun _ h9 => h9) rfl dc_X9_swap_16 ?_
    refine lv_iload_n hx hb dc_X9_swap_19 rfl (lv_at hl 1 rfl) ?_
    refine va_aldq hx hb hE.1 hP 1 3 rfl rfl (lr_startB (hj_1.symm.trans c_2)).1 dc_X9_swap_20 ?_
    obtain ⟨b_3, hb_3, hI_3, ho_3⟩ := hIT.2 _ (ky_i6 (lr_startB (hj_1.symm.trans c_2)).1)
    rw [ky_rf hb_3]
    have hX_3 : ky_It G b_3 ((w.2.2.2.2) (a1).toNatClampNeg) s.heap := by obtain ⟨b9, e9, i9, -⟩ := hIT0.2 _ (ky_i6 (lr_startB (hj_1.symm.trans c_2)).1); have z9 : b9 = b_3 := Option.some.inj (e9.symm.trans hb_3); exact z9 ▸ i9
    refine lv_astore_n (lv' := [(3, .ref b_3), (0, .ref mo), (1, .int (a1)), (2, .int (a2))]) hx hb dc_X9_swap_21 rfl hl (by decide) rfl (fun ls hl => ?_)
    refine lv_aload_n hx hb dc_X9_swap_22 rfl (lv_at hl 1 rfl) ?_
    refine lv_iload_n hx hb dc_X9_swap_23 rfl (lv_at hl 2 rfl) ?_
    refine lv_aload_n hx hb dc_X9_swap_24 rfl (lv_at hl 1 rfl) ?_
    refine va_get (D := G.1) (ci := 5) (v := .ref cs) (C := RX9) (T := TX9) (N := 5) hx hb hts ki_X9 hown hE.1 hP 0 rfl rfl 1 (by decide) (hts _ kw_6_20) (fun _ h9 => h9) rfl dc_X9_swap_25 ?_
    refine lv_iload_n hx hb dc_X9_swap_28 rfl (lv_at hl 3 rfl) ?_
    refine va_aldq hx hb hE.1 hP 1 3 rfl rfl (lr_startB (hj_1.symm.trans c_2)).2 dc_X9_swap_29 ?_
    obtain ⟨b_4, hb_4, hI_4, ho_4⟩ := hIT.2 _ (ky_i6 (lr_startB (hj_1.symm.trans c_2)).2)
    rw [ky_rf hb_4]
    have hX_4 : ky_It G b_4 ((w.2.2.2.2) (a2).toNatClampNeg) s.heap := by obtain ⟨b9, e9, i9, -⟩ := hIT0.2 _ (ky_i6 (lr_startB (hj_1.symm.trans c_2)).2); have z9 : b9 = b_4 := Option.some.inj (e9.symm.trans hb_4); exact z9 ▸ i9
    refine ky_cVh (As := [.int (a1), .ref b_4]) (wr := []) F (hE.at hfr hS) hfr (mt_X9_give l G mo cs N (j_1, w.2.1, w.2.2.1, w.2.2.2.1, w.2.2.2.2) (f) (b_4) ((w.2.2.2.2) (a2).toNatClampNeg) ho_4 (a1) H.size (lr_startB (hj_1.symm.trans c_2)).1) kv_X9_63 ⟨⟨rfl, rfl⟩, by decide, by decide⟩ rfl hl.1 rfl (Nat.le_of_ble_eq_true rfl) ⟨Nat.le_of_ble_eq_true rfl, Nat.le_of_ble_eq_true rfl⟩ (va_recv hE.1 hP (ci := 5) (q0 := 0) rfl rfl) ⟨hIT, hI_4⟩ hP hD hS hA [0, 1] [] rfl rfl (by decide) (by decide) (by decide) dc_X9_swap_30 ?_
    rintro v9 ⟨w_5, f_5⟩ H locs ⟨rfl, hw_5⟩ hP hD hS hIT9 hz hk9
    have hw_5 : w_5 = (fn_X9_give (a1) ((w.2.2.2.2) (a2).toNatClampNeg) (j_1, w.2.1, w.2.2.1, w.2.2.2.1, w.2.2.2.2)).2 := hw_5
    try rw [← hw_5] at hw
    have hP : va_P G.1 kcl [(mo, .inr (5, [.int ((w_5).1), .ref cs, .int ((w_5).2.1), .int ((w_5).2.2.1), .int ((w_5).2.2.2.1)])), (cs, .inl (G.2.1 3, 6, .inr (.inr (.inr (.inr (f_5))))))] H := hP
    have hD : va_D A [(mo, .inr (5, [.int ((w_5).1), .ref cs, .int ((w_5).2.1), .int ((w_5).2.2.1), .int ((w_5).2.2.2.1)])), (cs, .inl (G.2.1 3, 6, .inr (.inr (.inr (.inr (f_5))))))] := hD
    have hI_3 := hI_3.keep (hk9 _ hI_3.low (ky_nwc ho_3 hI_3.low))
    have hI_4 := hI_4.keep (hk9 _ hI_4.low (ky_nwc ho_4 hI_4.low))
    have hIT : ky_IT G mo cs N f_5 ((w_5).2.2.2.2) H := hIT9
    refine W.widen (k := 0) (n := 0) (Nat.le_refl _) (Nat.le_refl _) ?_
    refine lv_pop hx hb dc_X9_swap_33 rfl ?_
    refine lv_aload_n hx hb dc_X9_swap_34 rfl (lv_at hl 1 rfl) ?_
    refine lv_iload_n hx hb dc_X9_swap_35 rfl (lv_at hl 3 rfl) ?_
    refine lv_aload_n hx hb dc_X9_swap_36 rfl (lv_at hl 0 rfl) ?_
    refine ky_cVh (As := [.int (a2), .ref b_3]) (wr := []) F (hE.at hfr hS) hfr (mt_X9_give l G mo cs N (w_5) (f_5) (b_3) ((w.2.2.2.2) (a1).toNatClampNeg) ho_3 (a2) H.size (lr_startB (hj_1.symm.trans c_2)).2) kv_X9_63 ⟨⟨rfl, rfl⟩, by decide, by decide⟩ rfl hl.1 rfl (Nat.le_of_ble_eq_true rfl) ⟨Nat.le_of_ble_eq_true rfl, Nat.le_of_ble_eq_true rfl⟩ (va_recv hE.1 hP (ci := 5) (q0 := 0) rfl rfl) ⟨hIT, hI_3⟩ hP hD hS hA [0, 1] [] rfl rfl (by decide) (by decide) (by decide) dc_X9_swap_37 ?_
    rintro v9 ⟨w_6, f_6⟩ H locs ⟨rfl, hw_6⟩ hP hD hS hIT9 hz hk9
    have hw_6 : w_6 = (fn_X9_give (a2) ((w.2.2.2.2) (a1).toNatClampNeg) (w_5)).2 := hw_6
    try rw [← hw_6] at hw
    have hP : va_P G.1 kcl [(mo, .inr (5, [.int ((w_6).1), .ref cs, .int ((w_6).2.1), .int ((w_6).2.2.1), .int ((w_6).2.2.2.1)])), (cs, .inl (G.2.1 3, 6, .inr (.inr (.inr (.inr (f_6))))))] H := hP
    have hD : va_D A [(mo, .inr (5, [.int ((w_6).1), .ref cs, .int ((w_6).2.1), .int ((w_6).2.2.1), .int ((w_6).2.2.2.1)])), (cs, .inl (G.2.1 3, 6, .inr (.inr (.inr (.inr (f_6))))))] := hD
    have hI_3 := hI_3.keep (hk9 _ hI_3.low (ky_nwc ho_3 hI_3.low))
    have hI_4 := hI_4.keep (hk9 _ hI_4.low (ky_nwc ho_4 hI_4.low))
    have hIT : ky_IT G mo cs N f_6 ((w_6).2.2.2.2) H := hIT9
    refine W.widen (k := 0) (n := 0) (Nat.le_refl _) (Nat.le_refl _) ?_
    refine lv_pop hx hb dc_X9_swap_40 rfl ?_
    refine lv_aload_n hx hb dc_X9_swap_41 rfl (lv_at hl 1 rfl) ?_
    refine va_get (D := G.1) (ci := 5) (v := .ref cs) (C := RX9) (T := TX9) (N := 5) hx hb hts ki_X9 hown hE.1 hP 0 rfl rfl 1 (by decide) (hts _ kw_6_20) (fun _ h9 => h9) rfl dc_X9_swap_42 ?_
    refine lv_iload_n hx hb dc_X9_swap_45 rfl (lv_at hl 2 rfl) ?_
    refine va_aldq hx hb hE.1 hP 1 3 rfl rfl (lr_startB (hj_1.symm.trans c_2)).1 dc_X9_swap_46 ?_
    obtain ⟨b_7, hb_7, hI_7, ho_7⟩ := hIT.2 _ (ky_i6 (lr_startB (hj_1.symm.trans c_2)).1)
    rw [ky_rf hb_7]
    refine ky_cV1 (As := []) F (hE.at hfr hS) (mt_X8_kind l G (b_7) ((((w_6).2.2.2.2) (a1).toNatClampNeg)) ) kv_X9_47 ⟨⟨rfl, rfl⟩, by decide, by decide⟩ rfl hl.1 rfl (Nat.le_of_ble_eq_true rfl) ⟨Nat.le_of_ble_eq_true rfl, Nat.le_of_ble_eq_true rfl⟩ (va_recv hE.1 hI_7 (ci := 4) (q0 := 0) rfl rfl) hI_7 dc_X9_swap_47 ?_
    have hP9 : va_P G.1 kcl (ky_WM G mo cs ((w_6)) (f_6)) H := hP.sub [0, 1] rfl
    have hD9 : va_D A (ky_WM G mo cs ((w_6)) (f_6)) := hD.sub [0, 1] (by decide) rfl
    refine W.widen (k := 0) (n := 0) (Nat.le_of_ble_eq_true rfl) (Nat.le_of_ble_eq_true rfl) ?_
    exact W.iret (v := fn_X8_kind (((w_6).2.2.2.2) (a1).toNatClampNeg)) hx hb hr (fun t ht hW => ⟨by rw [ht]; exact ky_endM (fun z => some (.int z)) (fn_X8_kind (((w_6).2.2.2.2) (a1).toNatClampNeg)) hw hP9 hD9 (hIT), hS.F ht⟩) hS.2.2 dc_X9_swap_50
  · have hw := hw.trans (if_neg c_2)
    refine lv_iconst (v := 0) hx hb dc_X9_swap_13 (by decide) ?_
    have hP9 : va_P G.1 kcl (ky_WM G mo cs ((j_1, w.2.1, w.2.2.1, w.2.2.2.1, w.2.2.2.2)) (f)) H := hP.sub [0, 1] rfl
    have hD9 : va_D A (ky_WM G mo cs ((j_1, w.2.1, w.2.2.1, w.2.2.2.1, w.2.2.2.2)) (f)) := hD.sub [0, 1] (by decide) rfl
    refine W.widen (k := 0) (n := 0) (Nat.le_of_ble_eq_true rfl) (Nat.le_of_ble_eq_true rfl) ?_
    exact W.iret (v := (0 : Int32)) hx hb hr (fun t ht hW => ⟨by rw [ht]; exact ky_endM (fun z => some (.int z)) ((0 : Int32)) hw hP9 hD9 (hIT), hS.F ht⟩) hS.2.2 dc_X9_swap_14
end
section
def fn_X9_size (a1 : Int32) (a2 : Int32)  (w : ky_MV) : Int32 × ky_MV :=
  if (jst (fn_X9_areNo (a1) (a2))) = (0 : Int32) then (((fn_X9_give (a2) ((0 : Int32), ((w.2.2.2.2) (a1).toNatClampNeg).2) (jst (fn_X9_areNo (a1) (a2)), w.2.1, w.2.2.1, w.2.2.2.1, w.2.2.2.2)).1, ((fn_X9_give (a2) ((0 : Int32), ((w.2.2.2.2) (a1).toNatClampNeg).2) (jst (fn_X9_areNo (a1) (a2)), w.2.1, w.2.2.1, w.2.2.2.1, w.2.2.2.2)).2))) else (((0 : Int32), (jst (fn_X9_areNo (a1) (a2)), w.2.1, w.2.2.1, w.2.2.2.1, w.2.2.2.2)))
set_option linter.constructorNameAsVariable false in
set_option maxHeartbeats 4000000 in
set_option maxRecDepth 100000 in
theorem mt_X9_size (l : Launch) (G : ky_G) (mo cs : Nat) (N : Nat → Prop) (w : ky_MV) (f : Nat → Option Nat)    (a1 : Int32) (a2 : Int32) (sz : Nat) : Met l my_X9_size (.code my_X9_size prog_10_method_26_code 3 (some .int) :: ky_B) { frames := 6, cells := 1, slots := 2, locals := 127 } (ky_P G [.ref mo, .int (a1), .int (a2)] (ky_WM G mo cs w f) sz (fun H => ky_IT G mo cs N f w.2.2.2.2 H)) (ky_Q (S := ky_MV × (Nat → Option Nat)) G (va_A (ky_WM G mo cs w f) sz) (fun v u => v = some (.int (fn_X9_size a1 a2 w).1) ∧ u.1 = (fn_X9_size a1 a2 w).2) (fun u => ky_WM G mo cs u.1 u.2) (fun u H => ky_IT G mo cs N u.2 u.1.2.2.2.2 H)) 1 2 (va_A (ky_WM G mo cs w f) sz) := by
  refine ky_start (by decide) (Nat.le_of_ble_eq_true rfl) (fun p e s m below meth c F hE A hAe hsz hA hfr hP hD hS hX ls hl => ?_)
  obtain ⟨hx, hb, hml, hown, hr, hlocks, hts⟩ := id F
  have hIT0 := hX
  have hIT := hIT0
  have hl : lv_has ls 3 [(0, .ref mo), (1, .int (a1)), (2, .int (a2))] := hl
  have hP : va_P G.1 kcl [(mo, .inr (5, [.int (w.1), .ref cs, .int (w.2.1), .int (w.2.2.1), .int (w.2.2.2.1)])), (cs, .inl (G.2.1 3, 6, .inr (.inr (.inr (.inr (f))))))] s.heap := hP
  have hD : va_D A [(mo, .inr (5, [.int (w.1), .ref cs, .int (w.2.1), .int (w.2.2.1), .int (w.2.2.2.1)])), (cs, .inl (G.2.1 3, 6, .inr (.inr (.inr (.inr (f))))))] := hD
  have hw : fn_X9_size a1 a2 w = _ := fn_X9_size.eq_1 a1 a2 w
  refine lv_aload_n hx hb dc_X9_size_0 rfl (lv_at hl 0 rfl) ?_
  refine lv_aload_n hx hb dc_X9_size_1 rfl (lv_at hl 0 rfl) ?_
  refine lv_iload_n hx hb dc_X9_size_2 rfl (lv_at hl 1 rfl) ?_
  refine lv_iload_n hx hb dc_X9_size_3 rfl (lv_at hl 2 rfl) ?_
  refine ky_cV1 (As := [.int (a1), .int (a2)]) F (hE.at hfr hS) (mt_X9_areNo l G (mo) (a1) (a2)) kv_X9_104 ⟨⟨rfl, rfl⟩, by decide, by decide⟩ rfl hl.1 rfl (Nat.le_of_ble_eq_true rfl) ⟨Nat.le_of_ble_eq_true rfl, Nat.le_of_ble_eq_true rfl⟩ (va_recv hE.1 hP (ci := 5) (q0 := 0) rfl rfl) trivial dc_X9_size_4 ?_
  refine ky_cVh (As := [.int (fn_X9_areNo (a1) (a2))]) (wr := []) F (hE.at hfr hS) hfr (mt_X9_startJ l G (mo) (cs) ((w.1, w.2.1, w.2.2.1, w.2.2.2.1)) (f) (fn_X9_areNo (a1) (a2)) s.heap.size ) kv_X9_55 ⟨⟨rfl, rfl⟩, by decide, by decide⟩ rfl hl.1 rfl (Nat.le_of_ble_eq_true rfl) ⟨Nat.le_of_ble_eq_true rfl, Nat.le_of_ble_eq_true rfl⟩ (va_recv hE.1 hP (ci := 5) (q0 := 0) rfl rfl) trivial hP hD hS hA [0, 1] [] rfl rfl (by decide) (by decide) (by decide) dc_X9_size_7 ?_
  rintro v9 u9 H locs ⟨rfl, rfl⟩ hP hD hS - hz hk9
  obtain ⟨j_1, hj_1⟩ : ∃ j9, j9 = jst (fn_X9_areNo (a1) (a2)) := ⟨_, rfl⟩
  rw [← hj_1] at hP hD ⊢
  try rw [← hj_1] at hw
  have hP : va_P G.1 kcl [(mo, .inr (5, [.int (j_1), .ref cs, .int (w.2.1), .int (w.2.2.1), .int (w.2.2.2.1)])), (cs, .inl (G.2.1 3, 6, .inr (.inr (.inr (.inr (f))))))] H := hP
  have hD : va_D A [(mo, .inr (5, [.int (j_1), .ref cs, .int (w.2.1), .int (w.2.2.1), .int (w.2.2.2.1)])), (cs, .inl (G.2.1 3, 6, .inr (.inr (.inr (.inr (f))))))] := hD
  have hIT := hIT0.ro hAe hS
  refine W.widen (k := 0) (n := 0) (Nat.le_refl _) (Nat.le_refl _) ?_
  refine lv_if_eq (tgt := 17) hx hb dc_X9_size_10 (by decide) (fun c_2 => ?_) (fun c_2 => ?_)
  · have hw := hw.trans (if_pos c_2)
    refine lv_aload_n hx hb dc_X9_size_17 rfl (lv_at hl 0 rfl) ?_
    refine lv_iload_n hx hb dc_X9_size_18 rfl (lv_at hl 2 rfl) ?_
    refine va_new (ci := 4) (fs := [.int (0), .long (0)]) (C := RX8) (T := TX8) (N := 2) hx hb hts ki_X8 tyX8 tyX8_ok hown (hts _ kw_6_3) (hts _ kw_6_5) (hts _ kw_1_9) hE.1 hP hD hS hA rfl (fun j hj => by rcases (show j = 0 ∨ j = 1 by omega) with rfl | rfl <;> rfl) (Nat.le_of_ble_eq_true rfl) (Nat.le_of_ble_eq_true rfl) dc_X9_size_19 (fun q_3 H hP hD hS => ?_)
    have hP : va_P G.1 kcl [(mo, .inr (5, [.int (j_1), .ref cs, .int (w.2.1), .int (w.2.2.1), .int (w.2.2.2.1)])), (cs, .inl (G.2.1 3, 6, .inr (.inr (.inr (.inr (f)))))), (q_3, .inr (4, [.int (0), .long (0)]))] H := hP
    have hD : va_D A [(mo, .inr (5, [.int (j_1), .ref cs, .int (w.2.1), .int (w.2.2.1), .int (w.2.2.2.1)])), (cs, .inl (G.2.1 3, 6, .inr (.inr (.inr (.inr (f)))))), (q_3, .inr (4, [.int (0), .long (0)]))] := hD
    have hIT := hIT0.ro hAe hS
    refine W.widen (k := 1) (n := 2) (Nat.le_refl _) (Nat.le_refl _) ?_
    refine lv_dup hx hb dc_X9_size_22 rfl ?_
    refine lv_iconst (v := 0) hx hb dc_X9_size_23 (by decide) ?_
    refine lv_aload_n hx hb dc_X9_size_24 rfl (lv_at hl 0 rfl) ?_
    refine va_get (D := G.1) (ci := 5) (v := .ref cs) (C := RX9) (T := TX9) (N := 5) hx hb hts ki_X9 hown hE.1 hP 0 rfl rfl 1 (by decide) (hts _ kw_6_20) (fun _ h9 => h9) rfl dc_X9_size_25 ?_
    refine lv_iload_n hx hb dc_X9_size_28 rfl (lv_at hl 1 rfl) ?_
    refine va_aldq hx hb hE.1 hP 1 3 rfl rfl (lr_startB (hj_1.symm.trans c_2)).1 dc_X9_size_29 ?_
    obtain ⟨b_4, hb_4, hI_4, ho_4⟩ := hIT.2 _ (ky_i6 (lr_startB (hj_1.symm.trans c_2)).1)
    rw [ky_rf hb_4]
    have hX_4 : ky_It G b_4 ((w.2.2.2.2) (a1).toNatClampNeg) s.heap := by obtain ⟨b9, e9, i9, -⟩ := hIT0.2 _ (ky_i6 (lr_startB (hj_1.symm.trans c_2)).1); have z9 : b9 = b_4 := Option.some.inj (e9.symm.trans hb_4); exact z9 ▸ i9
    refine va_get (D := G.1) (ci := 4) (v := .long (((w.2.2.2.2) (a1).toNatClampNeg).2)) (C := RX8) (T := TX8) (N := 2) hx hb hts ki_X8 hown hE.1 hI_4 0 rfl rfl 1 (by decide) (hts _ kw_6_13) (fun _ h9 => h9) rfl dc_X9_size_30 ?_
    refine ky_cIh (As := [.int ((0 : Int32)), .long (((w.2.2.2.2) (a1).toNatClampNeg).2)]) (wr := [(mo, .inr (5, [.int (j_1), .ref cs, .int (w.2.1), .int (w.2.2.1), .int (w.2.2.2.1)])), (cs, .inl (G.2.1 3, 6, .inr (.inr (.inr (.inr (f))))))]) F (hE.at hfr hS) hfr (mt_X8_init l G (q_3) ((0 : Int32)) (((w.2.2.2.2) (a1).toNatClampNeg).2) H.size ) kI_X9_29 ⟨⟨rfl, rfl⟩, by decide, by decide⟩ rfl hl.1 rfl (Nat.le_of_ble_eq_true rfl) ⟨Nat.le_of_ble_eq_true rfl, Nat.le_of_ble_eq_true rfl⟩ trivial hP hD hS hA [2] [0, 1] rfl rfl (by decide) (by decide) (by decide) dc_X9_size_33 ?_
    rintro v9 u9 H locs ⟨rfl, rfl⟩ hP hD hS - hz hk9
    have hP : va_P G.1 kcl [(mo, .inr (5, [.int (j_1), .ref cs, .int (w.2.1), .int (w.2.2.1), .int (w.2.2.2.1)])), (cs, .inl (G.2.1 3, 6, .inr (.inr (.inr (.inr (f)))))), (q_3, .inr (4, [.int ((0 : Int32)), .long (((w.2.2.2.2) (a1).toNatClampNeg).2)]))] H := hP
    have hD : va_D A [(mo, .inr (5, [.int (j_1), .ref cs, .int (w.2.1), .int (w.2.2.1), .int (w.2.2.2.1)])), (cs, .inl (G.2.1 3, 6, .inr (.inr (.inr (.inr (f)))))), (q_3, .inr (4, [.int ((0 : Int32)), .long (((w.2.2.2.2) (a1).toNatClampNeg).2)]))] := hD
    have hIT := hIT0.ro hAe hS
    have hI_4 := ky_ro2 hX_4 ho_4 hAe hS
    refine W.widen (k := 1) (n := 2) (Nat.le_refl _) (Nat.le_refl _) ?_
    have hJ_6 : ky_It G q_3 (((0 : Int32), ((w.2.2.2.2) (a1).toNatClampNeg).2)) H := ky_itp (hP.sub (ws' := [(q_3, .inr (4, [.int ((0 : Int32)), .long (((w.2.2.2.2) (a1).toNatClampNeg).2)]))]) [2] rfl)
    have hk_6 : ky_ok mo cs N q_3 := ky_ok.own hAe hIT0.1 hD 0 1 2 rfl rfl rfl (by decide) (by decide)
    refine ky_cVh (As := [.int (a2), .ref q_3]) (wr := [(q_3, .inr (4, [.int ((0 : Int32)), .long (((w.2.2.2.2) (a1).toNatClampNeg).2)]))]) F (hE.at hfr hS) hfr (mt_X9_give l G mo cs N (j_1, w.2.1, w.2.2.1, w.2.2.2.1, w.2.2.2.2) (f) (q_3) ((0 : Int32), ((w.2.2.2.2) (a1).toNatClampNeg).2) hk_6 (a2) H.size (lr_startB (hj_1.symm.trans c_2)).2) kv_X9_63 ⟨⟨rfl, rfl⟩, by decide, by decide⟩ rfl hl.1 rfl (Nat.le_of_ble_eq_true rfl) ⟨Nat.le_of_ble_eq_true rfl, Nat.le_of_ble_eq_true rfl⟩ (va_recv hE.1 hP (ci := 5) (q0 := 0) rfl rfl) ⟨hIT, hJ_6⟩ hP hD hS hA [0, 1] [2] rfl rfl (by decide) (by decide) (by decide) dc_X9_size_36 ?_
    rintro v9 ⟨w_7, f_7⟩ H locs ⟨rfl, hw_7⟩ hP hD hS hIT9 hz hk9
    have hw_7 : w_7 = (fn_X9_give (a2) ((0 : Int32), ((w.2.2.2.2) (a1).toNatClampNeg).2) (j_1, w.2.1, w.2.2.1, w.2.2.2.1, w.2.2.2.2)).2 := hw_7
    try rw [← hw_7] at hw
    have hP : va_P G.1 kcl [(q_3, .inr (4, [.int ((0 : Int32)), .long (((w.2.2.2.2) (a1).toNatClampNeg).2)])), (mo, .inr (5, [.int ((w_7).1), .ref cs, .int ((w_7).2.1), .int ((w_7).2.2.1), .int ((w_7).2.2.2.1)])), (cs, .inl (G.2.1 3, 6, .inr (.inr (.inr (.inr (f_7))))))] H := hP
    have hD : va_D A [(q_3, .inr (4, [.int ((0 : Int32)), .long (((w.2.2.2.2) (a1).toNatClampNeg).2)])), (mo, .inr (5, [.int ((w_7).1), .ref cs, .int ((w_7).2.1), .int ((w_7).2.2.1), .int ((w_7).2.2.2.1)])), (cs, .inl (G.2.1 3, 6, .inr (.inr (.inr (.inr (f_7))))))] := hD
    have hI_4 := hI_4.keep (hk9 _ hI_4.low (ky_nwc ho_4 hI_4.low))
    have hIT : ky_IT G mo cs N f_7 ((w_7).2.2.2.2) H := hIT9
    refine W.widen (k := 1) (n := 2) (Nat.le_refl _) (Nat.le_refl _) ?_
    have hP9 : va_P G.1 kcl (ky_WM G mo cs ((w_7)) (f_7)) H := hP.sub [1, 2] rfl
    have hD9 : va_D A (ky_WM G mo cs ((w_7)) (f_7)) := hD.sub [1, 2] (by decide) rfl
    refine W.widen (k := 1) (n := 2) (Nat.le_of_ble_eq_true rfl) (Nat.le_of_ble_eq_true rfl) ?_
    exact W.iret (v := (fn_X9_give (a2) ((0 : Int32), ((w.2.2.2.2) (a1).toNatClampNeg).2) (j_1, w.2.1, w.2.2.1, w.2.2.2.1, w.2.2.2.2)).1) hx hb hr (fun t ht hW => ⟨by rw [ht]; exact ky_endM (fun z => some (.int z)) ((fn_X9_give (a2) ((0 : Int32), ((w.2.2.2.2) (a1).toNatClampNeg).2) (j_1, w.2.1, w.2.2.1, w.2.2.2.1, w.2.2.2.2)).1) hw hP9 hD9 (hIT), hS.F ht⟩) hS.2.2 dc_X9_size_39
  · have hw := hw.trans (if_neg c_2)
    refine lv_iconst (v := 0) hx hb dc_X9_size_13 (by decide) ?_
    refine lv_goto (tgt := 39) hx hb dc_X9_size_14 (by decide) ?_
    have hP9 : va_P G.1 kcl (ky_WM G mo cs ((j_1, w.2.1, w.2.2.1, w.2.2.2.1, w.2.2.2.2)) (f)) H := hP.sub [0, 1] rfl
    have hD9 : va_D A (ky_WM G mo cs ((j_1, w.2.1, w.2.2.1, w.2.2.2.1, w.2.2.2.2)) (f)) := hD.sub [0, 1] (by decide) rfl
    refine W.widen (k := 1) (n := 2) (Nat.le_of_ble_eq_true rfl) (Nat.le_of_ble_eq_true rfl) ?_
    exact W.iret (v := (0 : Int32)) hx hb hr (fun t ht hW => ⟨by rw [ht]; exact ky_endM (fun z => some (.int z)) ((0 : Int32)) hw hP9 hD9 (hIT), hS.F ht⟩) hS.2.2 dc_X9_size_39
end
section
def fn_X9_turn (a1 : Int32) (a2 : Int32)  (w : ky_MV) : Int32 × ky_MV :=
  if (jst (fn_X9_areNo (a1) (a2))) = (0 : Int32) then (((fn_X9_give (a2) (fn_X8_turned ((w.2.2.2.2) (a1).toNatClampNeg)) (jst (fn_X9_areNo (a1) (a2)), w.2.1, w.2.2.1, w.2.2.2.1, w.2.2.2.2)).1, ((fn_X9_give (a2) (fn_X8_turned ((w.2.2.2.2) (a1).toNatClampNeg)) (jst (fn_X9_areNo (a1) (a2)), w.2.1, w.2.2.1, w.2.2.2.1, w.2.2.2.2)).2))) else (((0 : Int32), (jst (fn_X9_areNo (a1) (a2)), w.2.1, w.2.2.1, w.2.2.2.1, w.2.2.2.2)))
set_option linter.constructorNameAsVariable false in
set_option maxHeartbeats 4000000 in
set_option maxRecDepth 100000 in
theorem mt_X9_turn (l : Launch) (G : ky_G) (mo cs : Nat) (N : Nat → Prop) (w : ky_MV) (f : Nat → Option Nat)    (a1 : Int32) (a2 : Int32) (sz : Nat) : Met l my_X9_turn (.code my_X9_turn prog_10_method_27_code 3 (some .int) :: ky_B) { frames := 6, cells := 1, slots := 2, locals := 127 } (ky_P G [.ref mo, .int (a1), .int (a2)] (ky_WM G mo cs w f) sz (fun H => ky_IT G mo cs N f w.2.2.2.2 H)) (ky_Q (S := ky_MV × (Nat → Option Nat)) G (va_A (ky_WM G mo cs w f) sz) (fun v u => v = some (.int (fn_X9_turn a1 a2 w).1) ∧ u.1 = (fn_X9_turn a1 a2 w).2) (fun u => ky_WM G mo cs u.1 u.2) (fun u H => ky_IT G mo cs N u.2 u.1.2.2.2.2 H)) 1 2 (va_A (ky_WM G mo cs w f) sz) := by
  refine ky_start (by decide) (Nat.le_of_ble_eq_true rfl) (fun p e s m below meth c F hE A hAe hsz hA hfr hP hD hS hX ls hl => ?_)
  obtain ⟨hx, hb, hml, hown, hr, hlocks, hts⟩ := id F
  have hIT0 := hX
  have hIT := hIT0
  have hl : lv_has ls 3 [(0, .ref mo), (1, .int (a1)), (2, .int (a2))] := hl
  have hP : va_P G.1 kcl [(mo, .inr (5, [.int (w.1), .ref cs, .int (w.2.1), .int (w.2.2.1), .int (w.2.2.2.1)])), (cs, .inl (G.2.1 3, 6, .inr (.inr (.inr (.inr (f))))))] s.heap := hP
  have hD : va_D A [(mo, .inr (5, [.int (w.1), .ref cs, .int (w.2.1), .int (w.2.2.1), .int (w.2.2.2.1)])), (cs, .inl (G.2.1 3, 6, .inr (.inr (.inr (.inr (f))))))] := hD
  have hw : fn_X9_turn a1 a2 w = _ := fn_X9_turn.eq_1 a1 a2 w
  refine lv_aload_n hx hb dc_X9_turn_0 rfl (lv_at hl 0 rfl) ?_
  refine lv_aload_n hx hb dc_X9_turn_1 rfl (lv_at hl 0 rfl) ?_
  refine lv_iload_n hx hb dc_X9_turn_2 rfl (lv_at hl 1 rfl) ?_
  refine lv_iload_n hx hb dc_X9_turn_3 rfl (lv_at hl 2 rfl) ?_
  refine ky_cV1 (As := [.int (a1), .int (a2)]) F (hE.at hfr hS) (mt_X9_areNo l G (mo) (a1) (a2)) kv_X9_104 ⟨⟨rfl, rfl⟩, by decide, by decide⟩ rfl hl.1 rfl (Nat.le_of_ble_eq_true rfl) ⟨Nat.le_of_ble_eq_true rfl, Nat.le_of_ble_eq_true rfl⟩ (va_recv hE.1 hP (ci := 5) (q0 := 0) rfl rfl) trivial dc_X9_turn_4 ?_
  refine ky_cVh (As := [.int (fn_X9_areNo (a1) (a2))]) (wr := []) F (hE.at hfr hS) hfr (mt_X9_startJ l G (mo) (cs) ((w.1, w.2.1, w.2.2.1, w.2.2.2.1)) (f) (fn_X9_areNo (a1) (a2)) s.heap.size ) kv_X9_55 ⟨⟨rfl, rfl⟩, by decide, by decide⟩ rfl hl.1 rfl (Nat.le_of_ble_eq_true rfl) ⟨Nat.le_of_ble_eq_true rfl, Nat.le_of_ble_eq_true rfl⟩ (va_recv hE.1 hP (ci := 5) (q0 := 0) rfl rfl) trivial hP hD hS hA [0, 1] [] rfl rfl (by decide) (by decide) (by decide) dc_X9_turn_7 ?_
  rintro v9 u9 H locs ⟨rfl, rfl⟩ hP hD hS - hz hk9
  obtain ⟨j_1, hj_1⟩ : ∃ j9, j9 = jst (fn_X9_areNo (a1) (a2)) := ⟨_, rfl⟩
  rw [← hj_1] at hP hD ⊢
  try rw [← hj_1] at hw
  have hP : va_P G.1 kcl [(mo, .inr (5, [.int (j_1), .ref cs, .int (w.2.1), .int (w.2.2.1), .int (w.2.2.2.1)])), (cs, .inl (G.2.1 3, 6, .inr (.inr (.inr (.inr (f))))))] H := hP
  have hD : va_D A [(mo, .inr (5, [.int (j_1), .ref cs, .int (w.2.1), .int (w.2.2.1), .int (w.2.2.2.1)])), (cs, .inl (G.2.1 3, 6, .inr (.inr (.inr (.inr (f))))))] := hD
  have hIT := hIT0.ro hAe hS
  refine W.widen (k := 0) (n := 0) (Nat.le_refl _) (Nat.le_refl _) ?_
  refine lv_if_eq (tgt := 17) hx hb dc_X9_turn_10 (by decide) (fun c_2 => ?_) (fun c_2 => ?_)
  · have hw := hw.trans (if_pos c_2)
    refine lv_aload_n hx hb dc_X9_turn_17 rfl (lv_at hl 0 rfl) ?_
    refine lv_iload_n hx hb dc_X9_turn_18 rfl (lv_at hl 2 rfl) ?_
    refine lv_aload_n hx hb dc_X9_turn_19 rfl (lv_at hl 0 rfl) ?_
    refine va_get (D := G.1) (ci := 5) (v := .ref cs) (C := RX9) (T := TX9) (N := 5) hx hb hts ki_X9 hown hE.1 hP 0 rfl rfl 1 (by decide) (hts _ kw_6_20) (fun _ h9 => h9) rfl dc_X9_turn_20 ?_
    refine lv_iload_n hx hb dc_X9_turn_23 rfl (lv_at hl 1 rfl) ?_
    refine va_aldq hx hb hE.1 hP 1 3 rfl rfl (lr_startB (hj_1.symm.trans c_2)).1 dc_X9_turn_24 ?_
    obtain ⟨b_3, hb_3, hI_3, ho_3⟩ := hIT.2 _ (ky_i6 (lr_startB (hj_1.symm.trans c_2)).1)
    rw [ky_rf hb_3]
    have hX_3 : ky_It G b_3 ((w.2.2.2.2) (a1).toNatClampNeg) s.heap := by obtain ⟨b9, e9, i9, -⟩ := hIT0.2 _ (ky_i6 (lr_startB (hj_1.symm.trans c_2)).1); have z9 : b9 = b_3 := Option.some.inj (e9.symm.trans hb_3); exact z9 ▸ i9
    have hm_4 := (hP 0 _ rfl).lt
    have hc_4 := (hP 1 _ rfl).lt
    have hN_4 := hIT.1
    have hs_4 := hS.1
    refine ky_cVh (As := []) (wr := [(mo, .inr (5, [.int (j_1), .ref cs, .int (w.2.1), .int (w.2.2.1), .int (w.2.2.2.1)])), (cs, .inl (G.2.1 3, 6, .inr (.inr (.inr (.inr (f))))))]) F (hE.at hfr hS) hfr (mt_X8_turned l G (b_3) ((w.2.2.2.2) (a1).toNatClampNeg)  H.size) kv_X9_120 ⟨⟨rfl, rfl⟩, by decide, by decide⟩ rfl hl.1 rfl (Nat.le_of_ble_eq_true rfl) ⟨Nat.le_of_ble_eq_true rfl, Nat.le_of_ble_eq_true rfl⟩ (va_recv hE.1 hI_3 (ci := 4) (q0 := 0) rfl rfl) hI_3 hP hD hS hA [] [0, 1] rfl rfl (by decide) (by decide) (by decide) dc_X9_turn_25 ?_
    rintro v9 q_4 H locs rfl hP hD hS ⟨hI_4, hd_4⟩ hz hk9
    have hP : va_P G.1 kcl [(mo, .inr (5, [.int (j_1), .ref cs, .int (w.2.1), .int (w.2.2.1), .int (w.2.2.2.1)])), (cs, .inl (G.2.1 3, 6, .inr (.inr (.inr (.inr (f))))))] H := hP
    have hD : va_D A [(mo, .inr (5, [.int (j_1), .ref cs, .int (w.2.1), .int (w.2.2.1), .int (w.2.2.2.1)])), (cs, .inl (G.2.1 3, 6, .inr (.inr (.inr (.inr (f))))))] := hD
    have hI_3 := hI_3.fr hk9
    refine W.widen (k := 1) (n := 2) (Nat.le_refl _) (Nat.le_refl _) ?_
    have hIT := hIT.keep hz (fun q9 ho9 hl9 => hk9 q9 hl9 (ky_nemp hl9))
    have hk_4 := ho_3.or hm_4 hc_4 hN_4 hd_4
    refine ky_cVh (As := [.int (a2), .ref q_4]) (wr := []) F (hE.at hfr hS) hfr (mt_X9_give l G mo cs N (j_1, w.2.1, w.2.2.1, w.2.2.2.1, w.2.2.2.2) (f) (q_4) (fn_X8_turned ((w.2.2.2.2) (a1).toNatClampNeg)) hk_4 (a2) H.size (lr_startB (hj_1.symm.trans c_2)).2) kv_X9_63 ⟨⟨rfl, rfl⟩, by decide, by decide⟩ rfl hl.1 rfl (Nat.le_of_ble_eq_true rfl) ⟨Nat.le_of_ble_eq_true rfl, Nat.le_of_ble_eq_true rfl⟩ (va_recv hE.1 hP (ci := 5) (q0 := 0) rfl rfl) ⟨hIT, hI_4⟩ hP hD hS hA [0, 1] [] rfl rfl (by decide) (by decide) (by decide) dc_X9_turn_28 ?_
    rintro v9 ⟨w_5, f_5⟩ H locs ⟨rfl, hw_5⟩ hP hD hS hIT9 hz hk9
    have hw_5 : w_5 = (fn_X9_give (a2) (fn_X8_turned ((w.2.2.2.2) (a1).toNatClampNeg)) (j_1, w.2.1, w.2.2.1, w.2.2.2.1, w.2.2.2.2)).2 := hw_5
    try rw [← hw_5] at hw
    have hP : va_P G.1 kcl [(mo, .inr (5, [.int ((w_5).1), .ref cs, .int ((w_5).2.1), .int ((w_5).2.2.1), .int ((w_5).2.2.2.1)])), (cs, .inl (G.2.1 3, 6, .inr (.inr (.inr (.inr (f_5))))))] H := hP
    have hD : va_D A [(mo, .inr (5, [.int ((w_5).1), .ref cs, .int ((w_5).2.1), .int ((w_5).2.2.1), .int ((w_5).2.2.2.1)])), (cs, .inl (G.2.1 3, 6, .inr (.inr (.inr (.inr (f_5))))))] := hD
    have hI_3 := hI_3.keep (hk9 _ hI_3.low (ky_nwc ho_3 hI_3.low))
    have hI_4 := hI_4.keep (hk9 _ hI_4.low (ky_nwc hk_4 hI_4.low))
    have hIT : ky_IT G mo cs N f_5 ((w_5).2.2.2.2) H := hIT9
    refine W.widen (k := 1) (n := 2) (Nat.le_refl _) (Nat.le_refl _) ?_
    have hP9 : va_P G.1 kcl (ky_WM G mo cs ((w_5)) (f_5)) H := hP.sub [0, 1] rfl
    have hD9 : va_D A (ky_WM G mo cs ((w_5)) (f_5)) := hD.sub [0, 1] (by decide) rfl
    refine W.widen (k := 1) (n := 2) (Nat.le_of_ble_eq_true rfl) (Nat.le_of_ble_eq_true rfl) ?_
    exact W.iret (v := (fn_X9_give (a2) (fn_X8_turned ((w.2.2.2.2) (a1).toNatClampNeg)) (j_1, w.2.1, w.2.2.1, w.2.2.2.1, w.2.2.2.2)).1) hx hb hr (fun t ht hW => ⟨by rw [ht]; exact ky_endM (fun z => some (.int z)) ((fn_X9_give (a2) (fn_X8_turned ((w.2.2.2.2) (a1).toNatClampNeg)) (j_1, w.2.1, w.2.2.1, w.2.2.2.1, w.2.2.2.2)).1) hw hP9 hD9 (hIT), hS.F ht⟩) hS.2.2 dc_X9_turn_31
  · have hw := hw.trans (if_neg c_2)
    refine lv_iconst (v := 0) hx hb dc_X9_turn_13 (by decide) ?_
    refine lv_goto (tgt := 31) hx hb dc_X9_turn_14 (by decide) ?_
    have hP9 : va_P G.1 kcl (ky_WM G mo cs ((j_1, w.2.1, w.2.2.1, w.2.2.2.1, w.2.2.2.2)) (f)) H := hP.sub [0, 1] rfl
    have hD9 : va_D A (ky_WM G mo cs ((j_1, w.2.1, w.2.2.1, w.2.2.2.1, w.2.2.2.2)) (f)) := hD.sub [0, 1] (by decide) rfl
    refine W.widen (k := 1) (n := 2) (Nat.le_of_ble_eq_true rfl) (Nat.le_of_ble_eq_true rfl) ?_
    exact W.iret (v := (0 : Int32)) hx hb hr (fun t ht hW => ⟨by rw [ht]; exact ky_endM (fun z => some (.int z)) ((0 : Int32)) hw hP9 hD9 (hIT), hS.F ht⟩) hS.2.2 dc_X9_turn_31
end
section
def fn_X9_up (a1 : Int32) (a2 : Int32)  (w : ky_MV) : Int32 × ky_MV :=
  if (jst (fn_X9_areNo (a1) (a2))) = (0 : Int32) then (((fn_X9_give (a2) (fn_X8_up ((w.2.2.2.2) (a1).toNatClampNeg)) (jst (fn_X9_areNo (a1) (a2)), w.2.1, w.2.2.1, w.2.2.2.1, w.2.2.2.2)).1, ((fn_X9_give (a2) (fn_X8_up ((w.2.2.2.2) (a1).toNatClampNeg)) (jst (fn_X9_areNo (a1) (a2)), w.2.1, w.2.2.1, w.2.2.2.1, w.2.2.2.2)).2))) else (((0 : Int32), (jst (fn_X9_areNo (a1) (a2)), w.2.1, w.2.2.1, w.2.2.2.1, w.2.2.2.2)))
set_option linter.constructorNameAsVariable false in
set_option maxHeartbeats 4000000 in
set_option maxRecDepth 100000 in
theorem mt_X9_up (l : Launch) (G : ky_G) (mo cs : Nat) (N : Nat → Prop) (w : ky_MV) (f : Nat → Option Nat)    (a1 : Int32) (a2 : Int32) (sz : Nat) : Met l my_X9_up (.code my_X9_up prog_10_method_29_code 3 (some .int) :: ky_B) { frames := 6, cells := 1, slots := 2, locals := 127 } (ky_P G [.ref mo, .int (a1), .int (a2)] (ky_WM G mo cs w f) sz (fun H => ky_IT G mo cs N f w.2.2.2.2 H)) (ky_Q (S := ky_MV × (Nat → Option Nat)) G (va_A (ky_WM G mo cs w f) sz) (fun v u => v = some (.int (fn_X9_up a1 a2 w).1) ∧ u.1 = (fn_X9_up a1 a2 w).2) (fun u => ky_WM G mo cs u.1 u.2) (fun u H => ky_IT G mo cs N u.2 u.1.2.2.2.2 H)) 1 2 (va_A (ky_WM G mo cs w f) sz) := by
  refine ky_start (by decide) (Nat.le_of_ble_eq_true rfl) (fun p e s m below meth c F hE A hAe hsz hA hfr hP hD hS hX ls hl => ?_)
  obtain ⟨hx, hb, hml, hown, hr, hlocks, hts⟩ := id F
  have hIT0 := hX
  have hIT := hIT0
  have hl : lv_has ls 3 [(0, .ref mo), (1, .int (a1)), (2, .int (a2))] := hl
  have hP : va_P G.1 kcl [(mo, .inr (5, [.int (w.1), .ref cs, .int (w.2.1), .int (w.2.2.1), .int (w.2.2.2.1)])), (cs, .inl (G.2.1 3, 6, .inr (.inr (.inr (.inr (f))))))] s.heap := hP
  have hD : va_D A [(mo, .inr (5, [.int (w.1), .ref cs, .int (w.2.1), .int (w.2.2.1), .int (w.2.2.2.1)])), (cs, .inl (G.2.1 3, 6, .inr (.inr (.inr (.inr (f))))))] := hD
  have hw : fn_X9_up a1 a2 w = _ := fn_X9_up.eq_1 a1 a2 w
  refine lv_aload_n hx hb dc_X9_up_0 rfl (lv_at hl 0 rfl) ?_
  refine lv_aload_n hx hb dc_X9_up_1 rfl (lv_at hl 0 rfl) ?_
  refine lv_iload_n hx hb dc_X9_up_2 rfl (lv_at hl 1 rfl) ?_
  refine lv_iload_n hx hb dc_X9_up_3 rfl (lv_at hl 2 rfl) ?_
  refine ky_cV1 (As := [.int (a1), .int (a2)]) F (hE.at hfr hS) (mt_X9_areNo l G (mo) (a1) (a2)) kv_X9_104 ⟨⟨rfl, rfl⟩, by decide, by decide⟩ rfl hl.1 rfl (Nat.le_of_ble_eq_true rfl) ⟨Nat.le_of_ble_eq_true rfl, Nat.le_of_ble_eq_true rfl⟩ (va_recv hE.1 hP (ci := 5) (q0 := 0) rfl rfl) trivial dc_X9_up_4 ?_
  refine ky_cVh (As := [.int (fn_X9_areNo (a1) (a2))]) (wr := []) F (hE.at hfr hS) hfr (mt_X9_startJ l G (mo) (cs) ((w.1, w.2.1, w.2.2.1, w.2.2.2.1)) (f) (fn_X9_areNo (a1) (a2)) s.heap.size ) kv_X9_55 ⟨⟨rfl, rfl⟩, by decide, by decide⟩ rfl hl.1 rfl (Nat.le_of_ble_eq_true rfl) ⟨Nat.le_of_ble_eq_true rfl, Nat.le_of_ble_eq_true rfl⟩ (va_recv hE.1 hP (ci := 5) (q0 := 0) rfl rfl) trivial hP hD hS hA [0, 1] [] rfl rfl (by decide) (by decide) (by decide) dc_X9_up_7 ?_
  rintro v9 u9 H locs ⟨rfl, rfl⟩ hP hD hS - hz hk9
  obtain ⟨j_1, hj_1⟩ : ∃ j9, j9 = jst (fn_X9_areNo (a1) (a2)) := ⟨_, rfl⟩
  rw [← hj_1] at hP hD ⊢
  try rw [← hj_1] at hw
  have hP : va_P G.1 kcl [(mo, .inr (5, [.int (j_1), .ref cs, .int (w.2.1), .int (w.2.2.1), .int (w.2.2.2.1)])), (cs, .inl (G.2.1 3, 6, .inr (.inr (.inr (.inr (f))))))] H := hP
  have hD : va_D A [(mo, .inr (5, [.int (j_1), .ref cs, .int (w.2.1), .int (w.2.2.1), .int (w.2.2.2.1)])), (cs, .inl (G.2.1 3, 6, .inr (.inr (.inr (.inr (f))))))] := hD
  have hIT := hIT0.ro hAe hS
  refine W.widen (k := 0) (n := 0) (Nat.le_refl _) (Nat.le_refl _) ?_
  refine lv_if_eq (tgt := 17) hx hb dc_X9_up_10 (by decide) (fun c_2 => ?_) (fun c_2 => ?_)
  · have hw := hw.trans (if_pos c_2)
    refine lv_aload_n hx hb dc_X9_up_17 rfl (lv_at hl 0 rfl) ?_
    refine lv_iload_n hx hb dc_X9_up_18 rfl (lv_at hl 2 rfl) ?_
    refine lv_aload_n hx hb dc_X9_up_19 rfl (lv_at hl 0 rfl) ?_
    refine va_get (D := G.1) (ci := 5) (v := .ref cs) (C := RX9) (T := TX9) (N := 5) hx hb hts ki_X9 hown hE.1 hP 0 rfl rfl 1 (by decide) (hts _ kw_6_20) (fun _ h9 => h9) rfl dc_X9_up_20 ?_
    refine lv_iload_n hx hb dc_X9_up_23 rfl (lv_at hl 1 rfl) ?_
    refine va_aldq hx hb hE.1 hP 1 3 rfl rfl (lr_startB (hj_1.symm.trans c_2)).1 dc_X9_up_24 ?_
    obtain ⟨b_3, hb_3, hI_3, ho_3⟩ := hIT.2 _ (ky_i6 (lr_startB (hj_1.symm.trans c_2)).1)
    rw [ky_rf hb_3]
    have hX_3 : ky_It G b_3 ((w.2.2.2.2) (a1).toNatClampNeg) s.heap := by obtain ⟨b9, e9, i9, -⟩ := hIT0.2 _ (ky_i6 (lr_startB (hj_1.symm.trans c_2)).1); have z9 : b9 = b_3 := Option.some.inj (e9.symm.trans hb_3); exact z9 ▸ i9
    have hm_4 := (hP 0 _ rfl).lt
    have hc_4 := (hP 1 _ rfl).lt
    have hN_4 := hIT.1
    have hs_4 := hS.1
    refine ky_cVh (As := []) (wr := [(mo, .inr (5, [.int (j_1), .ref cs, .int (w.2.1), .int (w.2.2.1), .int (w.2.2.2.1)])), (cs, .inl (G.2.1 3, 6, .inr (.inr (.inr (.inr (f))))))]) F (hE.at hfr hS) hfr (mt_X8_up l G (b_3) ((w.2.2.2.2) (a1).toNatClampNeg)  H.size) kv_X9_127 ⟨⟨rfl, rfl⟩, by decide, by decide⟩ rfl hl.1 rfl (Nat.le_of_ble_eq_true rfl) ⟨Nat.le_of_ble_eq_true rfl, Nat.le_of_ble_eq_true rfl⟩ (va_recv hE.1 hI_3 (ci := 4) (q0 := 0) rfl rfl) hI_3 hP hD hS hA [] [0, 1] rfl rfl (by decide) (by decide) (by decide) dc_X9_up_25 ?_
    rintro v9 q_4 H locs rfl hP hD hS ⟨hI_4, hd_4⟩ hz hk9
    have hP : va_P G.1 kcl [(mo, .inr (5, [.int (j_1), .ref cs, .int (w.2.1), .int (w.2.2.1), .int (w.2.2.2.1)])), (cs, .inl (G.2.1 3, 6, .inr (.inr (.inr (.inr (f))))))] H := hP
    have hD : va_D A [(mo, .inr (5, [.int (j_1), .ref cs, .int (w.2.1), .int (w.2.2.1), .int (w.2.2.2.1)])), (cs, .inl (G.2.1 3, 6, .inr (.inr (.inr (.inr (f))))))] := hD
    have hI_3 := hI_3.fr hk9
    refine W.widen (k := 1) (n := 2) (Nat.le_refl _) (Nat.le_refl _) ?_
    have hIT := hIT.keep hz (fun q9 ho9 hl9 => hk9 q9 hl9 (ky_nemp hl9))
    have hk_4 := ho_3.or hm_4 hc_4 hN_4 hd_4
    refine ky_cVh (As := [.int (a2), .ref q_4]) (wr := []) F (hE.at hfr hS) hfr (mt_X9_give l G mo cs N (j_1, w.2.1, w.2.2.1, w.2.2.2.1, w.2.2.2.2) (f) (q_4) (fn_X8_up ((w.2.2.2.2) (a1).toNatClampNeg)) hk_4 (a2) H.size (lr_startB (hj_1.symm.trans c_2)).2) kv_X9_63 ⟨⟨rfl, rfl⟩, by decide, by decide⟩ rfl hl.1 rfl (Nat.le_of_ble_eq_true rfl) ⟨Nat.le_of_ble_eq_true rfl, Nat.le_of_ble_eq_true rfl⟩ (va_recv hE.1 hP (ci := 5) (q0 := 0) rfl rfl) ⟨hIT, hI_4⟩ hP hD hS hA [0, 1] [] rfl rfl (by decide) (by decide) (by decide) dc_X9_up_28 ?_
    rintro v9 ⟨w_5, f_5⟩ H locs ⟨rfl, hw_5⟩ hP hD hS hIT9 hz hk9
    have hw_5 : w_5 = (fn_X9_give (a2) (fn_X8_up ((w.2.2.2.2) (a1).toNatClampNeg)) (j_1, w.2.1, w.2.2.1, w.2.2.2.1, w.2.2.2.2)).2 := hw_5
    try rw [← hw_5] at hw
    have hP : va_P G.1 kcl [(mo, .inr (5, [.int ((w_5).1), .ref cs, .int ((w_5).2.1), .int ((w_5).2.2.1), .int ((w_5).2.2.2.1)])), (cs, .inl (G.2.1 3, 6, .inr (.inr (.inr (.inr (f_5))))))] H := hP
    have hD : va_D A [(mo, .inr (5, [.int ((w_5).1), .ref cs, .int ((w_5).2.1), .int ((w_5).2.2.1), .int ((w_5).2.2.2.1)])), (cs, .inl (G.2.1 3, 6, .inr (.inr (.inr (.inr (f_5))))))] := hD
    have hI_3 := hI_3.keep (hk9 _ hI_3.low (ky_nwc ho_3 hI_3.low))
    have hI_4 := hI_4.keep (hk9 _ hI_4.low (ky_nwc hk_4 hI_4.low))
    have hIT : ky_IT G mo cs N f_5 ((w_5).2.2.2.2) H := hIT9
    refine W.widen (k := 1) (n := 2) (Nat.le_refl _) (Nat.le_refl _) ?_
    have hP9 : va_P G.1 kcl (ky_WM G mo cs ((w_5)) (f_5)) H := hP.sub [0, 1] rfl
    have hD9 : va_D A (ky_WM G mo cs ((w_5)) (f_5)) := hD.sub [0, 1] (by decide) rfl
    refine W.widen (k := 1) (n := 2) (Nat.le_of_ble_eq_true rfl) (Nat.le_of_ble_eq_true rfl) ?_
    exact W.iret (v := (fn_X9_give (a2) (fn_X8_up ((w.2.2.2.2) (a1).toNatClampNeg)) (j_1, w.2.1, w.2.2.1, w.2.2.2.1, w.2.2.2.2)).1) hx hb hr (fun t ht hW => ⟨by rw [ht]; exact ky_endM (fun z => some (.int z)) ((fn_X9_give (a2) (fn_X8_up ((w.2.2.2.2) (a1).toNatClampNeg)) (j_1, w.2.1, w.2.2.1, w.2.2.2.1, w.2.2.2.2)).1) hw hP9 hD9 (hIT), hS.F ht⟩) hS.2.2 dc_X9_up_31
  · have hw := hw.trans (if_neg c_2)
    refine lv_iconst (v := 0) hx hb dc_X9_up_13 (by decide) ?_
    refine lv_goto (tgt := 31) hx hb dc_X9_up_14 (by decide) ?_
    have hP9 : va_P G.1 kcl (ky_WM G mo cs ((j_1, w.2.1, w.2.2.1, w.2.2.2.1, w.2.2.2.2)) (f)) H := hP.sub [0, 1] rfl
    have hD9 : va_D A (ky_WM G mo cs ((j_1, w.2.1, w.2.2.1, w.2.2.2.1, w.2.2.2.2)) (f)) := hD.sub [0, 1] (by decide) rfl
    refine W.widen (k := 1) (n := 2) (Nat.le_of_ble_eq_true rfl) (Nat.le_of_ble_eq_true rfl) ?_
    exact W.iret (v := (0 : Int32)) hx hb hr (fun t ht hW => ⟨by rw [ht]; exact ky_endM (fun z => some (.int z)) ((0 : Int32)) hw hP9 hD9 (hIT), hS.F ht⟩) hS.2.2 dc_X9_up_31
end
section
def fn_X9_down (a1 : Int32) (a2 : Int32)  (w : ky_MV) : Int32 × ky_MV :=
  if (jst (fn_X9_areNo (a1) (a2))) = (0 : Int32) then (((fn_X9_give (a2) (fn_X8_next ((1 : Int32)) ((w.2.2.2.2) (a1).toNatClampNeg)) (jst (fn_X9_areNo (a1) (a2)), w.2.1, w.2.2.1, w.2.2.2.1, w.2.2.2.2)).1, ((fn_X9_give (a2) (fn_X8_next ((1 : Int32)) ((w.2.2.2.2) (a1).toNatClampNeg)) (jst (fn_X9_areNo (a1) (a2)), w.2.1, w.2.2.1, w.2.2.2.1, w.2.2.2.2)).2))) else (((0 : Int32), (jst (fn_X9_areNo (a1) (a2)), w.2.1, w.2.2.1, w.2.2.2.1, w.2.2.2.2)))
set_option linter.constructorNameAsVariable false in
set_option maxHeartbeats 4000000 in
set_option maxRecDepth 100000 in
theorem mt_X9_down (l : Launch) (G : ky_G) (mo cs : Nat) (N : Nat → Prop) (w : ky_MV) (f : Nat → Option Nat)    (a1 : Int32) (a2 : Int32) (sz : Nat) : Met l my_X9_down (.code my_X9_down prog_10_method_30_code 3 (some .int) :: ky_B) { frames := 6, cells := 3, slots := 6, locals := 127 } (ky_P G [.ref mo, .int (a1), .int (a2)] (ky_WM G mo cs w f) sz (fun H => ky_IT G mo cs N f w.2.2.2.2 H)) (ky_Q (S := ky_MV × (Nat → Option Nat)) G (va_A (ky_WM G mo cs w f) sz) (fun v u => v = some (.int (fn_X9_down a1 a2 w).1) ∧ u.1 = (fn_X9_down a1 a2 w).2) (fun u => ky_WM G mo cs u.1 u.2) (fun u H => ky_IT G mo cs N u.2 u.1.2.2.2.2 H)) 3 6 (va_A (ky_WM G mo cs w f) sz) := by
  refine ky_start (by decide) (Nat.le_of_ble_eq_true rfl) (fun p e s m below meth c F hE A hAe hsz hA hfr hP hD hS hX ls hl => ?_)
  obtain ⟨hx, hb, hml, hown, hr, hlocks, hts⟩ := id F
  have hIT0 := hX
  have hIT := hIT0
  have hl : lv_has ls 3 [(0, .ref mo), (1, .int (a1)), (2, .int (a2))] := hl
  have hP : va_P G.1 kcl [(mo, .inr (5, [.int (w.1), .ref cs, .int (w.2.1), .int (w.2.2.1), .int (w.2.2.2.1)])), (cs, .inl (G.2.1 3, 6, .inr (.inr (.inr (.inr (f))))))] s.heap := hP
  have hD : va_D A [(mo, .inr (5, [.int (w.1), .ref cs, .int (w.2.1), .int (w.2.2.1), .int (w.2.2.2.1)])), (cs, .inl (G.2.1 3, 6, .inr (.inr (.inr (.inr (f))))))] := hD
  have hw : fn_X9_down a1 a2 w = _ := fn_X9_down.eq_1 a1 a2 w
  refine lv_aload_n hx hb dc_X9_down_0 rfl (lv_at hl 0 rfl) ?_
  refine lv_aload_n hx hb dc_X9_down_1 rfl (lv_at hl 0 rfl) ?_
  refine lv_iload_n hx hb dc_X9_down_2 rfl (lv_at hl 1 rfl) ?_
  refine lv_iload_n hx hb dc_X9_down_3 rfl (lv_at hl 2 rfl) ?_
  refine ky_cV1 (As := [.int (a1), .int (a2)]) F (hE.at hfr hS) (mt_X9_areNo l G (mo) (a1) (a2)) kv_X9_104 ⟨⟨rfl, rfl⟩, by decide, by decide⟩ rfl hl.1 rfl (Nat.le_of_ble_eq_true rfl) ⟨Nat.le_of_ble_eq_true rfl, Nat.le_of_ble_eq_true rfl⟩ (va_recv hE.1 hP (ci := 5) (q0 := 0) rfl rfl) trivial dc_X9_down_4 ?_
  refine ky_cVh (As := [.int (fn_X9_areNo (a1) (a2))]) (wr := []) F (hE.at hfr hS) hfr (mt_X9_startJ l G (mo) (cs) ((w.1, w.2.1, w.2.2.1, w.2.2.2.1)) (f) (fn_X9_areNo (a1) (a2)) s.heap.size ) kv_X9_55 ⟨⟨rfl, rfl⟩, by decide, by decide⟩ rfl hl.1 rfl (Nat.le_of_ble_eq_true rfl) ⟨Nat.le_of_ble_eq_true rfl, Nat.le_of_ble_eq_true rfl⟩ (va_recv hE.1 hP (ci := 5) (q0 := 0) rfl rfl) trivial hP hD hS hA [0, 1] [] rfl rfl (by decide) (by decide) (by decide) dc_X9_down_7 ?_
  rintro v9 u9 H locs ⟨rfl, rfl⟩ hP hD hS - hz hk9
  obtain ⟨j_1, hj_1⟩ : ∃ j9, j9 = jst (fn_X9_areNo (a1) (a2)) := ⟨_, rfl⟩
  rw [← hj_1] at hP hD ⊢
  try rw [← hj_1] at hw
  have hP : va_P G.1 kcl [(mo, .inr (5, [.int (j_1), .ref cs, .int (w.2.1), .int (w.2.2.1), .int (w.2.2.2.1)])), (cs, .inl (G.2.1 3, 6, .inr (.inr (.inr (.inr (f))))))] H := hP
  have hD : va_D A [(mo, .inr (5, [.int (j_1), .ref cs, .int (w.2.1), .int (w.2.2.1), .int (w.2.2.2.1)])), (cs, .inl (G.2.1 3, 6, .inr (.inr (.inr (.inr (f))))))] := hD
  have hIT := hIT0.ro hAe hS
  refine W.widen (k := 0) (n := 0) (Nat.le_refl _) (Nat.le_refl _) ?_
  refine lv_if_eq (tgt := 17) hx hb dc_X9_down_10 (by decide) (fun c_2 => ?_) (fun c_2 => ?_)
  · have hw := hw.trans (if_pos c_2)
    refine lv_aload_n hx hb dc_X9_down_17 rfl (lv_at hl 0 rfl) ?_
    refine lv_iload_n hx hb dc_X9_down_18 rfl (lv_at hl 2 rfl) ?_
    refine lv_aload_n hx hb dc_X9_down_19 rfl (lv_at hl 0 rfl) ?_
    refine va_get (D := G.1) (ci := 5) (v := .ref cs) (C := RX9) (T := TX9) (N := 5) hx hb hts ki_X9 hown hE.1 hP 0 rfl rfl 1 (by decide) (hts _ kw_6_20) (fun _ h9 => h9) rfl dc_X9_down_20 ?_
    refine lv_iload_n hx hb dc_X9_down_23 rfl (lv_at hl 1 rfl) ?_
    refine va_aldq hx hb hE.1 hP 1 3 rfl rfl (lr_startB (hj_1.symm.trans c_2)).1 dc_X9_down_24 ?_
    obtain ⟨b_3, hb_3, hI_3, ho_3⟩ := hIT.2 _ (ky_i6 (lr_startB (hj_1.symm.trans c_2)).1)
    rw [ky_rf hb_3]
    have hX_3 : ky_It G b_3 ((w.2.2.2.2) (a1).toNatClampNeg) s.heap := by obtain ⟨b9, e9, i9, -⟩ := hIT0.2 _ (ky_i6 (lr_startB (hj_1.symm.trans c_2)).1); have z9 : b9 = b_3 := Option.some.inj (e9.symm.trans hb_3); exact z9 ▸ i9
    refine lv_iconst (v := 1) hx hb dc_X9_down_25 (by decide) ?_
    have hm_4 := (hP 0 _ rfl).lt
    have hc_4 := (hP 1 _ rfl).lt
    have hN_4 := hIT.1
    have hs_4 := hS.1
    refine ky_cVh (As := [.int ((1 : Int32))]) (wr := [(mo, .inr (5, [.int (j_1), .ref cs, .int (w.2.1), .int (w.2.2.1), .int (w.2.2.2.1)])), (cs, .inl (G.2.1 3, 6, .inr (.inr (.inr (.inr (f))))))]) F (hE.at hfr hS) hfr (mt_X8_next l G (b_3) ((w.2.2.2.2) (a1).toNatClampNeg) ((1 : Int32)) H.size) kv_X9_130 ⟨⟨rfl, rfl⟩, by decide, by decide⟩ rfl hl.1 rfl (Nat.le_of_ble_eq_true rfl) ⟨Nat.le_of_ble_eq_true rfl, Nat.le_of_ble_eq_true rfl⟩ (va_recv hE.1 hI_3 (ci := 4) (q0 := 0) rfl rfl) hI_3 hP hD hS hA [] [0, 1] rfl rfl (by decide) (by decide) (by decide) dc_X9_down_26 ?_
    rintro v9 q_4 H locs rfl hP hD hS ⟨hI_4, hd_4⟩ hz hk9
    have hP : va_P G.1 kcl [(mo, .inr (5, [.int (j_1), .ref cs, .int (w.2.1), .int (w.2.2.1), .int (w.2.2.2.1)])), (cs, .inl (G.2.1 3, 6, .inr (.inr (.inr (.inr (f))))))] H := hP
    have hD : va_D A [(mo, .inr (5, [.int (j_1), .ref cs, .int (w.2.1), .int (w.2.2.1), .int (w.2.2.2.1)])), (cs, .inl (G.2.1 3, 6, .inr (.inr (.inr (.inr (f))))))] := hD
    have hI_3 := hI_3.fr hk9
    refine W.widen (k := 3) (n := 6) (Nat.le_refl _) (Nat.le_refl _) ?_
    have hIT := hIT.keep hz (fun q9 ho9 hl9 => hk9 q9 hl9 (ky_nemp hl9))
    have hk_4 := ho_3.or hm_4 hc_4 hN_4 hd_4
    refine ky_cVh (As := [.int (a2), .ref q_4]) (wr := []) F (hE.at hfr hS) hfr (mt_X9_give l G mo cs N (j_1, w.2.1, w.2.2.1, w.2.2.2.1, w.2.2.2.2) (f) (q_4) (fn_X8_next ((1 : Int32)) ((w.2.2.2.2) (a1).toNatClampNeg)) hk_4 (a2) H.size (lr_startB (hj_1.symm.trans c_2)).2) kv_X9_63 ⟨⟨rfl, rfl⟩, by decide, by decide⟩ rfl hl.1 rfl (Nat.le_of_ble_eq_true rfl) ⟨Nat.le_of_ble_eq_true rfl, Nat.le_of_ble_eq_true rfl⟩ (va_recv hE.1 hP (ci := 5) (q0 := 0) rfl rfl) ⟨hIT, hI_4⟩ hP hD hS hA [0, 1] [] rfl rfl (by decide) (by decide) (by decide) dc_X9_down_29 ?_
    rintro v9 ⟨w_5, f_5⟩ H locs ⟨rfl, hw_5⟩ hP hD hS hIT9 hz hk9
    have hw_5 : w_5 = (fn_X9_give (a2) (fn_X8_next ((1 : Int32)) ((w.2.2.2.2) (a1).toNatClampNeg)) (j_1, w.2.1, w.2.2.1, w.2.2.2.1, w.2.2.2.2)).2 := hw_5
    try rw [← hw_5] at hw
    have hP : va_P G.1 kcl [(mo, .inr (5, [.int ((w_5).1), .ref cs, .int ((w_5).2.1), .int ((w_5).2.2.1), .int ((w_5).2.2.2.1)])), (cs, .inl (G.2.1 3, 6, .inr (.inr (.inr (.inr (f_5))))))] H := hP
    have hD : va_D A [(mo, .inr (5, [.int ((w_5).1), .ref cs, .int ((w_5).2.1), .int ((w_5).2.2.1), .int ((w_5).2.2.2.1)])), (cs, .inl (G.2.1 3, 6, .inr (.inr (.inr (.inr (f_5))))))] := hD
    have hI_3 := hI_3.keep (hk9 _ hI_3.low (ky_nwc ho_3 hI_3.low))
    have hI_4 := hI_4.keep (hk9 _ hI_4.low (ky_nwc hk_4 hI_4.low))
    have hIT : ky_IT G mo cs N f_5 ((w_5).2.2.2.2) H := hIT9
    refine W.widen (k := 3) (n := 6) (Nat.le_refl _) (Nat.le_refl _) ?_
    have hP9 : va_P G.1 kcl (ky_WM G mo cs ((w_5)) (f_5)) H := hP.sub [0, 1] rfl
    have hD9 : va_D A (ky_WM G mo cs ((w_5)) (f_5)) := hD.sub [0, 1] (by decide) rfl
    refine W.widen (k := 3) (n := 6) (Nat.le_of_ble_eq_true rfl) (Nat.le_of_ble_eq_true rfl) ?_
    exact W.iret (v := (fn_X9_give (a2) (fn_X8_next ((1 : Int32)) ((w.2.2.2.2) (a1).toNatClampNeg)) (j_1, w.2.1, w.2.2.1, w.2.2.2.1, w.2.2.2.2)).1) hx hb hr (fun t ht hW => ⟨by rw [ht]; exact ky_endM (fun z => some (.int z)) ((fn_X9_give (a2) (fn_X8_next ((1 : Int32)) ((w.2.2.2.2) (a1).toNatClampNeg)) (j_1, w.2.1, w.2.2.1, w.2.2.2.1, w.2.2.2.2)).1) hw hP9 hD9 (hIT), hS.F ht⟩) hS.2.2 dc_X9_down_32
  · have hw := hw.trans (if_neg c_2)
    refine lv_iconst (v := 0) hx hb dc_X9_down_13 (by decide) ?_
    refine lv_goto (tgt := 32) hx hb dc_X9_down_14 (by decide) ?_
    have hP9 : va_P G.1 kcl (ky_WM G mo cs ((j_1, w.2.1, w.2.2.1, w.2.2.2.1, w.2.2.2.2)) (f)) H := hP.sub [0, 1] rfl
    have hD9 : va_D A (ky_WM G mo cs ((j_1, w.2.1, w.2.2.1, w.2.2.2.1, w.2.2.2.2)) (f)) := hD.sub [0, 1] (by decide) rfl
    refine W.widen (k := 3) (n := 6) (Nat.le_of_ble_eq_true rfl) (Nat.le_of_ble_eq_true rfl) ?_
    exact W.iret (v := (0 : Int32)) hx hb hr (fun t ht hW => ⟨by rw [ht]; exact ky_endM (fun z => some (.int z)) ((0 : Int32)) hw hP9 hD9 (hIT), hS.F ht⟩) hS.2.2 dc_X9_down_32
end
section
def fn_X9_side (a1 : Int32) (a2 : Int32) (a3 : Int32)  (w : ky_MV) : Int32 × ky_MV :=
  if (fn_X9_areNo (a1) (a2)) = (0 : Int32) then (if (fn_X9_isNo (a3)) = (0 : Int32) then (((fn_X9_give (a3) (((w.2.2.2.2) (a2).toNatClampNeg).1, ((w.2.2.2.2) (a1).toNatClampNeg).2) (jst ((0 : Int32)), w.2.1, w.2.2.1, w.2.2.2.1, w.2.2.2.2)).1, ((fn_X9_give (a3) (((w.2.2.2.2) (a2).toNatClampNeg).1, ((w.2.2.2.2) (a1).toNatClampNeg).2) (jst ((0 : Int32)), w.2.1, w.2.2.1, w.2.2.2.1, w.2.2.2.2)).2))) else (((0 : Int32), (jst ((1 : Int32)), w.2.1, w.2.2.1, w.2.2.2.1, w.2.2.2.2)))) else (((0 : Int32), (jst ((1 : Int32)), w.2.1, w.2.2.1, w.2.2.2.1, w.2.2.2.2)))
set_option linter.constructorNameAsVariable false in
set_option maxHeartbeats 4000000 in
set_option maxRecDepth 100000 in
theorem mt_X9_side (l : Launch) (G : ky_G) (mo cs : Nat) (N : Nat → Prop) (w : ky_MV) (f : Nat → Option Nat)    (a1 : Int32) (a2 : Int32) (a3 : Int32) (sz : Nat) : Met l my_X9_side (.code my_X9_side prog_10_method_34_code 4 (some .int) :: ky_B) { frames := 6, cells := 1, slots := 2, locals := 127 } (ky_P G [.ref mo, .int (a1), .int (a2), .int (a3)] (ky_WM G mo cs w f) sz (fun H => ky_IT G mo cs N f w.2.2.2.2 H)) (ky_Q (S := ky_MV × (Nat → Option Nat)) G (va_A (ky_WM G mo cs w f) sz) (fun v u => v = some (.int (fn_X9_side a1 a2 a3 w).1) ∧ u.1 = (fn_X9_side a1 a2 a3 w).2) (fun u => ky_WM G mo cs u.1 u.2) (fun u H => ky_IT G mo cs N u.2 u.1.2.2.2.2 H)) 1 2 (va_A (ky_WM G mo cs w f) sz) := by
  refine ky_start (by decide) (Nat.le_of_ble_eq_true rfl) (fun p e s m below meth c F hE A hAe hsz hA hfr hP hD hS hX ls hl => ?_)
  obtain ⟨hx, hb, hml, hown, hr, hlocks, hts⟩ := id F
  have hIT0 := hX
  have hIT := hIT0
  have hl : lv_has ls 4 [(0, .ref mo), (1, .int (a1)), (2, .int (a2)), (3, .int (a3))] := hl
  have hP : va_P G.1 kcl [(mo, .inr (5, [.int (w.1), .ref cs, .int (w.2.1), .int (w.2.2.1), .int (w.2.2.2.1)])), (cs, .inl (G.2.1 3, 6, .inr (.inr (.inr (.inr (f))))))] s.heap := hP
  have hD : va_D A [(mo, .inr (5, [.int (w.1), .ref cs, .int (w.2.1), .int (w.2.2.1), .int (w.2.2.2.1)])), (cs, .inl (G.2.1 3, 6, .inr (.inr (.inr (.inr (f))))))] := hD
  have hw : fn_X9_side a1 a2 a3 w = _ := fn_X9_side.eq_1 a1 a2 a3 w
  refine lv_aload_n hx hb dc_X9_side_0 rfl (lv_at hl 0 rfl) ?_
  refine lv_aload_n hx hb dc_X9_side_1 rfl (lv_at hl 0 rfl) ?_
  refine lv_iload_n hx hb dc_X9_side_2 rfl (lv_at hl 1 rfl) ?_
  refine lv_iload_n hx hb dc_X9_side_3 rfl (lv_at hl 2 rfl) ?_
  refine ky_cV1 (As := [.int (a1), .int (a2)]) F (hE.at hfr hS) (mt_X9_areNo l G (mo) (a1) (a2)) kv_X9_104 ⟨⟨rfl, rfl⟩, by decide, by decide⟩ rfl hl.1 rfl (Nat.le_of_ble_eq_true rfl) ⟨Nat.le_of_ble_eq_true rfl, Nat.le_of_ble_eq_true rfl⟩ (va_recv hE.1 hP (ci := 5) (q0 := 0) rfl rfl) trivial dc_X9_side_4 ?_
  refine lv_if_ne (tgt := 17) hx hb dc_X9_side_7 (by decide) (fun c_0 => ?_) (fun c_0 => ?_)
  · have hw := hw.trans (if_neg c_0)
    refine lv_iconst (v := 1) hx hb dc_X9_side_17 (by decide) ?_
    refine lv_goto (tgt := 22) hx hb dc_X9_side_18 (by decide) ?_
    refine ky_cVh (As := [.int ((1 : Int32))]) (wr := []) F (hE.at hfr hS) hfr (mt_X9_startJ l G (mo) (cs) ((w.1, w.2.1, w.2.2.1, w.2.2.2.1)) (f) ((1 : Int32)) s.heap.size ) kv_X9_55 ⟨⟨rfl, rfl⟩, by decide, by decide⟩ rfl hl.1 rfl (Nat.le_of_ble_eq_true rfl) ⟨Nat.le_of_ble_eq_true rfl, Nat.le_of_ble_eq_true rfl⟩ (va_recv hE.1 hP (ci := 5) (q0 := 0) rfl rfl) trivial hP hD hS hA [0, 1] [] rfl rfl (by decide) (by decide) (by decide) dc_X9_side_22 ?_
    rintro v9 u9 H locs ⟨rfl, rfl⟩ hP hD hS - hz hk9
    have hP : va_P G.1 kcl [(mo, .inr (5, [.int (jst ((1 : Int32))), .ref cs, .int (w.2.1), .int (w.2.2.1), .int (w.2.2.2.1)])), (cs, .inl (G.2.1 3, 6, .inr (.inr (.inr (.inr (f))))))] H := hP
    have hD : va_D A [(mo, .inr (5, [.int (jst ((1 : Int32))), .ref cs, .int (w.2.1), .int (w.2.2.1), .int (w.2.2.2.1)])), (cs, .inl (G.2.1 3, 6, .inr (.inr (.inr (.inr (f))))))] := hD
    have hIT := hIT0.ro hAe hS
    refine W.widen (k := 0) (n := 0) (Nat.le_refl _) (Nat.le_refl _) ?_
    refine lv_if_eq (tgt := 32) hx hb dc_X9_side_25 (by decide) (fun c_2 => absurd c_2 (by decide)) (fun _ => ?_)
    refine lv_iconst (v := 0) hx hb dc_X9_side_28 (by decide) ?_
    refine lv_goto (tgt := 62) hx hb dc_X9_side_29 (by decide) ?_
    have hP9 : va_P G.1 kcl (ky_WM G mo cs ((jst ((1 : Int32)), w.2.1, w.2.2.1, w.2.2.2.1, w.2.2.2.2)) (f)) H := hP.sub [0, 1] rfl
    have hD9 : va_D A (ky_WM G mo cs ((jst ((1 : Int32)), w.2.1, w.2.2.1, w.2.2.2.1, w.2.2.2.2)) (f)) := hD.sub [0, 1] (by decide) rfl
    refine W.widen (k := 1) (n := 2) (Nat.le_of_ble_eq_true rfl) (Nat.le_of_ble_eq_true rfl) ?_
    exact W.iret (v := (0 : Int32)) hx hb hr (fun t ht hW => ⟨by rw [ht]; exact ky_endM (fun z => some (.int z)) ((0 : Int32)) hw hP9 hD9 (hIT), hS.F ht⟩) hS.2.2 dc_X9_side_62
  · have hw := hw.trans (if_pos c_0)
    refine lv_iload_n hx hb dc_X9_side_10 rfl (lv_at hl 3 rfl) ?_
    refine ky_cS0 (As := [.int (a3)]) F (mt_X9_isNo l (a3)) ks_X9_51 ⟨⟨rfl, rfl⟩, by decide, by decide⟩ rfl hl.1 rfl (Nat.le_of_ble_eq_true rfl) ⟨Nat.le_of_ble_eq_true rfl, Nat.le_of_ble_eq_true rfl⟩ dc_X9_side_11 ?_
    refine lv_if_eq (tgt := 21) hx hb dc_X9_side_14 (by decide) (fun c_1 => ?_) (fun c_1 => ?_)
    · have hw := hw.trans (if_pos c_1)
      refine lv_iconst (v := 0) hx hb dc_X9_side_21 (by decide) ?_
      refine ky_cVh (As := [.int ((0 : Int32))]) (wr := []) F (hE.at hfr hS) hfr (mt_X9_startJ l G (mo) (cs) ((w.1, w.2.1, w.2.2.1, w.2.2.2.1)) (f) ((0 : Int32)) s.heap.size ) kv_X9_55 ⟨⟨rfl, rfl⟩, by decide, by decide⟩ rfl hl.1 rfl (Nat.le_of_ble_eq_true rfl) ⟨Nat.le_of_ble_eq_true rfl, Nat.le_of_ble_eq_true rfl⟩ (va_recv hE.1 hP (ci := 5) (q0 := 0) rfl rfl) trivial hP hD hS hA [0, 1] [] rfl rfl (by decide) (by decide) (by decide) dc_X9_side_22 ?_
      rintro v9 u9 H locs ⟨rfl, rfl⟩ hP hD hS - hz hk9
      have hP : va_P G.1 kcl [(mo, .inr (5, [.int (jst ((0 : Int32))), .ref cs, .int (w.2.1), .int (w.2.2.1), .int (w.2.2.2.1)])), (cs, .inl (G.2.1 3, 6, .inr (.inr (.inr (.inr (f))))))] H := hP
      have hD : va_D A [(mo, .inr (5, [.int (jst ((0 : Int32))), .ref cs, .int (w.2.1), .int (w.2.2.1), .int (w.2.2.2.1)])), (cs, .inl (G.2.1 3, 6, .inr (.inr (.inr (.inr (f))))))] := hD
      have hIT := hIT0.ro hAe hS
      refine W.widen (k := 0) (n := 0) (Nat.le_refl _) (Nat.le_refl _) ?_
      refine lv_if_eq (tgt := 32) hx hb dc_X9_side_25 (by decide) (fun _ => ?_) (fun c_3 => absurd c_3 (by decide))
      refine lv_aload_n hx hb dc_X9_side_32 rfl (lv_at hl 0 rfl) ?_
      refine lv_iload_n hx hb dc_X9_side_33 rfl (lv_at hl 3 rfl) ?_
      refine va_new (ci := 4) (fs := [.int (0), .long (0)]) (C := RX8) (T := TX8) (N := 2) hx hb hts ki_X8 tyX8 tyX8_ok hown (hts _ kw_6_3) (hts _ kw_6_5) (hts _ kw_1_9) hE.1 hP hD hS hA rfl (fun j hj => by rcases (show j = 0 ∨ j = 1 by omega) with rfl | rfl <;> rfl) (Nat.le_of_ble_eq_true rfl) (Nat.le_of_ble_eq_true rfl) dc_X9_side_34 (fun q_4 H hP hD hS => ?_)
      have hP : va_P G.1 kcl [(mo, .inr (5, [.int (jst ((0 : Int32))), .ref cs, .int (w.2.1), .int (w.2.2.1), .int (w.2.2.2.1)])), (cs, .inl (G.2.1 3, 6, .inr (.inr (.inr (.inr (f)))))), (q_4, .inr (4, [.int (0), .long (0)]))] H := hP
      have hD : va_D A [(mo, .inr (5, [.int (jst ((0 : Int32))), .ref cs, .int (w.2.1), .int (w.2.2.1), .int (w.2.2.2.1)])), (cs, .inl (G.2.1 3, 6, .inr (.inr (.inr (.inr (f)))))), (q_4, .inr (4, [.int (0), .long (0)]))] := hD
      have hIT := hIT0.ro hAe hS
      refine W.widen (k := 1) (n := 2) (Nat.le_refl _) (Nat.le_refl _) ?_
      refine lv_dup hx hb dc_X9_side_37 rfl ?_
      refine lv_aload_n hx hb dc_X9_side_38 rfl (lv_at hl 0 rfl) ?_
      refine va_get (D := G.1) (ci := 5) (v := .ref cs) (C := RX9) (T := TX9) (N := 5) hx hb hts ki_X9 hown hE.1 hP 0 rfl rfl 1 (by decide) (hts _ kw_6_20) (fun _ h9 => h9) rfl dc_X9_side_39 ?_
      refine lv_iload_n hx hb dc_X9_side_42 rfl (lv_at hl 2 rfl) ?_
      refine va_aldq hx hb hE.1 hP 1 3 rfl rfl (lr_areNo c_0).2 dc_X9_side_43 ?_
      obtain ⟨b_5, hb_5, hI_5, ho_5⟩ := hIT.2 _ (ky_i6 (lr_areNo c_0).2)
      rw [ky_rf hb_5]
      have hX_5 : ky_It G b_5 ((w.2.2.2.2) (a2).toNatClampNeg) s.heap := by obtain ⟨b9, e9, i9, -⟩ := hIT0.2 _ (ky_i6 (lr_areNo c_0).2); have z9 : b9 = b_5 := Option.some.inj (e9.symm.trans hb_5); exact z9 ▸ i9
      refine va_get (D := G.1) (ci := 4) (v := .int (((w.2.2.2.2) (a2).toNatClampNeg).1)) (C := RX8) (T := TX8) (N := 2) hx hb hts ki_X8 hown hE.1 hI_5 0 rfl rfl 0 (by decide) (hts _ kw_6_11) (fun _ h9 => h9) rfl dc_X9_side_44 ?_
      refine lv_aload_n hx hb dc_X9_side_47 rfl (lv_at hl 0 rfl) ?_
      refine va_get (D := G.1) (ci := 5) (v := .ref cs) (C := RX9) (T := TX9) (N := 5) hx hb hts ki_X9 hown hE.1 hP 0 rfl rfl 1 (by decide) (hts _ kw_6_20) (fun _ h9 => h9) rfl dc_X9_side_48 ?_
      refine lv_iload_n hx hb dc_X9_side_51 rfl (lv_at hl 1 rfl) ?_
      refine va_aldq hx hb hE.1 hP 1 3 rfl rfl (lr_areNo c_0).1 dc_X9_side_52 ?_
      obtain ⟨b_6, hb_6, hI_6, ho_6⟩ := hIT.2 _ (ky_i6 (lr_areNo c_0).1)
      rw [ky_rf hb_6]
      have hX_6 : ky_It G b_6 ((w.2.2.2.2) (a1).toNatClampNeg) s.heap := by obtain ⟨b9, e9, i9, -⟩ := hIT0.2 _ (ky_i6 (lr_areNo c_0).1); have z9 : b9 = b_6 := Option.some.inj (e9.symm.trans hb_6); exact z9 ▸ i9
      refine va_get (D := G.1) (ci := 4) (v := .long (((w.2.2.2.2) (a1).toNatClampNeg).2)) (C := RX8) (T := TX8) (N := 2) hx hb hts ki_X8 hown hE.1 hI_6 0 rfl rfl 1 (by decide) (hts _ kw_6_13) (fun _ h9 => h9) rfl dc_X9_side_53 ?_
      refine ky_cIh (As := [.int (((w.2.2.2.2) (a2).toNatClampNeg).1), .long (((w.2.2.2.2) (a1).toNatClampNeg).2)]) (wr := [(mo, .inr (5, [.int (jst ((0 : Int32))), .ref cs, .int (w.2.1), .int (w.2.2.1), .int (w.2.2.2.1)])), (cs, .inl (G.2.1 3, 6, .inr (.inr (.inr (.inr (f))))))]) F (hE.at hfr hS) hfr (mt_X8_init l G (q_4) (((w.2.2.2.2) (a2).toNatClampNeg).1) (((w.2.2.2.2) (a1).toNatClampNeg).2) H.size ) kI_X9_29 ⟨⟨rfl, rfl⟩, by decide, by decide⟩ rfl hl.1 rfl (Nat.le_of_ble_eq_true rfl) ⟨Nat.le_of_ble_eq_true rfl, Nat.le_of_ble_eq_true rfl⟩ trivial hP hD hS hA [2] [0, 1] rfl rfl (by decide) (by decide) (by decide) dc_X9_side_56 ?_
      rintro v9 u9 H locs ⟨rfl, rfl⟩ hP hD hS - hz hk9
      have hP : va_P G.1 kcl [(mo, .inr (5, [.int (jst ((0 : Int32))), .ref cs, .int (w.2.1), .int (w.2.2.1), .int (w.2.2.2.1)])), (cs, .inl (G.2.1 3, 6, .inr (.inr (.inr (.inr (f)))))), (q_4, .inr (4, [.int (((w.2.2.2.2) (a2).toNatClampNeg).1), .long (((w.2.2.2.2) (a1).toNatClampNeg).2)]))] H := hP
      have hD : va_D A [(mo, .inr (5, [.int (jst ((0 : Int32))), .ref cs, .int (w.2.1), .int (w.2.2.1), .int (w.2.2.2.1)])), (cs, .inl (G.2.1 3, 6, .inr (.inr (.inr (.inr (f)))))), (q_4, .inr (4, [.int (((w.2.2.2.2) (a2).toNatClampNeg).1), .long (((w.2.2.2.2) (a1).toNatClampNeg).2)]))] := hD
      have hIT := hIT0.ro hAe hS
      have hI_5 := ky_ro2 hX_5 ho_5 hAe hS
      have hI_6 := ky_ro2 hX_6 ho_6 hAe hS
      refine W.widen (k := 1) (n := 2) (Nat.le_refl _) (Nat.le_refl _) ?_
      have hJ_8 : ky_It G q_4 ((((w.2.2.2.2) (a2).toNatClampNeg).1, ((w.2.2.2.2) (a1).toNatClampNeg).2)) H := ky_itp (hP.sub (ws' := [(q_4, .inr (4, [.int (((w.2.2.2.2) (a2).toNatClampNeg).1), .long (((w.2.2.2.2) (a1).toNatClampNeg).2)]))]) [2] rfl)
      have hk_8 : ky_ok mo cs N q_4 := ky_ok.own hAe hIT0.1 hD 0 1 2 rfl rfl rfl (by decide) (by decide)
      refine ky_cVh (As := [.int (a3), .ref q_4]) (wr := [(q_4, .inr (4, [.int (((w.2.2.2.2) (a2).toNatClampNeg).1), .long (((w.2.2.2.2) (a1).toNatClampNeg).2)]))]) F (hE.at hfr hS) hfr (mt_X9_give l G mo cs N (jst ((0 : Int32)), w.2.1, w.2.2.1, w.2.2.2.1, w.2.2.2.2) (f) (q_4) (((w.2.2.2.2) (a2).toNatClampNeg).1, ((w.2.2.2.2) (a1).toNatClampNeg).2) hk_8 (a3) H.size (lr_isNo c_1)) kv_X9_63 ⟨⟨rfl, rfl⟩, by decide, by decide⟩ rfl hl.1 rfl (Nat.le_of_ble_eq_true rfl) ⟨Nat.le_of_ble_eq_true rfl, Nat.le_of_ble_eq_true rfl⟩ (va_recv hE.1 hP (ci := 5) (q0 := 0) rfl rfl) ⟨hIT, hJ_8⟩ hP hD hS hA [0, 1] [2] rfl rfl (by decide) (by decide) (by decide) dc_X9_side_59 ?_
      rintro v9 ⟨w_9, f_9⟩ H locs ⟨rfl, hw_9⟩ hP hD hS hIT9 hz hk9
      have hw_9 : w_9 = (fn_X9_give (a3) (((w.2.2.2.2) (a2).toNatClampNeg).1, ((w.2.2.2.2) (a1).toNatClampNeg).2) (jst ((0 : Int32)), w.2.1, w.2.2.1, w.2.2.2.1, w.2.2.2.2)).2 := hw_9
      try rw [← hw_9] at hw
      have hP : va_P G.1 kcl [(q_4, .inr (4, [.int (((w.2.2.2.2) (a2).toNatClampNeg).1), .long (((w.2.2.2.2) (a1).toNatClampNeg).2)])), (mo, .inr (5, [.int ((w_9).1), .ref cs, .int ((w_9).2.1), .int ((w_9).2.2.1), .int ((w_9).2.2.2.1)])), (cs, .inl (G.2.1 3, 6, .inr (.inr (.inr (.inr (f_9))))))] H := hP
      have hD : va_D A [(q_4, .inr (4, [.int (((w.2.2.2.2) (a2).toNatClampNeg).1), .long (((w.2.2.2.2) (a1).toNatClampNeg).2)])), (mo, .inr (5, [.int ((w_9).1), .ref cs, .int ((w_9).2.1), .int ((w_9).2.2.1), .int ((w_9).2.2.2.1)])), (cs, .inl (G.2.1 3, 6, .inr (.inr (.inr (.inr (f_9))))))] := hD
      have hI_5 := hI_5.keep (hk9 _ hI_5.low (ky_nwc ho_5 hI_5.low))
      have hI_6 := hI_6.keep (hk9 _ hI_6.low (ky_nwc ho_6 hI_6.low))
      have hIT : ky_IT G mo cs N f_9 ((w_9).2.2.2.2) H := hIT9
      refine W.widen (k := 1) (n := 2) (Nat.le_refl _) (Nat.le_refl _) ?_
      have hP9 : va_P G.1 kcl (ky_WM G mo cs ((w_9)) (f_9)) H := hP.sub [1, 2] rfl
      have hD9 : va_D A (ky_WM G mo cs ((w_9)) (f_9)) := hD.sub [1, 2] (by decide) rfl
      refine W.widen (k := 1) (n := 2) (Nat.le_of_ble_eq_true rfl) (Nat.le_of_ble_eq_true rfl) ?_
      exact W.iret (v := (fn_X9_give (a3) (((w.2.2.2.2) (a2).toNatClampNeg).1, ((w.2.2.2.2) (a1).toNatClampNeg).2) (jst ((0 : Int32)), w.2.1, w.2.2.1, w.2.2.2.1, w.2.2.2.2)).1) hx hb hr (fun t ht hW => ⟨by rw [ht]; exact ky_endM (fun z => some (.int z)) ((fn_X9_give (a3) (((w.2.2.2.2) (a2).toNatClampNeg).1, ((w.2.2.2.2) (a1).toNatClampNeg).2) (jst ((0 : Int32)), w.2.1, w.2.2.1, w.2.2.2.1, w.2.2.2.2)).1) hw hP9 hD9 (hIT), hS.F ht⟩) hS.2.2 dc_X9_side_62
    · have hw := hw.trans (if_neg c_1)
      refine lv_iconst (v := 1) hx hb dc_X9_side_17 (by decide) ?_
      refine lv_goto (tgt := 22) hx hb dc_X9_side_18 (by decide) ?_
      refine ky_cVh (As := [.int ((1 : Int32))]) (wr := []) F (hE.at hfr hS) hfr (mt_X9_startJ l G (mo) (cs) ((w.1, w.2.1, w.2.2.1, w.2.2.2.1)) (f) ((1 : Int32)) s.heap.size ) kv_X9_55 ⟨⟨rfl, rfl⟩, by decide, by decide⟩ rfl hl.1 rfl (Nat.le_of_ble_eq_true rfl) ⟨Nat.le_of_ble_eq_true rfl, Nat.le_of_ble_eq_true rfl⟩ (va_recv hE.1 hP (ci := 5) (q0 := 0) rfl rfl) trivial hP hD hS hA [0, 1] [] rfl rfl (by decide) (by decide) (by decide) dc_X9_side_22 ?_
      rintro v9 u9 H locs ⟨rfl, rfl⟩ hP hD hS - hz hk9
      have hP : va_P G.1 kcl [(mo, .inr (5, [.int (jst ((1 : Int32))), .ref cs, .int (w.2.1), .int (w.2.2.1), .int (w.2.2.2.1)])), (cs, .inl (G.2.1 3, 6, .inr (.inr (.inr (.inr (f))))))] H := hP
      have hD : va_D A [(mo, .inr (5, [.int (jst ((1 : Int32))), .ref cs, .int (w.2.1), .int (w.2.2.1), .int (w.2.2.2.1)])), (cs, .inl (G.2.1 3, 6, .inr (.inr (.inr (.inr (f))))))] := hD
      have hIT := hIT0.ro hAe hS
      refine W.widen (k := 0) (n := 0) (Nat.le_refl _) (Nat.le_refl _) ?_
      refine lv_if_eq (tgt := 32) hx hb dc_X9_side_25 (by decide) (fun c_3 => absurd c_3 (by decide)) (fun _ => ?_)
      refine lv_iconst (v := 0) hx hb dc_X9_side_28 (by decide) ?_
      refine lv_goto (tgt := 62) hx hb dc_X9_side_29 (by decide) ?_
      have hP9 : va_P G.1 kcl (ky_WM G mo cs ((jst ((1 : Int32)), w.2.1, w.2.2.1, w.2.2.2.1, w.2.2.2.2)) (f)) H := hP.sub [0, 1] rfl
      have hD9 : va_D A (ky_WM G mo cs ((jst ((1 : Int32)), w.2.1, w.2.2.1, w.2.2.2.1, w.2.2.2.2)) (f)) := hD.sub [0, 1] (by decide) rfl
      refine W.widen (k := 1) (n := 2) (Nat.le_of_ble_eq_true rfl) (Nat.le_of_ble_eq_true rfl) ?_
      exact W.iret (v := (0 : Int32)) hx hb hr (fun t ht hW => ⟨by rw [ht]; exact ky_endM (fun z => some (.int z)) ((0 : Int32)) hw hP9 hD9 (hIT), hS.F ht⟩) hS.2.2 dc_X9_side_62
end
section
def fn_X9_kind (a1 : Int32)  (w : ky_MV) : Int32 × ky_MV :=
  if (jst (fn_X9_isNo (a1))) = (0 : Int32) then ((fn_X8_kind ((w.2.2.2.2) (a1).toNatClampNeg), (jst (fn_X9_isNo (a1)), w.2.1, w.2.2.1, w.2.2.2.1, w.2.2.2.2))) else (((0 : Int32), (jst (fn_X9_isNo (a1)), w.2.1, w.2.2.1, w.2.2.2.1, w.2.2.2.2)))
set_option linter.constructorNameAsVariable false in
set_option maxHeartbeats 4000000 in
set_option maxRecDepth 100000 in
theorem mt_X9_kind (l : Launch) (G : ky_G) (mo cs : Nat) (N : Nat → Prop) (w : ky_MV) (f : Nat → Option Nat)    (a1 : Int32) (sz : Nat) : Met l my_X9_kind (.code my_X9_kind prog_10_method_39_code 2 (some .int) :: ky_B) { frames := 5, cells := 0, slots := 0, locals := 105 } (ky_P G [.ref mo, .int (a1)] (ky_WM G mo cs w f) sz (fun H => ky_IT G mo cs N f w.2.2.2.2 H)) (ky_Q (S := ky_MV × (Nat → Option Nat)) G (va_A (ky_WM G mo cs w f) sz) (fun v u => v = some (.int (fn_X9_kind a1 w).1) ∧ u.1 = (fn_X9_kind a1 w).2) (fun u => ky_WM G mo cs u.1 u.2) (fun u H => ky_IT G mo cs N u.2 u.1.2.2.2.2 H)) 0 0 (va_A (ky_WM G mo cs w f) sz) := by
  refine ky_start (by decide) (Nat.le_of_ble_eq_true rfl) (fun p e s m below meth c F hE A hAe hsz hA hfr hP hD hS hX ls hl => ?_)
  obtain ⟨hx, hb, hml, hown, hr, hlocks, hts⟩ := id F
  have hIT0 := hX
  have hIT := hIT0
  have hl : lv_has ls 2 [(0, .ref mo), (1, .int (a1))] := hl
  have hP : va_P G.1 kcl [(mo, .inr (5, [.int (w.1), .ref cs, .int (w.2.1), .int (w.2.2.1), .int (w.2.2.2.1)])), (cs, .inl (G.2.1 3, 6, .inr (.inr (.inr (.inr (f))))))] s.heap := hP
  have hD : va_D A [(mo, .inr (5, [.int (w.1), .ref cs, .int (w.2.1), .int (w.2.2.1), .int (w.2.2.2.1)])), (cs, .inl (G.2.1 3, 6, .inr (.inr (.inr (.inr (f))))))] := hD
  have hw : fn_X9_kind a1 w = _ := fn_X9_kind.eq_1 a1 w
  refine lv_aload_n hx hb dc_X9_kind_0 rfl (lv_at hl 0 rfl) ?_
  refine lv_iload_n hx hb dc_X9_kind_1 rfl (lv_at hl 1 rfl) ?_
  refine ky_cS0 (As := [.int (a1)]) F (mt_X9_isNo l (a1)) ks_X9_51 ⟨⟨rfl, rfl⟩, by decide, by decide⟩ rfl hl.1 rfl (Nat.le_of_ble_eq_true rfl) ⟨Nat.le_of_ble_eq_true rfl, Nat.le_of_ble_eq_true rfl⟩ dc_X9_kind_2 ?_
  refine ky_cVh (As := [.int (fn_X9_isNo (a1))]) (wr := []) F (hE.at hfr hS) hfr (mt_X9_startJ l G (mo) (cs) ((w.1, w.2.1, w.2.2.1, w.2.2.2.1)) (f) (fn_X9_isNo (a1)) s.heap.size ) kv_X9_55 ⟨⟨rfl, rfl⟩, by decide, by decide⟩ rfl hl.1 rfl (Nat.le_of_ble_eq_true rfl) ⟨Nat.le_of_ble_eq_true rfl, Nat.le_of_ble_eq_true rfl⟩ (va_recv hE.1 hP (ci := 5) (q0 := 0) rfl rfl) trivial hP hD hS hA [0, 1] [] rfl rfl (by decide) (by decide) (by decide) dc_X9_kind_5 ?_
  rintro v9 u9 H locs ⟨rfl, rfl⟩ hP hD hS - hz hk9
  obtain ⟨j_1, hj_1⟩ : ∃ j9, j9 = jst (fn_X9_isNo (a1)) := ⟨_, rfl⟩
  rw [← hj_1] at hP hD ⊢
  try rw [← hj_1] at hw
  have hP : va_P G.1 kcl [(mo, .inr (5, [.int (j_1), .ref cs, .int (w.2.1), .int (w.2.2.1), .int (w.2.2.2.1)])), (cs, .inl (G.2.1 3, 6, .inr (.inr (.inr (.inr (f))))))] H := hP
  have hD : va_D A [(mo, .inr (5, [.int (j_1), .ref cs, .int (w.2.1), .int (w.2.2.1), .int (w.2.2.2.1)])), (cs, .inl (G.2.1 3, 6, .inr (.inr (.inr (.inr (f))))))] := hD
  have hIT := hIT0.ro hAe hS
  refine W.widen (k := 0) (n := 0) (Nat.le_refl _) (Nat.le_refl _) ?_
  refine lv_if_eq (tgt := 15) hx hb dc_X9_kind_8 (by decide) (fun c_2 => ?_) (fun c_2 => ?_)
  · have hw := hw.trans (if_pos c_2)
    refine lv_aload_n hx hb dc_X9_kind_15 rfl (lv_at hl 0 rfl) ?_
    refine va_get (D := G.1) (ci := 5) (v := .ref cs) (C := RX9) (T := TX9) (N := 5) hx hb hts ki_X9 hown hE.1 hP 0 rfl rfl 1 (by decide) (hts _ kw_6_20) (fun _ h9 => h9) rfl dc_X9_kind_16 ?_
    refine lv_iload_n hx hb dc_X9_kind_19 rfl (lv_at hl 1 rfl) ?_
    refine va_aldq hx hb hE.1 hP 1 3 rfl rfl (lr_start (hj_1.symm.trans c_2)) dc_X9_kind_20 ?_
    obtain ⟨b_3, hb_3, hI_3, ho_3⟩ := hIT.2 _ (ky_i6 (lr_start (hj_1.symm.trans c_2)))
    rw [ky_rf hb_3]
    have hX_3 : ky_It G b_3 ((w.2.2.2.2) (a1).toNatClampNeg) s.heap := by obtain ⟨b9, e9, i9, -⟩ := hIT0.2 _ (ky_i6 (lr_start (hj_1.symm.trans c_2))); have z9 : b9 = b_3 := Option.some.inj (e9.symm.trans hb_3); exact z9 ▸ i9
    refine ky_cV1 (As := []) F (hE.at hfr hS) (mt_X8_kind l G (b_3) (((w.2.2.2.2) (a1).toNatClampNeg)) ) kv_X9_47 ⟨⟨rfl, rfl⟩, by decide, by decide⟩ rfl hl.1 rfl (Nat.le_of_ble_eq_true rfl) ⟨Nat.le_of_ble_eq_true rfl, Nat.le_of_ble_eq_true rfl⟩ (va_recv hE.1 hI_3 (ci := 4) (q0 := 0) rfl rfl) hI_3 dc_X9_kind_21 ?_
    have hP9 : va_P G.1 kcl (ky_WM G mo cs ((j_1, w.2.1, w.2.2.1, w.2.2.2.1, w.2.2.2.2)) (f)) H := hP.sub [0, 1] rfl
    have hD9 : va_D A (ky_WM G mo cs ((j_1, w.2.1, w.2.2.1, w.2.2.2.1, w.2.2.2.2)) (f)) := hD.sub [0, 1] (by decide) rfl
    refine W.widen (k := 0) (n := 0) (Nat.le_of_ble_eq_true rfl) (Nat.le_of_ble_eq_true rfl) ?_
    exact W.iret (v := fn_X8_kind ((w.2.2.2.2) (a1).toNatClampNeg)) hx hb hr (fun t ht hW => ⟨by rw [ht]; exact ky_endM (fun z => some (.int z)) (fn_X8_kind ((w.2.2.2.2) (a1).toNatClampNeg)) hw hP9 hD9 (hIT), hS.F ht⟩) hS.2.2 dc_X9_kind_24
  · have hw := hw.trans (if_neg c_2)
    refine lv_iconst (v := 0) hx hb dc_X9_kind_11 (by decide) ?_
    refine lv_goto (tgt := 24) hx hb dc_X9_kind_12 (by decide) ?_
    have hP9 : va_P G.1 kcl (ky_WM G mo cs ((j_1, w.2.1, w.2.2.1, w.2.2.2.1, w.2.2.2.2)) (f)) H := hP.sub [0, 1] rfl
    have hD9 : va_D A (ky_WM G mo cs ((j_1, w.2.1, w.2.2.1, w.2.2.2.1, w.2.2.2.2)) (f)) := hD.sub [0, 1] (by decide) rfl
    refine W.widen (k := 0) (n := 0) (Nat.le_of_ble_eq_true rfl) (Nat.le_of_ble_eq_true rfl) ?_
    exact W.iret (v := (0 : Int32)) hx hb hr (fun t ht hW => ⟨by rw [ht]; exact ky_endM (fun z => some (.int z)) ((0 : Int32)) hw hP9 hD9 (hIT), hS.F ht⟩) hS.2.2 dc_X9_kind_24
end
section
def fn_X9_exponent (a1 : Int32)  (w : ky_MV) : Int32 × ky_MV :=
  if (jst (fn_X9_isNo (a1))) = (0 : Int32) then ((fn_X8_exponent ((w.2.2.2.2) (a1).toNatClampNeg), (jst (fn_X9_isNo (a1)), w.2.1, w.2.2.1, w.2.2.2.1, w.2.2.2.2))) else (((0 : Int32), (jst (fn_X9_isNo (a1)), w.2.1, w.2.2.1, w.2.2.2.1, w.2.2.2.2)))
set_option linter.constructorNameAsVariable false in
set_option maxHeartbeats 4000000 in
set_option maxRecDepth 100000 in
theorem mt_X9_exponent (l : Launch) (G : ky_G) (mo cs : Nat) (N : Nat → Prop) (w : ky_MV) (f : Nat → Option Nat)    (a1 : Int32) (sz : Nat) : Met l my_X9_exponent (.code my_X9_exponent prog_10_method_43_code 2 (some .int) :: ky_B) { frames := 2, cells := 0, slots := 0, locals := 43 } (ky_P G [.ref mo, .int (a1)] (ky_WM G mo cs w f) sz (fun H => ky_IT G mo cs N f w.2.2.2.2 H)) (ky_Q (S := ky_MV × (Nat → Option Nat)) G (va_A (ky_WM G mo cs w f) sz) (fun v u => v = some (.int (fn_X9_exponent a1 w).1) ∧ u.1 = (fn_X9_exponent a1 w).2) (fun u => ky_WM G mo cs u.1 u.2) (fun u H => ky_IT G mo cs N u.2 u.1.2.2.2.2 H)) 0 0 (va_A (ky_WM G mo cs w f) sz) := by
  refine ky_start (by decide) (Nat.le_of_ble_eq_true rfl) (fun p e s m below meth c F hE A hAe hsz hA hfr hP hD hS hX ls hl => ?_)
  obtain ⟨hx, hb, hml, hown, hr, hlocks, hts⟩ := id F
  have hIT0 := hX
  have hIT := hIT0
  have hl : lv_has ls 2 [(0, .ref mo), (1, .int (a1))] := hl
  have hP : va_P G.1 kcl [(mo, .inr (5, [.int (w.1), .ref cs, .int (w.2.1), .int (w.2.2.1), .int (w.2.2.2.1)])), (cs, .inl (G.2.1 3, 6, .inr (.inr (.inr (.inr (f))))))] s.heap := hP
  have hD : va_D A [(mo, .inr (5, [.int (w.1), .ref cs, .int (w.2.1), .int (w.2.2.1), .int (w.2.2.2.1)])), (cs, .inl (G.2.1 3, 6, .inr (.inr (.inr (.inr (f))))))] := hD
  have hw : fn_X9_exponent a1 w = _ := fn_X9_exponent.eq_1 a1 w
  refine lv_aload_n hx hb dc_X9_exponent_0 rfl (lv_at hl 0 rfl) ?_
  refine lv_iload_n hx hb dc_X9_exponent_1 rfl (lv_at hl 1 rfl) ?_
  refine ky_cS0 (As := [.int (a1)]) F (mt_X9_isNo l (a1)) ks_X9_51 ⟨⟨rfl, rfl⟩, by decide, by decide⟩ rfl hl.1 rfl (Nat.le_of_ble_eq_true rfl) ⟨Nat.le_of_ble_eq_true rfl, Nat.le_of_ble_eq_true rfl⟩ dc_X9_exponent_2 ?_
  refine ky_cVh (As := [.int (fn_X9_isNo (a1))]) (wr := []) F (hE.at hfr hS) hfr (mt_X9_startJ l G (mo) (cs) ((w.1, w.2.1, w.2.2.1, w.2.2.2.1)) (f) (fn_X9_isNo (a1)) s.heap.size ) kv_X9_55 ⟨⟨rfl, rfl⟩, by decide, by decide⟩ rfl hl.1 rfl (Nat.le_of_ble_eq_true rfl) ⟨Nat.le_of_ble_eq_true rfl, Nat.le_of_ble_eq_true rfl⟩ (va_recv hE.1 hP (ci := 5) (q0 := 0) rfl rfl) trivial hP hD hS hA [0, 1] [] rfl rfl (by decide) (by decide) (by decide) dc_X9_exponent_5 ?_
  rintro v9 u9 H locs ⟨rfl, rfl⟩ hP hD hS - hz hk9
  obtain ⟨j_1, hj_1⟩ : ∃ j9, j9 = jst (fn_X9_isNo (a1)) := ⟨_, rfl⟩
  rw [← hj_1] at hP hD ⊢
  try rw [← hj_1] at hw
  have hP : va_P G.1 kcl [(mo, .inr (5, [.int (j_1), .ref cs, .int (w.2.1), .int (w.2.2.1), .int (w.2.2.2.1)])), (cs, .inl (G.2.1 3, 6, .inr (.inr (.inr (.inr (f))))))] H := hP
  have hD : va_D A [(mo, .inr (5, [.int (j_1), .ref cs, .int (w.2.1), .int (w.2.2.1), .int (w.2.2.2.1)])), (cs, .inl (G.2.1 3, 6, .inr (.inr (.inr (.inr (f))))))] := hD
  have hIT := hIT0.ro hAe hS
  refine W.widen (k := 0) (n := 0) (Nat.le_refl _) (Nat.le_refl _) ?_
  refine lv_if_eq (tgt := 15) hx hb dc_X9_exponent_8 (by decide) (fun c_2 => ?_) (fun c_2 => ?_)
  · have hw := hw.trans (if_pos c_2)
    refine lv_aload_n hx hb dc_X9_exponent_15 rfl (lv_at hl 0 rfl) ?_
    refine va_get (D := G.1) (ci := 5) (v := .ref cs) (C := RX9) (T := TX9) (N := 5) hx hb hts ki_X9 hown hE.1 hP 0 rfl rfl 1 (by decide) (hts _ kw_6_20) (fun _ h9 => h9) rfl dc_X9_exponent_16 ?_
    refine lv_iload_n hx hb dc_X9_exponent_19 rfl (lv_at hl 1 rfl) ?_
    refine va_aldq hx hb hE.1 hP 1 3 rfl rfl (lr_start (hj_1.symm.trans c_2)) dc_X9_exponent_20 ?_
    obtain ⟨b_3, hb_3, hI_3, ho_3⟩ := hIT.2 _ (ky_i6 (lr_start (hj_1.symm.trans c_2)))
    rw [ky_rf hb_3]
    have hX_3 : ky_It G b_3 ((w.2.2.2.2) (a1).toNatClampNeg) s.heap := by obtain ⟨b9, e9, i9, -⟩ := hIT0.2 _ (ky_i6 (lr_start (hj_1.symm.trans c_2))); have z9 : b9 = b_3 := Option.some.inj (e9.symm.trans hb_3); exact z9 ▸ i9
    refine ky_cV1 (As := []) F (hE.at hfr hS) (mt_X8_exponent l G (b_3) (((w.2.2.2.2) (a1).toNatClampNeg)) ) kv_X9_137 ⟨⟨rfl, rfl⟩, by decide, by decide⟩ rfl hl.1 rfl (Nat.le_of_ble_eq_true rfl) ⟨Nat.le_of_ble_eq_true rfl, Nat.le_of_ble_eq_true rfl⟩ (va_recv hE.1 hI_3 (ci := 4) (q0 := 0) rfl rfl) hI_3 dc_X9_exponent_21 ?_
    have hP9 : va_P G.1 kcl (ky_WM G mo cs ((j_1, w.2.1, w.2.2.1, w.2.2.2.1, w.2.2.2.2)) (f)) H := hP.sub [0, 1] rfl
    have hD9 : va_D A (ky_WM G mo cs ((j_1, w.2.1, w.2.2.1, w.2.2.2.1, w.2.2.2.2)) (f)) := hD.sub [0, 1] (by decide) rfl
    refine W.widen (k := 0) (n := 0) (Nat.le_of_ble_eq_true rfl) (Nat.le_of_ble_eq_true rfl) ?_
    exact W.iret (v := fn_X8_exponent ((w.2.2.2.2) (a1).toNatClampNeg)) hx hb hr (fun t ht hW => ⟨by rw [ht]; exact ky_endM (fun z => some (.int z)) (fn_X8_exponent ((w.2.2.2.2) (a1).toNatClampNeg)) hw hP9 hD9 (hIT), hS.F ht⟩) hS.2.2 dc_X9_exponent_24
  · have hw := hw.trans (if_neg c_2)
    refine lv_iconst (v := 0) hx hb dc_X9_exponent_11 (by decide) ?_
    refine lv_goto (tgt := 24) hx hb dc_X9_exponent_12 (by decide) ?_
    have hP9 : va_P G.1 kcl (ky_WM G mo cs ((j_1, w.2.1, w.2.2.1, w.2.2.2.1, w.2.2.2.2)) (f)) H := hP.sub [0, 1] rfl
    have hD9 : va_D A (ky_WM G mo cs ((j_1, w.2.1, w.2.2.1, w.2.2.2.1, w.2.2.2.2)) (f)) := hD.sub [0, 1] (by decide) rfl
    refine W.widen (k := 0) (n := 0) (Nat.le_of_ble_eq_true rfl) (Nat.le_of_ble_eq_true rfl) ?_
    exact W.iret (v := (0 : Int32)) hx hb hr (fun t ht hW => ⟨by rw [ht]; exact ky_endM (fun z => some (.int z)) ((0 : Int32)) hw hP9 hD9 (hIT), hS.F ht⟩) hS.2.2 dc_X9_exponent_24
end
section
def fn_X9_signed (a1 : Int32)  (w : ky_MV) : Int32 × ky_MV :=
  if (jst (fn_X9_isNo (a1))) = (0 : Int32) then ((fn_X9_signOf (fn_X8_rung ((w.2.2.2.2) (a1).toNatClampNeg)), (jst (fn_X9_isNo (a1)), w.2.1, w.2.2.1, w.2.2.2.1, w.2.2.2.2))) else (((0 : Int32), (jst (fn_X9_isNo (a1)), w.2.1, w.2.2.1, w.2.2.2.1, w.2.2.2.2)))
set_option linter.constructorNameAsVariable false in
set_option maxHeartbeats 4000000 in
set_option maxRecDepth 100000 in
theorem mt_X9_signed (l : Launch) (G : ky_G) (mo cs : Nat) (N : Nat → Prop) (w : ky_MV) (f : Nat → Option Nat)    (a1 : Int32) (sz : Nat) : Met l my_X9_signed (.code my_X9_signed prog_10_method_51_code 2 (some .int) :: ky_B) { frames := 2, cells := 0, slots := 0, locals := 43 } (ky_P G [.ref mo, .int (a1)] (ky_WM G mo cs w f) sz (fun H => ky_IT G mo cs N f w.2.2.2.2 H)) (ky_Q (S := ky_MV × (Nat → Option Nat)) G (va_A (ky_WM G mo cs w f) sz) (fun v u => v = some (.int (fn_X9_signed a1 w).1) ∧ u.1 = (fn_X9_signed a1 w).2) (fun u => ky_WM G mo cs u.1 u.2) (fun u H => ky_IT G mo cs N u.2 u.1.2.2.2.2 H)) 0 0 (va_A (ky_WM G mo cs w f) sz) := by
  refine ky_start (by decide) (Nat.le_of_ble_eq_true rfl) (fun p e s m below meth c F hE A hAe hsz hA hfr hP hD hS hX ls hl => ?_)
  obtain ⟨hx, hb, hml, hown, hr, hlocks, hts⟩ := id F
  have hIT0 := hX
  have hIT := hIT0
  have hl : lv_has ls 2 [(0, .ref mo), (1, .int (a1))] := hl
  have hP : va_P G.1 kcl [(mo, .inr (5, [.int (w.1), .ref cs, .int (w.2.1), .int (w.2.2.1), .int (w.2.2.2.1)])), (cs, .inl (G.2.1 3, 6, .inr (.inr (.inr (.inr (f))))))] s.heap := hP
  have hD : va_D A [(mo, .inr (5, [.int (w.1), .ref cs, .int (w.2.1), .int (w.2.2.1), .int (w.2.2.2.1)])), (cs, .inl (G.2.1 3, 6, .inr (.inr (.inr (.inr (f))))))] := hD
  have hw : fn_X9_signed a1 w = _ := fn_X9_signed.eq_1 a1 w
  refine lv_aload_n hx hb dc_X9_signed_0 rfl (lv_at hl 0 rfl) ?_
  refine lv_iload_n hx hb dc_X9_signed_1 rfl (lv_at hl 1 rfl) ?_
  refine ky_cS0 (As := [.int (a1)]) F (mt_X9_isNo l (a1)) ks_X9_51 ⟨⟨rfl, rfl⟩, by decide, by decide⟩ rfl hl.1 rfl (Nat.le_of_ble_eq_true rfl) ⟨Nat.le_of_ble_eq_true rfl, Nat.le_of_ble_eq_true rfl⟩ dc_X9_signed_2 ?_
  refine ky_cVh (As := [.int (fn_X9_isNo (a1))]) (wr := []) F (hE.at hfr hS) hfr (mt_X9_startJ l G (mo) (cs) ((w.1, w.2.1, w.2.2.1, w.2.2.2.1)) (f) (fn_X9_isNo (a1)) s.heap.size ) kv_X9_55 ⟨⟨rfl, rfl⟩, by decide, by decide⟩ rfl hl.1 rfl (Nat.le_of_ble_eq_true rfl) ⟨Nat.le_of_ble_eq_true rfl, Nat.le_of_ble_eq_true rfl⟩ (va_recv hE.1 hP (ci := 5) (q0 := 0) rfl rfl) trivial hP hD hS hA [0, 1] [] rfl rfl (by decide) (by decide) (by decide) dc_X9_signed_5 ?_
  rintro v9 u9 H locs ⟨rfl, rfl⟩ hP hD hS - hz hk9
  obtain ⟨j_1, hj_1⟩ : ∃ j9, j9 = jst (fn_X9_isNo (a1)) := ⟨_, rfl⟩
  rw [← hj_1] at hP hD ⊢
  try rw [← hj_1] at hw
  have hP : va_P G.1 kcl [(mo, .inr (5, [.int (j_1), .ref cs, .int (w.2.1), .int (w.2.2.1), .int (w.2.2.2.1)])), (cs, .inl (G.2.1 3, 6, .inr (.inr (.inr (.inr (f))))))] H := hP
  have hD : va_D A [(mo, .inr (5, [.int (j_1), .ref cs, .int (w.2.1), .int (w.2.2.1), .int (w.2.2.2.1)])), (cs, .inl (G.2.1 3, 6, .inr (.inr (.inr (.inr (f))))))] := hD
  have hIT := hIT0.ro hAe hS
  refine W.widen (k := 0) (n := 0) (Nat.le_refl _) (Nat.le_refl _) ?_
  refine lv_if_eq (tgt := 15) hx hb dc_X9_signed_8 (by decide) (fun c_2 => ?_) (fun c_2 => ?_)
  · have hw := hw.trans (if_pos c_2)
    refine lv_aload_n hx hb dc_X9_signed_15 rfl (lv_at hl 0 rfl) ?_
    refine va_get (D := G.1) (ci := 5) (v := .ref cs) (C := RX9) (T := TX9) (N := 5) hx hb hts ki_X9 hown hE.1 hP 0 rfl rfl 1 (by decide) (hts _ kw_6_20) (fun _ h9 => h9) rfl dc_X9_signed_16 ?_
    refine lv_iload_n hx hb dc_X9_signed_19 rfl (lv_at hl 1 rfl) ?_
    refine va_aldq hx hb hE.1 hP 1 3 rfl rfl (lr_start (hj_1.symm.trans c_2)) dc_X9_signed_20 ?_
    obtain ⟨b_3, hb_3, hI_3, ho_3⟩ := hIT.2 _ (ky_i6 (lr_start (hj_1.symm.trans c_2)))
    rw [ky_rf hb_3]
    have hX_3 : ky_It G b_3 ((w.2.2.2.2) (a1).toNatClampNeg) s.heap := by obtain ⟨b9, e9, i9, -⟩ := hIT0.2 _ (ky_i6 (lr_start (hj_1.symm.trans c_2))); have z9 : b9 = b_3 := Option.some.inj (e9.symm.trans hb_3); exact z9 ▸ i9
    refine ky_cV1 (As := []) F (hE.at hfr hS) (mt_X8_rung l G (b_3) (((w.2.2.2.2) (a1).toNatClampNeg)) ) kv_X9_217 ⟨⟨rfl, rfl⟩, by decide, by decide⟩ rfl hl.1 rfl (Nat.le_of_ble_eq_true rfl) ⟨Nat.le_of_ble_eq_true rfl, Nat.le_of_ble_eq_true rfl⟩ (va_recv hE.1 hI_3 (ci := 4) (q0 := 0) rfl rfl) hI_3 dc_X9_signed_21 ?_
    refine ky_cS0 (As := [.long (fn_X8_rung ((w.2.2.2.2) (a1).toNatClampNeg))]) F (mt_X9_signOf l (fn_X8_rung ((w.2.2.2.2) (a1).toNatClampNeg))) ks_X9_220 ⟨⟨rfl, rfl⟩, by decide, by decide⟩ rfl hl.1 rfl (Nat.le_of_ble_eq_true rfl) ⟨Nat.le_of_ble_eq_true rfl, Nat.le_of_ble_eq_true rfl⟩ dc_X9_signed_24 ?_
    have hP9 : va_P G.1 kcl (ky_WM G mo cs ((j_1, w.2.1, w.2.2.1, w.2.2.2.1, w.2.2.2.2)) (f)) H := hP.sub [0, 1] rfl
    have hD9 : va_D A (ky_WM G mo cs ((j_1, w.2.1, w.2.2.1, w.2.2.2.1, w.2.2.2.2)) (f)) := hD.sub [0, 1] (by decide) rfl
    refine W.widen (k := 0) (n := 0) (Nat.le_of_ble_eq_true rfl) (Nat.le_of_ble_eq_true rfl) ?_
    exact W.iret (v := fn_X9_signOf (fn_X8_rung ((w.2.2.2.2) (a1).toNatClampNeg))) hx hb hr (fun t ht hW => ⟨by rw [ht]; exact ky_endM (fun z => some (.int z)) (fn_X9_signOf (fn_X8_rung ((w.2.2.2.2) (a1).toNatClampNeg))) hw hP9 hD9 (hIT), hS.F ht⟩) hS.2.2 dc_X9_signed_27
  · have hw := hw.trans (if_neg c_2)
    refine lv_iconst (v := 0) hx hb dc_X9_signed_11 (by decide) ?_
    refine lv_goto (tgt := 27) hx hb dc_X9_signed_12 (by decide) ?_
    have hP9 : va_P G.1 kcl (ky_WM G mo cs ((j_1, w.2.1, w.2.2.1, w.2.2.2.1, w.2.2.2.2)) (f)) H := hP.sub [0, 1] rfl
    have hD9 : va_D A (ky_WM G mo cs ((j_1, w.2.1, w.2.2.1, w.2.2.2.1, w.2.2.2.2)) (f)) := hD.sub [0, 1] (by decide) rfl
    refine W.widen (k := 0) (n := 0) (Nat.le_of_ble_eq_true rfl) (Nat.le_of_ble_eq_true rfl) ?_
    exact W.iret (v := (0 : Int32)) hx hb hr (fun t ht hW => ⟨by rw [ht]; exact ky_endM (fun z => some (.int z)) ((0 : Int32)) hw hP9 hD9 (hIT), hS.F ht⟩) hS.2.2 dc_X9_signed_27
end
section
def fn_X9_isWhole (a1 : Int32)  (w : ky_MV) : Int32 × ky_MV :=
  if (jst (fn_X9_isNo (a1))) = (0 : Int32) then (if (fn_X8_isWhole ((w.2.2.2.2) (a1).toNatClampNeg)) = (0 : Int32) then (((0 : Int32), (jst (fn_X9_isNo (a1)), w.2.1, w.2.2.1, w.2.2.2.1, w.2.2.2.2))) else (((1 : Int32), (jst (fn_X9_isNo (a1)), w.2.1, w.2.2.1, w.2.2.2.1, w.2.2.2.2)))) else (((0 : Int32), (jst (fn_X9_isNo (a1)), w.2.1, w.2.2.1, w.2.2.2.1, w.2.2.2.2)))
set_option linter.constructorNameAsVariable false in
set_option maxHeartbeats 4000000 in
set_option maxRecDepth 100000 in
theorem mt_X9_isWhole (l : Launch) (G : ky_G) (mo cs : Nat) (N : Nat → Prop) (w : ky_MV) (f : Nat → Option Nat)    (a1 : Int32) (sz : Nat) : Met l my_X9_isWhole (.code my_X9_isWhole prog_10_method_52_code 2 (some .boolean) :: ky_B) { frames := 6, cells := 0, slots := 0, locals := 125 } (ky_P G [.ref mo, .int (a1)] (ky_WM G mo cs w f) sz (fun H => ky_IT G mo cs N f w.2.2.2.2 H)) (ky_Q (S := ky_MV × (Nat → Option Nat)) G (va_A (ky_WM G mo cs w f) sz) (fun v u => v = some (.int (fn_X9_isWhole a1 w).1) ∧ u.1 = (fn_X9_isWhole a1 w).2) (fun u => ky_WM G mo cs u.1 u.2) (fun u H => ky_IT G mo cs N u.2 u.1.2.2.2.2 H)) 0 0 (va_A (ky_WM G mo cs w f) sz) := by
  refine ky_start (by decide) (Nat.le_of_ble_eq_true rfl) (fun p e s m below meth c F hE A hAe hsz hA hfr hP hD hS hX ls hl => ?_)
  obtain ⟨hx, hb, hml, hown, hr, hlocks, hts⟩ := id F
  have hIT0 := hX
  have hIT := hIT0
  have hl : lv_has ls 2 [(0, .ref mo), (1, .int (a1))] := hl
  have hP : va_P G.1 kcl [(mo, .inr (5, [.int (w.1), .ref cs, .int (w.2.1), .int (w.2.2.1), .int (w.2.2.2.1)])), (cs, .inl (G.2.1 3, 6, .inr (.inr (.inr (.inr (f))))))] s.heap := hP
  have hD : va_D A [(mo, .inr (5, [.int (w.1), .ref cs, .int (w.2.1), .int (w.2.2.1), .int (w.2.2.2.1)])), (cs, .inl (G.2.1 3, 6, .inr (.inr (.inr (.inr (f))))))] := hD
  have hw : fn_X9_isWhole a1 w = _ := fn_X9_isWhole.eq_1 a1 w
  refine lv_aload_n hx hb dc_X9_isWhole_0 rfl (lv_at hl 0 rfl) ?_
  refine lv_iload_n hx hb dc_X9_isWhole_1 rfl (lv_at hl 1 rfl) ?_
  refine ky_cS0 (As := [.int (a1)]) F (mt_X9_isNo l (a1)) ks_X9_51 ⟨⟨rfl, rfl⟩, by decide, by decide⟩ rfl hl.1 rfl (Nat.le_of_ble_eq_true rfl) ⟨Nat.le_of_ble_eq_true rfl, Nat.le_of_ble_eq_true rfl⟩ dc_X9_isWhole_2 ?_
  refine ky_cVh (As := [.int (fn_X9_isNo (a1))]) (wr := []) F (hE.at hfr hS) hfr (mt_X9_startJ l G (mo) (cs) ((w.1, w.2.1, w.2.2.1, w.2.2.2.1)) (f) (fn_X9_isNo (a1)) s.heap.size ) kv_X9_55 ⟨⟨rfl, rfl⟩, by decide, by decide⟩ rfl hl.1 rfl (Nat.le_of_ble_eq_true rfl) ⟨Nat.le_of_ble_eq_true rfl, Nat.le_of_ble_eq_true rfl⟩ (va_recv hE.1 hP (ci := 5) (q0 := 0) rfl rfl) trivial hP hD hS hA [0, 1] [] rfl rfl (by decide) (by decide) (by decide) dc_X9_isWhole_5 ?_
  rintro v9 u9 H locs ⟨rfl, rfl⟩ hP hD hS - hz hk9
  obtain ⟨j_1, hj_1⟩ : ∃ j9, j9 = jst (fn_X9_isNo (a1)) := ⟨_, rfl⟩
  rw [← hj_1] at hP hD ⊢
  try rw [← hj_1] at hw
  have hP : va_P G.1 kcl [(mo, .inr (5, [.int (j_1), .ref cs, .int (w.2.1), .int (w.2.2.1), .int (w.2.2.2.1)])), (cs, .inl (G.2.1 3, 6, .inr (.inr (.inr (.inr (f))))))] H := hP
  have hD : va_D A [(mo, .inr (5, [.int (j_1), .ref cs, .int (w.2.1), .int (w.2.2.1), .int (w.2.2.2.1)])), (cs, .inl (G.2.1 3, 6, .inr (.inr (.inr (.inr (f))))))] := hD
  have hIT := hIT0.ro hAe hS
  refine W.widen (k := 0) (n := 0) (Nat.le_refl _) (Nat.le_refl _) ?_
  refine lv_if_ne (tgt := 27) hx hb dc_X9_isWhole_8 (by decide) (fun c_2 => ?_) (fun c_2 => ?_)
  · have hw := hw.trans (if_neg c_2)
    refine lv_iconst (v := 0) hx hb dc_X9_isWhole_27 (by decide) ?_
    have hP9 : va_P G.1 kcl (ky_WM G mo cs ((j_1, w.2.1, w.2.2.1, w.2.2.2.1, w.2.2.2.2)) (f)) H := hP.sub [0, 1] rfl
    have hD9 : va_D A (ky_WM G mo cs ((j_1, w.2.1, w.2.2.1, w.2.2.2.1, w.2.2.2.2)) (f)) := hD.sub [0, 1] (by decide) rfl
    refine W.widen (k := 0) (n := 0) (Nat.le_of_ble_eq_true rfl) (Nat.le_of_ble_eq_true rfl) ?_
    exact W.zret (v := (0 : Int32)) hx hb hr (by decide) (fun t ht hW => ⟨by rw [ht]; exact ky_endM (fun z => some (.int z)) ((0 : Int32)) hw hP9 hD9 (hIT), hS.F ht⟩) hS.2.2 dc_X9_isWhole_28
  · have hw := hw.trans (if_pos c_2)
    refine lv_aload_n hx hb dc_X9_isWhole_11 rfl (lv_at hl 0 rfl) ?_
    refine va_get (D := G.1) (ci := 5) (v := .ref cs) (C := RX9) (T := TX9) (N := 5) hx hb hts ki_X9 hown hE.1 hP 0 rfl rfl 1 (by decide) (hts _ kw_6_20) (fun _ h9 => h9) rfl dc_X9_isWhole_12 ?_
    refine lv_iload_n hx hb dc_X9_isWhole_15 rfl (lv_at hl 1 rfl) ?_
    refine va_aldq hx hb hE.1 hP 1 3 rfl rfl (lr_start (hj_1.symm.trans c_2)) dc_X9_isWhole_16 ?_
    obtain ⟨b_3, hb_3, hI_3, ho_3⟩ := hIT.2 _ (ky_i6 (lr_start (hj_1.symm.trans c_2)))
    rw [ky_rf hb_3]
    have hX_3 : ky_It G b_3 ((w.2.2.2.2) (a1).toNatClampNeg) s.heap := by obtain ⟨b9, e9, i9, -⟩ := hIT0.2 _ (ky_i6 (lr_start (hj_1.symm.trans c_2))); have z9 : b9 = b_3 := Option.some.inj (e9.symm.trans hb_3); exact z9 ▸ i9
    refine ky_cV1 (As := []) F (hE.at hfr hS) (mt_X8_isWhole l G (b_3) (((w.2.2.2.2) (a1).toNatClampNeg)) ) kv_X9_224 ⟨⟨rfl, rfl⟩, by decide, by decide⟩ rfl hl.1 rfl (Nat.le_of_ble_eq_true rfl) ⟨Nat.le_of_ble_eq_true rfl, Nat.le_of_ble_eq_true rfl⟩ (va_recv hE.1 hI_3 (ci := 4) (q0 := 0) rfl rfl) hI_3 dc_X9_isWhole_17 ?_
    refine lv_if_eq (tgt := 27) hx hb dc_X9_isWhole_20 (by decide) (fun c_4 => ?_) (fun c_4 => ?_)
    · have hw := hw.trans (if_pos c_4)
      refine lv_iconst (v := 0) hx hb dc_X9_isWhole_27 (by decide) ?_
      have hP9 : va_P G.1 kcl (ky_WM G mo cs ((j_1, w.2.1, w.2.2.1, w.2.2.2.1, w.2.2.2.2)) (f)) H := hP.sub [0, 1] rfl
      have hD9 : va_D A (ky_WM G mo cs ((j_1, w.2.1, w.2.2.1, w.2.2.2.1, w.2.2.2.2)) (f)) := hD.sub [0, 1] (by decide) rfl
      refine W.widen (k := 0) (n := 0) (Nat.le_of_ble_eq_true rfl) (Nat.le_of_ble_eq_true rfl) ?_
      exact W.zret (v := (0 : Int32)) hx hb hr (by decide) (fun t ht hW => ⟨by rw [ht]; exact ky_endM (fun z => some (.int z)) ((0 : Int32)) hw hP9 hD9 (hIT), hS.F ht⟩) hS.2.2 dc_X9_isWhole_28
    · have hw := hw.trans (if_neg c_4)
      refine lv_iconst (v := 1) hx hb dc_X9_isWhole_23 (by decide) ?_
      refine lv_goto (tgt := 28) hx hb dc_X9_isWhole_24 (by decide) ?_
      have hP9 : va_P G.1 kcl (ky_WM G mo cs ((j_1, w.2.1, w.2.2.1, w.2.2.2.1, w.2.2.2.2)) (f)) H := hP.sub [0, 1] rfl
      have hD9 : va_D A (ky_WM G mo cs ((j_1, w.2.1, w.2.2.1, w.2.2.2.1, w.2.2.2.2)) (f)) := hD.sub [0, 1] (by decide) rfl
      refine W.widen (k := 0) (n := 0) (Nat.le_of_ble_eq_true rfl) (Nat.le_of_ble_eq_true rfl) ?_
      exact W.zret (v := (1 : Int32)) hx hb hr (by decide) (fun t ht hW => ⟨by rw [ht]; exact ky_endM (fun z => some (.int z)) ((1 : Int32)) hw hP9 hD9 (hIT), hS.F ht⟩) hS.2.2 dc_X9_isWhole_28
end
section
def fn_X9_areLike (a1 : Int32) (a2 : Int32)  (w : ky_MV) : Int32 × ky_MV :=
  if (jst (fn_X9_areNo (a1) (a2))) = (0 : Int32) then (if (lg_cmp (fn_X8_rung ((w.2.2.2.2) (a1).toNatClampNeg)) (fn_X8_rung ((w.2.2.2.2) (a2).toNatClampNeg))) = (0 : Int32) then (((1 : Int32), (jst (fn_X9_areNo (a1) (a2)), w.2.1, w.2.2.1, w.2.2.2.1, w.2.2.2.2))) else (((0 : Int32), (jst (fn_X9_areNo (a1) (a2)), w.2.1, w.2.2.1, w.2.2.2.1, w.2.2.2.2)))) else (((0 : Int32), (jst (fn_X9_areNo (a1) (a2)), w.2.1, w.2.2.1, w.2.2.2.1, w.2.2.2.2)))
set_option linter.constructorNameAsVariable false in
set_option maxHeartbeats 4000000 in
set_option maxRecDepth 100000 in
theorem mt_X9_areLike (l : Launch) (G : ky_G) (mo cs : Nat) (N : Nat → Prop) (w : ky_MV) (f : Nat → Option Nat)    (a1 : Int32) (a2 : Int32) (sz : Nat) : Met l my_X9_areLike (.code my_X9_areLike prog_10_method_55_code 3 (some .boolean) :: ky_B) { frames := 3, cells := 0, slots := 0, locals := 64 } (ky_P G [.ref mo, .int (a1), .int (a2)] (ky_WM G mo cs w f) sz (fun H => ky_IT G mo cs N f w.2.2.2.2 H)) (ky_Q (S := ky_MV × (Nat → Option Nat)) G (va_A (ky_WM G mo cs w f) sz) (fun v u => v = some (.int (fn_X9_areLike a1 a2 w).1) ∧ u.1 = (fn_X9_areLike a1 a2 w).2) (fun u => ky_WM G mo cs u.1 u.2) (fun u H => ky_IT G mo cs N u.2 u.1.2.2.2.2 H)) 0 0 (va_A (ky_WM G mo cs w f) sz) := by
  refine ky_start (by decide) (Nat.le_of_ble_eq_true rfl) (fun p e s m below meth c F hE A hAe hsz hA hfr hP hD hS hX ls hl => ?_)
  obtain ⟨hx, hb, hml, hown, hr, hlocks, hts⟩ := id F
  have hIT0 := hX
  have hIT := hIT0
  have hl : lv_has ls 3 [(0, .ref mo), (1, .int (a1)), (2, .int (a2))] := hl
  have hP : va_P G.1 kcl [(mo, .inr (5, [.int (w.1), .ref cs, .int (w.2.1), .int (w.2.2.1), .int (w.2.2.2.1)])), (cs, .inl (G.2.1 3, 6, .inr (.inr (.inr (.inr (f))))))] s.heap := hP
  have hD : va_D A [(mo, .inr (5, [.int (w.1), .ref cs, .int (w.2.1), .int (w.2.2.1), .int (w.2.2.2.1)])), (cs, .inl (G.2.1 3, 6, .inr (.inr (.inr (.inr (f))))))] := hD
  have hw : fn_X9_areLike a1 a2 w = _ := fn_X9_areLike.eq_1 a1 a2 w
  refine lv_aload_n hx hb dc_X9_areLike_0 rfl (lv_at hl 0 rfl) ?_
  refine lv_aload_n hx hb dc_X9_areLike_1 rfl (lv_at hl 0 rfl) ?_
  refine lv_iload_n hx hb dc_X9_areLike_2 rfl (lv_at hl 1 rfl) ?_
  refine lv_iload_n hx hb dc_X9_areLike_3 rfl (lv_at hl 2 rfl) ?_
  refine ky_cV1 (As := [.int (a1), .int (a2)]) F (hE.at hfr hS) (mt_X9_areNo l G (mo) (a1) (a2)) kv_X9_104 ⟨⟨rfl, rfl⟩, by decide, by decide⟩ rfl hl.1 rfl (Nat.le_of_ble_eq_true rfl) ⟨Nat.le_of_ble_eq_true rfl, Nat.le_of_ble_eq_true rfl⟩ (va_recv hE.1 hP (ci := 5) (q0 := 0) rfl rfl) trivial dc_X9_areLike_4 ?_
  refine ky_cVh (As := [.int (fn_X9_areNo (a1) (a2))]) (wr := []) F (hE.at hfr hS) hfr (mt_X9_startJ l G (mo) (cs) ((w.1, w.2.1, w.2.2.1, w.2.2.2.1)) (f) (fn_X9_areNo (a1) (a2)) s.heap.size ) kv_X9_55 ⟨⟨rfl, rfl⟩, by decide, by decide⟩ rfl hl.1 rfl (Nat.le_of_ble_eq_true rfl) ⟨Nat.le_of_ble_eq_true rfl, Nat.le_of_ble_eq_true rfl⟩ (va_recv hE.1 hP (ci := 5) (q0 := 0) rfl rfl) trivial hP hD hS hA [0, 1] [] rfl rfl (by decide) (by decide) (by decide) dc_X9_areLike_7 ?_
  rintro v9 u9 H locs ⟨rfl, rfl⟩ hP hD hS - hz hk9
  obtain ⟨j_1, hj_1⟩ : ∃ j9, j9 = jst (fn_X9_areNo (a1) (a2)) := ⟨_, rfl⟩
  rw [← hj_1] at hP hD ⊢
  try rw [← hj_1] at hw
  have hP : va_P G.1 kcl [(mo, .inr (5, [.int (j_1), .ref cs, .int (w.2.1), .int (w.2.2.1), .int (w.2.2.2.1)])), (cs, .inl (G.2.1 3, 6, .inr (.inr (.inr (.inr (f))))))] H := hP
  have hD : va_D A [(mo, .inr (5, [.int (j_1), .ref cs, .int (w.2.1), .int (w.2.2.1), .int (w.2.2.2.1)])), (cs, .inl (G.2.1 3, 6, .inr (.inr (.inr (.inr (f))))))] := hD
  have hIT := hIT0.ro hAe hS
  refine W.widen (k := 0) (n := 0) (Nat.le_refl _) (Nat.le_refl _) ?_
  refine lv_if_ne (tgt := 39) hx hb dc_X9_areLike_10 (by decide) (fun c_2 => ?_) (fun c_2 => ?_)
  · have hw := hw.trans (if_neg c_2)
    refine lv_iconst (v := 0) hx hb dc_X9_areLike_39 (by decide) ?_
    have hP9 : va_P G.1 kcl (ky_WM G mo cs ((j_1, w.2.1, w.2.2.1, w.2.2.2.1, w.2.2.2.2)) (f)) H := hP.sub [0, 1] rfl
    have hD9 : va_D A (ky_WM G mo cs ((j_1, w.2.1, w.2.2.1, w.2.2.2.1, w.2.2.2.2)) (f)) := hD.sub [0, 1] (by decide) rfl
    refine W.widen (k := 0) (n := 0) (Nat.le_of_ble_eq_true rfl) (Nat.le_of_ble_eq_true rfl) ?_
    exact W.zret (v := (0 : Int32)) hx hb hr (by decide) (fun t ht hW => ⟨by rw [ht]; exact ky_endM (fun z => some (.int z)) ((0 : Int32)) hw hP9 hD9 (hIT), hS.F ht⟩) hS.2.2 dc_X9_areLike_40
  · have hw := hw.trans (if_pos c_2)
    refine lv_aload_n hx hb dc_X9_areLike_13 rfl (lv_at hl 0 rfl) ?_
    refine va_get (D := G.1) (ci := 5) (v := .ref cs) (C := RX9) (T := TX9) (N := 5) hx hb hts ki_X9 hown hE.1 hP 0 rfl rfl 1 (by decide) (hts _ kw_6_20) (fun _ h9 => h9) rfl dc_X9_areLike_14 ?_
    refine lv_iload_n hx hb dc_X9_areLike_17 rfl (lv_at hl 1 rfl) ?_
    refine va_aldq hx hb hE.1 hP 1 3 rfl rfl (lr_startB (hj_1.symm.trans c_2)).1 dc_X9_areLike_18 ?_
    obtain ⟨b_3, hb_3, hI_3, ho_3⟩ := hIT.2 _ (ky_i6 (lr_startB (hj_1.symm.trans c_2)).1)
    rw [ky_rf hb_3]
    have hX_3 : ky_It G b_3 ((w.2.2.2.2) (a1).toNatClampNeg) s.heap := by obtain ⟨b9, e9, i9, -⟩ := hIT0.2 _ (ky_i6 (lr_startB (hj_1.symm.trans c_2)).1); have z9 : b9 = b_3 := Option.some.inj (e9.symm.trans hb_3); exact z9 ▸ i9
    refine ky_cV1 (As := []) F (hE.at hfr hS) (mt_X8_rung l G (b_3) (((w.2.2.2.2) (a1).toNatClampNeg)) ) kv_X9_217 ⟨⟨rfl, rfl⟩, by decide, by decide⟩ rfl hl.1 rfl (Nat.le_of_ble_eq_true rfl) ⟨Nat.le_of_ble_eq_true rfl, Nat.le_of_ble_eq_true rfl⟩ (va_recv hE.1 hI_3 (ci := 4) (q0 := 0) rfl rfl) hI_3 dc_X9_areLike_19 ?_
    refine lv_aload_n hx hb dc_X9_areLike_22 rfl (lv_at hl 0 rfl) ?_
    refine va_get (D := G.1) (ci := 5) (v := .ref cs) (C := RX9) (T := TX9) (N := 5) hx hb hts ki_X9 hown hE.1 hP 0 rfl rfl 1 (by decide) (hts _ kw_6_20) (fun _ h9 => h9) rfl dc_X9_areLike_23 ?_
    refine lv_iload_n hx hb dc_X9_areLike_26 rfl (lv_at hl 2 rfl) ?_
    refine va_aldq hx hb hE.1 hP 1 3 rfl rfl (lr_startB (hj_1.symm.trans c_2)).2 dc_X9_areLike_27 ?_
    obtain ⟨b_4, hb_4, hI_4, ho_4⟩ := hIT.2 _ (ky_i6 (lr_startB (hj_1.symm.trans c_2)).2)
    rw [ky_rf hb_4]
    have hX_4 : ky_It G b_4 ((w.2.2.2.2) (a2).toNatClampNeg) s.heap := by obtain ⟨b9, e9, i9, -⟩ := hIT0.2 _ (ky_i6 (lr_startB (hj_1.symm.trans c_2)).2); have z9 : b9 = b_4 := Option.some.inj (e9.symm.trans hb_4); exact z9 ▸ i9
    refine ky_cV1 (As := []) F (hE.at hfr hS) (mt_X8_rung l G (b_4) (((w.2.2.2.2) (a2).toNatClampNeg)) ) kv_X9_217 ⟨⟨rfl, rfl⟩, by decide, by decide⟩ rfl hl.1 rfl (Nat.le_of_ble_eq_true rfl) ⟨Nat.le_of_ble_eq_true rfl, Nat.le_of_ble_eq_true rfl⟩ (va_recv hE.1 hI_4 (ci := 4) (q0 := 0) rfl rfl) hI_4 dc_X9_areLike_28 ?_
    refine W.lcmp hx hb dc_X9_areLike_31 ?_
    refine lv_if_ne (tgt := 39) hx hb dc_X9_areLike_32 (by decide) (fun c_5 => ?_) (fun c_5 => ?_)
    · have hw := hw.trans (if_neg c_5)
      refine lv_iconst (v := 0) hx hb dc_X9_areLike_39 (by decide) ?_
      have hP9 : va_P G.1 kcl (ky_WM G mo cs ((j_1, w.2.1, w.2.2.1, w.2.2.2.1, w.2.2.2.2)) (f)) H := hP.sub [0, 1] rfl
      have hD9 : va_D A (ky_WM G mo cs ((j_1, w.2.1, w.2.2.1, w.2.2.2.1, w.2.2.2.2)) (f)) := hD.sub [0, 1] (by decide) rfl
      refine W.widen (k := 0) (n := 0) (Nat.le_of_ble_eq_true rfl) (Nat.le_of_ble_eq_true rfl) ?_
      exact W.zret (v := (0 : Int32)) hx hb hr (by decide) (fun t ht hW => ⟨by rw [ht]; exact ky_endM (fun z => some (.int z)) ((0 : Int32)) hw hP9 hD9 (hIT), hS.F ht⟩) hS.2.2 dc_X9_areLike_40
    · have hw := hw.trans (if_pos c_5)
      refine lv_iconst (v := 1) hx hb dc_X9_areLike_35 (by decide) ?_
      refine lv_goto (tgt := 40) hx hb dc_X9_areLike_36 (by decide) ?_
      have hP9 : va_P G.1 kcl (ky_WM G mo cs ((j_1, w.2.1, w.2.2.1, w.2.2.2.1, w.2.2.2.2)) (f)) H := hP.sub [0, 1] rfl
      have hD9 : va_D A (ky_WM G mo cs ((j_1, w.2.1, w.2.2.1, w.2.2.2.1, w.2.2.2.2)) (f)) := hD.sub [0, 1] (by decide) rfl
      refine W.widen (k := 0) (n := 0) (Nat.le_of_ble_eq_true rfl) (Nat.le_of_ble_eq_true rfl) ?_
      exact W.zret (v := (1 : Int32)) hx hb hr (by decide) (fun t ht hW => ⟨by rw [ht]; exact ky_endM (fun z => some (.int z)) ((1 : Int32)) hw hP9 hD9 (hIT), hS.F ht⟩) hS.2.2 dc_X9_areLike_40
end
section
def fn_X9_isBelow (a1 : Int32) (a2 : Int32)  (w : ky_MV) : Int32 × ky_MV :=
  if (jst (fn_X9_areNo (a1) (a2))) = (0 : Int32) then (if (0 : Int32) ≤ (lg_cmp (fn_X8_rung ((w.2.2.2.2) (a1).toNatClampNeg)) (fn_X8_rung ((w.2.2.2.2) (a2).toNatClampNeg))) then (((0 : Int32), (jst (fn_X9_areNo (a1) (a2)), w.2.1, w.2.2.1, w.2.2.2.1, w.2.2.2.2))) else (((1 : Int32), (jst (fn_X9_areNo (a1) (a2)), w.2.1, w.2.2.1, w.2.2.2.1, w.2.2.2.2)))) else (((0 : Int32), (jst (fn_X9_areNo (a1) (a2)), w.2.1, w.2.2.1, w.2.2.2.1, w.2.2.2.2)))
set_option linter.constructorNameAsVariable false in
set_option maxHeartbeats 4000000 in
set_option maxRecDepth 100000 in
theorem mt_X9_isBelow (l : Launch) (G : ky_G) (mo cs : Nat) (N : Nat → Prop) (w : ky_MV) (f : Nat → Option Nat)    (a1 : Int32) (a2 : Int32) (sz : Nat) : Met l my_X9_isBelow (.code my_X9_isBelow prog_10_method_56_code 3 (some .boolean) :: ky_B) { frames := 3, cells := 0, slots := 0, locals := 64 } (ky_P G [.ref mo, .int (a1), .int (a2)] (ky_WM G mo cs w f) sz (fun H => ky_IT G mo cs N f w.2.2.2.2 H)) (ky_Q (S := ky_MV × (Nat → Option Nat)) G (va_A (ky_WM G mo cs w f) sz) (fun v u => v = some (.int (fn_X9_isBelow a1 a2 w).1) ∧ u.1 = (fn_X9_isBelow a1 a2 w).2) (fun u => ky_WM G mo cs u.1 u.2) (fun u H => ky_IT G mo cs N u.2 u.1.2.2.2.2 H)) 0 0 (va_A (ky_WM G mo cs w f) sz) := by
  refine ky_start (by decide) (Nat.le_of_ble_eq_true rfl) (fun p e s m below meth c F hE A hAe hsz hA hfr hP hD hS hX ls hl => ?_)
  obtain ⟨hx, hb, hml, hown, hr, hlocks, hts⟩ := id F
  have hIT0 := hX
  have hIT := hIT0
  have hl : lv_has ls 3 [(0, .ref mo), (1, .int (a1)), (2, .int (a2))] := hl
  have hP : va_P G.1 kcl [(mo, .inr (5, [.int (w.1), .ref cs, .int (w.2.1), .int (w.2.2.1), .int (w.2.2.2.1)])), (cs, .inl (G.2.1 3, 6, .inr (.inr (.inr (.inr (f))))))] s.heap := hP
  have hD : va_D A [(mo, .inr (5, [.int (w.1), .ref cs, .int (w.2.1), .int (w.2.2.1), .int (w.2.2.2.1)])), (cs, .inl (G.2.1 3, 6, .inr (.inr (.inr (.inr (f))))))] := hD
  have hw : fn_X9_isBelow a1 a2 w = _ := fn_X9_isBelow.eq_1 a1 a2 w
  refine lv_aload_n hx hb dc_X9_isBelow_0 rfl (lv_at hl 0 rfl) ?_
  refine lv_aload_n hx hb dc_X9_isBelow_1 rfl (lv_at hl 0 rfl) ?_
  refine lv_iload_n hx hb dc_X9_isBelow_2 rfl (lv_at hl 1 rfl) ?_
  refine lv_iload_n hx hb dc_X9_isBelow_3 rfl (lv_at hl 2 rfl) ?_
  refine ky_cV1 (As := [.int (a1), .int (a2)]) F (hE.at hfr hS) (mt_X9_areNo l G (mo) (a1) (a2)) kv_X9_104 ⟨⟨rfl, rfl⟩, by decide, by decide⟩ rfl hl.1 rfl (Nat.le_of_ble_eq_true rfl) ⟨Nat.le_of_ble_eq_true rfl, Nat.le_of_ble_eq_true rfl⟩ (va_recv hE.1 hP (ci := 5) (q0 := 0) rfl rfl) trivial dc_X9_isBelow_4 ?_
  refine ky_cVh (As := [.int (fn_X9_areNo (a1) (a2))]) (wr := []) F (hE.at hfr hS) hfr (mt_X9_startJ l G (mo) (cs) ((w.1, w.2.1, w.2.2.1, w.2.2.2.1)) (f) (fn_X9_areNo (a1) (a2)) s.heap.size ) kv_X9_55 ⟨⟨rfl, rfl⟩, by decide, by decide⟩ rfl hl.1 rfl (Nat.le_of_ble_eq_true rfl) ⟨Nat.le_of_ble_eq_true rfl, Nat.le_of_ble_eq_true rfl⟩ (va_recv hE.1 hP (ci := 5) (q0 := 0) rfl rfl) trivial hP hD hS hA [0, 1] [] rfl rfl (by decide) (by decide) (by decide) dc_X9_isBelow_7 ?_
  rintro v9 u9 H locs ⟨rfl, rfl⟩ hP hD hS - hz hk9
  obtain ⟨j_1, hj_1⟩ : ∃ j9, j9 = jst (fn_X9_areNo (a1) (a2)) := ⟨_, rfl⟩
  rw [← hj_1] at hP hD ⊢
  try rw [← hj_1] at hw
  have hP : va_P G.1 kcl [(mo, .inr (5, [.int (j_1), .ref cs, .int (w.2.1), .int (w.2.2.1), .int (w.2.2.2.1)])), (cs, .inl (G.2.1 3, 6, .inr (.inr (.inr (.inr (f))))))] H := hP
  have hD : va_D A [(mo, .inr (5, [.int (j_1), .ref cs, .int (w.2.1), .int (w.2.2.1), .int (w.2.2.2.1)])), (cs, .inl (G.2.1 3, 6, .inr (.inr (.inr (.inr (f))))))] := hD
  have hIT := hIT0.ro hAe hS
  refine W.widen (k := 0) (n := 0) (Nat.le_refl _) (Nat.le_refl _) ?_
  refine lv_if_ne (tgt := 39) hx hb dc_X9_isBelow_10 (by decide) (fun c_2 => ?_) (fun c_2 => ?_)
  · have hw := hw.trans (if_neg c_2)
    refine lv_iconst (v := 0) hx hb dc_X9_isBelow_39 (by decide) ?_
    have hP9 : va_P G.1 kcl (ky_WM G mo cs ((j_1, w.2.1, w.2.2.1, w.2.2.2.1, w.2.2.2.2)) (f)) H := hP.sub [0, 1] rfl
    have hD9 : va_D A (ky_WM G mo cs ((j_1, w.2.1, w.2.2.1, w.2.2.2.1, w.2.2.2.2)) (f)) := hD.sub [0, 1] (by decide) rfl
    refine W.widen (k := 0) (n := 0) (Nat.le_of_ble_eq_true rfl) (Nat.le_of_ble_eq_true rfl) ?_
    exact W.zret (v := (0 : Int32)) hx hb hr (by decide) (fun t ht hW => ⟨by rw [ht]; exact ky_endM (fun z => some (.int z)) ((0 : Int32)) hw hP9 hD9 (hIT), hS.F ht⟩) hS.2.2 dc_X9_isBelow_40
  · have hw := hw.trans (if_pos c_2)
    refine lv_aload_n hx hb dc_X9_isBelow_13 rfl (lv_at hl 0 rfl) ?_
    refine va_get (D := G.1) (ci := 5) (v := .ref cs) (C := RX9) (T := TX9) (N := 5) hx hb hts ki_X9 hown hE.1 hP 0 rfl rfl 1 (by decide) (hts _ kw_6_20) (fun _ h9 => h9) rfl dc_X9_isBelow_14 ?_
    refine lv_iload_n hx hb dc_X9_isBelow_17 rfl (lv_at hl 1 rfl) ?_
    refine va_aldq hx hb hE.1 hP 1 3 rfl rfl (lr_startB (hj_1.symm.trans c_2)).1 dc_X9_isBelow_18 ?_
    obtain ⟨b_3, hb_3, hI_3, ho_3⟩ := hIT.2 _ (ky_i6 (lr_startB (hj_1.symm.trans c_2)).1)
    rw [ky_rf hb_3]
    have hX_3 : ky_It G b_3 ((w.2.2.2.2) (a1).toNatClampNeg) s.heap := by obtain ⟨b9, e9, i9, -⟩ := hIT0.2 _ (ky_i6 (lr_startB (hj_1.symm.trans c_2)).1); have z9 : b9 = b_3 := Option.some.inj (e9.symm.trans hb_3); exact z9 ▸ i9
    refine ky_cV1 (As := []) F (hE.at hfr hS) (mt_X8_rung l G (b_3) (((w.2.2.2.2) (a1).toNatClampNeg)) ) kv_X9_217 ⟨⟨rfl, rfl⟩, by decide, by decide⟩ rfl hl.1 rfl (Nat.le_of_ble_eq_true rfl) ⟨Nat.le_of_ble_eq_true rfl, Nat.le_of_ble_eq_true rfl⟩ (va_recv hE.1 hI_3 (ci := 4) (q0 := 0) rfl rfl) hI_3 dc_X9_isBelow_19 ?_
    refine lv_aload_n hx hb dc_X9_isBelow_22 rfl (lv_at hl 0 rfl) ?_
    refine va_get (D := G.1) (ci := 5) (v := .ref cs) (C := RX9) (T := TX9) (N := 5) hx hb hts ki_X9 hown hE.1 hP 0 rfl rfl 1 (by decide) (hts _ kw_6_20) (fun _ h9 => h9) rfl dc_X9_isBelow_23 ?_
    refine lv_iload_n hx hb dc_X9_isBelow_26 rfl (lv_at hl 2 rfl) ?_
    refine va_aldq hx hb hE.1 hP 1 3 rfl rfl (lr_startB (hj_1.symm.trans c_2)).2 dc_X9_isBelow_27 ?_
    obtain ⟨b_4, hb_4, hI_4, ho_4⟩ := hIT.2 _ (ky_i6 (lr_startB (hj_1.symm.trans c_2)).2)
    rw [ky_rf hb_4]
    have hX_4 : ky_It G b_4 ((w.2.2.2.2) (a2).toNatClampNeg) s.heap := by obtain ⟨b9, e9, i9, -⟩ := hIT0.2 _ (ky_i6 (lr_startB (hj_1.symm.trans c_2)).2); have z9 : b9 = b_4 := Option.some.inj (e9.symm.trans hb_4); exact z9 ▸ i9
    refine ky_cV1 (As := []) F (hE.at hfr hS) (mt_X8_rung l G (b_4) (((w.2.2.2.2) (a2).toNatClampNeg)) ) kv_X9_217 ⟨⟨rfl, rfl⟩, by decide, by decide⟩ rfl hl.1 rfl (Nat.le_of_ble_eq_true rfl) ⟨Nat.le_of_ble_eq_true rfl, Nat.le_of_ble_eq_true rfl⟩ (va_recv hE.1 hI_4 (ci := 4) (q0 := 0) rfl rfl) hI_4 dc_X9_isBelow_28 ?_
    refine W.lcmp hx hb dc_X9_isBelow_31 ?_
    refine lv_if_ge (tgt := 39) hx hb dc_X9_isBelow_32 (by decide) (fun c_5 => ?_) (fun c_5 => ?_)
    · have hw := hw.trans (if_pos c_5)
      refine lv_iconst (v := 0) hx hb dc_X9_isBelow_39 (by decide) ?_
      have hP9 : va_P G.1 kcl (ky_WM G mo cs ((j_1, w.2.1, w.2.2.1, w.2.2.2.1, w.2.2.2.2)) (f)) H := hP.sub [0, 1] rfl
      have hD9 : va_D A (ky_WM G mo cs ((j_1, w.2.1, w.2.2.1, w.2.2.2.1, w.2.2.2.2)) (f)) := hD.sub [0, 1] (by decide) rfl
      refine W.widen (k := 0) (n := 0) (Nat.le_of_ble_eq_true rfl) (Nat.le_of_ble_eq_true rfl) ?_
      exact W.zret (v := (0 : Int32)) hx hb hr (by decide) (fun t ht hW => ⟨by rw [ht]; exact ky_endM (fun z => some (.int z)) ((0 : Int32)) hw hP9 hD9 (hIT), hS.F ht⟩) hS.2.2 dc_X9_isBelow_40
    · have hw := hw.trans (if_neg c_5)
      refine lv_iconst (v := 1) hx hb dc_X9_isBelow_35 (by decide) ?_
      refine lv_goto (tgt := 40) hx hb dc_X9_isBelow_36 (by decide) ?_
      have hP9 : va_P G.1 kcl (ky_WM G mo cs ((j_1, w.2.1, w.2.2.1, w.2.2.2.1, w.2.2.2.2)) (f)) H := hP.sub [0, 1] rfl
      have hD9 : va_D A (ky_WM G mo cs ((j_1, w.2.1, w.2.2.1, w.2.2.2.1, w.2.2.2.2)) (f)) := hD.sub [0, 1] (by decide) rfl
      refine W.widen (k := 0) (n := 0) (Nat.le_of_ble_eq_true rfl) (Nat.le_of_ble_eq_true rfl) ?_
      exact W.zret (v := (1 : Int32)) hx hb hr (by decide) (fun t ht hW => ⟨by rw [ht]; exact ky_endM (fun z => some (.int z)) ((1 : Int32)) hw hP9 hD9 (hIT), hS.F ht⟩) hS.2.2 dc_X9_isBelow_40
end
section
def fn_X9_areSame (a1 : Int32) (a2 : Int32)  (w : ky_MV) : Int32 × ky_MV :=
  if (jst (fn_X9_areNo (a1) (a2))) = (0 : Int32) then (if (fn_X8_isSame ((w.2.2.2.2) (a1).toNatClampNeg) ((w.2.2.2.2) (a2).toNatClampNeg)) = (0 : Int32) then (((0 : Int32), (jst (fn_X9_areNo (a1) (a2)), w.2.1, w.2.2.1, w.2.2.2.1, w.2.2.2.2))) else (((1 : Int32), (jst (fn_X9_areNo (a1) (a2)), w.2.1, w.2.2.1, w.2.2.2.1, w.2.2.2.2)))) else (((0 : Int32), (jst (fn_X9_areNo (a1) (a2)), w.2.1, w.2.2.1, w.2.2.2.1, w.2.2.2.2)))
set_option linter.constructorNameAsVariable false in
set_option maxHeartbeats 4000000 in
set_option maxRecDepth 100000 in
theorem mt_X9_areSame (l : Launch) (G : ky_G) (mo cs : Nat) (N : Nat → Prop) (w : ky_MV) (f : Nat → Option Nat)    (a1 : Int32) (a2 : Int32) (sz : Nat) : Met l my_X9_areSame (.code my_X9_areSame prog_10_method_57_code 3 (some .boolean) :: ky_B) { frames := 3, cells := 0, slots := 0, locals := 64 } (ky_P G [.ref mo, .int (a1), .int (a2)] (ky_WM G mo cs w f) sz (fun H => ky_IT G mo cs N f w.2.2.2.2 H)) (ky_Q (S := ky_MV × (Nat → Option Nat)) G (va_A (ky_WM G mo cs w f) sz) (fun v u => v = some (.int (fn_X9_areSame a1 a2 w).1) ∧ u.1 = (fn_X9_areSame a1 a2 w).2) (fun u => ky_WM G mo cs u.1 u.2) (fun u H => ky_IT G mo cs N u.2 u.1.2.2.2.2 H)) 0 0 (va_A (ky_WM G mo cs w f) sz) := by
  refine ky_start (by decide) (Nat.le_of_ble_eq_true rfl) (fun p e s m below meth c F hE A hAe hsz hA hfr hP hD hS hX ls hl => ?_)
  obtain ⟨hx, hb, hml, hown, hr, hlocks, hts⟩ := id F
  have hIT0 := hX
  have hIT := hIT0
  have hl : lv_has ls 3 [(0, .ref mo), (1, .int (a1)), (2, .int (a2))] := hl
  have hP : va_P G.1 kcl [(mo, .inr (5, [.int (w.1), .ref cs, .int (w.2.1), .int (w.2.2.1), .int (w.2.2.2.1)])), (cs, .inl (G.2.1 3, 6, .inr (.inr (.inr (.inr (f))))))] s.heap := hP
  have hD : va_D A [(mo, .inr (5, [.int (w.1), .ref cs, .int (w.2.1), .int (w.2.2.1), .int (w.2.2.2.1)])), (cs, .inl (G.2.1 3, 6, .inr (.inr (.inr (.inr (f))))))] := hD
  have hw : fn_X9_areSame a1 a2 w = _ := fn_X9_areSame.eq_1 a1 a2 w
  refine lv_aload_n hx hb dc_X9_areSame_0 rfl (lv_at hl 0 rfl) ?_
  refine lv_aload_n hx hb dc_X9_areSame_1 rfl (lv_at hl 0 rfl) ?_
  refine lv_iload_n hx hb dc_X9_areSame_2 rfl (lv_at hl 1 rfl) ?_
  refine lv_iload_n hx hb dc_X9_areSame_3 rfl (lv_at hl 2 rfl) ?_
  refine ky_cV1 (As := [.int (a1), .int (a2)]) F (hE.at hfr hS) (mt_X9_areNo l G (mo) (a1) (a2)) kv_X9_104 ⟨⟨rfl, rfl⟩, by decide, by decide⟩ rfl hl.1 rfl (Nat.le_of_ble_eq_true rfl) ⟨Nat.le_of_ble_eq_true rfl, Nat.le_of_ble_eq_true rfl⟩ (va_recv hE.1 hP (ci := 5) (q0 := 0) rfl rfl) trivial dc_X9_areSame_4 ?_
  refine ky_cVh (As := [.int (fn_X9_areNo (a1) (a2))]) (wr := []) F (hE.at hfr hS) hfr (mt_X9_startJ l G (mo) (cs) ((w.1, w.2.1, w.2.2.1, w.2.2.2.1)) (f) (fn_X9_areNo (a1) (a2)) s.heap.size ) kv_X9_55 ⟨⟨rfl, rfl⟩, by decide, by decide⟩ rfl hl.1 rfl (Nat.le_of_ble_eq_true rfl) ⟨Nat.le_of_ble_eq_true rfl, Nat.le_of_ble_eq_true rfl⟩ (va_recv hE.1 hP (ci := 5) (q0 := 0) rfl rfl) trivial hP hD hS hA [0, 1] [] rfl rfl (by decide) (by decide) (by decide) dc_X9_areSame_7 ?_
  rintro v9 u9 H locs ⟨rfl, rfl⟩ hP hD hS - hz hk9
  obtain ⟨j_1, hj_1⟩ : ∃ j9, j9 = jst (fn_X9_areNo (a1) (a2)) := ⟨_, rfl⟩
  rw [← hj_1] at hP hD ⊢
  try rw [← hj_1] at hw
  have hP : va_P G.1 kcl [(mo, .inr (5, [.int (j_1), .ref cs, .int (w.2.1), .int (w.2.2.1), .int (w.2.2.2.1)])), (cs, .inl (G.2.1 3, 6, .inr (.inr (.inr (.inr (f))))))] H := hP
  have hD : va_D A [(mo, .inr (5, [.int (j_1), .ref cs, .int (w.2.1), .int (w.2.2.1), .int (w.2.2.2.1)])), (cs, .inl (G.2.1 3, 6, .inr (.inr (.inr (.inr (f))))))] := hD
  have hIT := hIT0.ro hAe hS
  refine W.widen (k := 0) (n := 0) (Nat.le_refl _) (Nat.le_refl _) ?_
  refine lv_if_ne (tgt := 35) hx hb dc_X9_areSame_10 (by decide) (fun c_2 => ?_) (fun c_2 => ?_)
  · have hw := hw.trans (if_neg c_2)
    refine lv_iconst (v := 0) hx hb dc_X9_areSame_35 (by decide) ?_
    have hP9 : va_P G.1 kcl (ky_WM G mo cs ((j_1, w.2.1, w.2.2.1, w.2.2.2.1, w.2.2.2.2)) (f)) H := hP.sub [0, 1] rfl
    have hD9 : va_D A (ky_WM G mo cs ((j_1, w.2.1, w.2.2.1, w.2.2.2.1, w.2.2.2.2)) (f)) := hD.sub [0, 1] (by decide) rfl
    refine W.widen (k := 0) (n := 0) (Nat.le_of_ble_eq_true rfl) (Nat.le_of_ble_eq_true rfl) ?_
    exact W.zret (v := (0 : Int32)) hx hb hr (by decide) (fun t ht hW => ⟨by rw [ht]; exact ky_endM (fun z => some (.int z)) ((0 : Int32)) hw hP9 hD9 (hIT), hS.F ht⟩) hS.2.2 dc_X9_areSame_36
  · have hw := hw.trans (if_pos c_2)
    refine lv_aload_n hx hb dc_X9_areSame_13 rfl (lv_at hl 0 rfl) ?_
    refine va_get (D := G.1) (ci := 5) (v := .ref cs) (C := RX9) (T := TX9) (N := 5) hx hb hts ki_X9 hown hE.1 hP 0 rfl rfl 1 (by decide) (hts _ kw_6_20) (fun _ h9 => h9) rfl dc_X9_areSame_14 ?_
    refine lv_iload_n hx hb dc_X9_areSame_17 rfl (lv_at hl 1 rfl) ?_
    refine va_aldq hx hb hE.1 hP 1 3 rfl rfl (lr_startB (hj_1.symm.trans c_2)).1 dc_X9_areSame_18 ?_
    obtain ⟨b_3, hb_3, hI_3, ho_3⟩ := hIT.2 _ (ky_i6 (lr_startB (hj_1.symm.trans c_2)).1)
    rw [ky_rf hb_3]
    have hX_3 : ky_It G b_3 ((w.2.2.2.2) (a1).toNatClampNeg) s.heap := by obtain ⟨b9, e9, i9, -⟩ := hIT0.2 _ (ky_i6 (lr_startB (hj_1.symm.trans c_2)).1); have z9 : b9 = b_3 := Option.some.inj (e9.symm.trans hb_3); exact z9 ▸ i9
    refine lv_aload_n hx hb dc_X9_areSame_19 rfl (lv_at hl 0 rfl) ?_
    refine va_get (D := G.1) (ci := 5) (v := .ref cs) (C := RX9) (T := TX9) (N := 5) hx hb hts ki_X9 hown hE.1 hP 0 rfl rfl 1 (by decide) (hts _ kw_6_20) (fun _ h9 => h9) rfl dc_X9_areSame_20 ?_
    refine lv_iload_n hx hb dc_X9_areSame_23 rfl (lv_at hl 2 rfl) ?_
    refine va_aldq hx hb hE.1 hP 1 3 rfl rfl (lr_startB (hj_1.symm.trans c_2)).2 dc_X9_areSame_24 ?_
    obtain ⟨b_4, hb_4, hI_4, ho_4⟩ := hIT.2 _ (ky_i6 (lr_startB (hj_1.symm.trans c_2)).2)
    rw [ky_rf hb_4]
    have hX_4 : ky_It G b_4 ((w.2.2.2.2) (a2).toNatClampNeg) s.heap := by obtain ⟨b9, e9, i9, -⟩ := hIT0.2 _ (ky_i6 (lr_startB (hj_1.symm.trans c_2)).2); have z9 : b9 = b_4 := Option.some.inj (e9.symm.trans hb_4); exact z9 ▸ i9
    refine ky_cV1 (As := [.ref b_4]) F (hE.at hfr hS) (mt_X8_isSame l G (b_3) (b_4) (((w.2.2.2.2) (a1).toNatClampNeg)) (((w.2.2.2.2) (a2).toNatClampNeg)) ) kv_X9_235 ⟨⟨rfl, rfl⟩, by decide, by decide⟩ rfl hl.1 rfl (Nat.le_of_ble_eq_true rfl) ⟨Nat.le_of_ble_eq_true rfl, Nat.le_of_ble_eq_true rfl⟩ (va_recv hE.1 hI_3 (ci := 4) (q0 := 0) rfl rfl) ⟨hI_3, hI_4⟩ dc_X9_areSame_25 ?_
    refine lv_if_eq (tgt := 35) hx hb dc_X9_areSame_28 (by decide) (fun c_5 => ?_) (fun c_5 => ?_)
    · have hw := hw.trans (if_pos c_5)
      refine lv_iconst (v := 0) hx hb dc_X9_areSame_35 (by decide) ?_
      have hP9 : va_P G.1 kcl (ky_WM G mo cs ((j_1, w.2.1, w.2.2.1, w.2.2.2.1, w.2.2.2.2)) (f)) H := hP.sub [0, 1] rfl
      have hD9 : va_D A (ky_WM G mo cs ((j_1, w.2.1, w.2.2.1, w.2.2.2.1, w.2.2.2.2)) (f)) := hD.sub [0, 1] (by decide) rfl
      refine W.widen (k := 0) (n := 0) (Nat.le_of_ble_eq_true rfl) (Nat.le_of_ble_eq_true rfl) ?_
      exact W.zret (v := (0 : Int32)) hx hb hr (by decide) (fun t ht hW => ⟨by rw [ht]; exact ky_endM (fun z => some (.int z)) ((0 : Int32)) hw hP9 hD9 (hIT), hS.F ht⟩) hS.2.2 dc_X9_areSame_36
    · have hw := hw.trans (if_neg c_5)
      refine lv_iconst (v := 1) hx hb dc_X9_areSame_31 (by decide) ?_
      refine lv_goto (tgt := 36) hx hb dc_X9_areSame_32 (by decide) ?_
      have hP9 : va_P G.1 kcl (ky_WM G mo cs ((j_1, w.2.1, w.2.2.1, w.2.2.2.1, w.2.2.2.2)) (f)) H := hP.sub [0, 1] rfl
      have hD9 : va_D A (ky_WM G mo cs ((j_1, w.2.1, w.2.2.1, w.2.2.2.1, w.2.2.2.2)) (f)) := hD.sub [0, 1] (by decide) rfl
      refine W.widen (k := 0) (n := 0) (Nat.le_of_ble_eq_true rfl) (Nat.le_of_ble_eq_true rfl) ?_
      exact W.zret (v := (1 : Int32)) hx hb hr (by decide) (fun t ht hW => ⟨by rw [ht]; exact ky_endM (fun z => some (.int z)) ((1 : Int32)) hw hP9 hD9 (hIT), hS.F ht⟩) hS.2.2 dc_X9_areSame_36
end
section
def fn_X9_isNext (a1 : Int32) (a2 : Int32)  (w : ky_MV) : Int32 × ky_MV :=
  if (jst (fn_X9_areNo (a1) (a2))) = (0 : Int32) then (if (fn_X8_isSame (fn_X8_up ((w.2.2.2.2) (a1).toNatClampNeg)) ((w.2.2.2.2) (a2).toNatClampNeg)) = (0 : Int32) then (((0 : Int32), (jst (fn_X9_areNo (a1) (a2)), w.2.1, w.2.2.1, w.2.2.2.1, w.2.2.2.2))) else (((1 : Int32), (jst (fn_X9_areNo (a1) (a2)), w.2.1, w.2.2.1, w.2.2.2.1, w.2.2.2.2)))) else (((0 : Int32), (jst (fn_X9_areNo (a1) (a2)), w.2.1, w.2.2.1, w.2.2.2.1, w.2.2.2.2)))
set_option linter.constructorNameAsVariable false in
set_option maxHeartbeats 4000000 in
set_option maxRecDepth 100000 in
theorem mt_X9_isNext (l : Launch) (G : ky_G) (mo cs : Nat) (N : Nat → Prop) (w : ky_MV) (f : Nat → Option Nat)    (a1 : Int32) (a2 : Int32) (sz : Nat) : Met l my_X9_isNext (.code my_X9_isNext prog_10_method_58_code 3 (some .boolean) :: ky_B) { frames := 3, cells := 1, slots := 2, locals := 64 } (ky_P G [.ref mo, .int (a1), .int (a2)] (ky_WM G mo cs w f) sz (fun H => ky_IT G mo cs N f w.2.2.2.2 H)) (ky_Q (S := ky_MV × (Nat → Option Nat)) G (va_A (ky_WM G mo cs w f) sz) (fun v u => v = some (.int (fn_X9_isNext a1 a2 w).1) ∧ u.1 = (fn_X9_isNext a1 a2 w).2) (fun u => ky_WM G mo cs u.1 u.2) (fun u H => ky_IT G mo cs N u.2 u.1.2.2.2.2 H)) 1 2 (va_A (ky_WM G mo cs w f) sz) := by
  refine ky_start (by decide) (Nat.le_of_ble_eq_true rfl) (fun p e s m below meth c F hE A hAe hsz hA hfr hP hD hS hX ls hl => ?_)
  obtain ⟨hx, hb, hml, hown, hr, hlocks, hts⟩ := id F
  have hIT0 := hX
  have hIT := hIT0
  have hl : lv_has ls 3 [(0, .ref mo), (1, .int (a1)), (2, .int (a2))] := hl
  have hP : va_P G.1 kcl [(mo, .inr (5, [.int (w.1), .ref cs, .int (w.2.1), .int (w.2.2.1), .int (w.2.2.2.1)])), (cs, .inl (G.2.1 3, 6, .inr (.inr (.inr (.inr (f))))))] s.heap := hP
  have hD : va_D A [(mo, .inr (5, [.int (w.1), .ref cs, .int (w.2.1), .int (w.2.2.1), .int (w.2.2.2.1)])), (cs, .inl (G.2.1 3, 6, .inr (.inr (.inr (.inr (f))))))] := hD
  have hw : fn_X9_isNext a1 a2 w = _ := fn_X9_isNext.eq_1 a1 a2 w
  refine lv_aload_n hx hb dc_X9_isNext_0 rfl (lv_at hl 0 rfl) ?_
  refine lv_aload_n hx hb dc_X9_isNext_1 rfl (lv_at hl 0 rfl) ?_
  refine lv_iload_n hx hb dc_X9_isNext_2 rfl (lv_at hl 1 rfl) ?_
  refine lv_iload_n hx hb dc_X9_isNext_3 rfl (lv_at hl 2 rfl) ?_
  refine ky_cV1 (As := [.int (a1), .int (a2)]) F (hE.at hfr hS) (mt_X9_areNo l G (mo) (a1) (a2)) kv_X9_104 ⟨⟨rfl, rfl⟩, by decide, by decide⟩ rfl hl.1 rfl (Nat.le_of_ble_eq_true rfl) ⟨Nat.le_of_ble_eq_true rfl, Nat.le_of_ble_eq_true rfl⟩ (va_recv hE.1 hP (ci := 5) (q0 := 0) rfl rfl) trivial dc_X9_isNext_4 ?_
  refine ky_cVh (As := [.int (fn_X9_areNo (a1) (a2))]) (wr := []) F (hE.at hfr hS) hfr (mt_X9_startJ l G (mo) (cs) ((w.1, w.2.1, w.2.2.1, w.2.2.2.1)) (f) (fn_X9_areNo (a1) (a2)) s.heap.size ) kv_X9_55 ⟨⟨rfl, rfl⟩, by decide, by decide⟩ rfl hl.1 rfl (Nat.le_of_ble_eq_true rfl) ⟨Nat.le_of_ble_eq_true rfl, Nat.le_of_ble_eq_true rfl⟩ (va_recv hE.1 hP (ci := 5) (q0 := 0) rfl rfl) trivial hP hD hS hA [0, 1] [] rfl rfl (by decide) (by decide) (by decide) dc_X9_isNext_7 ?_
  rintro v9 u9 H locs ⟨rfl, rfl⟩ hP hD hS - hz hk9
  obtain ⟨j_1, hj_1⟩ : ∃ j9, j9 = jst (fn_X9_areNo (a1) (a2)) := ⟨_, rfl⟩
  rw [← hj_1] at hP hD ⊢
  try rw [← hj_1] at hw
  have hP : va_P G.1 kcl [(mo, .inr (5, [.int (j_1), .ref cs, .int (w.2.1), .int (w.2.2.1), .int (w.2.2.2.1)])), (cs, .inl (G.2.1 3, 6, .inr (.inr (.inr (.inr (f))))))] H := hP
  have hD : va_D A [(mo, .inr (5, [.int (j_1), .ref cs, .int (w.2.1), .int (w.2.2.1), .int (w.2.2.2.1)])), (cs, .inl (G.2.1 3, 6, .inr (.inr (.inr (.inr (f))))))] := hD
  have hIT := hIT0.ro hAe hS
  refine W.widen (k := 0) (n := 0) (Nat.le_refl _) (Nat.le_refl _) ?_
  refine lv_if_ne (tgt := 38) hx hb dc_X9_isNext_10 (by decide) (fun c_2 => ?_) (fun c_2 => ?_)
  · have hw := hw.trans (if_neg c_2)
    refine lv_iconst (v := 0) hx hb dc_X9_isNext_38 (by decide) ?_
    have hP9 : va_P G.1 kcl (ky_WM G mo cs ((j_1, w.2.1, w.2.2.1, w.2.2.2.1, w.2.2.2.2)) (f)) H := hP.sub [0, 1] rfl
    have hD9 : va_D A (ky_WM G mo cs ((j_1, w.2.1, w.2.2.1, w.2.2.2.1, w.2.2.2.2)) (f)) := hD.sub [0, 1] (by decide) rfl
    refine W.widen (k := 1) (n := 2) (Nat.le_of_ble_eq_true rfl) (Nat.le_of_ble_eq_true rfl) ?_
    exact W.zret (v := (0 : Int32)) hx hb hr (by decide) (fun t ht hW => ⟨by rw [ht]; exact ky_endM (fun z => some (.int z)) ((0 : Int32)) hw hP9 hD9 (hIT), hS.F ht⟩) hS.2.2 dc_X9_isNext_39
  · have hw := hw.trans (if_pos c_2)
    refine lv_aload_n hx hb dc_X9_isNext_13 rfl (lv_at hl 0 rfl) ?_
    refine va_get (D := G.1) (ci := 5) (v := .ref cs) (C := RX9) (T := TX9) (N := 5) hx hb hts ki_X9 hown hE.1 hP 0 rfl rfl 1 (by decide) (hts _ kw_6_20) (fun _ h9 => h9) rfl dc_X9_isNext_14 ?_
    refine lv_iload_n hx hb dc_X9_isNext_17 rfl (lv_at hl 1 rfl) ?_
    refine va_aldq hx hb hE.1 hP 1 3 rfl rfl (lr_startB (hj_1.symm.trans c_2)).1 dc_X9_isNext_18 ?_
    obtain ⟨b_3, hb_3, hI_3, ho_3⟩ := hIT.2 _ (ky_i6 (lr_startB (hj_1.symm.trans c_2)).1)
    rw [ky_rf hb_3]
    have hX_3 : ky_It G b_3 ((w.2.2.2.2) (a1).toNatClampNeg) s.heap := by obtain ⟨b9, e9, i9, -⟩ := hIT0.2 _ (ky_i6 (lr_startB (hj_1.symm.trans c_2)).1); have z9 : b9 = b_3 := Option.some.inj (e9.symm.trans hb_3); exact z9 ▸ i9
    have hm_4 := (hP 0 _ rfl).lt
    have hc_4 := (hP 1 _ rfl).lt
    have hN_4 := hIT.1
    have hs_4 := hS.1
    refine ky_cVh (As := []) (wr := [(mo, .inr (5, [.int (j_1), .ref cs, .int (w.2.1), .int (w.2.2.1), .int (w.2.2.2.1)])), (cs, .inl (G.2.1 3, 6, .inr (.inr (.inr (.inr (f))))))]) F (hE.at hfr hS) hfr (mt_X8_up l G (b_3) ((w.2.2.2.2) (a1).toNatClampNeg)  H.size) kv_X9_127 ⟨⟨rfl, rfl⟩, by decide, by decide⟩ rfl hl.1 rfl (Nat.le_of_ble_eq_true rfl) ⟨Nat.le_of_ble_eq_true rfl, Nat.le_of_ble_eq_true rfl⟩ (va_recv hE.1 hI_3 (ci := 4) (q0 := 0) rfl rfl) hI_3 hP hD hS hA [] [0, 1] rfl rfl (by decide) (by decide) (by decide) dc_X9_isNext_19 ?_
    rintro v9 q_4 H locs rfl hP hD hS ⟨hI_4, hd_4⟩ hz hk9
    have hP : va_P G.1 kcl [(mo, .inr (5, [.int (j_1), .ref cs, .int (w.2.1), .int (w.2.2.1), .int (w.2.2.2.1)])), (cs, .inl (G.2.1 3, 6, .inr (.inr (.inr (.inr (f))))))] H := hP
    have hD : va_D A [(mo, .inr (5, [.int (j_1), .ref cs, .int (w.2.1), .int (w.2.2.1), .int (w.2.2.2.1)])), (cs, .inl (G.2.1 3, 6, .inr (.inr (.inr (.inr (f))))))] := hD
    have hI_3 := hI_3.fr hk9
    refine W.widen (k := 1) (n := 2) (Nat.le_refl _) (Nat.le_refl _) ?_
    have hIT := hIT.keep hz (fun q9 ho9 hl9 => hk9 q9 hl9 (ky_nemp hl9))
    have hk_4 := ho_3.or hm_4 hc_4 hN_4 hd_4
    refine lv_aload_n hx hb dc_X9_isNext_22 rfl (lv_at hl 0 rfl) ?_
    refine va_get (D := G.1) (ci := 5) (v := .ref cs) (C := RX9) (T := TX9) (N := 5) hx hb hts ki_X9 hown hE.1 hP 0 rfl rfl 1 (by decide) (hts _ kw_6_20) (fun _ h9 => h9) rfl dc_X9_isNext_23 ?_
    refine lv_iload_n hx hb dc_X9_isNext_26 rfl (lv_at hl 2 rfl) ?_
    refine va_aldq hx hb hE.1 hP 1 3 rfl rfl (lr_startB (hj_1.symm.trans c_2)).2 dc_X9_isNext_27 ?_
    obtain ⟨b_5, hb_5, hI_5, ho_5⟩ := hIT.2 _ (ky_i6 (lr_startB (hj_1.symm.trans c_2)).2)
    rw [ky_rf hb_5]
    have hX_5 : ky_It G b_5 ((w.2.2.2.2) (a2).toNatClampNeg) s.heap := by obtain ⟨b9, e9, i9, -⟩ := hIT0.2 _ (ky_i6 (lr_startB (hj_1.symm.trans c_2)).2); have z9 : b9 = b_5 := Option.some.inj (e9.symm.trans hb_5); exact z9 ▸ i9
    refine ky_cV1 (As := [.ref b_5]) F (hE.at hfr hS) (mt_X8_isSame l G (q_4) (b_5) ((fn_X8_up ((w.2.2.2.2) (a1).toNatClampNeg))) (((w.2.2.2.2) (a2).toNatClampNeg)) ) kv_X9_235 ⟨⟨rfl, rfl⟩, by decide, by decide⟩ rfl hl.1 rfl (Nat.le_of_ble_eq_true rfl) ⟨Nat.le_of_ble_eq_true rfl, Nat.le_of_ble_eq_true rfl⟩ (va_recv hE.1 hI_4 (ci := 4) (q0 := 0) rfl rfl) ⟨hI_4, hI_5⟩ dc_X9_isNext_28 ?_
    refine lv_if_eq (tgt := 38) hx hb dc_X9_isNext_31 (by decide) (fun c_6 => ?_) (fun c_6 => ?_)
    · have hw := hw.trans (if_pos c_6)
      refine lv_iconst (v := 0) hx hb dc_X9_isNext_38 (by decide) ?_
      have hP9 : va_P G.1 kcl (ky_WM G mo cs ((j_1, w.2.1, w.2.2.1, w.2.2.2.1, w.2.2.2.2)) (f)) H := hP.sub [0, 1] rfl
      have hD9 : va_D A (ky_WM G mo cs ((j_1, w.2.1, w.2.2.1, w.2.2.2.1, w.2.2.2.2)) (f)) := hD.sub [0, 1] (by decide) rfl
      refine W.widen (k := 1) (n := 2) (Nat.le_of_ble_eq_true rfl) (Nat.le_of_ble_eq_true rfl) ?_
      exact W.zret (v := (0 : Int32)) hx hb hr (by decide) (fun t ht hW => ⟨by rw [ht]; exact ky_endM (fun z => some (.int z)) ((0 : Int32)) hw hP9 hD9 (hIT), hS.F ht⟩) hS.2.2 dc_X9_isNext_39
    · have hw := hw.trans (if_neg c_6)
      refine lv_iconst (v := 1) hx hb dc_X9_isNext_34 (by decide) ?_
      refine lv_goto (tgt := 39) hx hb dc_X9_isNext_35 (by decide) ?_
      have hP9 : va_P G.1 kcl (ky_WM G mo cs ((j_1, w.2.1, w.2.2.1, w.2.2.2.1, w.2.2.2.2)) (f)) H := hP.sub [0, 1] rfl
      have hD9 : va_D A (ky_WM G mo cs ((j_1, w.2.1, w.2.2.1, w.2.2.2.1, w.2.2.2.2)) (f)) := hD.sub [0, 1] (by decide) rfl
      refine W.widen (k := 1) (n := 2) (Nat.le_of_ble_eq_true rfl) (Nat.le_of_ble_eq_true rfl) ?_
      exact W.zret (v := (1 : Int32)) hx hb hr (by decide) (fun t ht hW => ⟨by rw [ht]; exact ky_endM (fun z => some (.int z)) ((1 : Int32)) hw hP9 hD9 (hIT), hS.F ht⟩) hS.2.2 dc_X9_isNext_39
end
