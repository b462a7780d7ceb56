section
def fn_X6_countWholeOnes_L4 : Nat → ky_BS → Int32 → Int32 → Int32 × ky_BS
  | 0, u, v1, v2 => (0, u)
  | n + 1, u, v1, v2 => if ((6 : Int32)) ≤ (v2) then ((v1, u)) else (if (fn_X0_isWholeOne ((u.1) (v2).toNatClampNeg)) = (0 : Int32) then (fn_X6_countWholeOnes_L4 n u (v1) ((v2) + 1)) else (fn_X6_countWholeOnes_L4 n u ((v1) + 1) ((v2) + 1)))
def fk_X6_countWholeOnes_L4 : Nat → ky_BS → Int32 → Int32 → Prop
  | 0, _, _, _ => False
  | n + 1, u, v1, v2 => ((((6 : Int32)) ≤ (v2)) → (True)) ∧ (¬ (((6 : Int32)) ≤ (v2)) → ((vp_in (v2) 6) ∧ ((((fn_X0_isWholeOne ((u.1) (v2).toNatClampNeg)) = (0 : Int32)) → (fk_X6_countWholeOnes_L4 n u (v1) ((v2) + 1))) ∧ (¬ ((fn_X0_isWholeOne ((u.1) (v2).toNatClampNeg)) = (0 : Int32)) → (fk_X6_countWholeOnes_L4 n u ((v1) + 1) ((v2) + 1))))))
set_option linter.constructorNameAsVariable false in
set_option maxHeartbeats 4000000 in
set_option maxRecDepth 100000 in
theorem ml_X6_countWholeOnes_L4 {p : Program} {l : Launch} {e : Env} {s : State} {m : MethodId} {args : Array Value} {below : List Frame} {meth : Method} {c : Code} {G : ky_G} {A : Nat → Prop} {x : Nat} {cs : Nat} {sc : Nat} {pf : Nat} {u : ky_BS} (F : ky_F p s m meth c my_X6_countWholeOnes.cls prog_1_method_63_code 3 (some .int) args) (hE : ky_E G s) (hA : ∀ q, s.heap.size ≤ q → A q) (hfr : ∀ q, A q → ky_fr G q) : ∀ (n : Nat) (v1 : Int32) (v2 : Int32), fk_X6_countWholeOnes_L4 n u v1 v2 → ∀ (H : Heap) (locs : List Loc), va_P G.1 kcl [(x, .inr (0, [.ref cs, .ref sc, .ref pf, .int (u.2.1), .int (u.2.2.1), .int (u.2.2.2)])), (cs, .inl (G.2.1 2, 6, .inr (.inl (u.1))))] H → va_D A [(x, .inr (0, [.ref cs, .ref sc, .ref pf, .int (u.2.1), .int (u.2.2.1), .int (u.2.2.2)])), (cs, .inl (G.2.1 2, 6, .inr (.inl (u.1))))] → va_S A s.heap H locs → ∀ ls : Array Slot, lv_has ls 3 [(0, .ref x), (1, .int (v1)), (2, .int (v2))] → W p l e { frames := 4, cells := 0, slots := 0, locals := 84 } s m args below meth c H locs 0 0 (MQ below (ky_Q (S := ky_BS) G A (fun v u9 => v = some (.int (fn_X6_countWholeOnes_L4 n u v1 v2).1) ∧ u9 = (fn_X6_countWholeOnes_L4 n u v1 v2).2) (fun u9 => ky_WB G x cs sc pf u9) (fun _ _ => True)) args s 0 0 A) (F0 m 4 ls []) := by
  obtain ⟨hx, hb, hml, hown, hr, hlocks, hts⟩ := id F
  intro n
  induction n with
  | zero => intro v1 v2 hk; exact False.elim hk
  | succ n ih =>
      intro v1 v2 hk H locs hP hD hS ls hl
      have hw : fn_X6_countWholeOnes_L4 (n + 1) u v1 v2 = (if ((6 : Int32)) ≤ (v2) then ((v1, u)) else (if (fn_X0_isWholeOne ((u.1) (v2).toNatClampNeg)) = (0 : Int32) then (fn_X6_countWholeOnes_L4 n u (v1) ((v2) + 1)) else (fn_X6_countWholeOnes_L4 n u ((v1) + 1) ((v2) + 1)))) := rfl
      have hk : ((((6 : Int32)) ≤ (v2)) → (True)) ∧ (¬ (((6 : Int32)) ≤ (v2)) → ((vp_in (v2) 6) ∧ ((((fn_X0_isWholeOne ((u.1) (v2).toNatClampNeg)) = (0 : Int32)) → (fk_X6_countWholeOnes_L4 n u (v1) ((v2) + 1))) ∧ (¬ ((fn_X0_isWholeOne ((u.1) (v2).toNatClampNeg)) = (0 : Int32)) → (fk_X6_countWholeOnes_L4 n u ((v1) + 1) ((v2) + 1)))))) := hk
      refine lv_iload_n hx hb dc_X6_countWholeOnes_4 rfl (lv_at hl 2 rfl) ?_
      refine lv_bipush (v := 6) hx hb dc_X6_countWholeOnes_5 (by decide) ?_
      refine lv_icmp_ge (tgt := 31) hx hb dc_X6_countWholeOnes_7 (by decide) (fun c_0 => ?_) (fun c_0 => ?_)
      · have hw := hw.trans (if_pos c_0)
        have hk := hk.1 c_0
        refine lv_iload_n hx hb dc_X6_countWholeOnes_31 rfl (lv_at hl 1 rfl) ?_
        have hP9 := hP.sub (ws' := [(x, .inr (0, [.ref cs, .ref sc, .ref pf, .int (u.2.1), .int (u.2.2.1), .int (u.2.2.2)])), (cs, .inl (G.2.1 2, 6, .inr (.inl (u.1))))]) [0, 1] rfl
        have hD9 := hD.sub (ws' := [(x, .inr (0, [.ref cs, .ref sc, .ref pf, .int (u.2.1), .int (u.2.2.1), .int (u.2.2.2)])), (cs, .inl (G.2.1 2, 6, .inr (.inl (u.1))))]) [0, 1] (by decide) rfl
        refine W.widen (k := 0) (n := 0) (Nat.le_of_ble_eq_true rfl) (Nat.le_of_ble_eq_true rfl) ?_
        exact W.iret (v := v1) hx hb hr (fun t ht hW => ⟨⟨_, u, rfl, ky_pi hw, by rw [ht]; exact hP9, hD9, trivial⟩, hS.F ht⟩) hS.2.2 dc_X6_countWholeOnes_32
      · have hw := hw.trans (if_neg c_0)
        have hk := hk.2 c_0
        refine lv_aload_n hx hb dc_X6_countWholeOnes_10 rfl (lv_at hl 0 rfl) ?_
        refine va_get (D := G.1) (ci := 0) (v := .ref cs) (C := RX6) (T := TX6) (N := 6) hx hb hts ki_X6 hown hE.1 hP 0 rfl rfl 0 (by decide) (hts _ kw_1_98) (fun _ h9 => h9) rfl dc_X6_countWholeOnes_11 ?_
        refine lv_iload_n hx hb dc_X6_countWholeOnes_14 rfl (lv_at hl 2 rfl) ?_
        obtain ⟨hq_1, hk⟩ := hk
        refine va_lald hx hb hE.1 hP 1 2 rfl rfl hq_1 dc_X6_countWholeOnes_15 ?_
        refine ky_cS0 (As := [.long ((u.1) (v2).toNatClampNeg)]) F (mt_X0_isWholeOne l ((u.1) (v2).toNatClampNeg)) ks_X6_163 ⟨⟨rfl, rfl⟩, by decide, by decide⟩ rfl hl.1 rfl (Nat.le_of_ble_eq_true rfl) ⟨Nat.le_of_ble_eq_true rfl, Nat.le_of_ble_eq_true rfl⟩ dc_X6_countWholeOnes_16 ?_
        refine lv_if_eq (tgt := 25) hx hb dc_X6_countWholeOnes_19 (by decide) (fun c_2 => ?_) (fun c_2 => ?_)
        · have hw := hw.trans (if_pos c_2)
          have hk := hk.1 c_2
          refine lv_iinc (v := (v2) + 1) (lv' := [(2, .int ((v2) + 1)), (0, .ref x), (1, .int (v1))]) hx hb dc_X6_countWholeOnes_25 hl (k := 2) rfl rfl (by decide) rfl (fun ls hl => ?_)
          refine lv_goto (tgt := 4) hx hb dc_X6_countWholeOnes_28 (by decide) ?_
          rw [hw]
          exact ih (v1) ((v2) + 1) hk _ _ (hP.sub (ws' := [(x, .inr (0, [.ref cs, .ref sc, .ref pf, .int (u.2.1), .int (u.2.2.1), .int (u.2.2.2)])), (cs, .inl (G.2.1 2, 6, .inr (.inl (u.1))))]) [0, 1] rfl) (hD.sub (ws' := [(x, .inr (0, [.ref cs, .ref sc, .ref pf, .int (u.2.1), .int (u.2.2.1), .int (u.2.2.2)])), (cs, .inl (G.2.1 2, 6, .inr (.inl (u.1))))]) [0, 1] (by decide) rfl) hS _ (lv_sub hl [1, 2, 0] rfl)
        · have hw := hw.trans (if_neg c_2)
          have hk := hk.2 c_2
          refine lv_iinc (v := (v1) + 1) (lv' := [(1, .int ((v1) + 1)), (0, .ref x), (2, .int (v2))]) hx hb dc_X6_countWholeOnes_22 hl (k := 1) rfl rfl (by decide) rfl (fun ls hl => ?_)
          refine lv_iinc (v := (v2) + 1) (lv' := [(2, .int ((v2) + 1)), (1, .int ((v1) + 1)), (0, .ref x)]) hx hb dc_X6_countWholeOnes_25 hl (k := 2) rfl rfl (by decide) rfl (fun ls hl => ?_)
          refine lv_goto (tgt := 4) hx hb dc_X6_countWholeOnes_28 (by decide) ?_
          rw [hw]
          exact ih ((v1) + 1) ((v2) + 1) hk _ _ (hP.sub (ws' := [(x, .inr (0, [.ref cs, .ref sc, .ref pf, .int (u.2.1), .int (u.2.2.1), .int (u.2.2.2)])), (cs, .inl (G.2.1 2, 6, .inr (.inl (u.1))))]) [0, 1] rfl) (hD.sub (ws' := [(x, .inr (0, [.ref cs, .ref sc, .ref pf, .int (u.2.1), .int (u.2.2.1), .int (u.2.2.2)])), (cs, .inl (G.2.1 2, 6, .inr (.inl (u.1))))]) [0, 1] (by decide) rfl) hS _ (lv_sub hl [2, 1, 0] rfl)
def fn_X6_countWholeOnes (u : ky_BS) : Int32 × ky_BS :=
  fn_X6_countWholeOnes_L4 (7) u ((0 : Int32)) ((0 : Int32))
def fk_X6_countWholeOnes (u : ky_BS) : Prop :=
  (fk_X6_countWholeOnes_L4 (7) u ((0 : Int32)) ((0 : Int32))) ∧ True
set_option linter.constructorNameAsVariable false in
set_option maxHeartbeats 4000000 in
set_option maxRecDepth 100000 in
theorem mt_X6_countWholeOnes (l : Launch) (G : ky_G) (x : Nat) (cs : Nat) (sc : Nat) (pf : Nat) (u : ky_BS)  (sz : Nat)  (hk : fk_X6_countWholeOnes u) : Met l my_X6_countWholeOnes (.code my_X6_countWholeOnes prog_1_method_63_code 3 (some .int) :: ky_B) { frames := 4, cells := 0, slots := 0, locals := 84 } (ky_P G [.ref x] (ky_WB G x cs sc pf u) sz (fun _ => True)) (ky_Q (S := ky_BS) G (va_A (ky_WB G x cs sc pf u) sz) (fun v u9 => v = some (.int (fn_X6_countWholeOnes u).1) ∧ u9 = (fn_X6_countWholeOnes u).2) (fun u9 => ky_WB G x cs sc pf u9) (fun _ _ => True)) 0 0 (va_A (ky_WB G x cs sc pf u) sz) := by
  refine ky_start (by decide) (Nat.le_of_ble_eq_true rfl) (fun p e s m below meth c F hE A hAe hsz hA hfr hP hD hS hX ls hl => ?_)
  obtain ⟨hx, hb, hml, hown, hr, hlocks, hts⟩ := id F
  have hl : lv_has ls 3 [(0, .ref x)] := hl
  have hP : va_P G.1 kcl [(x, .inr (0, [.ref cs, .ref sc, .ref pf, .int (u.2.1), .int (u.2.2.1), .int (u.2.2.2)])), (cs, .inl (G.2.1 2, 6, .inr (.inl (u.1))))] s.heap := hP
  have hD : va_D A [(x, .inr (0, [.ref cs, .ref sc, .ref pf, .int (u.2.1), .int (u.2.2.1), .int (u.2.2.2)])), (cs, .inl (G.2.1 2, 6, .inr (.inl (u.1))))] := hD
  have hw : fn_X6_countWholeOnes u = _ := fn_X6_countWholeOnes.eq_1 u
  have hk : fk_X6_countWholeOnes_L4 (7) u ((0 : Int32)) ((0 : Int32)) := hk.1
  refine lv_iconst (v := 0) hx hb dc_X6_countWholeOnes_0 (by decide) ?_
  refine lv_istore_n (lv' := [(1, .int ((0 : Int32))), (0, .ref x)]) hx hb dc_X6_countWholeOnes_1 rfl hl (by decide) rfl (fun ls hl => ?_)
  refine lv_iconst (v := 0) hx hb dc_X6_countWholeOnes_2 (by decide) ?_
  refine lv_istore_n (lv' := [(2, .int ((0 : Int32))), (1, .int ((0 : Int32))), (0, .ref x)]) hx hb dc_X6_countWholeOnes_3 rfl hl (by decide) rfl (fun ls hl => ?_)
  rw [hw]
  exact ml_X6_countWholeOnes_L4 F hE hA hfr (7) ((0 : Int32)) ((0 : Int32)) hk _ _ (hP.sub (ws' := [(x, .inr (0, [.ref cs, .ref sc, .ref pf, .int (u.2.1), .int (u.2.2.1), .int (u.2.2.2)])), (cs, .inl (G.2.1 2, 6, .inr (.inl (u.1))))]) [0, 1] rfl) (hD.sub (ws' := [(x, .inr (0, [.ref cs, .ref sc, .ref pf, .int (u.2.1), .int (u.2.2.1), .int (u.2.2.2)])), (cs, .inl (G.2.1 2, 6, .inr (.inl (u.1))))]) [0, 1] (by decide) rfl) hS _ (lv_sub hl [2, 1, 0] rfl)
end
section
def fn_X6_firstOfAll_L9 : Nat → ky_BS → Int64 → Int32 → Int64 × ky_BS
  | 0, u, v1, v3 => (0, u)
  | n + 1, u, v1, v3 => if ((6 : Int32)) ≤ (v3) then ((v1, u)) else (fn_X6_firstOfAll_L9 n u (fn_X0_firstOf (v1) ((u.1) (v3).toNatClampNeg)) ((v3) + 1))
def fk_X6_firstOfAll_L9 : Nat → ky_BS → Int64 → Int32 → Prop
  | 0, _, _, _ => False
  | n + 1, u, v1, v3 => ((((6 : Int32)) ≤ (v3)) → (True)) ∧ (¬ (((6 : Int32)) ≤ (v3)) → ((vp_in (v3) 6) ∧ (fk_X6_firstOfAll_L9 n u (fn_X0_firstOf (v1) ((u.1) (v3).toNatClampNeg)) ((v3) + 1))))
set_option linter.constructorNameAsVariable false in
set_option maxHeartbeats 4000000 in
set_option maxRecDepth 100000 in
theorem ml_X6_firstOfAll_L9 {p : Program} {l : Launch} {e : Env} {s : State} {m : MethodId} {args : Array Value} {below : List Frame} {meth : Method} {c : Code} {G : ky_G} {A : Nat → Prop} {x : Nat} {cs : Nat} {sc : Nat} {pf : Nat} {u : ky_BS} (F : ky_F p s m meth c my_X6_firstOfAll.cls prog_1_method_70_code 4 (some .long) args) (hE : ky_E G s) (hA : ∀ q, s.heap.size ≤ q → A q) (hfr : ∀ q, A q → ky_fr G q) : ∀ (n : Nat) (v1 : Int64) (v3 : Int32), fk_X6_firstOfAll_L9 n u v1 v3 → ∀ (H : Heap) (locs : List Loc), va_P G.1 kcl [(x, .inr (0, [.ref cs, .ref sc, .ref pf, .int (u.2.1), .int (u.2.2.1), .int (u.2.2.2)])), (cs, .inl (G.2.1 2, 6, .inr (.inl (u.1))))] H → va_D A [(x, .inr (0, [.ref cs, .ref sc, .ref pf, .int (u.2.1), .int (u.2.2.1), .int (u.2.2.2)])), (cs, .inl (G.2.1 2, 6, .inr (.inl (u.1))))] → va_S A s.heap H locs → ∀ ls : Array Slot, lv_has ls 4 [(0, .ref x), (1, .long (v1)), (3, .int (v3))] → W p l e { frames := 3, cells := 0, slots := 0, locals := 65 } s m args below meth c H locs 0 0 (MQ below (ky_Q (S := ky_BS) G A (fun v u9 => v = some (.long (fn_X6_firstOfAll_L9 n u v1 v3).1) ∧ u9 = (fn_X6_firstOfAll_L9 n u v1 v3).2) (fun u9 => ky_WB G x cs sc pf u9) (fun _ _ => True)) args s 0 0 A) (F0 m 9 ls []) := by
  obtain ⟨hx, hb, hml, hown, hr, hlocks, hts⟩ := id F
  intro n
  induction n with
  | zero => intro v1 v3 hk; exact False.elim hk
  | succ n ih =>
      intro v1 v3 hk H locs hP hD hS ls hl
      have hw : fn_X6_firstOfAll_L9 (n + 1) u v1 v3 = (if ((6 : Int32)) ≤ (v3) then ((v1, u)) else (fn_X6_firstOfAll_L9 n u (fn_X0_firstOf (v1) ((u.1) (v3).toNatClampNeg)) ((v3) + 1))) := rfl
      have hk : ((((6 : Int32)) ≤ (v3)) → (True)) ∧ (¬ (((6 : Int32)) ≤ (v3)) → ((vp_in (v3) 6) ∧ (fk_X6_firstOfAll_L9 n u (fn_X0_firstOf (v1) ((u.1) (v3).toNatClampNeg)) ((v3) + 1)))) := hk
      refine lv_iload_n hx hb dc_X6_firstOfAll_9 rfl (lv_at hl 2 rfl) ?_
      refine lv_bipush (v := 6) hx hb dc_X6_firstOfAll_10 (by decide) ?_
      refine lv_icmp_ge (tgt := 32) hx hb dc_X6_firstOfAll_12 (by decide) (fun c_0 => ?_) (fun c_0 => ?_)
      · have hw := hw.trans (if_pos c_0)
        have hk := hk.1 c_0
        refine lv_lload_n hx hb dc_X6_firstOfAll_32 rfl (lv_at hl 1 rfl) ?_
        have hP9 := hP.sub (ws' := [(x, .inr (0, [.ref cs, .ref sc, .ref pf, .int (u.2.1), .int (u.2.2.1), .int (u.2.2.2)])), (cs, .inl (G.2.1 2, 6, .inr (.inl (u.1))))]) [0, 1] rfl
        have hD9 := hD.sub (ws' := [(x, .inr (0, [.ref cs, .ref sc, .ref pf, .int (u.2.1), .int (u.2.2.1), .int (u.2.2.2)])), (cs, .inl (G.2.1 2, 6, .inr (.inl (u.1))))]) [0, 1] (by decide) rfl
        refine W.widen (k := 0) (n := 0) (Nat.le_of_ble_eq_true rfl) (Nat.le_of_ble_eq_true rfl) ?_
        exact W.lret (v := v1) hx hb hr (fun t ht hW => ⟨⟨_, u, rfl, ky_pl hw, by rw [ht]; exact hP9, hD9, trivial⟩, hS.F ht⟩) hS.2.2 dc_X6_firstOfAll_33
      · have hw := hw.trans (if_neg c_0)
        have hk := hk.2 c_0
        refine lv_lload_n hx hb dc_X6_firstOfAll_15 rfl (lv_at hl 1 rfl) ?_
        refine lv_aload_n hx hb dc_X6_firstOfAll_16 rfl (lv_at hl 0 rfl) ?_
        refine va_get (D := G.1) (ci := 0) (v := .ref cs) (C := RX6) (T := TX6) (N := 6) hx hb hts ki_X6 hown hE.1 hP 0 rfl rfl 0 (by decide) (hts _ kw_1_98) (fun _ h9 => h9) rfl dc_X6_firstOfAll_17 ?_
        refine lv_iload_n hx hb dc_X6_firstOfAll_20 rfl (lv_at hl 2 rfl) ?_
        obtain ⟨hq_1, hk⟩ := hk
        refine va_lald hx hb hE.1 hP 1 2 rfl rfl hq_1 dc_X6_firstOfAll_21 ?_
        refine ky_cS0 (As := [.long (v1), .long ((u.1) (v3).toNatClampNeg)]) F (mt_X0_firstOf l (v1) ((u.1) (v3).toNatClampNeg)) ks_X6_125 ⟨⟨rfl, rfl⟩, by decide, by decide⟩ rfl hl.1 rfl (Nat.le_of_ble_eq_true rfl) ⟨Nat.le_of_ble_eq_true rfl, Nat.le_of_ble_eq_true rfl⟩ dc_X6_firstOfAll_22 ?_
        refine lv_lstore_n (lv' := [(1, .long (fn_X0_firstOf (v1) ((u.1) (v3).toNatClampNeg))), (0, .ref x), (3, .int (v3))]) hx hb dc_X6_firstOfAll_25 rfl hl (by decide) rfl (fun ls hl => ?_)
        refine lv_iinc (v := (v3) + 1) (lv' := [(3, .int ((v3) + 1)), (1, .long (fn_X0_firstOf (v1) ((u.1) (v3).toNatClampNeg))), (0, .ref x)]) hx hb dc_X6_firstOfAll_26 hl (k := 2) rfl rfl (by decide) rfl (fun ls hl => ?_)
        refine lv_goto (tgt := 9) hx hb dc_X6_firstOfAll_29 (by decide) ?_
        rw [hw]
        exact ih (fn_X0_firstOf (v1) ((u.1) (v3).toNatClampNeg)) ((v3) + 1) hk _ _ (hP.sub (ws' := [(x, .inr (0, [.ref cs, .ref sc, .ref pf, .int (u.2.1), .int (u.2.2.1), .int (u.2.2.2)])), (cs, .inl (G.2.1 2, 6, .inr (.inl (u.1))))]) [0, 1] rfl) (hD.sub (ws' := [(x, .inr (0, [.ref cs, .ref sc, .ref pf, .int (u.2.1), .int (u.2.2.1), .int (u.2.2.2)])), (cs, .inl (G.2.1 2, 6, .inr (.inl (u.1))))]) [0, 1] (by decide) rfl) hS _ (lv_sub hl [2, 1, 0] rfl)
def fn_X6_firstOfAll (u : ky_BS) : Int64 × ky_BS :=
  fn_X6_firstOfAll_L9 (7) u ((u.1) ((0 : Int32)).toNatClampNeg) ((1 : Int32))
def fk_X6_firstOfAll (u : ky_BS) : Prop :=
  (fk_X6_firstOfAll_L9 (7) u ((u.1) ((0 : Int32)).toNatClampNeg) ((1 : Int32))) ∧ True
set_option linter.constructorNameAsVariable false in
set_option maxHeartbeats 4000000 in
set_option maxRecDepth 100000 in
theorem mt_X6_firstOfAll (l : Launch) (G : ky_G) (x : Nat) (cs : Nat) (sc : Nat) (pf : Nat) (u : ky_BS)  (sz : Nat)  (hk : fk_X6_firstOfAll u) : Met l my_X6_firstOfAll (.code my_X6_firstOfAll prog_1_method_70_code 4 (some .long) :: ky_B) { frames := 3, cells := 0, slots := 0, locals := 65 } (ky_P G [.ref x] (ky_WB G x cs sc pf u) sz (fun _ => True)) (ky_Q (S := ky_BS) G (va_A (ky_WB G x cs sc pf u) sz) (fun v u9 => v = some (.long (fn_X6_firstOfAll u).1) ∧ u9 = (fn_X6_firstOfAll u).2) (fun u9 => ky_WB G x cs sc pf u9) (fun _ _ => True)) 0 0 (va_A (ky_WB G x cs sc pf u) sz) := by
  refine ky_start (by decide) (Nat.le_of_ble_eq_true rfl) (fun p e s m below meth c F hE A hAe hsz hA hfr hP hD hS hX ls hl => ?_)
  obtain ⟨hx, hb, hml, hown, hr, hlocks, hts⟩ := id F
  have hl : lv_has ls 4 [(0, .ref x)] := hl
  have hP : va_P G.1 kcl [(x, .inr (0, [.ref cs, .ref sc, .ref pf, .int (u.2.1), .int (u.2.2.1), .int (u.2.2.2)])), (cs, .inl (G.2.1 2, 6, .inr (.inl (u.1))))] s.heap := hP
  have hD : va_D A [(x, .inr (0, [.ref cs, .ref sc, .ref pf, .int (u.2.1), .int (u.2.2.1), .int (u.2.2.2)])), (cs, .inl (G.2.1 2, 6, .inr (.inl (u.1))))] := hD
  have hw : fn_X6_firstOfAll u = _ := fn_X6_firstOfAll.eq_1 u
  have hk : fk_X6_firstOfAll_L9 (7) u ((u.1) ((0 : Int32)).toNatClampNeg) ((1 : Int32)) := hk.1
  refine lv_aload_n hx hb dc_X6_firstOfAll_0 rfl (lv_at hl 0 rfl) ?_
  refine va_get (D := G.1) (ci := 0) (v := .ref cs) (C := RX6) (T := TX6) (N := 6) hx hb hts ki_X6 hown hE.1 hP 0 rfl rfl 0 (by decide) (hts _ kw_1_98) (fun _ h9 => h9) rfl dc_X6_firstOfAll_1 ?_
  refine lv_iconst (v := 0) hx hb dc_X6_firstOfAll_4 (by decide) ?_
  refine va_lald hx hb hE.1 hP 1 2 rfl rfl (vp_in_iff.mpr (by decide)) dc_X6_firstOfAll_5 ?_
  refine lv_lstore_n (lv' := [(1, .long ((u.1) ((0 : Int32)).toNatClampNeg)), (0, .ref x)]) hx hb dc_X6_firstOfAll_6 rfl hl (by decide) rfl (fun ls hl => ?_)
  refine lv_iconst (v := 1) hx hb dc_X6_firstOfAll_7 (by decide) ?_
  refine lv_istore_n (lv' := [(3, .int ((1 : Int32))), (1, .long ((u.1) ((0 : Int32)).toNatClampNeg)), (0, .ref x)]) hx hb dc_X6_firstOfAll_8 rfl hl (by decide) rfl (fun ls hl => ?_)
  rw [hw]
  exact ml_X6_firstOfAll_L9 F hE hA hfr (7) ((u.1) ((0 : Int32)).toNatClampNeg) ((1 : Int32)) hk _ _ (hP.sub (ws' := [(x, .inr (0, [.ref cs, .ref sc, .ref pf, .int (u.2.1), .int (u.2.2.1), .int (u.2.2.2)])), (cs, .inl (G.2.1 2, 6, .inr (.inl (u.1))))]) [0, 1] rfl) (hD.sub (ws' := [(x, .inr (0, [.ref cs, .ref sc, .ref pf, .int (u.2.1), .int (u.2.2.1), .int (u.2.2.2)])), (cs, .inl (G.2.1 2, 6, .inr (.inl (u.1))))]) [0, 1] (by decide) rfl) hS _ (lv_sub hl [2, 1, 0] rfl)
end
section
def fn_X6_lastOfAll_L9 : Nat → ky_BS → Int64 → Int32 → Int64 × ky_BS
  | 0, u, v1, v3 => (0, u)
  | n + 1, u, v1, v3 => if ((6 : Int32)) ≤ (v3) then ((v1, u)) else (fn_X6_lastOfAll_L9 n u (fn_X0_lastOf (v1) ((u.1) (v3).toNatClampNeg)) ((v3) + 1))
def fk_X6_lastOfAll_L9 : Nat → ky_BS → Int64 → Int32 → Prop
  | 0, _, _, _ => False
  | n + 1, u, v1, v3 => ((((6 : Int32)) ≤ (v3)) → (True)) ∧ (¬ (((6 : Int32)) ≤ (v3)) → ((vp_in (v3) 6) ∧ (fk_X6_lastOfAll_L9 n u (fn_X0_lastOf (v1) ((u.1) (v3).toNatClampNeg)) ((v3) + 1))))
set_option linter.constructorNameAsVariable false in
set_option maxHeartbeats 4000000 in
set_option maxRecDepth 100000 in
theorem ml_X6_lastOfAll_L9 {p : Program} {l : Launch} {e : Env} {s : State} {m : MethodId} {args : Array Value} {below : List Frame} {meth : Method} {c : Code} {G : ky_G} {A : Nat → Prop} {x : Nat} {cs : Nat} {sc : Nat} {pf : Nat} {u : ky_BS} (F : ky_F p s m meth c my_X6_lastOfAll.cls prog_1_method_69_code 4 (some .long) args) (hE : ky_E G s) (hA : ∀ q, s.heap.size ≤ q → A q) (hfr : ∀ q, A q → ky_fr G q) : ∀ (n : Nat) (v1 : Int64) (v3 : Int32), fk_X6_lastOfAll_L9 n u v1 v3 → ∀ (H : Heap) (locs : List Loc), va_P G.1 kcl [(x, .inr (0, [.ref cs, .ref sc, .ref pf, .int (u.2.1), .int (u.2.2.1), .int (u.2.2.2)])), (cs, .inl (G.2.1 2, 6, .inr (.inl (u.1))))] H → va_D A [(x, .inr (0, [.ref cs, .ref sc, .ref pf, .int (u.2.1), .int (u.2.2.1), .int (u.2.2.2)])), (cs, .inl (G.2.1 2, 6, .inr (.inl (u.1))))] → va_S A s.heap H locs → ∀ ls : Array Slot, lv_has ls 4 [(0, .ref x), (1, .long (v1)), (3, .int (v3))] → W p l e { frames := 3, cells := 0, slots := 0, locals := 65 } s m args below meth c H locs 0 0 (MQ below (ky_Q (S := ky_BS) G A (fun v u9 => v = some (.long (fn_X6_lastOfAll_L9 n u v1 v3).1) ∧ u9 = (fn_X6_lastOfAll_L9 n u v1 v3).2) (fun u9 => ky_WB G x cs sc pf u9) (fun _ _ => True)) args s 0 0 A) (F0 m 9 ls []) := by
  obtain ⟨hx, hb, hml, hown, hr, hlocks, hts⟩ := id F
  intro n
  induction n with
  | zero => intro v1 v3 hk; exact False.elim hk
  | succ n ih =>
      intro v1 v3 hk H locs hP hD hS ls hl
      have hw : fn_X6_lastOfAll_L9 (n + 1) u v1 v3 = (if ((6 : Int32)) ≤ (v3) then ((v1, u)) else (fn_X6_lastOfAll_L9 n u (fn_X0_lastOf (v1) ((u.1) (v3).toNatClampNeg)) ((v3) + 1))) := rfl
      have hk : ((((6 : Int32)) ≤ (v3)) → (True)) ∧ (¬ (((6 : Int32)) ≤ (v3)) → ((vp_in (v3) 6) ∧ (fk_X6_lastOfAll_L9 n u (fn_X0_lastOf (v1) ((u.1) (v3).toNatClampNeg)) ((v3) + 1)))) := hk
      refine lv_iload_n hx hb dc_X6_lastOfAll_9 rfl (lv_at hl 2 rfl) ?_
      refine lv_bipush (v := 6) hx hb dc_X6_lastOfAll_10 (by decide) ?_
      refine lv_icmp_ge (tgt := 32) hx hb dc_X6_lastOfAll_12 (by decide) (fun c_0 => ?_) (fun c_0 => ?_)
      · have hw := hw.trans (if_pos c_0)
        have hk := hk.1 c_0
        refine lv_lload_n hx hb dc_X6_lastOfAll_32 rfl (lv_at hl 1 rfl) ?_
        have hP9 := hP.sub (ws' := [(x, .inr (0, [.ref cs, .ref sc, .ref pf, .int (u.2.1), .int (u.2.2.1), .int (u.2.2.2)])), (cs, .inl (G.2.1 2, 6, .inr (.inl (u.1))))]) [0, 1] rfl
        have hD9 := hD.sub (ws' := [(x, .inr (0, [.ref cs, .ref sc, .ref pf, .int (u.2.1), .int (u.2.2.1), .int (u.2.2.2)])), (cs, .inl (G.2.1 2, 6, .inr (.inl (u.1))))]) [0, 1] (by decide) rfl
        refine W.widen (k := 0) (n := 0) (Nat.le_of_ble_eq_true rfl) (Nat.le_of_ble_eq_true rfl) ?_
        exact W.lret (v := v1) hx hb hr (fun t ht hW => ⟨⟨_, u, rfl, ky_pl hw, by rw [ht]; exact hP9, hD9, trivial⟩, hS.F ht⟩) hS.2.2 dc_X6_lastOfAll_33
      · have hw := hw.trans (if_neg c_0)
        have hk := hk.2 c_0
        refine lv_lload_n hx hb dc_X6_lastOfAll_15 rfl (lv_at hl 1 rfl) ?_
        refine lv_aload_n hx hb dc_X6_lastOfAll_16 rfl (lv_at hl 0 rfl) ?_
        refine va_get (D := G.1) (ci := 0) (v := .ref cs) (C := RX6) (T := TX6) (N := 6) hx hb hts ki_X6 hown hE.1 hP 0 rfl rfl 0 (by decide) (hts _ kw_1_98) (fun _ h9 => h9) rfl dc_X6_lastOfAll_17 ?_
        refine lv_iload_n hx hb dc_X6_lastOfAll_20 rfl (lv_at hl 2 rfl) ?_
        obtain ⟨hq_1, hk⟩ := hk
        refine va_lald hx hb hE.1 hP 1 2 rfl rfl hq_1 dc_X6_lastOfAll_21 ?_
        refine ky_cS0 (As := [.long (v1), .long ((u.1) (v3).toNatClampNeg)]) F (mt_X0_lastOf l (v1) ((u.1) (v3).toNatClampNeg)) ks_X6_122 ⟨⟨rfl, rfl⟩, by decide, by decide⟩ rfl hl.1 rfl (Nat.le_of_ble_eq_true rfl) ⟨Nat.le_of_ble_eq_true rfl, Nat.le_of_ble_eq_true rfl⟩ dc_X6_lastOfAll_22 ?_
        refine lv_lstore_n (lv' := [(1, .long (fn_X0_lastOf (v1) ((u.1) (v3).toNatClampNeg))), (0, .ref x), (3, .int (v3))]) hx hb dc_X6_lastOfAll_25 rfl hl (by decide) rfl (fun ls hl => ?_)
        refine lv_iinc (v := (v3) + 1) (lv' := [(3, .int ((v3) + 1)), (1, .long (fn_X0_lastOf (v1) ((u.1) (v3).toNatClampNeg))), (0, .ref x)]) hx hb dc_X6_lastOfAll_26 hl (k := 2) rfl rfl (by decide) rfl (fun ls hl => ?_)
        refine lv_goto (tgt := 9) hx hb dc_X6_lastOfAll_29 (by decide) ?_
        rw [hw]
        exact ih (fn_X0_lastOf (v1) ((u.1) (v3).toNatClampNeg)) ((v3) + 1) hk _ _ (hP.sub (ws' := [(x, .inr (0, [.ref cs, .ref sc, .ref pf, .int (u.2.1), .int (u.2.2.1), .int (u.2.2.2)])), (cs, .inl (G.2.1 2, 6, .inr (.inl (u.1))))]) [0, 1] rfl) (hD.sub (ws' := [(x, .inr (0, [.ref cs, .ref sc, .ref pf, .int (u.2.1), .int (u.2.2.1), .int (u.2.2.2)])), (cs, .inl (G.2.1 2, 6, .inr (.inl (u.1))))]) [0, 1] (by decide) rfl) hS _ (lv_sub hl [2, 1, 0] rfl)
def fn_X6_lastOfAll (u : ky_BS) : Int64 × ky_BS :=
  fn_X6_lastOfAll_L9 (7) u ((u.1) ((0 : Int32)).toNatClampNeg) ((1 : Int32))
def fk_X6_lastOfAll (u : ky_BS) : Prop :=
  (fk_X6_lastOfAll_L9 (7) u ((u.1) ((0 : Int32)).toNatClampNeg) ((1 : Int32))) ∧ True
set_option linter.constructorNameAsVariable false in
set_option maxHeartbeats 4000000 in
set_option maxRecDepth 100000 in
theorem mt_X6_lastOfAll (l : Launch) (G : ky_G) (x : Nat) (cs : Nat) (sc : Nat) (pf : Nat) (u : ky_BS)  (sz : Nat)  (hk : fk_X6_lastOfAll u) : Met l my_X6_lastOfAll (.code my_X6_lastOfAll prog_1_method_69_code 4 (some .long) :: ky_B) { frames := 3, cells := 0, slots := 0, locals := 65 } (ky_P G [.ref x] (ky_WB G x cs sc pf u) sz (fun _ => True)) (ky_Q (S := ky_BS) G (va_A (ky_WB G x cs sc pf u) sz) (fun v u9 => v = some (.long (fn_X6_lastOfAll u).1) ∧ u9 = (fn_X6_lastOfAll u).2) (fun u9 => ky_WB G x cs sc pf u9) (fun _ _ => True)) 0 0 (va_A (ky_WB G x cs sc pf u) sz) := by
  refine ky_start (by decide) (Nat.le_of_ble_eq_true rfl) (fun p e s m below meth c F hE A hAe hsz hA hfr hP hD hS hX ls hl => ?_)
  obtain ⟨hx, hb, hml, hown, hr, hlocks, hts⟩ := id F
  have hl : lv_has ls 4 [(0, .ref x)] := hl
  have hP : va_P G.1 kcl [(x, .inr (0, [.ref cs, .ref sc, .ref pf, .int (u.2.1), .int (u.2.2.1), .int (u.2.2.2)])), (cs, .inl (G.2.1 2, 6, .inr (.inl (u.1))))] s.heap := hP
  have hD : va_D A [(x, .inr (0, [.ref cs, .ref sc, .ref pf, .int (u.2.1), .int (u.2.2.1), .int (u.2.2.2)])), (cs, .inl (G.2.1 2, 6, .inr (.inl (u.1))))] := hD
  have hw : fn_X6_lastOfAll u = _ := fn_X6_lastOfAll.eq_1 u
  have hk : fk_X6_lastOfAll_L9 (7) u ((u.1) ((0 : Int32)).toNatClampNeg) ((1 : Int32)) := hk.1
  refine lv_aload_n hx hb dc_X6_lastOfAll_0 rfl (lv_at hl 0 rfl) ?_
  refine va_get (D := G.1) (ci := 0) (v := .ref cs) (C := RX6) (T := TX6) (N := 6) hx hb hts ki_X6 hown hE.1 hP 0 rfl rfl 0 (by decide) (hts _ kw_1_98) (fun _ h9 => h9) rfl dc_X6_lastOfAll_1 ?_
  refine lv_iconst (v := 0) hx hb dc_X6_lastOfAll_4 (by decide) ?_
  refine va_lald hx hb hE.1 hP 1 2 rfl rfl (vp_in_iff.mpr (by decide)) dc_X6_lastOfAll_5 ?_
  refine lv_lstore_n (lv' := [(1, .long ((u.1) ((0 : Int32)).toNatClampNeg)), (0, .ref x)]) hx hb dc_X6_lastOfAll_6 rfl hl (by decide) rfl (fun ls hl => ?_)
  refine lv_iconst (v := 1) hx hb dc_X6_lastOfAll_7 (by decide) ?_
  refine lv_istore_n (lv' := [(3, .int ((1 : Int32))), (1, .long ((u.1) ((0 : Int32)).toNatClampNeg)), (0, .ref x)]) hx hb dc_X6_lastOfAll_8 rfl hl (by decide) rfl (fun ls hl => ?_)
  rw [hw]
  exact ml_X6_lastOfAll_L9 F hE hA hfr (7) ((u.1) ((0 : Int32)).toNatClampNeg) ((1 : Int32)) hk _ _ (hP.sub (ws' := [(x, .inr (0, [.ref cs, .ref sc, .ref pf, .int (u.2.1), .int (u.2.2.1), .int (u.2.2.2)])), (cs, .inl (G.2.1 2, 6, .inr (.inl (u.1))))]) [0, 1] rfl) (hD.sub (ws' := [(x, .inr (0, [.ref cs, .ref sc, .ref pf, .int (u.2.1), .int (u.2.2.1), .int (u.2.2.2)])), (cs, .inl (G.2.1 2, 6, .inr (.inl (u.1))))]) [0, 1] (by decide) rfl) hS _ (lv_sub hl [2, 1, 0] rfl)
end
section
def fn_X6_placeOf_L5 : Nat → ky_BS → Int64 → Int32 → Int32 → Int32 × ky_BS
  | 0, u, u1, v3, v4 => (0, u)
  | n + 1, u, u1, v3, v4 => if ((6 : Int32)) ≤ (v4) then ((v3, u)) else (if (0 : Int32) ≤ (lg_cmp (fn_X0_rankIn ((u.1) (v4).toNatClampNeg)) (fn_X0_rankIn (u1))) then (fn_X6_placeOf_L5 n u (u1) (v3) ((v4) + 1)) else (fn_X6_placeOf_L5 n u (u1) ((v3) + 1) ((v4) + 1)))
def fk_X6_placeOf_L5 : Nat → ky_BS → Int64 → Int32 → Int32 → Prop
  | 0, _, _, _, _ => False
  | n + 1, u, u1, v3, v4 => ((((6 : Int32)) ≤ (v4)) → (True)) ∧ (¬ (((6 : Int32)) ≤ (v4)) → ((vp_in (v4) 6) ∧ ((((0 : Int32) ≤ (lg_cmp (fn_X0_rankIn ((u.1) (v4).toNatClampNeg)) (fn_X0_rankIn (u1)))) → (fk_X6_placeOf_L5 n u (u1) (v3) ((v4) + 1))) ∧ (¬ ((0 : Int32) ≤ (lg_cmp (fn_X0_rankIn ((u.1) (v4).toNatClampNeg)) (fn_X0_rankIn (u1)))) → (fk_X6_placeOf_L5 n u (u1) ((v3) + 1) ((v4) + 1))))))
set_option linter.constructorNameAsVariable false in
set_option maxHeartbeats 4000000 in
set_option maxRecDepth 100000 in
theorem ml_X6_placeOf_L5 {p : Program} {l : Launch} {e : Env} {s : State} {m : MethodId} {args : Array Value} {below : List Frame} {meth : Method} {c : Code} {G : ky_G} {A : Nat → Prop} {x : Nat} {cs : Nat} {sc : Nat} {pf : Nat} {u : ky_BS} (F : ky_F p s m meth c my_X6_placeOf.cls prog_1_method_68_code 5 (some .int) args) (hE : ky_E G s) (hA : ∀ q, s.heap.size ≤ q → A q) (hfr : ∀ q, A q → ky_fr G q) : ∀ (n : Nat) (u1 : Int64) (v3 : Int32) (v4 : Int32), fk_X6_placeOf_L5 n u u1 v3 v4 → ∀ (H : Heap) (locs : List Loc), va_P G.1 kcl [(x, .inr (0, [.ref cs, .ref sc, .ref pf, .int (u.2.1), .int (u.2.2.1), .int (u.2.2.2)])), (cs, .inl (G.2.1 2, 6, .inr (.inl (u.1))))] H → va_D A [(x, .inr (0, [.ref cs, .ref sc, .ref pf, .int (u.2.1), .int (u.2.2.1), .int (u.2.2.2)])), (cs, .inl (G.2.1 2, 6, .inr (.inl (u.1))))] → va_S A s.heap H locs → ∀ ls : Array Slot, lv_has ls 5 [(0, .ref x), (1, .long (u1)), (3, .int (v3)), (4, .int (v4))] → W p l e { frames := 2, cells := 0, slots := 0, locals := 42 } s m args below meth c H locs 0 0 (MQ below (ky_Q (S := ky_BS) G A (fun v u9 => v = some (.int (fn_X6_placeOf_L5 n u u1 v3 v4).1) ∧ u9 = (fn_X6_placeOf_L5 n u u1 v3 v4).2) (fun u9 => ky_WB G x cs sc pf u9) (fun _ _ => True)) args s 0 0 A) (F0 m 5 ls []) := by
  obtain ⟨hx, hb, hml, hown, hr, hlocks, hts⟩ := id F
  intro n
  induction n with
  | zero => intro u1 v3 v4 hk; exact False.elim hk
  | succ n ih =>
      intro u1 v3 v4 hk H locs hP hD hS ls hl
      have hw : fn_X6_placeOf_L5 (n + 1) u u1 v3 v4 = (if ((6 : Int32)) ≤ (v4) then ((v3, u)) else (if (0 : Int32) ≤ (lg_cmp (fn_X0_rankIn ((u.1) (v4).toNatClampNeg)) (fn_X0_rankIn (u1))) then (fn_X6_placeOf_L5 n u (u1) (v3) ((v4) + 1)) else (fn_X6_placeOf_L5 n u (u1) ((v3) + 1) ((v4) + 1)))) := rfl
      have hk : ((((6 : Int32)) ≤ (v4)) → (True)) ∧ (¬ (((6 : Int32)) ≤ (v4)) → ((vp_in (v4) 6) ∧ ((((0 : Int32) ≤ (lg_cmp (fn_X0_rankIn ((u.1) (v4).toNatClampNeg)) (fn_X0_rankIn (u1)))) → (fk_X6_placeOf_L5 n u (u1) (v3) ((v4) + 1))) ∧ (¬ ((0 : Int32) ≤ (lg_cmp (fn_X0_rankIn ((u.1) (v4).toNatClampNeg)) (fn_X0_rankIn (u1)))) → (fk_X6_placeOf_L5 n u (u1) ((v3) + 1) ((v4) + 1)))))) := hk
      refine lv_iload hx hb dc_X6_placeOf_5 (lv_at hl 3 rfl) ?_
      refine lv_bipush (v := 6) hx hb dc_X6_placeOf_7 (by decide) ?_
      refine lv_icmp_ge (tgt := 39) hx hb dc_X6_placeOf_9 (by decide) (fun c_0 => ?_) (fun c_0 => ?_)
      · have hw := hw.trans (if_pos c_0)
        have hk := hk.1 c_0
        refine lv_iload_n hx hb dc_X6_placeOf_39 rfl (lv_at hl 2 rfl) ?_
        have hP9 := hP.sub (ws' := [(x, .inr (0, [.ref cs, .ref sc, .ref pf, .int (u.2.1), .int (u.2.2.1), .int (u.2.2.2)])), (cs, .inl (G.2.1 2, 6, .inr (.inl (u.1))))]) [0, 1] rfl
        have hD9 := hD.sub (ws' := [(x, .inr (0, [.ref cs, .ref sc, .ref pf, .int (u.2.1), .int (u.2.2.1), .int (u.2.2.2)])), (cs, .inl (G.2.1 2, 6, .inr (.inl (u.1))))]) [0, 1] (by decide) rfl
        refine W.widen (k := 0) (n := 0) (Nat.le_of_ble_eq_true rfl) (Nat.le_of_ble_eq_true rfl) ?_
        exact W.iret (v := v3) hx hb hr (fun t ht hW => ⟨⟨_, u, rfl, ky_pi hw, by rw [ht]; exact hP9, hD9, trivial⟩, hS.F ht⟩) hS.2.2 dc_X6_placeOf_40
      · have hw := hw.trans (if_neg c_0)
        have hk := hk.2 c_0
        refine lv_aload_n hx hb dc_X6_placeOf_12 rfl (lv_at hl 0 rfl) ?_
        refine va_get (D := G.1) (ci := 0) (v := .ref cs) (C := RX6) (T := TX6) (N := 6) hx hb hts ki_X6 hown hE.1 hP 0 rfl rfl 0 (by decide) (hts _ kw_1_98) (fun _ h9 => h9) rfl dc_X6_placeOf_13 ?_
        refine lv_iload hx hb dc_X6_placeOf_16 (lv_at hl 3 rfl) ?_
        obtain ⟨hq_1, hk⟩ := hk
        refine va_lald hx hb hE.1 hP 1 2 rfl rfl hq_1 dc_X6_placeOf_18 ?_
        refine ky_cS0 (As := [.long ((u.1) (v4).toNatClampNeg)]) F (mt_X0_rankIn l ((u.1) (v4).toNatClampNeg)) ks_X6_240 ⟨⟨rfl, rfl⟩, by decide, by decide⟩ rfl hl.1 rfl (Nat.le_of_ble_eq_true rfl) ⟨Nat.le_of_ble_eq_true rfl, Nat.le_of_ble_eq_true rfl⟩ dc_X6_placeOf_19 ?_
        refine lv_lload_n hx hb dc_X6_placeOf_22 rfl (lv_at hl 1 rfl) ?_
        refine ky_cS0 (As := [.long (u1)]) F (mt_X0_rankIn l (u1)) ks_X6_240 ⟨⟨rfl, rfl⟩, by decide, by decide⟩ rfl hl.1 rfl (Nat.le_of_ble_eq_true rfl) ⟨Nat.le_of_ble_eq_true rfl, Nat.le_of_ble_eq_true rfl⟩ dc_X6_placeOf_23 ?_
        refine W.lcmp hx hb dc_X6_placeOf_26 ?_
        refine lv_if_ge (tgt := 33) hx hb dc_X6_placeOf_27 (by decide) (fun c_2 => ?_) (fun c_2 => ?_)
        · have hw := hw.trans (if_pos c_2)
          have hk := hk.1 c_2
          refine lv_iinc (v := (v4) + 1) (lv' := [(4, .int ((v4) + 1)), (0, .ref x), (1, .long (u1)), (3, .int (v3))]) hx hb dc_X6_placeOf_33 hl (k := 3) rfl rfl (by decide) rfl (fun ls hl => ?_)
          refine lv_goto (tgt := 5) hx hb dc_X6_placeOf_36 (by decide) ?_
          rw [hw]
          exact ih (u1) (v3) ((v4) + 1) hk _ _ (hP.sub (ws' := [(x, .inr (0, [.ref cs, .ref sc, .ref pf, .int (u.2.1), .int (u.2.2.1), .int (u.2.2.2)])), (cs, .inl (G.2.1 2, 6, .inr (.inl (u.1))))]) [0, 1] rfl) (hD.sub (ws' := [(x, .inr (0, [.ref cs, .ref sc, .ref pf, .int (u.2.1), .int (u.2.2.1), .int (u.2.2.2)])), (cs, .inl (G.2.1 2, 6, .inr (.inl (u.1))))]) [0, 1] (by decide) rfl) hS _ (lv_sub hl [1, 2, 3, 0] rfl)
        · have hw := hw.trans (if_neg c_2)
          have hk := hk.2 c_2
          refine lv_iinc (v := (v3) + 1) (lv' := [(3, .int ((v3) + 1)), (0, .ref x), (1, .long (u1)), (4, .int (v4))]) hx hb dc_X6_placeOf_30 hl (k := 2) rfl rfl (by decide) rfl (fun ls hl => ?_)
          refine lv_iinc (v := (v4) + 1) (lv' := [(4, .int ((v4) + 1)), (3, .int ((v3) + 1)), (0, .ref x), (1, .long (u1))]) hx hb dc_X6_placeOf_33 hl (k := 3) rfl rfl (by decide) rfl (fun ls hl => ?_)
          refine lv_goto (tgt := 5) hx hb dc_X6_placeOf_36 (by decide) ?_
          rw [hw]
          exact ih (u1) ((v3) + 1) ((v4) + 1) hk _ _ (hP.sub (ws' := [(x, .inr (0, [.ref cs, .ref sc, .ref pf, .int (u.2.1), .int (u.2.2.1), .int (u.2.2.2)])), (cs, .inl (G.2.1 2, 6, .inr (.inl (u.1))))]) [0, 1] rfl) (hD.sub (ws' := [(x, .inr (0, [.ref cs, .ref sc, .ref pf, .int (u.2.1), .int (u.2.2.1), .int (u.2.2.2)])), (cs, .inl (G.2.1 2, 6, .inr (.inl (u.1))))]) [0, 1] (by decide) rfl) hS _ (lv_sub hl [2, 3, 1, 0] rfl)
def fn_X6_placeOf (a1 : Int64) (u : ky_BS) : Int32 × ky_BS :=
  fn_X6_placeOf_L5 (7) u (a1) ((0 : Int32)) ((0 : Int32))
def fk_X6_placeOf (a1 : Int64) (u : ky_BS) : Prop :=
  (fk_X6_placeOf_L5 (7) u (a1) ((0 : Int32)) ((0 : Int32))) ∧ True
set_option linter.constructorNameAsVariable false in
set_option maxHeartbeats 4000000 in
set_option maxRecDepth 100000 in
theorem mt_X6_placeOf (l : Launch) (G : ky_G) (x : Nat) (cs : Nat) (sc : Nat) (pf : Nat) (u : ky_BS) (a1 : Int64) (sz : Nat)  (hk : fk_X6_placeOf a1 u) : Met l my_X6_placeOf (.code my_X6_placeOf prog_1_method_68_code 5 (some .int) :: ky_B) { frames := 2, cells := 0, slots := 0, locals := 42 } (ky_P G [.ref x, .long (a1)] (ky_WB G x cs sc pf u) sz (fun _ => True)) (ky_Q (S := ky_BS) G (va_A (ky_WB G x cs sc pf u) sz) (fun v u9 => v = some (.int (fn_X6_placeOf a1 u).1) ∧ u9 = (fn_X6_placeOf a1 u).2) (fun u9 => ky_WB G x cs sc pf u9) (fun _ _ => True)) 0 0 (va_A (ky_WB G x cs sc pf u) sz) := by
  refine ky_start (by decide) (Nat.le_of_ble_eq_true rfl) (fun p e s m below meth c F hE A hAe hsz hA hfr hP hD hS hX ls hl => ?_)
  obtain ⟨hx, hb, hml, hown, hr, hlocks, hts⟩ := id F
  have hl : lv_has ls 5 [(0, .ref x), (1, .long (a1))] := hl
  have hP : va_P G.1 kcl [(x, .inr (0, [.ref cs, .ref sc, .ref pf, .int (u.2.1), .int (u.2.2.1), .int (u.2.2.2)])), (cs, .inl (G.2.1 2, 6, .inr (.inl (u.1))))] s.heap := hP
  have hD : va_D A [(x, .inr (0, [.ref cs, .ref sc, .ref pf, .int (u.2.1), .int (u.2.2.1), .int (u.2.2.2)])), (cs, .inl (G.2.1 2, 6, .inr (.inl (u.1))))] := hD
  have hw : fn_X6_placeOf a1 u = _ := fn_X6_placeOf.eq_1 a1 u
  have hk : fk_X6_placeOf_L5 (7) u (a1) ((0 : Int32)) ((0 : Int32)) := hk.1
  refine lv_iconst (v := 0) hx hb dc_X6_placeOf_0 (by decide) ?_
  refine lv_istore_n (lv' := [(3, .int ((0 : Int32))), (0, .ref x), (1, .long (a1))]) hx hb dc_X6_placeOf_1 rfl hl (by decide) rfl (fun ls hl => ?_)
  refine lv_iconst (v := 0) hx hb dc_X6_placeOf_2 (by decide) ?_
  refine lv_istore (lv' := [(4, .int ((0 : Int32))), (3, .int ((0 : Int32))), (0, .ref x), (1, .long (a1))]) hx hb dc_X6_placeOf_3 hl (by decide) rfl (fun ls hl => ?_)
  rw [hw]
  exact ml_X6_placeOf_L5 F hE hA hfr (7) (a1) ((0 : Int32)) ((0 : Int32)) hk _ _ (hP.sub (ws' := [(x, .inr (0, [.ref cs, .ref sc, .ref pf, .int (u.2.1), .int (u.2.2.1), .int (u.2.2.2)])), (cs, .inl (G.2.1 2, 6, .inr (.inl (u.1))))]) [0, 1] rfl) (hD.sub (ws' := [(x, .inr (0, [.ref cs, .ref sc, .ref pf, .int (u.2.1), .int (u.2.2.1), .int (u.2.2.2)])), (cs, .inl (G.2.1 2, 6, .inr (.inl (u.1))))]) [0, 1] (by decide) rfl) hS _ (lv_sub hl [2, 3, 1, 0] rfl)
end
section
def fn_X6_countOf (a1 : Int32) (u : ky_BS) : Int32 × ky_BS :=
  if (a1) = 0 then ((u.2.1, u)) else (if (a1) = 1 then ((u.2.2.1, u)) else (if (a1) = 2 then ((u.2.2.2, u)) else (((fn_X6_countWholeOnes (u)).1, (fn_X6_countWholeOnes (u)).2))))
def fk_X6_countOf (a1 : Int32) (u : ky_BS) : Prop :=
  ((((a1) = 0) → (True)) ∧ (¬ ((a1) = 0) → ((((a1) = 1) → (True)) ∧ (¬ ((a1) = 1) → ((((a1) = 2) → (True)) ∧ (¬ ((a1) = 2) → ((fk_X6_countWholeOnes (u)) ∧ (True)))))))) ∧ True
set_option linter.constructorNameAsVariable false in
set_option maxHeartbeats 4000000 in
set_option maxRecDepth 100000 in
theorem mt_X6_countOf (l : Launch) (G : ky_G) (x : Nat) (cs : Nat) (sc : Nat) (pf : Nat) (u : ky_BS) (a1 : Int32) (sz : Nat)  (hk : fk_X6_countOf a1 u) : Met l my_X6_countOf (.code my_X6_countOf prog_1_method_62_code 2 (some .int) :: ky_B) { frames := 5, cells := 0, slots := 0, locals := 106 } (ky_P G [.ref x, .int (a1)] (ky_WB G x cs sc pf u) sz (fun _ => True)) (ky_Q (S := ky_BS) G (va_A (ky_WB G x cs sc pf u) sz) (fun v u9 => v = some (.int (fn_X6_countOf a1 u).1) ∧ u9 = (fn_X6_countOf a1 u).2) (fun u9 => ky_WB G x cs sc pf u9) (fun _ _ => True)) 0 0 (va_A (ky_WB G x cs sc pf u) sz) := by
  refine ky_start (by decide) (Nat.le_of_ble_eq_true rfl) (fun p e s m below meth c F hE A hAe hsz hA hfr hP hD hS hX ls hl => ?_)
  obtain ⟨hx, hb, hml, hown, hr, hlocks, hts⟩ := id F
  have hl : lv_has ls 2 [(0, .ref x), (1, .int (a1))] := hl
  have hP : va_P G.1 kcl [(x, .inr (0, [.ref cs, .ref sc, .ref pf, .int (u.2.1), .int (u.2.2.1), .int (u.2.2.2)])), (cs, .inl (G.2.1 2, 6, .inr (.inl (u.1))))] s.heap := hP
  have hD : va_D A [(x, .inr (0, [.ref cs, .ref sc, .ref pf, .int (u.2.1), .int (u.2.2.1), .int (u.2.2.2)])), (cs, .inl (G.2.1 2, 6, .inr (.inl (u.1))))] := hD
  have hw : fn_X6_countOf a1 u = _ := fn_X6_countOf.eq_1 a1 u
  have hk : (((a1) = 0) → (True)) ∧ (¬ ((a1) = 0) → ((((a1) = 1) → (True)) ∧ (¬ ((a1) = 1) → ((((a1) = 2) → (True)) ∧ (¬ ((a1) = 2) → ((fk_X6_countWholeOnes (u)) ∧ (True))))))) := hk.1
  refine lv_iload_n hx hb dc_X6_countOf_0 rfl (lv_at hl 1 rfl) ?_
  by_cases c_0 : (a1) = 0
  · have hw := hw.trans (if_pos c_0)
    refine lv_tableIn (off := 27) (tgt := 28) hx hb dc_X6_countOf_1 (by rw [c_0]; decide) (by rw [c_0]; decide) (by rw [c_0]; rfl) (by decide) ?_
    have hk := hk.1 c_0
    refine lv_aload_n hx hb dc_X6_countOf_28 rfl (lv_at hl 0 rfl) ?_
    refine va_get (D := G.1) (ci := 0) (v := .int (u.2.1)) (C := RX6) (T := TX6) (N := 6) hx hb hts ki_X6 hown hE.1 hP 0 rfl rfl 3 (by decide) (hts _ kw_1_101) (fun _ h9 => h9) rfl dc_X6_countOf_29 ?_
    have hP9 := hP.sub (ws' := [(x, .inr (0, [.ref cs, .ref sc, .ref pf, .int (u.2.1), .int (u.2.2.1), .int (u.2.2.2)])), (cs, .inl (G.2.1 2, 6, .inr (.inl (u.1))))]) [0, 1] rfl
    have hD9 := hD.sub (ws' := [(x, .inr (0, [.ref cs, .ref sc, .ref pf, .int (u.2.1), .int (u.2.2.1), .int (u.2.2.2)])), (cs, .inl (G.2.1 2, 6, .inr (.inl (u.1))))]) [0, 1] (by decide) rfl
    refine W.widen (k := 0) (n := 0) (Nat.le_of_ble_eq_true rfl) (Nat.le_of_ble_eq_true rfl) ?_
    exact W.iret (v := u.2.1) hx hb hr (fun t ht hW => ⟨⟨_, u, rfl, ky_pi hw, by rw [ht]; exact hP9, hD9, trivial⟩, hS.F ht⟩) hS.2.2 dc_X6_countOf_32
  have hw := hw.trans (if_neg c_0)
  have hk := hk.2 c_0
  by_cases c_1 : (a1) = 1
  · have hw := hw.trans (if_pos c_1)
    refine lv_tableIn (off := 32) (tgt := 33) hx hb dc_X6_countOf_1 (by rw [c_1]; decide) (by rw [c_1]; decide) (by rw [c_1]; rfl) (by decide) ?_
    have hk := hk.1 c_1
    refine lv_aload_n hx hb dc_X6_countOf_33 rfl (lv_at hl 0 rfl) ?_
    refine va_get (D := G.1) (ci := 0) (v := .int (u.2.2.1)) (C := RX6) (T := TX6) (N := 6) hx hb hts ki_X6 hown hE.1 hP 0 rfl rfl 4 (by decide) (hts _ kw_1_102) (fun _ h9 => h9) rfl dc_X6_countOf_34 ?_
    have hP9 := hP.sub (ws' := [(x, .inr (0, [.ref cs, .ref sc, .ref pf, .int (u.2.1), .int (u.2.2.1), .int (u.2.2.2)])), (cs, .inl (G.2.1 2, 6, .inr (.inl (u.1))))]) [0, 1] rfl
    have hD9 := hD.sub (ws' := [(x, .inr (0, [.ref cs, .ref sc, .ref pf, .int (u.2.1), .int (u.2.2.1), .int (u.2.2.2)])), (cs, .inl (G.2.1 2, 6, .inr (.inl (u.1))))]) [0, 1] (by decide) rfl
    refine W.widen (k := 0) (n := 0) (Nat.le_of_ble_eq_true rfl) (Nat.le_of_ble_eq_true rfl) ?_
    exact W.iret (v := u.2.2.1) hx hb hr (fun t ht hW => ⟨⟨_, u, rfl, ky_pi hw, by rw [ht]; exact hP9, hD9, trivial⟩, hS.F ht⟩) hS.2.2 dc_X6_countOf_37
  have hw := hw.trans (if_neg c_1)
  have hk := hk.2 c_1
  by_cases c_2 : (a1) = 2
  · have hw := hw.trans (if_pos c_2)
    refine lv_tableIn (off := 37) (tgt := 38) hx hb dc_X6_countOf_1 (by rw [c_2]; decide) (by rw [c_2]; decide) (by rw [c_2]; rfl) (by decide) ?_
    have hk := hk.1 c_2
    refine lv_aload_n hx hb dc_X6_countOf_38 rfl (lv_at hl 0 rfl) ?_
    refine va_get (D := G.1) (ci := 0) (v := .int (u.2.2.2)) (C := RX6) (T := TX6) (N := 6) hx hb hts ki_X6 hown hE.1 hP 0 rfl rfl 5 (by decide) (hts _ kw_1_103) (fun _ h9 => h9) rfl dc_X6_countOf_39 ?_
    have hP9 := hP.sub (ws' := [(x, .inr (0, [.ref cs, .ref sc, .ref pf, .int (u.2.1), .int (u.2.2.1), .int (u.2.2.2)])), (cs, .inl (G.2.1 2, 6, .inr (.inl (u.1))))]) [0, 1] rfl
    have hD9 := hD.sub (ws' := [(x, .inr (0, [.ref cs, .ref sc, .ref pf, .int (u.2.1), .int (u.2.2.1), .int (u.2.2.2)])), (cs, .inl (G.2.1 2, 6, .inr (.inl (u.1))))]) [0, 1] (by decide) rfl
    refine W.widen (k := 0) (n := 0) (Nat.le_of_ble_eq_true rfl) (Nat.le_of_ble_eq_true rfl) ?_
    exact W.iret (v := u.2.2.2) hx hb hr (fun t ht hW => ⟨⟨_, u, rfl, ky_pi hw, by rw [ht]; exact hP9, hD9, trivial⟩, hS.F ht⟩) hS.2.2 dc_X6_countOf_42
  have hw := hw.trans (if_neg c_2)
  have hk := hk.2 c_2
  refine lv_tableOut (tgt := 43) hx hb dc_X6_countOf_1 (ky_out3 c_0 c_1 c_2) (by decide) ?_
  refine lv_aload_n hx hb dc_X6_countOf_43 rfl (lv_at hl 0 rfl) ?_
  obtain ⟨hq_3, hk⟩ := hk
  refine ky_cVh (As := []) (wr := []) F (hE.at hfr hS) hfr (mt_X6_countWholeOnes l G (x) (cs) (sc) (pf) (u)  s.heap.size hq_3) kv_X6_231 ⟨⟨rfl, rfl⟩, by decide, by decide⟩ rfl hl.1 rfl (Nat.le_of_ble_eq_true rfl) ⟨Nat.le_of_ble_eq_true rfl, Nat.le_of_ble_eq_true rfl⟩ (va_recv hE.1 hP (ci := 0) (q0 := 0) rfl rfl) trivial hP hD hS hA [0, 1] [] rfl rfl (by decide) (by decide) (by decide) dc_X6_countOf_44 ?_
  rintro v9 u9 H locs ⟨rfl, rfl⟩ hP hD hS - hz hk9
  have hP : va_P G.1 kcl [(x, .inr (0, [.ref cs, .ref sc, .ref pf, .int ((fn_X6_countWholeOnes (u)).2.2.1), .int ((fn_X6_countWholeOnes (u)).2.2.2.1), .int ((fn_X6_countWholeOnes (u)).2.2.2.2)])), (cs, .inl (G.2.1 2, 6, .inr (.inl ((fn_X6_countWholeOnes (u)).2.1))))] H := hP
  have hD : va_D A [(x, .inr (0, [.ref cs, .ref sc, .ref pf, .int ((fn_X6_countWholeOnes (u)).2.2.1), .int ((fn_X6_countWholeOnes (u)).2.2.2.1), .int ((fn_X6_countWholeOnes (u)).2.2.2.2)])), (cs, .inl (G.2.1 2, 6, .inr (.inl ((fn_X6_countWholeOnes (u)).2.1))))] := hD
  refine W.widen (k := 0) (n := 0) (Nat.le_refl _) (Nat.le_refl _) ?_
  have hP9 := hP.sub (ws' := [(x, .inr (0, [.ref cs, .ref sc, .ref pf, .int ((fn_X6_countWholeOnes (u)).2.2.1), .int ((fn_X6_countWholeOnes (u)).2.2.2.1), .int ((fn_X6_countWholeOnes (u)).2.2.2.2)])), (cs, .inl (G.2.1 2, 6, .inr (.inl ((fn_X6_countWholeOnes (u)).2.1))))]) [0, 1] rfl
  have hD9 := hD.sub (ws' := [(x, .inr (0, [.ref cs, .ref sc, .ref pf, .int ((fn_X6_countWholeOnes (u)).2.2.1), .int ((fn_X6_countWholeOnes (u)).2.2.2.1), .int ((fn_X6_countWholeOnes (u)).2.2.2.2)])), (cs, .inl (G.2.1 2, 6, .inr (.inl ((fn_X6_countWholeOnes (u)).2.1))))]) [0, 1] (by decide) rfl
  refine W.widen (k := 0) (n := 0) (Nat.le_of_ble_eq_true rfl) (Nat.le_of_ble_eq_true rfl) ?_
  exact W.iret (v := (fn_X6_countWholeOnes (u)).1) hx hb hr (fun t ht hW => ⟨⟨_, (fn_X6_countWholeOnes (u)).2, rfl, ky_pi hw, by rw [ht]; exact hP9, hD9, trivial⟩, hS.F ht⟩) hS.2.2 dc_X6_countOf_47
end
section
def fn_X6_house (a1 : Int32) (u : ky_BS) : Sum String (Int32 × ky_BS) :=
  ky_b (fn_X6_requireWithin (a1) ((0 : Int32)) ((3 : Int32))) (fun r_0 w_0 => .inr ((fn_X6_countOf (a1) (u)).1, (fn_X6_countOf (a1) (u)).2))
def fk_X6_house (a1 : Int32) (u : ky_BS) : Prop :=
  ((fk_X6_countOf (a1) (u)) ∧ (True)) ∧ True
set_option linter.constructorNameAsVariable false in
set_option maxHeartbeats 4000000 in
set_option maxRecDepth 100000 in
theorem mt_X6_house (l : Launch) (hl9 : l.stackTraces = false) (G : ky_G) (x : Nat) (cs : Nat) (sc : Nat) (pf : Nat) (u : ky_BS) (a1 : Int32) (sz : Nat)  (hk : fk_X6_house a1 u) : vx_Met l my_X6_house (.code my_X6_house prog_1_method_52_code 2 (some .int) :: ky_B) { frames := 7, cells := 1, slots := 6, locals := 127 } (ky_P G [.ref x, .int (a1)] (ky_WB G x cs sc pf u) sz (fun _ => True)) (ky_Q (S := ky_BS) G (va_A (ky_WB G x cs sc pf u) sz) (fun v u9 => ∃ (r9 : Int32) (w9 : ky_BS), fn_X6_house a1 u = .inr (r9, w9) ∧ v = some (.int r9) ∧ u9 = w9) (fun u9 => ky_WB G x cs sc pf u9) (fun _ _ => True)) (ky_X G (va_A (ky_WB G x cs sc pf u) sz) (fun E => fn_X6_house a1 u = .inl E) (ky_WB G x cs sc pf u)) 1 6 (va_A (ky_WB G x cs sc pf u) sz) := by
  refine ky_startX (by decide) (Nat.le_of_ble_eq_true rfl) (fun p e s m below meth c F hno hE A hAe hsz hA hfr hP hD hS hX ls hl => ?_)
  obtain ⟨hx, hb, hml, hown, hr, hlocks, hts⟩ := id F
  have hl : lv_has ls 2 [(0, .ref x), (1, .int (a1))] := hl
  have hP : va_P G.1 kcl [(x, .inr (0, [.ref cs, .ref sc, .ref pf, .int (u.2.1), .int (u.2.2.1), .int (u.2.2.2)])), (cs, .inl (G.2.1 2, 6, .inr (.inl (u.1))))] s.heap := hP
  have hD : va_D A [(x, .inr (0, [.ref cs, .ref sc, .ref pf, .int (u.2.1), .int (u.2.2.1), .int (u.2.2.2)])), (cs, .inl (G.2.1 2, 6, .inr (.inl (u.1))))] := hD
  have hw : fn_X6_house a1 u = _ := fn_X6_house.eq_1 a1 u
  have hk : (fk_X6_countOf (a1) (u)) ∧ (True) := hk.1
  refine lv_iload_n hx hb dc_X6_house_0 rfl (lv_at hl 1 rfl) ?_
  refine lv_iconst (v := 0) hx hb dc_X6_house_1 (by decide) ?_
  refine lv_iconst (v := 3) hx hb dc_X6_house_2 (by decide) ?_
  refine ky_cSx (As := [.int (a1), .int ((0 : Int32)), .int ((3 : Int32))]) (wr := [(x, .inr (0, [.ref cs, .ref sc, .ref pf, .int (u.2.1), .int (u.2.2.1), .int (u.2.2.2)])), (cs, .inl (G.2.1 2, 6, .inr (.inl (u.1))))]) F (hE.at hfr hS) hfr (mt_X6_requireWithin l hl9 G  (a1) ((0 : Int32)) ((3 : Int32)) s.heap.size ) ks_X6_55 ⟨⟨rfl, rfl⟩, by decide, by decide⟩ rfl hl.1 rfl (Nat.le_of_ble_eq_true rfl) ⟨Nat.le_of_ble_eq_true rfl, Nat.le_of_ble_eq_true rfl⟩ trivial hP hD hS hA [] [0, 1] rfl rfl (by decide) (by decide) (by decide) dc_X6_house_3 ?_ ?_
  · intro E ce q9 H locs hp hP hD hS hz hk9 hc1 hc2 hc3
    have hP9 := hP.sub (ws' := [(x, .inr (0, [.ref cs, .ref sc, .ref pf, .int (u.2.1), .int (u.2.2.1), .int (u.2.2.2)])), (cs, .inl (G.2.1 2, 6, .inr (.inl (u.1))))]) [0, 1] rfl
    have hD9 := hD.sub (ws' := [(x, .inr (0, [.ref cs, .ref sc, .ref pf, .int (u.2.1), .int (u.2.2.1), .int (u.2.2.2)])), (cs, .inl (G.2.1 2, 6, .inr (.inl (u.1))))]) [0, 1] (by decide) rfl
    exact vx_out (fun x h => (hno x h).elim) hlocks hc1 hc2 hc3 (fun t ht hW => ⟨hw.trans (ky_bl hp), by rw [ht]; exact hP9, hD9, hS.F ht⟩) hS.2.2 (Nat.le_of_ble_eq_true rfl) (Nat.le_of_ble_eq_true rfl)
  · rintro v9 u9 H locs ⟨r_0, w_0, hf_0, rfl, rfl⟩ hP hD hS - hz hk9
    have hw := hw.trans (ky_br hf_0)
    have hP : va_P G.1 kcl [(x, .inr (0, [.ref cs, .ref sc, .ref pf, .int (u.2.1), .int (u.2.2.1), .int (u.2.2.2)])), (cs, .inl (G.2.1 2, 6, .inr (.inl (u.1))))] H := hP
    have hD : va_D A [(x, .inr (0, [.ref cs, .ref sc, .ref pf, .int (u.2.1), .int (u.2.2.1), .int (u.2.2.2)])), (cs, .inl (G.2.1 2, 6, .inr (.inl (u.1))))] := hD
    refine W.widen (k := 1) (n := 6) (Nat.le_refl _) (Nat.le_refl _) ?_
    refine lv_aload_n hx hb dc_X6_house_6 rfl (lv_at hl 0 rfl) ?_
    refine lv_iload_n hx hb dc_X6_house_7 rfl (lv_at hl 1 rfl) ?_
    obtain ⟨hq_1, hk⟩ := hk
    refine ky_cVh (As := [.int (a1)]) (wr := []) F (hE.at hfr hS) hfr (mt_X6_countOf l G (x) (cs) (sc) (pf) (u) (a1) H.size hq_1) kv_X6_189 ⟨⟨rfl, rfl⟩, by decide, by decide⟩ rfl hl.1 rfl (Nat.le_of_ble_eq_true rfl) ⟨Nat.le_of_ble_eq_true rfl, Nat.le_of_ble_eq_true rfl⟩ (va_recv hE.1 hP (ci := 0) (q0 := 0) rfl rfl) trivial hP hD hS hA [0, 1] [] rfl rfl (by decide) (by decide) (by decide) dc_X6_house_8 ?_
    rintro v9 u9 H locs ⟨rfl, rfl⟩ hP hD hS - hz hk9
    have hP : va_P G.1 kcl [(x, .inr (0, [.ref cs, .ref sc, .ref pf, .int ((fn_X6_countOf (a1) (u)).2.2.1), .int ((fn_X6_countOf (a1) (u)).2.2.2.1), .int ((fn_X6_countOf (a1) (u)).2.2.2.2)])), (cs, .inl (G.2.1 2, 6, .inr (.inl ((fn_X6_countOf (a1) (u)).2.1))))] H := hP
    have hD : va_D A [(x, .inr (0, [.ref cs, .ref sc, .ref pf, .int ((fn_X6_countOf (a1) (u)).2.2.1), .int ((fn_X6_countOf (a1) (u)).2.2.2.1), .int ((fn_X6_countOf (a1) (u)).2.2.2.2)])), (cs, .inl (G.2.1 2, 6, .inr (.inl ((fn_X6_countOf (a1) (u)).2.1))))] := hD
    refine W.widen (k := 1) (n := 6) (Nat.le_refl _) (Nat.le_refl _) ?_
    have hP9 := hP.sub (ws' := [(x, .inr (0, [.ref cs, .ref sc, .ref pf, .int ((fn_X6_countOf (a1) (u)).2.2.1), .int ((fn_X6_countOf (a1) (u)).2.2.2.1), .int ((fn_X6_countOf (a1) (u)).2.2.2.2)])), (cs, .inl (G.2.1 2, 6, .inr (.inl ((fn_X6_countOf (a1) (u)).2.1))))]) [0, 1] rfl
    have hD9 := hD.sub (ws' := [(x, .inr (0, [.ref cs, .ref sc, .ref pf, .int ((fn_X6_countOf (a1) (u)).2.2.1), .int ((fn_X6_countOf (a1) (u)).2.2.2.1), .int ((fn_X6_countOf (a1) (u)).2.2.2.2)])), (cs, .inl (G.2.1 2, 6, .inr (.inl ((fn_X6_countOf (a1) (u)).2.1))))]) [0, 1] (by decide) rfl
    refine W.widen (k := 1) (n := 6) (Nat.le_of_ble_eq_true rfl) (Nat.le_of_ble_eq_true rfl) ?_
    refine vx_ret ?_
    exact W.iret (v := (fn_X6_countOf (a1) (u)).1) hx hb hr (fun t ht hW => ⟨⟨_, (fn_X6_countOf (a1) (u)).2, rfl, ⟨(fn_X6_countOf (a1) (u)).1, (fn_X6_countOf (a1) (u)).2, hw, rfl, rfl⟩, by rw [ht]; exact hP9, hD9, trivial⟩, hS.F ht⟩) hS.2.2 dc_X6_house_11
end
section
def fn_X6_place (a1 : Int32) (u : ky_BS) : Sum String (Int32 × ky_BS) :=
  ky_b (fn_X6_requireCell (a1)) (fun r_0 w_0 => .inr ((fn_X6_placeOf ((u.1) (a1).toNatClampNeg) (u)).1, (fn_X6_placeOf ((u.1) (a1).toNatClampNeg) (u)).2))
def fk_X6_place (a1 : Int32) (u : ky_BS) : Prop :=
  ((fk_X6_placeOf ((u.1) (a1).toNatClampNeg) (u)) ∧ (True)) ∧ True
set_option linter.constructorNameAsVariable false in
set_option maxHeartbeats 4000000 in
set_option maxRecDepth 100000 in
theorem mt_X6_place (l : Launch) (hl9 : l.stackTraces = false) (G : ky_G) (x : Nat) (cs : Nat) (sc : Nat) (pf : Nat) (u : ky_BS) (a1 : Int32) (sz : Nat)  (hk : fk_X6_place a1 u) : vx_Met l my_X6_place (.code my_X6_place prog_1_method_41_code 2 (some .int) :: ky_B) { frames := 7, cells := 1, slots := 6, locals := 102 } (ky_P G [.ref x, .int (a1)] (ky_WB G x cs sc pf u) sz (fun _ => True)) (ky_Q (S := ky_BS) G (va_A (ky_WB G x cs sc pf u) sz) (fun v u9 => ∃ (r9 : Int32) (w9 : ky_BS), fn_X6_place a1 u = .inr (r9, w9) ∧ v = some (.int r9) ∧ u9 = w9) (fun u9 => ky_WB G x cs sc pf u9) (fun _ _ => True)) (ky_X G (va_A (ky_WB G x cs sc pf u) sz) (fun E => fn_X6_place a1 u = .inl E) (ky_WB G x cs sc pf u)) 1 6 (va_A (ky_WB G x cs sc pf u) sz) := by
  refine ky_startX (by decide) (Nat.le_of_ble_eq_true rfl) (fun p e s m below meth c F hno hE A hAe hsz hA hfr hP hD hS hX ls hl => ?_)
  obtain ⟨hx, hb, hml, hown, hr, hlocks, hts⟩ := id F
  have hl : lv_has ls 2 [(0, .ref x), (1, .int (a1))] := hl
  have hP : va_P G.1 kcl [(x, .inr (0, [.ref cs, .ref sc, .ref pf, .int (u.2.1), .int (u.2.2.1), .int (u.2.2.2)])), (cs, .inl (G.2.1 2, 6, .inr (.inl (u.1))))] s.heap := hP
  have hD : va_D A [(x, .inr (0, [.ref cs, .ref sc, .ref pf, .int (u.2.1), .int (u.2.2.1), .int (u.2.2.2)])), (cs, .inl (G.2.1 2, 6, .inr (.inl (u.1))))] := hD
  have hw : fn_X6_place a1 u = _ := fn_X6_place.eq_1 a1 u
  have hk : (fk_X6_placeOf ((u.1) (a1).toNatClampNeg) (u)) ∧ (True) := hk.1
  refine lv_iload_n hx hb dc_X6_place_0 rfl (lv_at hl 1 rfl) ?_
  refine ky_cSx (As := [.int (a1)]) (wr := [(x, .inr (0, [.ref cs, .ref sc, .ref pf, .int (u.2.1), .int (u.2.2.1), .int (u.2.2.2)])), (cs, .inl (G.2.1 2, 6, .inr (.inl (u.1))))]) F (hE.at hfr hS) hfr (mt_X6_requireCell l hl9 G  (a1) s.heap.size ) ks_X6_27 ⟨⟨rfl, rfl⟩, by decide, by decide⟩ rfl hl.1 rfl (Nat.le_of_ble_eq_true rfl) ⟨Nat.le_of_ble_eq_true rfl, Nat.le_of_ble_eq_true rfl⟩ trivial hP hD hS hA [] [0, 1] rfl rfl (by decide) (by decide) (by decide) dc_X6_place_1 ?_ ?_
  · intro E ce q9 H locs hp hP hD hS hz hk9 hc1 hc2 hc3
    have hP9 := hP.sub (ws' := [(x, .inr (0, [.ref cs, .ref sc, .ref pf, .int (u.2.1), .int (u.2.2.1), .int (u.2.2.2)])), (cs, .inl (G.2.1 2, 6, .inr (.inl (u.1))))]) [0, 1] rfl
    have hD9 := hD.sub (ws' := [(x, .inr (0, [.ref cs, .ref sc, .ref pf, .int (u.2.1), .int (u.2.2.1), .int (u.2.2.2)])), (cs, .inl (G.2.1 2, 6, .inr (.inl (u.1))))]) [0, 1] (by decide) rfl
    exact vx_out (fun x h => (hno x h).elim) hlocks hc1 hc2 hc3 (fun t ht hW => ⟨hw.trans (ky_bl hp), by rw [ht]; exact hP9, hD9, hS.F ht⟩) hS.2.2 (Nat.le_of_ble_eq_true rfl) (Nat.le_of_ble_eq_true rfl)
  · rintro v9 u9 H locs ⟨r_0, w_0, hf_0, rfl, rfl⟩ hP hD hS - hz hk9
    have hw := hw.trans (ky_br hf_0)
    have hP : va_P G.1 kcl [(x, .inr (0, [.ref cs, .ref sc, .ref pf, .int (u.2.1), .int (u.2.2.1), .int (u.2.2.2)])), (cs, .inl (G.2.1 2, 6, .inr (.inl (u.1))))] H := hP
    have hD : va_D A [(x, .inr (0, [.ref cs, .ref sc, .ref pf, .int (u.2.1), .int (u.2.2.1), .int (u.2.2.2)])), (cs, .inl (G.2.1 2, 6, .inr (.inl (u.1))))] := hD
    refine W.widen (k := 1) (n := 6) (Nat.le_refl _) (Nat.le_refl _) ?_
    refine lv_aload_n hx hb dc_X6_place_4 rfl (lv_at hl 0 rfl) ?_
    refine lv_aload_n hx hb dc_X6_place_5 rfl (lv_at hl 0 rfl) ?_
    refine va_get (D := G.1) (ci := 0) (v := .ref cs) (C := RX6) (T := TX6) (N := 6) hx hb hts ki_X6 hown hE.1 hP 0 rfl rfl 0 (by decide) (hts _ kw_1_98) (fun _ h9 => h9) rfl dc_X6_place_6 ?_
    refine lv_iload_n hx hb dc_X6_place_9 rfl (lv_at hl 1 rfl) ?_
    refine va_lald hx hb hE.1 hP 1 2 rfl rfl (rq_cell hf_0) dc_X6_place_10 ?_
    obtain ⟨hq_1, hk⟩ := hk
    refine ky_cVh (As := [.long ((u.1) (a1).toNatClampNeg)]) (wr := []) F (hE.at hfr hS) hfr (mt_X6_placeOf l G (x) (cs) (sc) (pf) (u) ((u.1) (a1).toNatClampNeg) H.size hq_1) kv_X6_176 ⟨⟨rfl, rfl⟩, by decide, by decide⟩ rfl hl.1 rfl (Nat.le_of_ble_eq_true rfl) ⟨Nat.le_of_ble_eq_true rfl, Nat.le_of_ble_eq_true rfl⟩ (va_recv hE.1 hP (ci := 0) (q0 := 0) rfl rfl) trivial hP hD hS hA [0, 1] [] rfl rfl (by decide) (by decide) (by decide) dc_X6_place_11 ?_
    rintro v9 u9 H locs ⟨rfl, rfl⟩ hP hD hS - hz hk9
    have hP : va_P G.1 kcl [(x, .inr (0, [.ref cs, .ref sc, .ref pf, .int ((fn_X6_placeOf ((u.1) (a1).toNatClampNeg) (u)).2.2.1), .int ((fn_X6_placeOf ((u.1) (a1).toNatClampNeg) (u)).2.2.2.1), .int ((fn_X6_placeOf ((u.1) (a1).toNatClampNeg) (u)).2.2.2.2)])), (cs, .inl (G.2.1 2, 6, .inr (.inl ((fn_X6_placeOf ((u.1) (a1).toNatClampNeg) (u)).2.1))))] H := hP
    have hD : va_D A [(x, .inr (0, [.ref cs, .ref sc, .ref pf, .int ((fn_X6_placeOf ((u.1) (a1).toNatClampNeg) (u)).2.2.1), .int ((fn_X6_placeOf ((u.1) (a1).toNatClampNeg) (u)).2.2.2.1), .int ((fn_X6_placeOf ((u.1) (a1).toNatClampNeg) (u)).2.2.2.2)])), (cs, .inl (G.2.1 2, 6, .inr (.inl ((fn_X6_placeOf ((u.1) (a1).toNatClampNeg) (u)).2.1))))] := hD
    refine W.widen (k := 1) (n := 6) (Nat.le_refl _) (Nat.le_refl _) ?_
    have hP9 := hP.sub (ws' := [(x, .inr (0, [.ref cs, .ref sc, .ref pf, .int ((fn_X6_placeOf ((u.1) (a1).toNatClampNeg) (u)).2.2.1), .int ((fn_X6_placeOf ((u.1) (a1).toNatClampNeg) (u)).2.2.2.1), .int ((fn_X6_placeOf ((u.1) (a1).toNatClampNeg) (u)).2.2.2.2)])), (cs, .inl (G.2.1 2, 6, .inr (.inl ((fn_X6_placeOf ((u.1) (a1).toNatClampNeg) (u)).2.1))))]) [0, 1] rfl
    have hD9 := hD.sub (ws' := [(x, .inr (0, [.ref cs, .ref sc, .ref pf, .int ((fn_X6_placeOf ((u.1) (a1).toNatClampNeg) (u)).2.2.1), .int ((fn_X6_placeOf ((u.1) (a1).toNatClampNeg) (u)).2.2.2.1), .int ((fn_X6_placeOf ((u.1) (a1).toNatClampNeg) (u)).2.2.2.2)])), (cs, .inl (G.2.1 2, 6, .inr (.inl ((fn_X6_placeOf ((u.1) (a1).toNatClampNeg) (u)).2.1))))]) [0, 1] (by decide) rfl
    refine W.widen (k := 1) (n := 6) (Nat.le_of_ble_eq_true rfl) (Nat.le_of_ble_eq_true rfl) ?_
    refine vx_ret ?_
    exact W.iret (v := (fn_X6_placeOf ((u.1) (a1).toNatClampNeg) (u)).1) hx hb hr (fun t ht hW => ⟨⟨_, (fn_X6_placeOf ((u.1) (a1).toNatClampNeg) (u)).2, rfl, ⟨(fn_X6_placeOf ((u.1) (a1).toNatClampNeg) (u)).1, (fn_X6_placeOf ((u.1) (a1).toNatClampNeg) (u)).2, hw, rfl, rfl⟩, by rw [ht]; exact hP9, hD9, trivial⟩, hS.F ht⟩) hS.2.2 dc_X6_place_14
end
section
theorem ok_i1 {v : Int32} (h0 : 0 ≤ v.toInt) (h6 : ¬ (6 : Int32) ≤ v) : v.toInt < 6 ∧ vp_in v 6 ∧ (v + 1).toInt = v.toInt + 1 := by
  rw [Int32.le_iff_toInt_le] at h6
  have e6 : (6 : Int32).toInt = 6 := rfl
  rw [e6] at h6
  refine ⟨by omega, vp_in_iff.mpr ⟨h0, by omega⟩, ?_⟩
  rw [Int32.toInt_add]
  have e1 : (1 : Int32).toInt = 1 := rfl
  rw [e1]
  apply Int.bmod_eq_of_le <;> omega
theorem ok_countWholeOnes_L4 (u : ky_BS) : ∀ (n : Nat) (v1 v2 : Int32), 0 ≤ v2.toInt → 6 < v2.toInt + n → v2.toInt ≤ 6 → fk_X6_countWholeOnes_L4 n u v1 v2 := by
  intro n
  induction n with
  | zero => intro v1 v2 h0 h1 h2; exact absurd h1 (by omega)
  | succ n ih =>
    intro v1 v2 h0 h1 h2
    rw [fk_X6_countWholeOnes_L4]
    refine ⟨fun _ => trivial, fun h6 => ?_⟩
    obtain ⟨k1, k2, k3⟩ := ok_i1 h0 h6
    exact ⟨k2, fun _ => ih _ _ (by omega) (by omega) (by omega), fun _ => ih _ _ (by omega) (by omega) (by omega)⟩
theorem ok_countWholeOnes (u : ky_BS) : fk_X6_countWholeOnes u := ⟨ok_countWholeOnes_L4 u 7 _ _ (by decide) (by decide) (by decide), trivial⟩
theorem ok_firstOfAll_L9 (u : ky_BS) : ∀ (n : Nat) (v1 : Int64) (v3 : Int32), 0 ≤ v3.toInt → 6 < v3.toInt + n → v3.toInt ≤ 6 → fk_X6_firstOfAll_L9 n u v1 v3 := by
  intro n
  induction n with
  | zero => intro v1 v3 h0 h1 h2; exact absurd h1 (by omega)
  | succ n ih =>
    intro v1 v3 h0 h1 h2
    rw [fk_X6_firstOfAll_L9]
    refine ⟨fun _ => trivial, fun h6 => ?_⟩
    obtain ⟨k1, k2, k3⟩ := ok_i1 h0 h6
    exact ⟨k2, ih _ _ (by omega) (by omega) (by omega)⟩
theorem ok_firstOfAll (u : ky_BS) : fk_X6_firstOfAll u := ⟨ok_firstOfAll_L9 u 7 _ _ (by decide) (by decide) (by decide), trivial⟩
theorem ok_lastOfAll_L9 (u : ky_BS) : ∀ (n : Nat) (v1 : Int64) (v3 : Int32), 0 ≤ v3.toInt → 6 < v3.toInt + n → v3.toInt ≤ 6 → fk_X6_lastOfAll_L9 n u v1 v3 := by
  intro n
  induction n with
  | zero => intro v1 v3 h0 h1 h2; exact absurd h1 (by omega)
  | succ n ih =>
    intro v1 v3 h0 h1 h2
    rw [fk_X6_lastOfAll_L9]
    refine ⟨fun _ => trivial, fun h6 => ?_⟩
    obtain ⟨k1, k2, k3⟩ := ok_i1 h0 h6
    exact ⟨k2, ih _ _ (by omega) (by omega) (by omega)⟩
theorem ok_lastOfAll (u : ky_BS) : fk_X6_lastOfAll u := ⟨ok_lastOfAll_L9 u 7 _ _ (by decide) (by decide) (by decide), trivial⟩
theorem ok_placeOf_L5 (u : ky_BS) (a : Int64) : ∀ (n : Nat) (v3 : Int32) (v4 : Int32), 0 ≤ v4.toInt → 6 < v4.toInt + n → v4.toInt ≤ 6 → fk_X6_placeOf_L5 n u a v3 v4 := by
  intro n
  induction n with
  | zero => intro v3 v4 h0 h1 h2; exact absurd h1 (by omega)
  | succ n ih =>
    intro v3 v4 h0 h1 h2
    rw [fk_X6_placeOf_L5]
    refine ⟨fun _ => trivial, fun h6 => ?_⟩
    obtain ⟨k1, k2, k3⟩ := ok_i1 h0 h6
    exact ⟨k2, fun _ => ih _ _ (by omega) (by omega) (by omega), fun _ => ih _ _ (by omega) (by omega) (by omega)⟩
theorem ok_placeOf (a : Int64) (u : ky_BS) : fk_X6_placeOf a u := ⟨ok_placeOf_L5 u a 7 _ _ (by decide) (by decide) (by decide), trivial⟩
theorem ok_countOf (a : Int32) (u : ky_BS) : fk_X6_countOf a u := ⟨⟨fun _ => trivial, fun _ => ⟨fun _ => trivial, fun _ => ⟨fun _ => trivial, fun _ => ⟨ok_countWholeOnes u, trivial⟩⟩⟩⟩, trivial⟩
theorem ok_X6_house (a : Int32) (u : ky_BS) : fk_X6_house a u := ⟨⟨ok_countOf a u, trivial⟩, trivial⟩
theorem ok_X6_place (a : Int32) (u : ky_BS) : fk_X6_place a u := ⟨⟨ok_placeOf _ u, trivial⟩, trivial⟩
theorem ok_placeNow_L14 (a : Int32) (w : ky_MV) : ∀ (n : Nat) (v2 : Int32) (v5 : Int32), 0 ≤ v5.toInt → 6 < v5.toInt + n → v5.toInt ≤ 6 → fk_X9_placeNow_L14 a w n v2 v5 := by
  intro n
  induction n with
  | zero => intro v2 v5 h0 h1 h2; exact absurd h1 (by omega)
  | succ n ih =>
    intro v2 v5 h0 h1 h2
    rw [fk_X9_placeNow_L14]
    refine ⟨fun _ => trivial, fun h6 => ?_⟩
    obtain ⟨k1, k2, k3⟩ := ok_i1 h0 h6
    exact ⟨k2, fun _ => ih _ _ (by omega) (by omega) (by omega), fun _ => ih _ _ (by omega) (by omega) (by omega)⟩
theorem ok_placeNow (a : Int32) (w : ky_MV) : fk_X9_placeNow a w := ⟨ok_placeNow_L14 a w 7 _ _ (by decide) (by decide) (by decide), trivial⟩
theorem ok_houseNow_L14 (a : Int32) (w : ky_MV) : ∀ (n : Nat) (v2 : Int32) (v5 : Int32), 0 ≤ v5.toInt → 6 < v5.toInt + n → v5.toInt ≤ 6 → fk_X9_houseNow_L14 a w n v2 v5 := by
  intro n
  induction n with
  | zero => intro v2 v5 h0 h1 h2; exact absurd h1 (by omega)
  | succ n ih =>
    intro v2 v5 h0 h1 h2
    rw [fk_X9_houseNow_L14]
    refine ⟨fun _ => trivial, fun h6 => ?_⟩
    obtain ⟨k1, k2, k3⟩ := ok_i1 h0 h6
    exact ⟨k2, ih _ _ (by omega) (by omega) (by omega)⟩
theorem ok_houseNow (a : Int32) (w : ky_MV) : fk_X9_houseNow a w := ⟨ok_houseNow_L14 a w 7 _ _ (by decide) (by decide) (by decide), trivial⟩
end
section
/-! calls of the JDK's builders: methods that a class has from the one above it -/
theorem ky_selP {C : String} {y : MethodName} {s : State} {args : Array Value} {n : Nat} (hy : y.cls ≠ "java/lang/invoke/MethodHandle" ∧ y.cls ≠ "java/lang/invoke/VarHandle") (hins : (Cond.instantiable C n).before args s = true) (hpriv : (Cond.privateMethod y).before args s = true) (hinst : (Cond.instanceMethod y).before args s = true) (hsup : (Cond.superclass C y.cls).before args s = true) {z : MethodName} (hz : (Cond.selects C z z).before args s = true) (hzy : z.cls = y.cls) : (Cond.selects C y y).before args s = true := by
  obtain ⟨c, k, hc, hk, -, hniab, -, -⟩ := Cond.instantiable_spec hins
  obtain ⟨mk, methM, hnamed, hmethM, -, -⟩ := Cond.instanceMethod_spec hinst
  have hfound : s.methodFound? y.cls y.name y.desc = some mk := State.methodFound?_of_named hnamed hy
  obtain ⟨p, k', kp, h1, h2, h3, h4, h5, h6, h7⟩ := Cond.superclass_spec hc hsup
  have hcls : mk.cls = p := Option.some.inj ((findClass_of_methodNamed hnamed).symm.trans h1)
  have hsel : selectMethod {} s.vm c mk = .method mk := selectMethod_private hmethM (Cond.privateMethod_at hpriv mk methM hnamed hmethM)
  obtain ⟨c2, r2, m2, q1, q2, q3, q4, kP, hkP, hkPi⟩ := Cond.selects_spec hz
  have e2 : m2.cls = p := Option.some.inj ((findClass_of_methodNamed q3).symm.trans (by rw [hzy]; exact h1))
  have e3 : kP = kp := Option.some.inj (hkP.symm.trans (by rw [e2]; exact h3))
  subst e3
  simp only [Cond.before, Cond.holds, Cond.value, hc, hfound, hnamed, hsel, hcls, h3]
  simp; exact hkPi
theorem ky_E.selP {G : ky_G} {U : State} (hE : ky_E G U) {C : String} {y z : MethodName} {n : Nat} (hy : y.cls ≠ "java/lang/invoke/MethodHandle" ∧ y.cls ≠ "java/lang/invoke/VarHandle") (h1 : Cond.instantiable C n ∈ lw_tbl) (h2 : Cond.privateMethod y ∈ lw_tbl) (h3 : Cond.instanceMethod y ∈ lw_tbl) (h4 : Cond.superclass C y.cls ∈ lw_tbl) (h5 : Cond.selects C z z ∈ lw_tbl) (hzy : z.cls = y.cls) (args : Array Value) : (Cond.selects C y y).before args U = true := by
  obtain ⟨b, k1, -⟩ := hE.narrow
  exact word_at hE.2.2.2.1 (good_of_word rfl) (ky_selP hy (k1 _ h1) (k1 _ h2) (k1 _ h3) (k1 _ h4) (k1 _ h5) hzy)
/-- words at a call of a method x, named at the class above, that y is for an object of C -/
def ky_wO (own : String) (index : Nat) (C : String) (x y : MethodName) (b0 : ByteArray) (m0 : Nat) (r0 : Option FieldType) (bytes : ByteArray) (maxL : Nat) (ret : Option FieldType) (n : Nat) : Prop :=
  Cond.methodLink own index x ∈ ky_B ∧ Cond.sameMethod x.cls x.cls x.name x.desc ∈ ky_B ∧ Cond.instanceMethod x ∈ ky_B ∧ Cond.code x b0 m0 r0 ∈ ky_B ∧ Cond.selects C x y ∈ ky_B ∧ Cond.instanceMethod y ∈ ky_B ∧ Cond.initialized y.cls ∈ ky_B ∧ Cond.code y bytes maxL ret ∈ ky_B ∧ (x.cls ≠ "java/lang/invoke/MethodHandle" ∧ x.cls ≠ "java/lang/invoke/VarHandle") ∧ (parseMethodDescriptor x.desc).map (fun d => d.parameters.length) = some n
/-- words at a call of a private method of the class above -/
def ky_wP (own : String) (index : Nat) (C : String) (n0 : Nat) (z y : MethodName) (bytes : ByteArray) (maxL : Nat) (ret : Option FieldType) (n : Nat) : Prop :=
  Cond.methodLink own index y ∈ ky_B ∧ Cond.sameMethod y.cls y.cls y.name y.desc ∈ ky_B ∧ Cond.instantiable C n0 ∈ ky_B ∧ Cond.privateMethod y ∈ lw_tbl ∧ Cond.superclass C y.cls ∈ ky_B ∧ Cond.instanceMethod y ∈ ky_B ∧ Cond.initialized y.cls ∈ ky_B ∧ Cond.code y bytes maxL ret ∈ ky_B ∧ Cond.selects C z z ∈ ky_B ∧ z.cls = y.cls ∧ (y.cls ≠ "java/lang/invoke/MethodHandle" ∧ y.cls ≠ "java/lang/invoke/VarHandle") ∧ (parseMethodDescriptor y.desc).map (fun d => d.parameters.length) = some n
/-- words at a call of the class above's own method, by its name -/
def ky_wSU (own : String) (index : Nat) (y : MethodName) (bytes : ByteArray) (maxL : Nat) (ret : Option FieldType) (n : Nat) : Prop :=
  Cond.methodLink own index y ∈ ky_B ∧ Cond.sameMethod y.cls y.cls y.name y.desc ∈ ky_B ∧ Cond.superclass own y.cls ∈ ky_B ∧ Cond.instanceMethod y ∈ ky_B ∧ Cond.initialized y.cls ∈ ky_B ∧ Cond.code y bytes maxL ret ∈ ky_B ∧ y.name ≠ "<init>" ∧ (parseMethodDescriptor y.desc).map (fun d => d.parameters.length) = some n
theorem ky_wSU.good {own : String} {index : Nat} {y : MethodName} {bytes : ByteArray} {maxL : Nat} {ret : Option FieldType} {n : Nat} (h : ky_wSU own index y bytes maxL ret n) : GoodIn ky_B (va_wsSU own index y (.code y bytes maxL ret :: ky_B)) := by
  obtain ⟨h1, h2, h3, h4, h5, h6, -⟩ := h
  refine ky_in (fun w hw => ?_)
  simp only [va_wsSU, List.mem_append, List.mem_cons, List.not_mem_nil, or_false] at hw
  rcases hw with (rfl | rfl | rfl | rfl | rfl) | rfl | hw
  · exact h1
  · exact h2
  · exact h3
  · exact h4
  · exact h5
  · exact h6
  · exact hw
section KYU
variable {p : Program} {l : Launch} {e : Env} {R : Room} {s : State} {m : MethodId} {args : Array Value} {below : List Frame} {meth : Method} {c : Code} {H : Heap} {locs : List Loc} {cells slots : Nat} {Q : State → Prop}
variable {cc : ByteArray} {own : String} {nL : Nat} {ret9 : Option FieldType} {pc : Nat} {ls : Array Slot} {rest st : List Value} {mc ms : Nat} {A : Nat → Prop} {G : ky_G}
variable {y : MethodName} {bytes : ByteArray} {maxL n index : Nat} {ret : Option FieldType} {rm : Room} {As : List Value} {b : Nat}
theorem ky_wO.cu {C : String} {x : MethodName} {b0 : ByteArray} {m0 : Nat} {r0 : Option FieldType} (hts : ∀ w ∈ ky_B, w.before args s = true) (h : ky_wO own index C x y b0 m0 r0 bytes maxL ret n) (hR : (rm.cells = mc ∧ rm.slots = ms) ∧ rm.frames + 1 ≤ R.frames ∧ 8 + (maxL + 11) + rm.locals ≤ R.locals) : va_CU R s args own C x.cls index x y bytes maxL ret (.code y bytes maxL ret :: ky_B) rm mc ms n := by
  obtain ⟨h1, h2, h3, h4, h5, h6, h7, h8, h9, h10⟩ := h
  refine ⟨⟨hR.1.1, hR.1.2, hR.2.1, hR.2.2, pay_in hts (ky_in (fun w9 hw9 => (List.mem_cons.mp hw9).elim (fun z => z ▸ h8) (fun z => z))), List.mem_cons_self⟩, hts _ h8, hts _ h7, h9, fun sig h => ?_, hts _ h1, hts _ h2, va_Decl.of (hts _ h3) (hts _ h4), hts _ h5, hts _ h6⟩
  rw [h] at h10
  exact (Option.some.inj h10).symm
theorem ky_wP.cu {C : String} {n0 : Nat} {z : MethodName} (hE : ky_E G s) (hts : ∀ w ∈ ky_B, w.before args s = true) (h : ky_wP own index C n0 z y bytes maxL ret n) (hR : (rm.cells = mc ∧ rm.slots = ms) ∧ rm.frames + 1 ≤ R.frames ∧ 8 + (maxL + 11) + rm.locals ≤ R.locals) : va_CU R s args own C y.cls index y y bytes maxL ret (.code y bytes maxL ret :: ky_B) rm mc ms n := by
  obtain ⟨h1, h2, h3, h4, h5, h6, h7, h8, hz, hzy, h9, h10⟩ := h
  refine ⟨⟨hR.1.1, hR.1.2, hR.2.1, hR.2.2, pay_in hts (ky_in (fun w9 hw9 => (List.mem_cons.mp hw9).elim (fun z => z ▸ h8) (fun z => z))), List.mem_cons_self⟩, hts _ h8, hts _ h7, h9, fun sig h => ?_, hts _ h1, hts _ h2, va_Decl.of (hts _ h6) (hts _ h8), hE.selP h9 (ky_sub _ h3) h4 (ky_sub _ h6) (ky_sub _ h5) (ky_sub _ hz) hzy args, hts _ h6⟩
  rw [h] at h10
  exact (Option.some.inj h10).symm
theorem ky_cUh {S : Type} {EX : Heap → Prop} {post : Option Value → S → Prop} {w1 : S → va_W} {EX1 : S → Heap → Prop} {ws wc wr : va_W} {C owner : String} {x : MethodName} (F : ky_F p s m meth c own cc nL ret9 args) (hEc : ∀ U : State, U.heap = H → s.WarmedH U.vm → ky_E G U) (hfr : ∀ q, A q → ky_fr G q)
    (hM : Met l y (.code y bytes maxL ret :: ky_B) rm (ky_P G (.ref b :: As) wc H.size EX) (ky_Q G (va_A wc H.size) post w1 EX1) mc ms (va_A wc H.size)) (w : va_CU R s args own C owner index x y bytes maxL ret (.code y bytes maxL ret :: ky_B) rm mc ms n)
    (hn : As.length = n) (hl : ls.size = nL) (hst : st = As.reverse ++ .ref b :: rest) (hcat : (rest.map fun v => v.category).sum ≤ 8) (hf : cells + mc ≤ R.cells ∧ slots + ms ≤ R.slots)
    (hrc : ∃ cellB : Cell, H[b]? = some cellB ∧ cellB.vm.isStatics = false ∧ s.vm.findClass C = some cellB.cls) (hEX : EX H) (hP : va_P G.1 kcl ws H) (hD : va_D A ws) (hS : va_S A s.heap H locs) (hA : ∀ q, s.heap.size ≤ q → A q)
    (isC isR : List Nat) (hC : isC.map (fun i => ws[i]?) = wc.map some) (hRr : isR.map (fun i => ws[i]?) = wr.map some) (hnC : va_nd isC = true) (hnR : va_nd isR = true) (hdis : ∀ i ∈ isR, i ∉ isC)
    (hdg : decode cc pc = .ok (.invokevirtual index, 3))
    (kk : ∀ (v : Option Value) (u : S) (H1 : Heap) (locs1 : List Loc), post v u → va_P G.1 kcl (wr ++ w1 u) H1 → va_D A (wr ++ w1 u) → va_S A s.heap H1 locs1 → EX1 u H1 → H.size ≤ H1.size → (∀ q : Nat, q < H.size → ¬ va_A wc H.size q → H1[q]? = H[q]?) →
      W p l e R s m args below meth c H1 locs1 (cells + mc) (slots + ms) Q (F0 m (pc + 3) ls (v.toList ++ rest))) : W p l e R s m args below meth c H locs cells slots Q (F0 m pc ls st) := by
  obtain ⟨hx, hb, hml, hown, -, -, hts⟩ := F
  have hPc : va_P G.1 kcl wc H := hP.by (fun k => (isC[k]?).getD 0) (fun k q hk => ky_pick hC hk)
  have hDc : va_D (ky_fr G) wc := (hD.sub isC hnC hC).weaken (fun _ _ _ z => hfr _ z)
  have hr := va_runU (l := l) (e := e) (R := R) (below := below) (meth := meth) (H := H) (locs := locs) (cells := cells) (slots := slots) (mc := mc) (ms := ms) (g := F0 m pc ls st) (rest := rest) (As := As) (b := b) ⟨hx, hb, hml, hown, hts⟩ hM
    w ⟨ky_P.blind, hrc, fun U hU hW => ⟨rfl, hEc U hU hW, by rw [hU], by rw [hU]; exact hPc, hDc, by rw [hU]; exact hEX⟩⟩ rfl hn hl hst (lv_room hcat) hdg hf
  exact ky_run hr hP hD hS hA isC isR hC hRr hnR hdis kk
theorem ky_cWh {S : Type} {EX : Heap → Prop} {post : Option Value → S → Prop} {w1 : S → va_W} {EX1 : S → Heap → Prop} {ws wc wr : va_W} {C : String} {ci : Nat} {T : u_T} {N : Nat} (F : ky_F p s m meth c own cc nL ret9 args) (hEc : ∀ U : State, U.heap = H → s.WarmedH U.vm → ky_E G U) (hfr : ∀ q, A q → ky_fr G q) (hEs : va_K G.1 kcl (ky_tys G.2.1) s) (hci : kcl[ci]? = some (C, T, N))
    (hM : Met l y (.code y bytes maxL ret :: ky_B) rm (ky_P G (.ref b :: As) wc H.size EX) (ky_Q G (va_A wc H.size) post w1 EX1) mc ms (va_A wc H.size)) (w : ky_wSU own index y bytes maxL ret n)
    (hR : (rm.cells = mc ∧ rm.slots = ms) ∧ rm.frames + 1 ≤ R.frames ∧ 8 + (maxL + 11) + rm.locals ≤ R.locals) (hn : As.length = n) (hl : ls.size = nL) (hst : st = As.reverse ++ .ref b :: rest) (hcat : (rest.map fun v => v.category).sum ≤ 8) (hf : cells + mc ≤ R.cells ∧ slots + ms ≤ R.slots)
    (hrc : ∃ cellB : Cell, H[b]? = some cellB ∧ cellB.vm.isStatics = false ∧ s.vm.findClass C = some cellB.cls) (hEX : EX H) (hP : va_P G.1 kcl ws H) (hD : va_D A ws) (hS : va_S A s.heap H locs) (hA : ∀ q, s.heap.size ≤ q → A q)
    (isC isR : List Nat) (hC : isC.map (fun i => ws[i]?) = wc.map some) (hRr : isR.map (fun i => ws[i]?) = wr.map some) (hnC : va_nd isC = true) (hnR : va_nd isR = true) (hdis : ∀ i ∈ isR, i ∉ isC)
    (hdg : decode cc pc = .ok (.invokespecial index, 3))
    (kk : ∀ (v : Option Value) (u : S) (H1 : Heap) (locs1 : List Loc), post v u → va_P G.1 kcl (wr ++ w1 u) H1 → va_D A (wr ++ w1 u) → va_S A s.heap H1 locs1 → EX1 u H1 → H.size ≤ H1.size → (∀ q : Nat, q < H.size → ¬ va_A wc H.size q → H1[q]? = H[q]?) →
      W p l e R s m args below meth c H1 locs1 (cells + mc) (slots + ms) Q (F0 m (pc + 3) ls (v.toList ++ rest))) : W p l e R s m args below meth c H locs cells slots Q (F0 m pc ls st) := by
  obtain ⟨hx, hb, hml, hown, -, -, hts⟩ := F
  have hPc : va_P G.1 kcl wc H := hP.by (fun k => (isC[k]?).getD 0) (fun k q hk => ky_pick hC hk)
  have hDc : va_D (ky_fr G) wc := (hD.sub isC hnC hC).weaken (fun _ _ _ z => hfr _ z)
  have hr := va_runSU (l := l) (e := e) (R := R) (below := below) (meth := meth) (H := H) (locs := locs) (cells := cells) (slots := slots) (mc := mc) (ms := ms) (g := F0 m pc ls st) (rest := rest) (As := As) (b := b) (hEs.1 ci _ hci).2 ⟨hx, hb, hml, hown, hts⟩ hM
    (va_cwSU (rm := rm) (ws' := ky_B) n hts w.good rfl hR.1.1 hR.1.2 ⟨w.2.2.2.2.2.2.1, w.2.2.2.2.2.2.2⟩ hR.2) ⟨ky_P.blind, hrc, fun U hU hW => ⟨rfl, hEc U hU hW, by rw [hU], by rw [hU]; exact hPc, hDc, by rw [hU]; exact hEX⟩⟩ rfl hn hl hst (lv_room hcat) hdg hf
  exact ky_run hr hP hD hS hA isC isR hC hRr hnR hdis kk
end KYU
/-! a new array's class is the one that is known -/
theorem ky_nB {D : va_G} {cl : List vw_C} {cy : Nat → ClassId} {s : State} {cA : ClassId} {ty : FieldType} (k : Nat) (h1 : va_K D cl (ky_tys cy) s) (h2 : va_K D cl (ky_tys cy ++ [(cA, ty)]) s) (hk : (ky_tys cy)[k]? = some (cy k, ty)) (hty : ∀ C, ty ≠ .object C) : cA = cy k := by
  have a := (h1.2 k _ hk).2
  have b := (h2.2 6 (cA, ty) rfl).2
  cases ty with
  | object C => exact absurd rfl (hty C)
  | _ => exact Option.some.inj (b.symm.trans a)
theorem ky_nA {D : va_G} {cl : List vw_C} {cy : Nat → ClassId} {s : State} {cA : ClassId} {C : String} (k : Nat) (h1 : va_K D cl (ky_tys cy) s) (h2 : va_K D cl (ky_tys cy ++ [(cA, .object C)]) s) (hk : (ky_tys cy)[k]? = some (cy k, .object C)) : cA = cy k := by
  obtain ⟨-, -, -, -, -, a⟩ := (h1.2 k _ hk).2
  obtain ⟨-, -, -, -, -, b⟩ := (h2.2 6 (cA, .object C) rfl).2
  exact Option.some.inj (b.symm.trans a)
end
section
theorem ky_dummy : True := trivial
/-! String constants and builders: their pictures -/
def ky_fit (f : Nat → Int32) : Prop := ∀ i : Nat, fits .byte (.int (f i)) = true
def ky_Sc (a w : Nat) (f : Nat → Int32) (A : Nat → Prop) (U : State) (H : Heap) : Prop := ∃ v : Nat, va_O "java/lang/String" a A U H ∧ va_OF "java/lang/String" "coder" "B" (.int 0) a A U H ∧ va_OF "java/lang/String" "value" "[B" (.ref v) a A U H ∧ va_T .byte v w (fun j => .int (f j)) A U H
/-- a String constant of w signs f: it stands there from the start -/
def ky_Str (G : ky_G) (a w : Nat) (f : Nat → Int32) : Prop := ky_Sc a w f (ky_fr G) G.2.2 G.2.2.heap ∧ ky_fit f ∧ w < 2 ^ 20
theorem ky_Str.at {G : ky_G} {a w : Nat} {f : Nat → Int32} {U : State} (h : ky_Str G a w f) (hE : ky_E G U) {A : Nat → Prop} (hfr : ∀ q, A q → ky_fr G q) : ky_Sc a w f A U U.heap := by
  obtain ⟨⟨v, h1, h2, h3, h4⟩, -⟩ := h
  have hk : ∀ a : Nat, a < G.2.2.heap.size → ¬ ky_fr G a → U.heap[a]? = G.2.2.heap[a]? := fun a h _ => hE.2.2.1 a h
  have hm := hE.2.2.2.1.alike
  exact ⟨v, ((h1.kept hk).moved hm).narrow hfr, ((h2.kept hk).moved hm).narrow hfr, ((h3.kept hk).moved hm).narrow hfr, ((h4.kept hk).moved hm).narrow hfr⟩
theorem ky_fitL {L : List Int32} (h : L.all (fun x => fits .byte (.int x)) = true) : ky_fit (fun j => L.getD j 0) := by
  intro i
  show fits .byte (.int (L.getD i 0)) = true
  rw [List.getD_eq_getElem?_getD]
  cases e : L[i]? with
  | none => rfl
  | some x => exact List.all_eq_true.mp h x (List.mem_of_getElem? e)
theorem ky_E.strc {G : ky_G} {U : State} (hE : ky_E G U) {own tx : String} {k : Nat} {L : List Int32} (h1 : Cond.stringRef own k tx ∈ lw_tbl) (h2 : Cond.exactly (.string own k) "java/lang/String" ∈ flatC (Jvm.Cond.and given_1 narrow_1))
    (h3 : Cond.eq (.field (.string own k) "java/lang/String" "coder" "B") (.int 0) ∈ flatC (Jvm.Cond.and given_1 narrow_1)) (h4 : Cond.arrayOf (.field (.string own k) "java/lang/String" "value" "[B") .byte ∈ flatC (Jvm.Cond.and given_1 narrow_1))
    (h5 : Cond.eq (.length (.field (.string own k) "java/lang/String" "value" "[B")) (.int (Int32.ofNat L.length)) ∈ flatC (Jvm.Cond.and given_1 narrow_1)) (hL : L.length < 2 ^ 20) (hf : L.all (fun x => fits .byte (.int x)) = true)
    (h6 : (List.range L.length).all (fun j => decide (Cond.eq (.elem (.field (.string own k) "java/lang/String" "value" "[B") (.int (Int32.ofNat j))) (.int (L.getD j 0)) ∈ flatC (Jvm.Cond.and given_1 narrow_1))) = true) : ∃ a : Nat, vk_R own k tx a U ∧ ky_Str G a L.length (fun j => L.getD j 0) := by
  obtain ⟨b, k1, k2⟩ := hE.narrow
  have hA : ∀ a : Nat, a < G.2.2.heap.size → ¬ ky_fr G a := fun a h => Nat.not_le.mpr h
  obtain ⟨a, c, cA, kA, q1, q2, q3, q4, q5, q6, -⟩ := Cond.exactly_spec (args := #[Value.ref b]) (first := G.2.2) (o := none) (s := G.2.2) (idx := []) (t := .string own k) (cls := "java/lang/String") (k2 _ h2)
  obtain ⟨t, ht, hT⟩ := va_Tof (f := fun j => .int (L.getD j 0)) (A := ky_fr G) (Nat.lt_trans hL (by decide)) (k2 _ h4) (va_eqt (k2 _ h5)) (fun j hj => va_eqt (k2 _ (of_decide_eq_true (List.all_eq_true.mp h6 j (List.mem_range.mpr hj))))) hA
  exact ⟨a, (vk_R.of (A := #[Value.ref b]) (k1 _ h1) q1).warm hE.2.2.2.1, ⟨t, ⟨cA, q3, q5, by rw [q6]; exact q2, hA a (Array.getElem?_eq_some_iff.mp q3).1⟩, vk_OFof q1 (va_eqt (k2 _ h3)) hA, vk_OFof q1 ht hA, hT⟩, ky_fitL hf, hL⟩
theorem ky_s1 {G : ky_G} {U : State} (hE : ky_E G U) : ∃ a : Nat, vk_R "Exactdoubles$Scribe" 70 "*2^" a U ∧ ky_Str G a 3 (fun j => ([42, 50, 94] : List Int32).getD j 0) := hE.strc (L := [42, 50, 94]) (kc_3 _ (List.mem_of_getElem? (i := 63) rfl)) (ky_fi (i := 385) (by decide +kernel)) (ky_fi (i := 386) (by decide +kernel)) (ky_fi (i := 387) (by decide +kernel)) (ky_fi (i := 388) (by decide +kernel)) (by decide) (by decide) (ky_fis 389 (by decide +kernel))
theorem ky_s2 {G : ky_G} {U : State} (hE : ky_E G U) : ∃ a : Nat, vk_R "ExactdoublesModel$Its" 55 "" a U ∧ ky_Str G a 0 (fun j => ([] : List Int32).getD j 0) := hE.strc (L := []) (kc_7 _ (List.mem_of_getElem? (i := 53) rfl)) (ky_fi (i := 484) (by decide +kernel)) (ky_fi (i := 485) (by decide +kernel)) (ky_fi (i := 486) (by decide +kernel)) (ky_fi (i := 487) (by decide +kernel)) (by decide) (by decide) (ky_fis 0 (by decide +kernel))
theorem ky_s3 {G : ky_G} {U : State} (hE : ky_E G U) : ∃ a : Nat, vk_R "ExactdoublesModel$Its" 57 "-" a U ∧ ky_Str G a 1 (fun j => ([45] : List Int32).getD j 0) := hE.strc (L := [45]) (kc_7 _ (List.mem_of_getElem? (i := 54) rfl)) (ky_fi (i := 498) (by decide +kernel)) (ky_fi (i := 499) (by decide +kernel)) (ky_fi (i := 500) (by decide +kernel)) (ky_fi (i := 501) (by decide +kernel)) (by decide) (by decide) (ky_fis 502 (by decide +kernel))
theorem ky_s4 {G : ky_G} {U : State} (hE : ky_E G U) : ∃ a : Nat, vk_R "ExactdoublesModel$Its" 66 "0" a U ∧ ky_Str G a 1 (fun j => ([48] : List Int32).getD j 0) := hE.strc (L := [48]) (kc_7 _ (List.mem_of_getElem? (i := 58) rfl)) (ky_fi (i := 514) (by decide +kernel)) (ky_fi (i := 515) (by decide +kernel)) (ky_fi (i := 516) (by decide +kernel)) (ky_fi (i := 517) (by decide +kernel)) (by decide) (by decide) (ky_fis 518 (by decide +kernel))
theorem ky_s5 {G : ky_G} {U : State} (hE : ky_E G U) : ∃ a : Nat, vk_R "ExactdoublesModel$Its" 68 "E" a U ∧ ky_Str G a 1 (fun j => ([69] : List Int32).getD j 0) := hE.strc (L := [69]) (kc_7 _ (List.mem_of_getElem? (i := 59) rfl)) (ky_fi (i := 531) (by decide +kernel)) (ky_fi (i := 532) (by decide +kernel)) (ky_fi (i := 533) (by decide +kernel)) (ky_fi (i := 534) (by decide +kernel)) (by decide) (by decide) (ky_fis 535 (by decide +kernel))
theorem ky_s6 {G : ky_G} {U : State} (hE : ky_E G U) : ∃ a : Nat, vk_R "ExactdoublesModel$Its" 79 "*2^" a U ∧ ky_Str G a 3 (fun j => ([42, 50, 94] : List Int32).getD j 0) := hE.strc (L := [42, 50, 94]) (kc_7 _ (List.mem_of_getElem? (i := 88) rfl)) (ky_fi (i := 549) (by decide +kernel)) (ky_fi (i := 550) (by decide +kernel)) (ky_fi (i := 551) (by decide +kernel)) (ky_fi (i := 552) (by decide +kernel)) (by decide) (by decide) (ky_fis 553 (by decide +kernel))
theorem ky_s7 {G : ky_G} {U : State} (hE : ky_E G U) : ∃ a : Nat, vk_R "ExactdoublesModel" 171 "" a U ∧ ky_Str G a 0 (fun j => ([] : List Int32).getD j 0) := hE.strc (L := []) (kc_7 _ (List.mem_of_getElem? (i := 48) rfl)) (ky_fi (i := 471) (by decide +kernel)) (ky_fi (i := 472) (by decide +kernel)) (ky_fi (i := 473) (by decide +kernel)) (ky_fi (i := 474) (by decide +kernel)) (by decide) (by decide) (ky_fis 0 (by decide +kernel))
/-- a builder: its row of bytes has m places, n of them are used -/
abbrev ky_WT (G : ky_G) (b va m n : Nat) (f : Nat → Int32) (ml : Int32) : va_W := [(b, .inr (6, [.ref va, .int 0, .int ml, .int (nI n)])), (va, .inl (G.2.1 0, m, .inl f))]
/-- a row's new length, its price -/
def ky_cap (m q : Nat) : Nat := if q ≤ m then m else 34
def ky_gc (m q : Nat) : Nat := if q ≤ m then 0 else 1
def ky_gs (m q : Nat) : Nat := if q ≤ m then 0 else 34
def ky_m2 (m : Nat) : Prop := m = 16 ∨ m = 34
theorem ky_m2.cap {m q : Nat} (h : ky_m2 m) : ky_m2 (ky_cap m q) := by
  unfold ky_cap
  split
  · exact h
  · exact Or.inr rfl
theorem ky_m2.le {m q : Nat} (h : ky_m2 m) (hq : q ≤ 34) : q ≤ ky_cap m q ∧ m ≤ ky_cap m q ∧ ky_cap m q ≤ 34 := by
  unfold ky_cap
  rcases h with rfl | rfl <;> split <;> omega
/-- what was paid for a row so long -/
def ky_pc (m : Nat) : Nat := if m = 16 then 0 else 1
def ky_ps (m : Nat) : Nat := if m = 16 then 0 else 34
theorem ky_pay {m q : Nat} (h : ky_m2 m) (hq : q ≤ 34) : ky_pc m + ky_gc m q ≤ ky_pc (ky_cap m q) ∧ ky_ps m + ky_gs m q ≤ ky_ps (ky_cap m q) := by
  unfold ky_pc ky_ps ky_gc ky_gs ky_cap
  rcases h with rfl | rfl <;> split <;> (try split) <;> (try split) <;> (try split) <;> omega
theorem ky_pmost (m : Nat) : ky_pc m ≤ 1 ∧ ky_ps m ≤ 34 := by
  unfold ky_pc ky_ps
  split <;> omega
theorem ky_gc1 {m q : Nat} (h : ¬ q ≤ m) : ky_gc m q = 1 := if_neg h
theorem ky_gs1 {m q : Nat} (h : ¬ q ≤ m) : ky_gs m q = 34 := if_neg h
theorem ky_cap0 {m q : Nat} (h : q ≤ m) : ky_cap m q = m := if_pos h
theorem ky_cap1 {m q : Nat} (h : ¬ q ≤ m) : ky_cap m q = 34 := if_neg h
theorem ky_fitU {f : Nat → Int32} (h : ky_fit f) (k : Nat) {x : Int32} (hx : fits .byte (.int x) = true) : ky_fit (upd f k x) := by
  intro i
  by_cases e : i = k
  · rw [e, pk_us]; exact hx
  · rw [pk_un e]; exact h i
theorem ky_fit0 : ky_fit (fun _ => 0) := fun _ => rfl
theorem ky_fitC {f g : Nat → Int32} (hf : ky_fit f) (hg : ky_fit g) (a b n : Nat) : ky_fit (va_cpy f g a b n) := by
  intro i
  by_cases h : b ≤ i ∧ i < b + n
  · rw [pk_cpy_in h.1 h.2]; exact hf _
  · rw [pk_cpy_out (by omega)]; exact hg _
end
section
/-! statics of the JDK's; small facts on builders -/
theorem kq_compact {G : ky_G} {U : State} (hE : ky_E G U) {A : Nat → Prop} (hfr : ∀ q, A q → ky_fr G q) : va_Z "java/lang/String" "COMPACT_STRINGS" "Z" (.int 1) A U U.heap := hE.z hfr (t := .int 1) (by decide +kernel) (by decide +kernel) (by decide +kernel) (fun _ _ => rfl)
def kf_DO (j : Nat) : Int32 := nI (48 + j % 10)
def kf_DT (j : Nat) : Int32 := nI (48 + j / 10 % 10)
/-- the places of a static array that the premises tell -/
def ky_el (C n d : String) : Cond → Option (Int32 × Int32)
  | .eq (.elem (.static a b c) (.int j)) (.int v) => if a = C ∧ b = n ∧ c = d then some (j, v) else none
  | _ => none
theorem ky_el_of {C n d : String} {w : Cond} {j v : Int32} (h : ky_el C n d w = some (j, v)) : w = .eq (.elem (.static C n d) (.int j)) (.int v) := by
  unfold ky_el at h
  split at h
  · split at h
    · rename_i e
      obtain ⟨rfl, rfl, rfl⟩ := e
      cases h
      rfl
    · cases h
  · cases h
theorem ky_el_in {C n d : String} {N : Nat} {f : Nat → Int32} (h : (flatC (Jvm.Cond.and given_1 narrow_1)).filterMap (ky_el C n d) = (List.range N).map (fun j => (Int32.ofNat j, f j))) (j : Nat) (hj : j < N) : Cond.eq (.elem (.static C n d) (.int (Int32.ofNat j))) (.int (f j)) ∈ flatC (Jvm.Cond.and given_1 narrow_1) := by
  have h1 : (Int32.ofNat j, f j) ∈ (flatC (Jvm.Cond.and given_1 narrow_1)).filterMap (ky_el C n d) := by
    rw [h]
    exact List.mem_map.mpr ⟨j, List.mem_range.mpr hj, rfl⟩
  obtain ⟨w, h2, h3⟩ := List.mem_filterMap.mp h1
  rw [← ky_el_of h3]
  exact h2
theorem kq_DO {G : ky_G} {U : State} (hE : ky_E G U) {A : Nat → Prop} (hfr : ∀ q, A q → ky_fr G q) : ∃ t : Nat, va_Z "java/lang/Integer" "DigitOnes" "[B" (.ref t) A U U.heap ∧ va_T .byte t 100 (fun j => .int (kf_DO j)) A U U.heap := by
  refine hE.tab hfr (by decide +kernel) (by decide +kernel) (by decide) (by decide +kernel) (by decide +kernel) (fun a s hw j hj => va_eqt (hw _ (ky_el_in (N := 100) ?_ j hj)))
  decide +kernel
theorem kq_DT {G : ky_G} {U : State} (hE : ky_E G U) {A : Nat → Prop} (hfr : ∀ q, A q → ky_fr G q) : ∃ t : Nat, va_Z "java/lang/Integer" "DigitTens" "[B" (.ref t) A U U.heap ∧ va_T .byte t 100 (fun j => .int (kf_DT j)) A U U.heap := by
  refine hE.tab hfr (by decide +kernel) (by decide +kernel) (by decide) (by decide +kernel) (by decide +kernel) (fun a s hw j hj => va_eqt (hw _ (ky_el_in (N := 100) ?_ j hj)))
  decide +kernel
theorem ky_srecv {a : Nat} {A : Nat → Prop} {s : State} {H : Heap} {locs : List Loc} (h : va_O "java/lang/String" a A s s.heap) (hS : va_S A s.heap H locs) : ∃ cell : Cell, H[a]? = some cell ∧ cell.vm.isStatics = false ∧ s.vm.findClass "java/lang/String" = some cell.cls := by
  obtain ⟨cell, h1, h2, h3, -⟩ := h.kept hS.2.1
  exact ⟨cell, h1, h2, h3⟩
theorem ky_sle {q m : Nat} (hq : q < 2 ^ 20) (hm : m < 2 ^ 20) (h : (nI q - nI m) ≤ (0 : Int32)) : q ≤ m := by
  rw [Int32.le_iff_toInt_le, pk_sub_toInt (by omega) (by omega), Int32.toInt_zero] at h
  omega
theorem ky_nsle {q m : Nat} (hq : q < 2 ^ 20) (hm : m < 2 ^ 20) (h : ¬ (nI q - nI m) ≤ (0 : Int32)) : ¬ q ≤ m := by
  rw [Int32.le_iff_toInt_le, pk_sub_toInt (by omega) (by omega), Int32.toInt_zero] at h
  omega
theorem ky_m2.lt {m : Nat} (h : ky_m2 m) : m < 2 ^ 20 := by rcases h with rfl | rfl <;> decide
theorem ky_m2.small {m q : Nat} (h : ky_m2 m) (hq : q ≤ 34) (hn : ¬ q ≤ m) : m = 16 := by rcases h with rfl | rfl <;> omega
theorem ky_mx {g : Nat} (h : g ≤ 18) : jimax (nI g) 18 = 18 := by
  show (if nI g < nI 18 then (18 : Int32) else nI g) = 18
  by_cases e : g < 18
  · rw [if_pos (nI_lt e (by decide))]
  · rw [show g = 18 by omega]
    rfl
theorem ky_fitN (x : Int32) : fits .byte (.int (vp_nar .byte x)) = true := by
  rw [vp_nar_byte]
  exact pk_fb _
theorem ky_Str.recv {G : ky_G} {a w : Nat} {f : Nat → Int32} {s : State} (h : ky_Str G a w f) (hE : ky_E G s) {A : Nat → Prop} (hfr : ∀ q, A q → ky_fr G q) {H : Heap} {locs : List Loc} (hS : va_S A s.heap H locs) : ∃ cell : Cell, H[a]? = some cell ∧ cell.vm.isStatics = false ∧ s.vm.findClass "java/lang/String" = some cell.cls := by
  obtain ⟨v, h1, -⟩ := h.at hE hfr
  exact ky_srecv h1 hS
theorem ky_cl0 (w M : Nat) (h : w < 2 ^ 20) (hM : w ≤ M) : (0 : Int32).toNatClampNeg + (nI w).toNatClampNeg ≤ M := by
  rw [nI_clamp (by omega)]
  show 0 + w ≤ M
  omega
theorem ky_cl2 (n w M : Nat) (hn : n < 2 ^ 20) (h : w < 2 ^ 20) (hM : n + w ≤ M) : (nI n).toNatClampNeg + (nI w).toNatClampNeg ≤ M := by
  rw [nI_clamp (by omega), nI_clamp (by omega)]
  exact hM
end
