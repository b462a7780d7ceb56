def fn_X6_firstOfAll_L9 : Nat → ky_BS → Int64 → Int32 → Int64 × ky_BS
  | 0, u, v1, v3 => (0, u)
  | n + 1, u, v1, v3 => if ((6 : Int32)) ≤ (v3) then ((v1, u)) else (fn_X6_firstOfAll_L9 n u (fn_X0_firstOf (v1) ((u.1) (v3).toNatClampNeg)) ((v3) + 1))
def fk_X6_firstOfAll_L9 : Nat → ky_BS → Int64 → Int32 → Prop
  | 0, _, _, _ => False
  | n + 1, u, v1, v3 => ((((6 : Int32)) ≤ (v3)) → (True)) ∧ (¬ (((6 : Int32)) ≤ (v3)) → ((vp_in (v3) 6) ∧ (fk_X6_firstOfAll_L9 n u (fn_X0_firstOf (v1) ((u.1) (v3).toNatClampNeg)) ((v3) + 1))))
set_option linter.constructorNameAsVariable false in
set_option maxHeartbeats 4000000 in
set_option maxRecDepth 100000 in
theorem ml_X6_firstOfAll_L9 {p : Program} {l : Launch} {e : Env} {s : State} {m : MethodId} {args : Array Value} {below : List Frame} {meth : Method} {c : Code} {G : ky_G} {A : Nat → Prop} {x : Nat} {cs : Nat} {sc : Nat} {pf : Nat} {u : ky_BS} (F : ky_F p s m meth c my_X6_firstOfAll.cls prog_1_method_70_code 4 (some .long) args) (hE : ky_E G s) (hA : ∀ q, s.heap.size ≤ q → A q) (hfr : ∀ q, A q → ky_fr G q) : ∀ (n : Nat) (v1 : Int64) (v3 : Int32), fk_X6_firstOfAll_L9 n u v1 v3 → ∀ (H : Heap) (locs : List Loc), va_P G.1 kcl [(x, .inr (0, [.ref cs, .ref sc, .ref pf, .int (u.2.1), .int (u.2.2.1), .int (u.2.2.2)])), (cs, .inl (G.2.1 2, 6, .inr (.inl (u.1))))] H → va_D A [(x, .inr (0, [.ref cs, .ref sc, .ref pf, .int (u.2.1), .int (u.2.2.1), .int (u.2.2.2)])), (cs, .inl (G.2.1 2, 6, .inr (.inl (u.1))))] → va_S A s.heap H locs → ∀ ls : Array Slot, lv_has ls 4 [(0, .ref x), (1, .long (v1)), (3, .int (v3))] → W p l e { frames := 3, cells := 0, slots := 0, locals := 65 } s m args below meth c H locs 0 0 (MQ below (ky_Q (S := ky_BS) G A (fun v u9 => v = some (.long (fn_X6_firstOfAll_L9 n u v1 v3).1) ∧ u9 = (fn_X6_firstOfAll_L9 n u v1 v3).2) (fun u9 => ky_WB G x cs sc pf u9) (fun _ _ => True)) args s 0 0 A) (F0 m 9 ls []) := by
  obtain ⟨hx, hb, hml, hown, hr, hlocks, hts⟩ := id F
  intro n
  induction n with
  | zero => intro v1 v3 hk; exact False.elim hk
  | succ n ih =>
      intro v1 v3 hk H locs hP hD hS ls hl
      have hw : fn_X6_firstOfAll_L9 (n + 1) u v1 v3 = (if ((6 : Int32)) ≤ (v3) then ((v1, u)) else (fn_X6_firstOfAll_L9 n u (fn_X0_firstOf (v1) ((u.1) (v3).toNatClampNeg)) ((v3) + 1))) := rfl
      have hk : ((((6 : Int32)) ≤ (v3)) → (True)) ∧ (¬ (((6 : Int32)) ≤ (v3)) → ((vp_in (v3) 6) ∧ (fk_X6_firstOfAll_L9 n u (fn_X0_firstOf (v1) ((u.1) (v3).toNatClampNeg)) ((v3) + 1)))) := hk
      refine lv_iload_n hx hb dc_X6_firstOfAll_9 rfl (lv_at hl 2 rfl) ?_
      refine lv_bipush (v := 6) hx hb dc_X6_firstOfAll_10 (by decide) ?_
      refine lv_icmp_ge (tgt := 32) hx hb dc_X6_firstOfAll_12 (by decide) (fun c_0 => ?_) (fun c_0 => ?_)
      · have hw := hw.trans (if_pos c_0)
        have hk := hk.1 c_0
        refine lv_lload_n hx hb dc_X6_firstOfAll_32 rfl (lv_at hl 1 rfl) ?_
        have hP9 := hP.sub (ws' := [(x, .inr (0, [.ref cs, .ref sc, .ref pf, .int (u.2.1), .int (u.2.2.1), .int (u.2.2.2)])), (cs, .inl (G.2.1 2, 6, .inr (.inl (u.1))))]) [0, 1] rfl
        have hD9 := hD.sub (ws' := [(x, .inr (0, [.ref cs, .ref sc, .ref pf, .int (u.2.1), .int (u.2.2.1), .int (u.2.2.2)])), (cs, .inl (G.2.1 2, 6, .inr (.inl (u.1))))]) [0, 1] (by decide) rfl
        refine W.widen (k := 0) (n := 0) (Nat.le_of_ble_eq_true rfl) (Nat.le_of_ble_eq_true rfl) ?_
        exact W.lret (v := v1) hx hb hr (fun t ht hW => ⟨⟨_, u, rfl, ky_pl hw, by rw [ht]; exact hP9, hD9, trivial⟩, hS.F ht⟩) hS.2.2 dc_X6_firstOfAll_33
      · have hw := hw.trans (if_neg c_0)
        have hk := hk.2 c_0
        refine lv_lload_n hx hb dc_X6_firstOfAll_15 rfl (lv_at hl 1 rfl) ?_
        refine lv_aload_n hx hb dc_X6_firstOfAll_16 rfl (lv_at hl 0 rfl) ?_
        refine va_get (D := G.1) (ci := 0) (v := .ref cs) (C := RX6) (T := TX6) (N := 6) hx hb hts ki_X6 hown hE.1 hP 0 rfl rfl 0 (by decide) (hts _ kw_1_98) (fun _ h9 => h9) rfl dc_X6_firstOfAll_17 ?_
        refine lv_iload_n hx hb dc_X6_firstOfAll_20 rfl (lv_at hl 2 rfl) ?_
        obtain ⟨hq_1, hk⟩ := hk
        refine va_lald hx hb hE.1 hP 1 2 rfl rfl hq_1 dc_X6_firstOfAll_21 ?_
        refine ky_cS0 (As := [.long (v1), .long ((u.1) (v3).toNatClampNeg)]) F (mt_X0_firstOf l (v1) ((u.1) (v3).toNatClampNeg)) ks_X6_125 ⟨⟨rfl, rfl⟩, by decide, by decide⟩ rfl hl.1 rfl (Nat.le_of_ble_eq_true rfl) ⟨Nat.le_of_ble_eq_true rfl, Nat.le_of_ble_eq_true rfl⟩ dc_X6_firstOfAll_22 ?_
        refine lv_lstore_n (lv' := [(1, .long (fn_X0_firstOf (v1) ((u.1) (v3).toNatClampNeg))), (0, .ref x), (3, .int (v3))]) hx hb dc_X6_firstOfAll_25 rfl hl (by decide) rfl (fun ls hl => ?_)
        refine lv_iinc (v := (v3) + 1) (lv' := [(3, .int ((v3) + 1)), (1, .long (fn_X0_firstOf (v1) ((u.1) (v3).toNatClampNeg))), (0, .ref x)]) hx hb dc_X6_firstOfAll_26 hl (k := 2) rfl rfl (by decide) rfl (fun ls hl => ?_)
        refine lv_goto (tgt := 9) hx hb dc_X6_firstOfAll_29 (by decide) ?_
        rw [hw]
        exact ih (fn_X0_firstOf (v1) ((u.1) (v3).toNatClampNeg)) ((v3) + 1) hk _ _ (hP.sub (ws' := [(x, .inr (0, [.ref cs, .ref sc, .ref pf, .int (u.2.1), .int (u.2.2.1), .int (u.2.2.2)])), (cs, .inl (G.2.1 2, 6, .inr (.inl (u.1))))]) [0, 1] rfl) (hD.sub (ws' := [(x, .inr (0, [.ref cs, .ref sc, .ref pf, .int (u.2.1), .int (u.2.2.1), .int (u.2.2.2)])), (cs, .inl (G.2.1 2, 6, .inr (.inl (u.1))))]) [0, 1] (by decide) rfl) hS _ (lv_sub hl [2, 1, 0] rfl)
def fn_X6_firstOfAll (u : ky_BS) : Int64 × ky_BS :=
  fn_X6_firstOfAll_L9 (7) u ((u.1) ((0 : Int32)).toNatClampNeg) ((1 : Int32))
def fk_X6_firstOfAll (u : ky_BS) : Prop :=
  (fk_X6_firstOfAll_L9 (7) u ((u.1) ((0 : Int32)).toNatClampNeg) ((1 : Int32))) ∧ True
set_option linter.constructorNameAsVariable false in
set_option maxHeartbeats 4000000 in
set_option maxRecDepth 100000 in
theorem mt_X6_firstOfAll (l : Launch) (G : ky_G) (x : Nat) (cs : Nat) (sc : Nat) (pf : Nat) (u : ky_BS)  (sz : Nat)  (hk : fk_X6_firstOfAll u) : Met l my_X6_firstOfAll (.code my_X6_firstOfAll prog_1_method_70_code 4 (some .long) :: ky_B) { frames := 3, cells := 0, slots := 0, locals := 65 } (ky_P G [.ref x] (ky_WB G x cs sc pf u) sz (fun _ => True)) (ky_Q (S := ky_BS) G (va_A (ky_WB G x cs sc pf u) sz) (fun v u9 => v = some (.long (fn_X6_firstOfAll u).1) ∧ u9 = (fn_X6_firstOfAll u).2) (fun u9 => ky_WB G x cs sc pf u9) (fun _ _ => True)) 0 0 (va_A (ky_WB G x cs sc pf u) sz) := by
  refine ky_start (by decide) (Nat.le_of_ble_eq_true rfl) (fun p e s m below meth c F hE A hAe hsz hA hfr hP hD hS hX ls hl => ?_)
  obtain ⟨hx, hb, hml, hown, hr, hlocks, hts⟩ := id F
  have hl : lv_has ls 4 [(0, .ref x)] := hl
  have hP : va_P G.1 kcl [(x, .inr (0, [.ref cs, .ref sc, .ref pf, .int (u.2.1), .int (u.2.2.1), .int (u.2.2.2)])), (cs, .inl (G.2.1 2, 6, .inr (.inl (u.1))))] s.heap := hP
  have hD : va_D A [(x, .inr (0, [.ref cs, .ref sc, .ref pf, .int (u.2.1), .int (u.2.2.1), .int (u.2.2.2)])), (cs, .inl (G.2.1 2, 6, .inr (.inl (u.1))))] := hD
  have hw : fn_X6_firstOfAll u = _ := fn_X6_firstOfAll.eq_1 u
  have hk : fk_X6_firstOfAll_L9 (7) u ((u.1) ((0 : Int32)).toNatClampNeg) ((1 : Int32)) := hk.1
  refine lv_aload_n hx hb dc_X6_firstOfAll_0 rfl (lv_at hl 0 rfl) ?_
  refine va_get (D := G.1) (ci := 0) (v := .ref cs) (C := RX6) (T := TX6) (N := 6) hx hb hts ki_X6 hown hE.1 hP 0 rfl rfl 0 (by decide) (hts _ kw_1_98) (fun _ h9 => h9) rfl dc_X6_firstOfAll_1 ?_
  refine lv_iconst (v := 0) hx hb dc_X6_firstOfAll_4 (by decide) ?_
  refine va_lald hx hb hE.1 hP 1 2 rfl rfl (vp_in_iff.mpr (by decide)) dc_X6_firstOfAll_5 ?_
  refine lv_lstore_n (lv' := [(1, .long ((u.1) ((0 : Int32)).toNatClampNeg)), (0, .ref x)]) hx hb dc_X6_firstOfAll_6 rfl hl (by decide) rfl (fun ls hl => ?_)
  refine lv_iconst (v := 1) hx hb dc_X6_firstOfAll_7 (by decide) ?_
  refine lv_istore_n (lv' := [(3, .int ((1 : Int32))), (1, .long ((u.1) ((0 : Int32)).toNatClampNeg)), (0, .ref x)]) hx hb dc_X6_firstOfAll_8 rfl hl (by decide) rfl (fun ls hl => ?_)
  rw [hw]
  exact ml_X6_firstOfAll_L9 F hE hA hfr (7) ((u.1) ((0 : Int32)).toNatClampNeg) ((1 : Int32)) hk _ _ (hP.sub (ws' := [(x, .inr (0, [.ref cs, .ref sc, .ref pf, .int (u.2.1), .int (u.2.2.1), .int (u.2.2.2)])), (cs, .inl (G.2.1 2, 6, .inr (.inl (u.1))))]) [0, 1] rfl) (hD.sub (ws' := [(x, .inr (0, [.ref cs, .ref sc, .ref pf, .int (u.2.1), .int (u.2.2.1), .int (u.2.2.2)])), (cs, .inl (G.2.1 2, 6, .inr (.inl (u.1))))]) [0, 1] (by decide) rfl) hS _ (lv_sub hl [2, 1, 0] rfl)
