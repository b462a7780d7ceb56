def fn_X9_placeNow_L14 (a1 : Int32) (w : ky_MV) : Nat → Int32 → Int32 → Int32 × ky_MV
  | 0, _, _ => (0, w)
  | n + 1, v2, v5 => if ((6 : Int32)) ≤ (v5) then ((v2, w)) else (if (0 : Int32) ≤ (lg_cmp (fn_X8_place ((w.2.2.2.2) (v5).toNatClampNeg)) (fn_X8_place ((w.2.2.2.2) (a1).toNatClampNeg))) then (fn_X9_placeNow_L14 a1 w n ((v2) + (fn_X9_one ((0 : Int32)))) ((v5) + 1)) else (fn_X9_placeNow_L14 a1 w n ((v2) + (fn_X9_one ((1 : Int32)))) ((v5) + 1)))
def fk_X9_placeNow_L14 (a1 : Int32) (w : ky_MV) : Nat → Int32 → Int32 → Prop
  | 0, _, _ => False
  | n + 1, v2, v5 => ((((6 : Int32)) ≤ (v5)) → (True)) ∧ (¬ (((6 : Int32)) ≤ (v5)) → ((vp_in (v5) 6) ∧ ((((0 : Int32) ≤ (lg_cmp (fn_X8_place ((w.2.2.2.2) (v5).toNatClampNeg)) (fn_X8_place ((w.2.2.2.2) (a1).toNatClampNeg)))) → (fk_X9_placeNow_L14 a1 w n ((v2) + (fn_X9_one ((0 : Int32)))) ((v5) + 1))) ∧ (¬ ((0 : Int32) ≤ (lg_cmp (fn_X8_place ((w.2.2.2.2) (v5).toNatClampNeg)) (fn_X8_place ((w.2.2.2.2) (a1).toNatClampNeg)))) → (fk_X9_placeNow_L14 a1 w n ((v2) + (fn_X9_one ((1 : Int32)))) ((v5) + 1))))))
set_option linter.constructorNameAsVariable false in
set_option maxHeartbeats 4000000 in
set_option maxRecDepth 100000 in
theorem ml_X9_placeNow_L14 {p : Program} {l : Launch} {e : Env} {s : State} {m : MethodId} {args : Array Value} {below : List Frame} {meth : Method} {c : Code} {G : ky_G} {mo cs : Nat} {N : Nat → Prop} {w : ky_MV} {f : Nat → Option Nat} {A : Nat → Prop} (F : ky_F p s m meth c my_X9_placeNow.cls prog_10_method_61_code 7 (some .int) args) (hE : ky_E G s) (hAe : A = va_A (ky_WM G mo cs w f) s.heap.size) (hA : ∀ q, s.heap.size ≤ q → A q) (hfr : ∀ q, A q → ky_fr G q) (hP : va_P G.1 kcl [(mo, .inr (5, [.int (w.1), .ref cs, .int (w.2.1), .int (w.2.2.1), .int (w.2.2.2.1)])), (cs, .inl (G.2.1 3, 6, .inr (.inr (.inr (.inr (f))))))] s.heap) (hD : va_D A [(mo, .inr (5, [.int (w.1), .ref cs, .int (w.2.1), .int (w.2.2.1), .int (w.2.2.2.1)])), (cs, .inl (G.2.1 3, 6, .inr (.inr (.inr (.inr (f))))))]) (hS : va_S A s.heap s.heap []) (hIT0 : ky_IT G mo cs N f w.2.2.2.2 s.heap) (a1 : Int32) (h1 : vp_in (a1) 6) : ∀ (n : Nat) (v2 : Int32) (v5 : Int32), fk_X9_placeNow_L14 a1 w n v2 v5 → ∀ ls : Array Slot, lv_has ls 7 [(0, .ref mo), (1, .int (a1)), (3, .ref cs), (4, .int ((6 : Int32))), (2, .int (v2)), (5, .int (v5))] → W p l e { frames := 1, cells := 0, slots := 0, locals := 20 } s m args below meth c s.heap [] 0 0 (MQ below (ky_Q (S := ky_MV × (Nat → Option Nat)) G A (fun v u => v = some (.int (fn_X9_placeNow_L14 a1 w n v2 v5).1) ∧ u.1 = (fn_X9_placeNow_L14 a1 w n v2 v5).2) (fun u => ky_WM G mo cs u.1 u.2) (fun u H => ky_IT G mo cs N u.2 u.1.2.2.2.2 H)) args s 0 0 A) (F0 m 14 ls []) := by
  obtain ⟨hx, hb, hml, hown, hr, hlocks, hts⟩ := id F
  have hIT := hIT0
  intro n
  induction n with
  | zero => intro v2 v5 hk; exact False.elim hk
  | succ n ih =>
      intro v2 v5 hk ls hl
      have hw : fn_X9_placeNow_L14 a1 w (n + 1) v2 v5 = (if ((6 : Int32)) ≤ (v5) then ((v2, w)) else (if (0 : Int32) ≤ (lg_cmp (fn_X8_place ((w.2.2.2.2) (v5).toNatClampNeg)) (fn_X8_place ((w.2.2.2.2) (a1).toNatClampNeg))) then (fn_X9_placeNow_L14 a1 w n ((v2) + (fn_X9_one ((0 : Int32)))) ((v5) + 1)) else (fn_X9_placeNow_L14 a1 w n ((v2) + (fn_X9_one ((1 : Int32)))) ((v5) + 1)))) := rfl
      have hk : ((((6 : Int32)) ≤ (v5)) → (True)) ∧ (¬ (((6 : Int32)) ≤ (v5)) → ((vp_in (v5) 6) ∧ ((((0 : Int32) ≤ (lg_cmp (fn_X8_place ((w.2.2.2.2) (v5).toNatClampNeg)) (fn_X8_place ((w.2.2.2.2) (a1).toNatClampNeg)))) → (fk_X9_placeNow_L14 a1 w n ((v2) + (fn_X9_one ((0 : Int32)))) ((v5) + 1))) ∧ (¬ ((0 : Int32) ≤ (lg_cmp (fn_X8_place ((w.2.2.2.2) (v5).toNatClampNeg)) (fn_X8_place ((w.2.2.2.2) (a1).toNatClampNeg)))) → (fk_X9_placeNow_L14 a1 w n ((v2) + (fn_X9_one ((1 : Int32)))) ((v5) + 1)))))) := hk
      refine lv_iload hx hb dc_X9_placeNow_14 (lv_at hl 5 rfl) ?_
      refine lv_iload hx hb dc_X9_placeNow_16 (lv_at hl 3 rfl) ?_
      refine lv_icmp_ge (tgt := 62) hx hb dc_X9_placeNow_18 (by decide) (fun c_0 => ?_) (fun c_0 => ?_)
      · have hw := hw.trans (if_pos c_0)
        have hk := hk.1 c_0
        refine lv_iload_n hx hb dc_X9_placeNow_62 rfl (lv_at hl 4 rfl) ?_
        have hP9 : va_P G.1 kcl (ky_WM G mo cs (w) (f)) s.heap := hP.sub [0, 1] rfl
        have hD9 : va_D A (ky_WM G mo cs (w) (f)) := hD.sub [0, 1] (by decide) rfl
        refine W.widen (k := 0) (n := 0) (Nat.le_of_ble_eq_true rfl) (Nat.le_of_ble_eq_true rfl) ?_
        exact W.iret (v := v2) hx hb hr (fun t ht hW => ⟨by rw [ht]; exact ky_endM (fun z => some (.int z)) (v2) hw hP9 hD9 (hIT), hS.F ht⟩) hS.2.2 dc_X9_placeNow_63
      · have hw := hw.trans (if_neg c_0)
        have hk := hk.2 c_0
        refine lv_aload_n hx hb dc_X9_placeNow_21 rfl (lv_at hl 2 rfl) ?_
        refine lv_iload hx hb dc_X9_placeNow_22 (lv_at hl 5 rfl) ?_
        obtain ⟨hq_1, hk⟩ := hk
        refine va_aldq hx hb hE.1 hP 1 3 rfl rfl hq_1 dc_X9_placeNow_24 ?_
        obtain ⟨b_2, hb_2, hI_2, ho_2⟩ := hIT.2 _ (ky_i6 hq_1)
        rw [ky_rf hb_2]
        have hX_2 : ky_It G b_2 ((w.2.2.2.2) (v5).toNatClampNeg) s.heap := by obtain ⟨b9, e9, i9, -⟩ := hIT0.2 _ (ky_i6 hq_1); have z9 : b9 = b_2 := Option.some.inj (e9.symm.trans hb_2); exact z9 ▸ i9
        refine lv_astore (lv' := [(6, .ref b_2), (0, .ref mo), (1, .int (a1)), (3, .ref cs), (4, .int ((6 : Int32))), (2, .int (v2)), (5, .int (v5))]) hx hb dc_X9_placeNow_25 hl (by decide) rfl (fun ls hl => ?_)
        refine lv_iload_n hx hb dc_X9_placeNow_27 rfl (lv_at hl 5 rfl) ?_
        refine lv_aload hx hb dc_X9_placeNow_28 (lv_at hl 0 rfl) ?_
        refine ky_cV1 (As := []) F (hE.at hfr hS) (mt_X8_place l G (b_2) (((w.2.2.2.2) (v5).toNatClampNeg)) ) kv_X9_147 ⟨⟨rfl, rfl⟩, by decide, by decide⟩ rfl hl.1 rfl (Nat.le_of_ble_eq_true rfl) ⟨Nat.le_of_ble_eq_true rfl, Nat.le_of_ble_eq_true rfl⟩ (va_recv hE.1 hI_2 (ci := 4) (q0 := 0) rfl rfl) hI_2 dc_X9_placeNow_30 ?_
        refine lv_aload_n hx hb dc_X9_placeNow_33 rfl (lv_at hl 1 rfl) ?_
        refine va_get (D := G.1) (ci := 5) (v := .ref cs) (C := RX9) (T := TX9) (N := 5) hx hb hts ki_X9 hown hE.1 hP 0 rfl rfl 1 (by decide) (hts _ kw_6_20) (fun _ h9 => h9) rfl dc_X9_placeNow_34 ?_
        refine lv_iload_n hx hb dc_X9_placeNow_37 rfl (lv_at hl 2 rfl) ?_
        refine va_aldq hx hb hE.1 hP 1 3 rfl rfl h1 dc_X9_placeNow_38 ?_
        obtain ⟨b_3, hb_3, hI_3, ho_3⟩ := hIT.2 _ (ky_i6 h1)
        rw [ky_rf hb_3]
        have hX_3 : ky_It G b_3 ((w.2.2.2.2) (a1).toNatClampNeg) s.heap := by obtain ⟨b9, e9, i9, -⟩ := hIT0.2 _ (ky_i6 h1); have z9 : b9 = b_3 := Option.some.inj (e9.symm.trans hb_3); exact z9 ▸ i9
        refine ky_cV1 (As := []) F (hE.at hfr hS) (mt_X8_place l G (b_3) (((w.2.2.2.2) (a1).toNatClampNeg)) ) kv_X9_147 ⟨⟨rfl, rfl⟩, by decide, by decide⟩ rfl hl.1 rfl (Nat.le_of_ble_eq_true rfl) ⟨Nat.le_of_ble_eq_true rfl, Nat.le_of_ble_eq_true rfl⟩ (va_recv hE.1 hI_3 (ci := 4) (q0 := 0) rfl rfl) hI_3 dc_X9_placeNow_39 ?_
        refine W.lcmp hx hb dc_X9_placeNow_42 ?_
        refine lv_if_ge (tgt := 50) hx hb dc_X9_placeNow_43 (by decide) (fun c_4 => ?_) (fun c_4 => ?_)
        · have hw := hw.trans (if_pos c_4)
          have hk := hk.1 c_4
          refine lv_iconst (v := 0) hx hb dc_X9_placeNow_50 (by decide) ?_
          refine ky_cS0 (As := [.int ((0 : Int32))]) F (mt_X9_one l ((0 : Int32))) ks_X9_59 ⟨⟨rfl, rfl⟩, by decide, by decide⟩ rfl hl.1 rfl (Nat.le_of_ble_eq_true rfl) ⟨Nat.le_of_ble_eq_true rfl, Nat.le_of_ble_eq_true rfl⟩ dc_X9_placeNow_51 ?_
          refine lv_iadd hx hb dc_X9_placeNow_54 ?_
          refine lv_istore_n (lv' := [(2, .int ((v2) + (fn_X9_one ((0 : Int32))))), (6, .ref b_2), (0, .ref mo), (1, .int (a1)), (3, .ref cs), (4, .int ((6 : Int32))), (5, .int (v5))]) hx hb dc_X9_placeNow_55 rfl hl (by decide) rfl (fun ls hl => ?_)
          refine lv_iinc (v := (v5) + 1) (lv' := [(5, .int ((v5) + 1)), (2, .int ((v2) + (fn_X9_one ((0 : Int32))))), (6, .ref b_2), (0, .ref mo), (1, .int (a1)), (3, .ref cs), (4, .int ((6 : Int32)))]) hx hb dc_X9_placeNow_56 hl (k := 6) rfl rfl (by decide) rfl (fun ls hl => ?_)
          refine lv_goto (tgt := 14) hx hb dc_X9_placeNow_59 (by decide) ?_
          rw [hw]
          exact ih ((v2) + (fn_X9_one ((0 : Int32)))) ((v5) + 1) hk _ (lv_sub hl [3, 4, 5, 6, 1, 0] rfl)
        · have hw := hw.trans (if_neg c_4)
          have hk := hk.2 c_4
          refine lv_iconst (v := 1) hx hb dc_X9_placeNow_46 (by decide) ?_
          refine lv_goto (tgt := 51) hx hb dc_X9_placeNow_47 (by decide) ?_
          refine ky_cS0 (As := [.int ((1 : Int32))]) F (mt_X9_one l ((1 : Int32))) ks_X9_59 ⟨⟨rfl, rfl⟩, by decide, by decide⟩ rfl hl.1 rfl (Nat.le_of_ble_eq_true rfl) ⟨Nat.le_of_ble_eq_true rfl, Nat.le_of_ble_eq_true rfl⟩ dc_X9_placeNow_51 ?_
          refine lv_iadd hx hb dc_X9_placeNow_54 ?_
          refine lv_istore_n (lv' := [(2, .int ((v2) + (fn_X9_one ((1 : Int32))))), (6, .ref b_2), (0, .ref mo), (1, .int (a1)), (3, .ref cs), (4, .int ((6 : Int32))), (5, .int (v5))]) hx hb dc_X9_placeNow_55 rfl hl (by decide) rfl (fun ls hl => ?_)
          refine lv_iinc (v := (v5) + 1) (lv' := [(5, .int ((v5) + 1)), (2, .int ((v2) + (fn_X9_one ((1 : Int32))))), (6, .ref b_2), (0, .ref mo), (1, .int (a1)), (3, .ref cs), (4, .int ((6 : Int32)))]) hx hb dc_X9_placeNow_56 hl (k := 6) rfl rfl (by decide) rfl (fun ls hl => ?_)
          refine lv_goto (tgt := 14) hx hb dc_X9_placeNow_59 (by decide) ?_
          rw [hw]
          exact ih ((v2) + (fn_X9_one ((1 : Int32)))) ((v5) + 1) hk _ (lv_sub hl [3, 4, 5, 6, 1, 0] rfl)
def fn_X9_placeNow (a1 : Int32)  (w : ky_MV) : Int32 × ky_MV :=
  fn_X9_placeNow_L14 a1 w (7) ((0 : Int32)) ((0 : Int32))
def fk_X9_placeNow (a1 : Int32)  (w : ky_MV) : Prop :=
  (fk_X9_placeNow_L14 a1 w (7) ((0 : Int32)) ((0 : Int32))) ∧ True
set_option linter.constructorNameAsVariable false in
set_option maxHeartbeats 4000000 in
set_option maxRecDepth 100000 in
theorem mt_X9_placeNow (l : Launch) (G : ky_G) (mo cs : Nat) (N : Nat → Prop) (w : ky_MV) (f : Nat → Option Nat)    (a1 : Int32) (sz : Nat) (h1 : vp_in (a1) 6) (hk : fk_X9_placeNow a1 w) : Met l my_X9_placeNow (.code my_X9_placeNow prog_10_method_61_code 7 (some .int) :: ky_B) { frames := 1, cells := 0, slots := 0, locals := 20 } (ky_P G [.ref mo, .int (a1)] (ky_WM G mo cs w f) sz (fun H => ky_IT G mo cs N f w.2.2.2.2 H)) (ky_Q (S := ky_MV × (Nat → Option Nat)) G (va_A (ky_WM G mo cs w f) sz) (fun v u => v = some (.int (fn_X9_placeNow a1 w).1) ∧ u.1 = (fn_X9_placeNow a1 w).2) (fun u => ky_WM G mo cs u.1 u.2) (fun u H => ky_IT G mo cs N u.2 u.1.2.2.2.2 H)) 0 0 (va_A (ky_WM G mo cs w f) sz) := by
  refine ky_start (by decide) (Nat.le_of_ble_eq_true rfl) (fun p e s m below meth c F hE A hAe hsz hA hfr hP hD hS hX ls hl => ?_)
  obtain ⟨hx, hb, hml, hown, hr, hlocks, hts⟩ := id F
  have hIT0 := hX
  have hIT := hIT0
  have hl : lv_has ls 7 [(0, .ref mo), (1, .int (a1))] := hl
  have hP : va_P G.1 kcl [(mo, .inr (5, [.int (w.1), .ref cs, .int (w.2.1), .int (w.2.2.1), .int (w.2.2.2.1)])), (cs, .inl (G.2.1 3, 6, .inr (.inr (.inr (.inr (f))))))] s.heap := hP
  have hD : va_D A [(mo, .inr (5, [.int (w.1), .ref cs, .int (w.2.1), .int (w.2.2.1), .int (w.2.2.2.1)])), (cs, .inl (G.2.1 3, 6, .inr (.inr (.inr (.inr (f))))))] := hD
  have hw : fn_X9_placeNow a1 w = _ := fn_X9_placeNow.eq_1 a1 w
  have hk : fk_X9_placeNow_L14 a1 w (7) ((0 : Int32)) ((0 : Int32)) := hk.1
  refine lv_iconst (v := 0) hx hb dc_X9_placeNow_0 (by decide) ?_
  refine lv_istore_n (lv' := [(2, .int ((0 : Int32))), (0, .ref mo), (1, .int (a1))]) hx hb dc_X9_placeNow_1 rfl hl (by decide) rfl (fun ls hl => ?_)
  refine lv_aload_n hx hb dc_X9_placeNow_2 rfl (lv_at hl 1 rfl) ?_
  refine va_get (D := G.1) (ci := 5) (v := .ref cs) (C := RX9) (T := TX9) (N := 5) hx hb hts ki_X9 hown hE.1 hP 0 rfl rfl 1 (by decide) (hts _ kw_6_20) (fun _ h9 => h9) rfl dc_X9_placeNow_3 ?_
  refine lv_astore_n (lv' := [(3, .ref cs), (2, .int ((0 : Int32))), (0, .ref mo), (1, .int (a1))]) hx hb dc_X9_placeNow_6 rfl hl (by decide) rfl (fun ls hl => ?_)
  refine lv_aload_n hx hb dc_X9_placeNow_7 rfl (lv_at hl 0 rfl) ?_
  refine va_alen hx hb hE.1 hP 1 3 rfl rfl (v := (6 : Int32)) rfl dc_X9_placeNow_8 ?_
  refine lv_istore (lv' := [(4, .int ((6 : Int32))), (3, .ref cs), (2, .int ((0 : Int32))), (0, .ref mo), (1, .int (a1))]) hx hb dc_X9_placeNow_9 hl (by decide) rfl (fun ls hl => ?_)
  refine lv_iconst (v := 0) hx hb dc_X9_placeNow_11 (by decide) ?_
  refine lv_istore (lv' := [(5, .int ((0 : Int32))), (4, .int ((6 : Int32))), (3, .ref cs), (2, .int ((0 : Int32))), (0, .ref mo), (1, .int (a1))]) hx hb dc_X9_placeNow_12 hl (by decide) rfl (fun ls hl => ?_)
  rw [hw]
  exact ml_X9_placeNow_L14 F hE hAe hA hfr hP hD hS hIT0 a1 h1 (7) ((0 : Int32)) ((0 : Int32)) hk _ (lv_sub hl [4, 5, 2, 1, 3, 0] rfl)
