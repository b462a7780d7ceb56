section
def fn_X9_placeNow_L14 (a1 : Int32) (w : ky_MV) : Nat → Int32 → Int32 → Int32 × ky_MV
  | 0, _, _ => (0, w)
  | n + 1, v2, v5 => if ((6 : Int32)) ≤ (v5) then ((v2, w)) else (if (0 : Int32) ≤ (lg_cmp (fn_X8_place ((w.2.2.2.2) (v5).toNatClampNeg)) (fn_X8_place ((w.2.2.2.2) (a1).toNatClampNeg))) then (fn_X9_placeNow_L14 a1 w n ((v2) + (fn_X9_one ((0 : Int32)))) ((v5) + 1)) else (fn_X9_placeNow_L14 a1 w n ((v2) + (fn_X9_one ((1 : Int32)))) ((v5) + 1)))
def fk_X9_placeNow_L14 (a1 : Int32) (w : ky_MV) : Nat → Int32 → Int32 → Prop
  | 0, _, _ => False
  | n + 1, v2, v5 => ((((6 : Int32)) ≤ (v5)) → (True)) ∧ (¬ (((6 : Int32)) ≤ (v5)) → ((vp_in (v5) 6) ∧ ((((0 : Int32) ≤ (lg_cmp (fn_X8_place ((w.2.2.2.2) (v5).toNatClampNeg)) (fn_X8_place ((w.2.2.2.2) (a1).toNatClampNeg)))) → (fk_X9_placeNow_L14 a1 w n ((v2) + (fn_X9_one ((0 : Int32)))) ((v5) + 1))) ∧ (¬ ((0 : Int32) ≤ (lg_cmp (fn_X8_place ((w.2.2.2.2) (v5).toNatClampNeg)) (fn_X8_place ((w.2.2.2.2) (a1).toNatClampNeg)))) → (fk_X9_placeNow_L14 a1 w n ((v2) + (fn_X9_one ((1 : Int32)))) ((v5) + 1))))))
set_option linter.constructorNameAsVariable false in
set_option maxHeartbeats 4000000 in
set_option maxRecDepth 100000 in
theorem ml_X9_placeNow_L14 {p : Program} {l : Launch} {e : Env} {s : State} {m : MethodId} {args : Array Value} {below : List Frame} {meth : Method} {c : Code} {G : ky_G} {mo cs : Nat} {N : Nat → Prop} {w : ky_MV} {f : Nat → Option Nat} {A : Nat → Prop} (F : ky_F p s m meth c my_X9_placeNow.cls prog_10_method_61_code 7 (some .int) args) (hE : ky_E G s) (hAe : A = va_A (ky_WM G mo cs w f) s.heap.size) (hA : ∀ q, s.heap.size ≤ q → A q) (hfr : ∀ q, A q → ky_fr G q) (hP : va_P G.1 kcl [(mo, .inr (5, [.int (w.1), .ref cs, .int (w.2.1), .int (w.2.2.1), .int (w.2.2.2.1)])), (cs, .inl (G.2.1 3, 6, .inr (.inr (.inr (.inr (f))))))] s.heap) (hD : va_D A [(mo, .inr (5, [.int (w.1), .ref cs, .int (w.2.1), .int (w.2.2.1), .int (w.2.2.2.1)])), (cs, .inl (G.2.1 3, 6, .inr (.inr (.inr (.inr (f))))))]) (hS : va_S A s.heap s.heap []) (hIT0 : ky_IT G mo cs N f w.2.2.2.2 s.heap) (a1 : Int32) (h1 : vp_in (a1) 6) : ∀ (n : Nat) (v2 : Int32) (v5 : Int32), fk_X9_placeNow_L14 a1 w n v2 v5 → ∀ ls : Array Slot, lv_has ls 7 [(0, .ref mo), (1, .int (a1)), (3, .ref cs), (4, .int ((6 : Int32))), (2, .int (v2)), (5, .int (v5))] → W p l e { frames := 1, cells := 0, slots := 0, locals := 20 } s m args below meth c s.heap [] 0 0 (MQ below (ky_Q (S := ky_MV × (Nat → Option Nat)) G A (fun v u => v = some (.int (fn_X9_placeNow_L14 a1 w n v2 v5).1) ∧ u.1 = (fn_X9_placeNow_L14 a1 w n v2 v5).2) (fun u => ky_WM G mo cs u.1 u.2) (fun u H => ky_IT G mo cs N u.2 u.1.2.2.2.2 H)) args s 0 0 A) (F0 m 14 ls []) := by
  obtain ⟨hx, hb, hml, hown, hr, hlocks, hts⟩ := id F
  have hIT := hIT0
  intro n
  induction n with
  | zero => intro v2 v5 hk; exact False.elim hk
  | succ n ih =>
      intro v2 v5 hk ls hl
      have hw : fn_X9_placeNow_L14 a1 w (n + 1) v2 v5 = (if ((6 : Int32)) ≤ (v5) then ((v2, w)) else (if (0 : Int32) ≤ (lg_cmp (fn_X8_place ((w.2.2.2.2) (v5).toNatClampNeg)) (fn_X8_place ((w.2.2.2.2) (a1).toNatClampNeg))) then (fn_X9_placeNow_L14 a1 w n ((v2) + (fn_X9_one ((0 : Int32)))) ((v5) + 1)) else (fn_X9_placeNow_L14 a1 w n ((v2) + (fn_X9_one ((1 : Int32)))) ((v5) + 1)))) := rfl
      have hk : ((((6 : Int32)) ≤ (v5)) → (True)) ∧ (¬ (((6 : Int32)) ≤ (v5)) → ((vp_in (v5) 6) ∧ ((((0 : Int32) ≤ (lg_cmp (fn_X8_place ((w.2.2.2.2) (v5).toNatClampNeg)) (fn_X8_place ((w.2.2.2.2) (a1).toNatClampNeg)))) → (fk_X9_placeNow_L14 a1 w n ((v2) + (fn_X9_one ((0 : Int32)))) ((v5) + 1))) ∧ (¬ ((0 : Int32) ≤ (lg_cmp (fn_X8_place ((w.2.2.2.2) (v5).toNatClampNeg)) (fn_X8_place ((w.2.2.2.2) (a1).toNatClampNeg)))) → (fk_X9_placeNow_L14 a1 w n ((v2) + (fn_X9_one ((1 : Int32)))) ((v5) + 1)))))) := hk
      refine lv_iload hx hb dc_X9_placeNow_14 (lv_at hl 5 rfl) ?_
      refine lv_iload hx hb dc_X9_placeNow_16 (lv_at hl 3 rfl) ?_
      refine lv_icmp_ge (tgt := 62) hx hb dc_X9_placeNow_18 (by decide) (fun c_0 => ?_) (fun c_0 => ?_)
      · have hw := hw.trans (if_pos c_0)
        have hk := hk.1 c_0
        refine lv_iload_n hx hb dc_X9_placeNow_62 rfl (lv_at hl 4 rfl) ?_
        have hP9 : va_P G.1 kcl (ky_WM G mo cs (w) (f)) s.heap := hP.sub [0, 1] rfl
        have hD9 : va_D A (ky_WM G mo cs (w) (f)) := hD.sub [0, 1] (by decide) rfl
        refine W.widen (k := 0) (n := 0) (Nat.le_of_ble_eq_true rfl) (Nat.le_of_ble_eq_true rfl) ?_
        exact W.iret (v := v2) hx hb hr (fun t ht hW => ⟨by rw [ht]; exact ky_endM (fun z => some (.int z)) (v2) hw hP9 hD9 (hIT), hS.F ht⟩) hS.2.2 dc_X9_placeNow_63
      · have hw := hw.trans (if_neg c_0)
        have hk := hk.2 c_0
        refine lv_aload_n hx hb dc_X9_placeNow_21 rfl (lv_at hl 2 rfl) ?_
        refine lv_iload hx hb dc_X9_placeNow_22 (lv_at hl 5 rfl) ?_
        obtain ⟨hq_1, hk⟩ := hk
        refine va_aldq hx hb hE.1 hP 1 3 rfl rfl hq_1 dc_X9_placeNow_24 ?_
        obtain ⟨b_2, hb_2, hI_2, ho_2⟩ := hIT.2 _ (ky_i6 hq_1)
        rw [ky_rf hb_2]
        have hX_2 : ky_It G b_2 ((w.2.2.2.2) (v5).toNatClampNeg) s.heap := by obtain ⟨b9, e9, i9, -⟩ := hIT0.2 _ (ky_i6 hq_1); have z9 : b9 = b_2 := Option.some.inj (e9.symm.trans hb_2); exact z9 ▸ i9
        refine lv_astore (lv' := [(6, .ref b_2), (0, .ref mo), (1, .int (a1)), (3, .ref cs), (4, .int ((6 : Int32))), (2, .int (v2)), (5, .int (v5))]) hx hb dc_X9_placeNow_25 hl (by decide) rfl (fun ls hl => ?_)
        refine lv_iload_n hx hb dc_X9_placeNow_27 rfl (lv_at hl 5 rfl) ?_
        refine lv_aload hx hb dc_X9_placeNow_28 (lv_at hl 0 rfl) ?_
        refine ky_cV1 (As := []) F (hE.at hfr hS) (mt_X8_place l G (b_2) (((w.2.2.2.2) (v5).toNatClampNeg)) ) kv_X9_147 ⟨⟨rfl, rfl⟩, by decide, by decide⟩ rfl hl.1 rfl (Nat.le_of_ble_eq_true rfl) ⟨Nat.le_of_ble_eq_true rfl, Nat.le_of_ble_eq_true rfl⟩ (va_recv hE.1 hI_2 (ci := 4) (q0 := 0) rfl rfl) hI_2 dc_X9_placeNow_30 ?_
        refine lv_aload_n hx hb dc_X9_placeNow_33 rfl (lv_at hl 1 rfl) ?_
        refine va_get (D := G.1) (ci := 5) (v := .ref cs) (C := RX9) (T := TX9) (N := 5) hx hb hts ki_X9 hown hE.1 hP 0 rfl rfl 1 (by decide) (hts _ kw_6_20) (fun _ h9 => h9) rfl dc_X9_placeNow_34 ?_
        refine lv_iload_n hx hb dc_X9_placeNow_37 rfl (lv_at hl 2 rfl) ?_
        refine va_aldq hx hb hE.1 hP 1 3 rfl rfl h1 dc_X9_placeNow_38 ?_
        obtain ⟨b_3, hb_3, hI_3, ho_3⟩ := hIT.2 _ (ky_i6 h1)
        rw [ky_rf hb_3]
        have hX_3 : ky_It G b_3 ((w.2.2.2.2) (a1).toNatClampNeg) s.heap := by obtain ⟨b9, e9, i9, -⟩ := hIT0.2 _ (ky_i6 h1); have z9 : b9 = b_3 := Option.some.inj (e9.symm.trans hb_3); exact z9 ▸ i9
        refine ky_cV1 (As := []) F (hE.at hfr hS) (mt_X8_place l G (b_3) (((w.2.2.2.2) (a1).toNatClampNeg)) ) kv_X9_147 ⟨⟨rfl, rfl⟩, by decide, by decide⟩ rfl hl.1 rfl (Nat.le_of_ble_eq_true rfl) ⟨Nat.le_of_ble_eq_true rfl, Nat.le_of_ble_eq_true rfl⟩ (va_recv hE.1 hI_3 (ci := 4) (q0 := 0) rfl rfl) hI_3 dc_X9_placeNow_39 ?_
        refine W.lcmp hx hb dc_X9_placeNow_42 ?_
        refine lv_if_ge (tgt := 50) hx hb dc_X9_placeNow_43 (by decide) (fun c_4 => ?_) (fun c_4 => ?_)
        · have hw := hw.trans (if_pos c_4)
          have hk := hk.1 c_4
          refine lv_iconst (v := 0) hx hb dc_X9_placeNow_50 (by decide) ?_
          refine ky_cS0 (As := [.int ((0 : Int32))]) F (mt_X9_one l ((0 : Int32))) ks_X9_59 ⟨⟨rfl, rfl⟩, by decide, by decide⟩ rfl hl.1 rfl (Nat.le_of_ble_eq_true rfl) ⟨Nat.le_of_ble_eq_true rfl, Nat.le_of_ble_eq_true rfl⟩ dc_X9_placeNow_51 ?_
          refine lv_iadd hx hb dc_X9_placeNow_54 ?_
          refine lv_istore_n (lv' := [(2, .int ((v2) + (fn_X9_one ((0 : Int32))))), (6, .ref b_2), (0, .ref mo), (1, .int (a1)), (3, .ref cs), (4, .int ((6 : Int32))), (5, .int (v5))]) hx hb dc_X9_placeNow_55 rfl hl (by decide) rfl (fun ls hl => ?_)
          refine lv_iinc (v := (v5) + 1) (lv' := [(5, .int ((v5) + 1)), (2, .int ((v2) + (fn_X9_one ((0 : Int32))))), (6, .ref b_2), (0, .ref mo), (1, .int (a1)), (3, .ref cs), (4, .int ((6 : Int32)))]) hx hb dc_X9_placeNow_56 hl (k := 6) rfl rfl (by decide) rfl (fun ls hl => ?_)
          refine lv_goto (tgt := 14) hx hb dc_X9_placeNow_59 (by decide) ?_
          rw [hw]
          exact ih ((v2) + (fn_X9_one ((0 : Int32)))) ((v5) + 1) hk _ (lv_sub hl [3, 4, 5, 6, 1, 0] rfl)
        · have hw := hw.trans (if_neg c_4)
          have hk := hk.2 c_4
          refine lv_iconst (v := 1) hx hb dc_X9_placeNow_46 (by decide) ?_
          refine lv_goto (tgt := 51) hx hb dc_X9_placeNow_47 (by decide) ?_
          refine ky_cS0 (As := [.int ((1 : Int32))]) F (mt_X9_one l ((1 : Int32))) ks_X9_59 ⟨⟨rfl, rfl⟩, by decide, by decide⟩ rfl hl.1 rfl (Nat.le_of_ble_eq_true rfl) ⟨Nat.le_of_ble_eq_true rfl, Nat.le_of_ble_eq_true rfl⟩ dc_X9_placeNow_51 ?_
          refine lv_iadd hx hb dc_X9_placeNow_54 ?_
          refine lv_istore_n (lv' := [(2, .int ((v2) + (fn_X9_one ((1 : Int32))))), (6, .ref b_2), (0, .ref mo), (1, .int (a1)), (3, .ref cs), (4, .int ((6 : Int32))), (5, .int (v5))]) hx hb dc_X9_placeNow_55 rfl hl (by decide) rfl (fun ls hl => ?_)
          refine lv_iinc (v := (v5) + 1) (lv' := [(5, .int ((v5) + 1)), (2, .int ((v2) + (fn_X9_one ((1 : Int32))))), (6, .ref b_2), (0, .ref mo), (1, .int (a1)), (3, .ref cs), (4, .int ((6 : Int32)))]) hx hb dc_X9_placeNow_56 hl (k := 6) rfl rfl (by decide) rfl (fun ls hl => ?_)
          refine lv_goto (tgt := 14) hx hb dc_X9_placeNow_59 (by decide) ?_
          rw [hw]
          exact ih ((v2) + (fn_X9_one ((1 : Int32)))) ((v5) + 1) hk _ (lv_sub hl [3, 4, 5, 6, 1, 0] rfl)
def fn_X9_placeNow (a1 : Int32)  (w : ky_MV) : Int32 × ky_MV :=
  fn_X9_placeNow_L14 a1 w (7) ((0 : Int32)) ((0 : Int32))
def fk_X9_placeNow (a1 : Int32)  (w : ky_MV) : Prop :=
  (fk_X9_placeNow_L14 a1 w (7) ((0 : Int32)) ((0 : Int32))) ∧ True
set_option linter.constructorNameAsVariable false in
set_option maxHeartbeats 4000000 in
set_option maxRecDepth 100000 in
theorem mt_X9_placeNow (l : Launch) (G : ky_G) (mo cs : Nat) (N : Nat → Prop) (w : ky_MV) (f : Nat → Option Nat)    (a1 : Int32) (sz : Nat) (h1 : vp_in (a1) 6) (hk : fk_X9_placeNow a1 w) : Met l my_X9_placeNow (.code my_X9_placeNow prog_10_method_61_code 7 (some .int) :: ky_B) { frames := 1, cells := 0, slots := 0, locals := 20 } (ky_P G [.ref mo, .int (a1)] (ky_WM G mo cs w f) sz (fun H => ky_IT G mo cs N f w.2.2.2.2 H)) (ky_Q (S := ky_MV × (Nat → Option Nat)) G (va_A (ky_WM G mo cs w f) sz) (fun v u => v = some (.int (fn_X9_placeNow a1 w).1) ∧ u.1 = (fn_X9_placeNow a1 w).2) (fun u => ky_WM G mo cs u.1 u.2) (fun u H => ky_IT G mo cs N u.2 u.1.2.2.2.2 H)) 0 0 (va_A (ky_WM G mo cs w f) sz) := by
  refine ky_start (by decide) (Nat.le_of_ble_eq_true rfl) (fun p e s m below meth c F hE A hAe hsz hA hfr hP hD hS hX ls hl => ?_)
  obtain ⟨hx, hb, hml, hown, hr, hlocks, hts⟩ := id F
  have hIT0 := hX
  have hIT := hIT0
  have hl : lv_has ls 7 [(0, .ref mo), (1, .int (a1))] := hl
  have hP : va_P G.1 kcl [(mo, .inr (5, [.int (w.1), .ref cs, .int (w.2.1), .int (w.2.2.1), .int (w.2.2.2.1)])), (cs, .inl (G.2.1 3, 6, .inr (.inr (.inr (.inr (f))))))] s.heap := hP
  have hD : va_D A [(mo, .inr (5, [.int (w.1), .ref cs, .int (w.2.1), .int (w.2.2.1), .int (w.2.2.2.1)])), (cs, .inl (G.2.1 3, 6, .inr (.inr (.inr (.inr (f))))))] := hD
  have hw : fn_X9_placeNow a1 w = _ := fn_X9_placeNow.eq_1 a1 w
  have hk : fk_X9_placeNow_L14 a1 w (7) ((0 : Int32)) ((0 : Int32)) := hk.1
  refine lv_iconst (v := 0) hx hb dc_X9_placeNow_0 (by decide) ?_
  refine lv_istore_n (lv' := [(2, .int ((0 : Int32))), (0, .ref mo), (1, .int (a1))]) hx hb dc_X9_placeNow_1 rfl hl (by decide) rfl (fun ls hl => ?_)
  refine lv_aload_n hx hb dc_X9_placeNow_2 rfl (lv_at hl 1 rfl) ?_
  refine va_get (D := G.1) (ci := 5) (v := .ref cs) (C := RX9) (T := TX9) (N := 5) hx hb hts ki_X9 hown hE.1 hP 0 rfl rfl 1 (by decide) (hts _ kw_6_20) (fun _ h9 => h9) rfl dc_X9_placeNow_3 ?_
  refine lv_astore_n (lv' := [(3, .ref cs), (2, .int ((0 : Int32))), (0, .ref mo), (1, .int (a1))]) hx hb dc_X9_placeNow_6 rfl hl (by decide) rfl (fun ls hl => ?_)
  refine lv_aload_n hx hb dc_X9_placeNow_7 rfl (lv_at hl 0 rfl) ?_
  refine va_alen hx hb hE.1 hP 1 3 rfl rfl (v := (6 : Int32)) rfl dc_X9_placeNow_8 ?_
  refine lv_istore (lv' := [(4, .int ((6 : Int32))), (3, .ref cs), (2, .int ((0 : Int32))), (0, .ref mo), (1, .int (a1))]) hx hb dc_X9_placeNow_9 hl (by decide) rfl (fun ls hl => ?_)
  refine lv_iconst (v := 0) hx hb dc_X9_placeNow_11 (by decide) ?_
  refine lv_istore (lv' := [(5, .int ((0 : Int32))), (4, .int ((6 : Int32))), (3, .ref cs), (2, .int ((0 : Int32))), (0, .ref mo), (1, .int (a1))]) hx hb dc_X9_placeNow_12 hl (by decide) rfl (fun ls hl => ?_)
  rw [hw]
  exact ml_X9_placeNow_L14 F hE hAe hA hfr hP hD hS hIT0 a1 h1 (7) ((0 : Int32)) ((0 : Int32)) hk _ (lv_sub hl [4, 5, 2, 1, 3, 0] rfl)
end
section
def fn_X9_place (a1 : Int32)  (w : ky_MV) : Int32 × ky_MV :=
  if (jst (fn_X9_isNo (a1))) = (0 : Int32) then (((fn_X9_placeNow (a1) (jst (fn_X9_isNo (a1)), w.2.1, w.2.2.1, w.2.2.2.1, w.2.2.2.2)).1, ((fn_X9_placeNow (a1) (jst (fn_X9_isNo (a1)), w.2.1, w.2.2.1, w.2.2.2.1, w.2.2.2.2)).2))) else (((0 : Int32), (jst (fn_X9_isNo (a1)), w.2.1, w.2.2.1, w.2.2.2.1, w.2.2.2.2)))
def fk_X9_place (a1 : Int32)  (w : ky_MV) : Prop :=
  ((((jst (fn_X9_isNo (a1))) = (0 : Int32)) → ((fk_X9_placeNow (a1) (jst (fn_X9_isNo (a1)), w.2.1, w.2.2.1, w.2.2.2.1, w.2.2.2.2)) ∧ (True))) ∧ (¬ ((jst (fn_X9_isNo (a1))) = (0 : Int32)) → (True))) ∧ True
set_option linter.constructorNameAsVariable false in
set_option maxHeartbeats 4000000 in
set_option maxRecDepth 100000 in
theorem mt_X9_place (l : Launch) (G : ky_G) (mo cs : Nat) (N : Nat → Prop) (w : ky_MV) (f : Nat → Option Nat)    (a1 : Int32) (sz : Nat) (hk : fk_X9_place a1 w) : Met l my_X9_place (.code my_X9_place prog_10_method_62_code 2 (some .int) :: ky_B) { frames := 2, cells := 0, slots := 0, locals := 46 } (ky_P G [.ref mo, .int (a1)] (ky_WM G mo cs w f) sz (fun H => ky_IT G mo cs N f w.2.2.2.2 H)) (ky_Q (S := ky_MV × (Nat → Option Nat)) G (va_A (ky_WM G mo cs w f) sz) (fun v u => v = some (.int (fn_X9_place a1 w).1) ∧ u.1 = (fn_X9_place a1 w).2) (fun u => ky_WM G mo cs u.1 u.2) (fun u H => ky_IT G mo cs N u.2 u.1.2.2.2.2 H)) 0 0 (va_A (ky_WM G mo cs w f) sz) := by
  refine ky_start (by decide) (Nat.le_of_ble_eq_true rfl) (fun p e s m below meth c F hE A hAe hsz hA hfr hP hD hS hX ls hl => ?_)
  obtain ⟨hx, hb, hml, hown, hr, hlocks, hts⟩ := id F
  have hIT0 := hX
  have hIT := hIT0
  have hl : lv_has ls 2 [(0, .ref mo), (1, .int (a1))] := hl
  have hP : va_P G.1 kcl [(mo, .inr (5, [.int (w.1), .ref cs, .int (w.2.1), .int (w.2.2.1), .int (w.2.2.2.1)])), (cs, .inl (G.2.1 3, 6, .inr (.inr (.inr (.inr (f))))))] s.heap := hP
  have hD : va_D A [(mo, .inr (5, [.int (w.1), .ref cs, .int (w.2.1), .int (w.2.2.1), .int (w.2.2.2.1)])), (cs, .inl (G.2.1 3, 6, .inr (.inr (.inr (.inr (f))))))] := hD
  have hw : fn_X9_place a1 w = _ := fn_X9_place.eq_1 a1 w
  have hk : (((jst (fn_X9_isNo (a1))) = (0 : Int32)) → ((fk_X9_placeNow (a1) (jst (fn_X9_isNo (a1)), w.2.1, w.2.2.1, w.2.2.2.1, w.2.2.2.2)) ∧ (True))) ∧ (¬ ((jst (fn_X9_isNo (a1))) = (0 : Int32)) → (True)) := hk.1
  refine lv_aload_n hx hb dc_X9_place_0 rfl (lv_at hl 0 rfl) ?_
  refine lv_iload_n hx hb dc_X9_place_1 rfl (lv_at hl 1 rfl) ?_
  refine ky_cS0 (As := [.int (a1)]) F (mt_X9_isNo l (a1)) ks_X9_51 ⟨⟨rfl, rfl⟩, by decide, by decide⟩ rfl hl.1 rfl (Nat.le_of_ble_eq_true rfl) ⟨Nat.le_of_ble_eq_true rfl, Nat.le_of_ble_eq_true rfl⟩ dc_X9_place_2 ?_
  refine ky_cVh (As := [.int (fn_X9_isNo (a1))]) (wr := []) F (hE.at hfr hS) hfr (mt_X9_startJ l G (mo) (cs) ((w.1, w.2.1, w.2.2.1, w.2.2.2.1)) (f) (fn_X9_isNo (a1)) s.heap.size ) kv_X9_55 ⟨⟨rfl, rfl⟩, by decide, by decide⟩ rfl hl.1 rfl (Nat.le_of_ble_eq_true rfl) ⟨Nat.le_of_ble_eq_true rfl, Nat.le_of_ble_eq_true rfl⟩ (va_recv hE.1 hP (ci := 5) (q0 := 0) rfl rfl) trivial hP hD hS hA [0, 1] [] rfl rfl (by decide) (by decide) (by decide) dc_X9_place_5 ?_
  rintro v9 u9 H locs ⟨rfl, rfl⟩ hP hD hS - hz hk9
  obtain ⟨j_1, hj_1⟩ : ∃ j9, j9 = jst (fn_X9_isNo (a1)) := ⟨_, rfl⟩
  rw [← hj_1] at hP hD ⊢
  try rw [← hj_1] at hw
  try rw [← hj_1] at hk
  have hP : va_P G.1 kcl [(mo, .inr (5, [.int (j_1), .ref cs, .int (w.2.1), .int (w.2.2.1), .int (w.2.2.2.1)])), (cs, .inl (G.2.1 3, 6, .inr (.inr (.inr (.inr (f))))))] H := hP
  have hD : va_D A [(mo, .inr (5, [.int (j_1), .ref cs, .int (w.2.1), .int (w.2.2.1), .int (w.2.2.2.1)])), (cs, .inl (G.2.1 3, 6, .inr (.inr (.inr (.inr (f))))))] := hD
  have hIT := hIT0.ro hAe hS
  refine W.widen (k := 0) (n := 0) (Nat.le_refl _) (Nat.le_refl _) ?_
  refine lv_if_eq (tgt := 15) hx hb dc_X9_place_8 (by decide) (fun c_2 => ?_) (fun c_2 => ?_)
  · have hw := hw.trans (if_pos c_2)
    have hk := hk.1 c_2
    refine lv_aload_n hx hb dc_X9_place_15 rfl (lv_at hl 0 rfl) ?_
    refine lv_iload_n hx hb dc_X9_place_16 rfl (lv_at hl 1 rfl) ?_
    obtain ⟨hq_3, hk⟩ := hk
    refine ky_cVh (As := [.int (a1)]) (wr := []) F (hE.at hfr hS) hfr (mt_X9_placeNow l G mo cs N (j_1, w.2.1, w.2.2.1, w.2.2.2.1, w.2.2.2.2) (f)    (a1) H.size (lr_start (hj_1.symm.trans c_2)) hq_3) kv_X9_244 ⟨⟨rfl, rfl⟩, by decide, by decide⟩ rfl hl.1 rfl (Nat.le_of_ble_eq_true rfl) ⟨Nat.le_of_ble_eq_true rfl, Nat.le_of_ble_eq_true rfl⟩ (va_recv hE.1 hP (ci := 5) (q0 := 0) rfl rfl) hIT hP hD hS hA [0, 1] [] rfl rfl (by decide) (by decide) (by decide) dc_X9_place_17 ?_
    rintro v9 ⟨w_4, f_4⟩ H locs ⟨rfl, hw_4⟩ hP hD hS hIT9 hz hk9
    have hw_4 : w_4 = (fn_X9_placeNow (a1) (j_1, w.2.1, w.2.2.1, w.2.2.2.1, w.2.2.2.2)).2 := hw_4
    try rw [← hw_4] at hw
    try rw [← hw_4] at hk
    have hP : va_P G.1 kcl [(mo, .inr (5, [.int ((w_4).1), .ref cs, .int ((w_4).2.1), .int ((w_4).2.2.1), .int ((w_4).2.2.2.1)])), (cs, .inl (G.2.1 3, 6, .inr (.inr (.inr (.inr (f_4))))))] H := hP
    have hD : va_D A [(mo, .inr (5, [.int ((w_4).1), .ref cs, .int ((w_4).2.1), .int ((w_4).2.2.1), .int ((w_4).2.2.2.1)])), (cs, .inl (G.2.1 3, 6, .inr (.inr (.inr (.inr (f_4))))))] := hD
    have hIT : ky_IT G mo cs N f_4 ((w_4).2.2.2.2) H := hIT9
    refine W.widen (k := 0) (n := 0) (Nat.le_refl _) (Nat.le_refl _) ?_
    have hP9 : va_P G.1 kcl (ky_WM G mo cs ((w_4)) (f_4)) H := hP.sub [0, 1] rfl
    have hD9 : va_D A (ky_WM G mo cs ((w_4)) (f_4)) := hD.sub [0, 1] (by decide) rfl
    refine W.widen (k := 0) (n := 0) (Nat.le_of_ble_eq_true rfl) (Nat.le_of_ble_eq_true rfl) ?_
    exact W.iret (v := (fn_X9_placeNow (a1) (j_1, w.2.1, w.2.2.1, w.2.2.2.1, w.2.2.2.2)).1) hx hb hr (fun t ht hW => ⟨by rw [ht]; exact ky_endM (fun z => some (.int z)) ((fn_X9_placeNow (a1) (j_1, w.2.1, w.2.2.1, w.2.2.2.1, w.2.2.2.2)).1) hw hP9 hD9 (hIT), hS.F ht⟩) hS.2.2 dc_X9_place_20
  · have hw := hw.trans (if_neg c_2)
    have hk := hk.2 c_2
    refine lv_iconst (v := 0) hx hb dc_X9_place_11 (by decide) ?_
    refine lv_goto (tgt := 20) hx hb dc_X9_place_12 (by decide) ?_
    have hP9 : va_P G.1 kcl (ky_WM G mo cs ((j_1, w.2.1, w.2.2.1, w.2.2.2.1, w.2.2.2.2)) (f)) H := hP.sub [0, 1] rfl
    have hD9 : va_D A (ky_WM G mo cs ((j_1, w.2.1, w.2.2.1, w.2.2.2.1, w.2.2.2.2)) (f)) := hD.sub [0, 1] (by decide) rfl
    refine W.widen (k := 0) (n := 0) (Nat.le_of_ble_eq_true rfl) (Nat.le_of_ble_eq_true rfl) ?_
    exact W.iret (v := (0 : Int32)) hx hb hr (fun t ht hW => ⟨by rw [ht]; exact ky_endM (fun z => some (.int z)) ((0 : Int32)) hw hP9 hD9 (hIT), hS.F ht⟩) hS.2.2 dc_X9_place_20
end
section
def fn_X9_houseNow_L14 (a1 : Int32) (w : ky_MV) : Nat → Int32 → Int32 → Int32 × ky_MV
  | 0, _, _ => (0, w)
  | n + 1, v2, v5 => if ((6 : Int32)) ≤ (v5) then (((upd (upd (upd (upd (fun _ => 0) ((0 : Int32)).toNatClampNeg (w.2.1)) ((1 : Int32)).toNatClampNeg (w.2.2.1)) ((2 : Int32)).toNatClampNeg (w.2.2.2.1)) ((3 : Int32)).toNatClampNeg (v2)) (a1).toNatClampNeg, w)) else (fn_X9_houseNow_L14 a1 w n ((v2) + (fn_X9_one (fn_X8_isWhole ((w.2.2.2.2) (v5).toNatClampNeg)))) ((v5) + 1))
def fk_X9_houseNow_L14 (a1 : Int32) (w : ky_MV) : Nat → Int32 → Int32 → Prop
  | 0, _, _ => False
  | n + 1, v2, v5 => ((((6 : Int32)) ≤ (v5)) → (True)) ∧ (¬ (((6 : Int32)) ≤ (v5)) → ((vp_in (v5) 6) ∧ (fk_X9_houseNow_L14 a1 w n ((v2) + (fn_X9_one (fn_X8_isWhole ((w.2.2.2.2) (v5).toNatClampNeg)))) ((v5) + 1))))
set_option linter.constructorNameAsVariable false in
set_option maxHeartbeats 4000000 in
set_option maxRecDepth 100000 in
theorem ml_X9_houseNow_L14 {p : Program} {l : Launch} {e : Env} {s : State} {m : MethodId} {args : Array Value} {below : List Frame} {meth : Method} {c : Code} {G : ky_G} {mo cs : Nat} {N : Nat → Prop} {w : ky_MV} {f : Nat → Option Nat} {A : Nat → Prop} (F : ky_F p s m meth c my_X9_houseNow.cls prog_10_method_75_code 7 (some .int) args) (hE : ky_E G s) (hAe : A = va_A (ky_WM G mo cs w f) s.heap.size) (hA : ∀ q, s.heap.size ≤ q → A q) (hfr : ∀ q, A q → ky_fr G q) (hP : va_P G.1 kcl [(mo, .inr (5, [.int (w.1), .ref cs, .int (w.2.1), .int (w.2.2.1), .int (w.2.2.2.1)])), (cs, .inl (G.2.1 3, 6, .inr (.inr (.inr (.inr (f))))))] s.heap) (hD : va_D A [(mo, .inr (5, [.int (w.1), .ref cs, .int (w.2.1), .int (w.2.2.1), .int (w.2.2.2.1)])), (cs, .inl (G.2.1 3, 6, .inr (.inr (.inr (.inr (f))))))]) (hS : va_S A s.heap s.heap []) (hIT0 : ky_IT G mo cs N f w.2.2.2.2 s.heap) (a1 : Int32) (h1 : vp_in (a1) 4) : ∀ (n : Nat) (v2 : Int32) (v5 : Int32), fk_X9_houseNow_L14 a1 w n v2 v5 → ∀ ls : Array Slot, lv_has ls 7 [(0, .ref mo), (1, .int (a1)), (3, .ref cs), (4, .int ((6 : Int32))), (2, .int (v2)), (5, .int (v5))] → W p l e { frames := 6, cells := 1, slots := 4, locals := 125 } s m args below meth c s.heap [] 0 0 (MQ below (ky_Q (S := ky_MV × (Nat → Option Nat)) G A (fun v u => v = some (.int (fn_X9_houseNow_L14 a1 w n v2 v5).1) ∧ u.1 = (fn_X9_houseNow_L14 a1 w n v2 v5).2) (fun u => ky_WM G mo cs u.1 u.2) (fun u H => ky_IT G mo cs N u.2 u.1.2.2.2.2 H)) args s 1 4 A) (F0 m 14 ls []) := by
  obtain ⟨hx, hb, hml, hown, hr, hlocks, hts⟩ := id F
  have hIT := hIT0
  intro n
  induction n with
  | zero => intro v2 v5 hk; exact False.elim hk
  | succ n ih =>
      intro v2 v5 hk ls hl
      have hw : fn_X9_houseNow_L14 a1 w (n + 1) v2 v5 = (if ((6 : Int32)) ≤ (v5) then (((upd (upd (upd (upd (fun _ => 0) ((0 : Int32)).toNatClampNeg (w.2.1)) ((1 : Int32)).toNatClampNeg (w.2.2.1)) ((2 : Int32)).toNatClampNeg (w.2.2.2.1)) ((3 : Int32)).toNatClampNeg (v2)) (a1).toNatClampNeg, w)) else (fn_X9_houseNow_L14 a1 w n ((v2) + (fn_X9_one (fn_X8_isWhole ((w.2.2.2.2) (v5).toNatClampNeg)))) ((v5) + 1))) := rfl
      have hk : ((((6 : Int32)) ≤ (v5)) → (True)) ∧ (¬ (((6 : Int32)) ≤ (v5)) → ((vp_in (v5) 6) ∧ (fk_X9_houseNow_L14 a1 w n ((v2) + (fn_X9_one (fn_X8_isWhole ((w.2.2.2.2) (v5).toNatClampNeg)))) ((v5) + 1)))) := hk
      refine lv_iload hx hb dc_X9_houseNow_14 (lv_at hl 5 rfl) ?_
      refine lv_iload hx hb dc_X9_houseNow_16 (lv_at hl 3 rfl) ?_
      refine lv_icmp_ge (tgt := 44) hx hb dc_X9_houseNow_18 (by decide) (fun c_0 => ?_) (fun c_0 => ?_)
      · have hw := hw.trans (if_pos c_0)
        have hk := hk.1 c_0
        refine lv_iconst (v := 4) hx hb dc_X9_houseNow_44 (by decide) ?_
        refine va_newa (atype := .int) (ty := .int) (N' := 4) (a0 := (4, .inl (fun _ => 0))) hx hb (hts _ kw_8_21) rfl hE.1 hP hD hS hA (fun _ => rfl) (by decide) (by decide) (by decide) (Nat.le_of_ble_eq_true rfl) (Nat.le_of_ble_eq_true rfl) dc_X9_houseNow_45 (fun q_1 cA_1 H hK_1 hP hD hS => ?_)
        have hP : va_P G.1 kcl [(mo, .inr (5, [.int (w.1), .ref cs, .int (w.2.1), .int (w.2.2.1), .int (w.2.2.2.1)])), (cs, .inl (G.2.1 3, 6, .inr (.inr (.inr (.inr (f)))))), (q_1, .inl (cA_1, 4, .inl (fun _ => 0)))] H := hP
        have hD : va_D A [(mo, .inr (5, [.int (w.1), .ref cs, .int (w.2.1), .int (w.2.2.1), .int (w.2.2.2.1)])), (cs, .inl (G.2.1 3, 6, .inr (.inr (.inr (.inr (f)))))), (q_1, .inl (cA_1, 4, .inl (fun _ => 0)))] := hD
        have hIT := hIT0.ro hAe hS
        refine W.widen (k := 1) (n := 4) (Nat.le_refl _) (Nat.le_refl _) ?_
        refine lv_dup hx hb dc_X9_houseNow_47 rfl ?_
        refine lv_iconst (v := 0) hx hb dc_X9_houseNow_48 (by decide) ?_
        refine lv_aload_n hx hb dc_X9_houseNow_49 rfl (lv_at hl 0 rfl) ?_
        refine va_get (D := G.1) (ci := 5) (v := .int (w.2.1)) (C := RX9) (T := TX9) (N := 5) hx hb hts ki_X9 hown hE.1 hP 0 rfl rfl 2 (by decide) (hts _ kw_6_21) (fun _ h9 => h9) rfl dc_X9_houseNow_50 ?_
        refine va_iast hx hb hK_1 hP hD hS 2 6 rfl rfl (vp_in_iff.mpr (by decide)) dc_X9_houseNow_53 (fun H locs hP hD hS => ?_)
        have hP : va_P G.1 kcl [(mo, .inr (5, [.int (w.1), .ref cs, .int (w.2.1), .int (w.2.2.1), .int (w.2.2.2.1)])), (cs, .inl (G.2.1 3, 6, .inr (.inr (.inr (.inr (f)))))), (q_1, .inl (cA_1, 4, .inl (upd (fun _ => 0) ((0 : Int32)).toNatClampNeg (w.2.1))))] H := hP
        have hD : va_D A [(mo, .inr (5, [.int (w.1), .ref cs, .int (w.2.1), .int (w.2.2.1), .int (w.2.2.2.1)])), (cs, .inl (G.2.1 3, 6, .inr (.inr (.inr (.inr (f)))))), (q_1, .inl (cA_1, 4, .inl (upd (fun _ => 0) ((0 : Int32)).toNatClampNeg (w.2.1))))] := hD
        have hIT := hIT0.ro hAe hS
        refine lv_dup hx hb dc_X9_houseNow_54 rfl ?_
        refine lv_iconst (v := 1) hx hb dc_X9_houseNow_55 (by decide) ?_
        refine lv_aload_n hx hb dc_X9_houseNow_56 rfl (lv_at hl 0 rfl) ?_
        refine va_get (D := G.1) (ci := 5) (v := .int (w.2.2.1)) (C := RX9) (T := TX9) (N := 5) hx hb hts ki_X9 hown hE.1 hP 0 rfl rfl 3 (by decide) (hts _ kw_6_22) (fun _ h9 => h9) rfl dc_X9_houseNow_57 ?_
        refine va_iast hx hb hK_1 hP hD hS 2 6 rfl rfl (vp_in_iff.mpr (by decide)) dc_X9_houseNow_60 (fun H locs hP hD hS => ?_)
        have hP : va_P G.1 kcl [(mo, .inr (5, [.int (w.1), .ref cs, .int (w.2.1), .int (w.2.2.1), .int (w.2.2.2.1)])), (cs, .inl (G.2.1 3, 6, .inr (.inr (.inr (.inr (f)))))), (q_1, .inl (cA_1, 4, .inl (upd (upd (fun _ => 0) ((0 : Int32)).toNatClampNeg (w.2.1)) ((1 : Int32)).toNatClampNeg (w.2.2.1))))] H := hP
        have hD : va_D A [(mo, .inr (5, [.int (w.1), .ref cs, .int (w.2.1), .int (w.2.2.1), .int (w.2.2.2.1)])), (cs, .inl (G.2.1 3, 6, .inr (.inr (.inr (.inr (f)))))), (q_1, .inl (cA_1, 4, .inl (upd (upd (fun _ => 0) ((0 : Int32)).toNatClampNeg (w.2.1)) ((1 : Int32)).toNatClampNeg (w.2.2.1))))] := hD
        have hIT := hIT0.ro hAe hS
        refine lv_dup hx hb dc_X9_houseNow_61 rfl ?_
        refine lv_iconst (v := 2) hx hb dc_X9_houseNow_62 (by decide) ?_
        refine lv_aload_n hx hb dc_X9_houseNow_63 rfl (lv_at hl 0 rfl) ?_
        refine va_get (D := G.1) (ci := 5) (v := .int (w.2.2.2.1)) (C := RX9) (T := TX9) (N := 5) hx hb hts ki_X9 hown hE.1 hP 0 rfl rfl 4 (by decide) (hts _ kw_6_23) (fun _ h9 => h9) rfl dc_X9_houseNow_64 ?_
        refine va_iast hx hb hK_1 hP hD hS 2 6 rfl rfl (vp_in_iff.mpr (by decide)) dc_X9_houseNow_67 (fun H locs hP hD hS => ?_)
        have hP : va_P G.1 kcl [(mo, .inr (5, [.int (w.1), .ref cs, .int (w.2.1), .int (w.2.2.1), .int (w.2.2.2.1)])), (cs, .inl (G.2.1 3, 6, .inr (.inr (.inr (.inr (f)))))), (q_1, .inl (cA_1, 4, .inl (upd (upd (upd (fun _ => 0) ((0 : Int32)).toNatClampNeg (w.2.1)) ((1 : Int32)).toNatClampNeg (w.2.2.1)) ((2 : Int32)).toNatClampNeg (w.2.2.2.1))))] H := hP
        have hD : va_D A [(mo, .inr (5, [.int (w.1), .ref cs, .int (w.2.1), .int (w.2.2.1), .int (w.2.2.2.1)])), (cs, .inl (G.2.1 3, 6, .inr (.inr (.inr (.inr (f)))))), (q_1, .inl (cA_1, 4, .inl (upd (upd (upd (fun _ => 0) ((0 : Int32)).toNatClampNeg (w.2.1)) ((1 : Int32)).toNatClampNeg (w.2.2.1)) ((2 : Int32)).toNatClampNeg (w.2.2.2.1))))] := hD
        have hIT := hIT0.ro hAe hS
        refine lv_dup hx hb dc_X9_houseNow_68 rfl ?_
        refine lv_iconst (v := 3) hx hb dc_X9_houseNow_69 (by decide) ?_
        refine lv_iload_n hx hb dc_X9_houseNow_70 rfl (lv_at hl 4 rfl) ?_
        refine va_iast hx hb hK_1 hP hD hS 2 6 rfl rfl (vp_in_iff.mpr (by decide)) dc_X9_houseNow_71 (fun H locs hP hD hS => ?_)
        have hP : va_P G.1 kcl [(mo, .inr (5, [.int (w.1), .ref cs, .int (w.2.1), .int (w.2.2.1), .int (w.2.2.2.1)])), (cs, .inl (G.2.1 3, 6, .inr (.inr (.inr (.inr (f)))))), (q_1, .inl (cA_1, 4, .inl (upd (upd (upd (upd (fun _ => 0) ((0 : Int32)).toNatClampNeg (w.2.1)) ((1 : Int32)).toNatClampNeg (w.2.2.1)) ((2 : Int32)).toNatClampNeg (w.2.2.2.1)) ((3 : Int32)).toNatClampNeg (v2))))] H := hP
        have hD : va_D A [(mo, .inr (5, [.int (w.1), .ref cs, .int (w.2.1), .int (w.2.2.1), .int (w.2.2.2.1)])), (cs, .inl (G.2.1 3, 6, .inr (.inr (.inr (.inr (f)))))), (q_1, .inl (cA_1, 4, .inl (upd (upd (upd (upd (fun _ => 0) ((0 : Int32)).toNatClampNeg (w.2.1)) ((1 : Int32)).toNatClampNeg (w.2.2.1)) ((2 : Int32)).toNatClampNeg (w.2.2.2.1)) ((3 : Int32)).toNatClampNeg (v2))))] := hD
        have hIT := hIT0.ro hAe hS
        refine lv_astore_n (lv' := [(3, .ref q_1), (0, .ref mo), (1, .int (a1)), (4, .int ((6 : Int32))), (2, .int (v2)), (5, .int (v5))]) hx hb dc_X9_houseNow_72 rfl hl (by decide) rfl (fun ls hl => ?_)
        refine lv_aload_n hx hb dc_X9_houseNow_73 rfl (lv_at hl 0 rfl) ?_
        refine lv_iload_n hx hb dc_X9_houseNow_74 rfl (lv_at hl 2 rfl) ?_
        refine va_iald hx hb hK_1 hP 2 6 rfl rfl h1 dc_X9_houseNow_75 ?_
        have hP9 : va_P G.1 kcl (ky_WM G mo cs (w) (f)) H := hP.sub [0, 1] rfl
        have hD9 : va_D A (ky_WM G mo cs (w) (f)) := hD.sub [0, 1] (by decide) rfl
        refine W.widen (k := 1) (n := 4) (Nat.le_of_ble_eq_true rfl) (Nat.le_of_ble_eq_true rfl) ?_
        exact W.iret (v := (upd (upd (upd (upd (fun _ => 0) ((0 : Int32)).toNatClampNeg (w.2.1)) ((1 : Int32)).toNatClampNeg (w.2.2.1)) ((2 : Int32)).toNatClampNeg (w.2.2.2.1)) ((3 : Int32)).toNatClampNeg (v2)) (a1).toNatClampNeg) hx hb hr (fun t ht hW => ⟨by rw [ht]; exact ky_endM (fun z => some (.int z)) ((upd (upd (upd (upd (fun _ => 0) ((0 : Int32)).toNatClampNeg (w.2.1)) ((1 : Int32)).toNatClampNeg (w.2.2.1)) ((2 : Int32)).toNatClampNeg (w.2.2.2.1)) ((3 : Int32)).toNatClampNeg (v2)) (a1).toNatClampNeg) hw hP9 hD9 (hIT), hS.F ht⟩) hS.2.2 dc_X9_houseNow_76
      · have hw := hw.trans (if_neg c_0)
        have hk := hk.2 c_0
        refine lv_aload_n hx hb dc_X9_houseNow_21 rfl (lv_at hl 2 rfl) ?_
        refine lv_iload hx hb dc_X9_houseNow_22 (lv_at hl 5 rfl) ?_
        obtain ⟨hq_1, hk⟩ := hk
        refine va_aldq hx hb hE.1 hP 1 3 rfl rfl hq_1 dc_X9_houseNow_24 ?_
        obtain ⟨b_2, hb_2, hI_2, ho_2⟩ := hIT.2 _ (ky_i6 hq_1)
        rw [ky_rf hb_2]
        have hX_2 : ky_It G b_2 ((w.2.2.2.2) (v5).toNatClampNeg) s.heap := by obtain ⟨b9, e9, i9, -⟩ := hIT0.2 _ (ky_i6 hq_1); have z9 : b9 = b_2 := Option.some.inj (e9.symm.trans hb_2); exact z9 ▸ i9
        refine lv_astore (lv' := [(6, .ref b_2), (0, .ref mo), (1, .int (a1)), (3, .ref cs), (4, .int ((6 : Int32))), (2, .int (v2)), (5, .int (v5))]) hx hb dc_X9_houseNow_25 hl (by decide) rfl (fun ls hl => ?_)
        refine lv_iload_n hx hb dc_X9_houseNow_27 rfl (lv_at hl 5 rfl) ?_
        refine lv_aload hx hb dc_X9_houseNow_28 (lv_at hl 0 rfl) ?_
        refine ky_cV1 (As := []) F (hE.at hfr hS) (mt_X8_isWhole l G (b_2) (((w.2.2.2.2) (v5).toNatClampNeg)) ) kv_X9_224 ⟨⟨rfl, rfl⟩, by decide, by decide⟩ rfl hl.1 rfl (Nat.le_of_ble_eq_true rfl) ⟨Nat.le_of_ble_eq_true rfl, Nat.le_of_ble_eq_true rfl⟩ (va_recv hE.1 hI_2 (ci := 4) (q0 := 0) rfl rfl) hI_2 dc_X9_houseNow_30 ?_
        refine ky_cS0 (As := [.int (fn_X8_isWhole ((w.2.2.2.2) (v5).toNatClampNeg))]) F (mt_X9_one l (fn_X8_isWhole ((w.2.2.2.2) (v5).toNatClampNeg))) ks_X9_59 ⟨⟨rfl, rfl⟩, by decide, by decide⟩ rfl hl.1 rfl (Nat.le_of_ble_eq_true rfl) ⟨Nat.le_of_ble_eq_true rfl, Nat.le_of_ble_eq_true rfl⟩ dc_X9_houseNow_33 ?_
        refine lv_iadd hx hb dc_X9_houseNow_36 ?_
        refine lv_istore_n (lv' := [(2, .int ((v2) + (fn_X9_one (fn_X8_isWhole ((w.2.2.2.2) (v5).toNatClampNeg))))), (6, .ref b_2), (0, .ref mo), (1, .int (a1)), (3, .ref cs), (4, .int ((6 : Int32))), (5, .int (v5))]) hx hb dc_X9_houseNow_37 rfl hl (by decide) rfl (fun ls hl => ?_)
        refine lv_iinc (v := (v5) + 1) (lv' := [(5, .int ((v5) + 1)), (2, .int ((v2) + (fn_X9_one (fn_X8_isWhole ((w.2.2.2.2) (v5).toNatClampNeg))))), (6, .ref b_2), (0, .ref mo), (1, .int (a1)), (3, .ref cs), (4, .int ((6 : Int32)))]) hx hb dc_X9_houseNow_38 hl (k := 6) rfl rfl (by decide) rfl (fun ls hl => ?_)
        refine lv_goto (tgt := 14) hx hb dc_X9_houseNow_41 (by decide) ?_
        rw [hw]
        exact ih ((v2) + (fn_X9_one (fn_X8_isWhole ((w.2.2.2.2) (v5).toNatClampNeg)))) ((v5) + 1) hk _ (lv_sub hl [3, 4, 5, 6, 1, 0] rfl)
def fn_X9_houseNow (a1 : Int32)  (w : ky_MV) : Int32 × ky_MV :=
  fn_X9_houseNow_L14 a1 w (7) ((0 : Int32)) ((0 : Int32))
def fk_X9_houseNow (a1 : Int32)  (w : ky_MV) : Prop :=
  (fk_X9_houseNow_L14 a1 w (7) ((0 : Int32)) ((0 : Int32))) ∧ True
set_option linter.constructorNameAsVariable false in
set_option maxHeartbeats 4000000 in
set_option maxRecDepth 100000 in
theorem mt_X9_houseNow (l : Launch) (G : ky_G) (mo cs : Nat) (N : Nat → Prop) (w : ky_MV) (f : Nat → Option Nat)    (a1 : Int32) (sz : Nat) (h1 : vp_in (a1) 4) (hk : fk_X9_houseNow a1 w) : Met l my_X9_houseNow (.code my_X9_houseNow prog_10_method_75_code 7 (some .int) :: ky_B) { frames := 6, cells := 1, slots := 4, locals := 125 } (ky_P G [.ref mo, .int (a1)] (ky_WM G mo cs w f) sz (fun H => ky_IT G mo cs N f w.2.2.2.2 H)) (ky_Q (S := ky_MV × (Nat → Option Nat)) G (va_A (ky_WM G mo cs w f) sz) (fun v u => v = some (.int (fn_X9_houseNow a1 w).1) ∧ u.1 = (fn_X9_houseNow a1 w).2) (fun u => ky_WM G mo cs u.1 u.2) (fun u H => ky_IT G mo cs N u.2 u.1.2.2.2.2 H)) 1 4 (va_A (ky_WM G mo cs w f) sz) := by
  refine ky_start (by decide) (Nat.le_of_ble_eq_true rfl) (fun p e s m below meth c F hE A hAe hsz hA hfr hP hD hS hX ls hl => ?_)
  obtain ⟨hx, hb, hml, hown, hr, hlocks, hts⟩ := id F
  have hIT0 := hX
  have hIT := hIT0
  have hl : lv_has ls 7 [(0, .ref mo), (1, .int (a1))] := hl
  have hP : va_P G.1 kcl [(mo, .inr (5, [.int (w.1), .ref cs, .int (w.2.1), .int (w.2.2.1), .int (w.2.2.2.1)])), (cs, .inl (G.2.1 3, 6, .inr (.inr (.inr (.inr (f))))))] s.heap := hP
  have hD : va_D A [(mo, .inr (5, [.int (w.1), .ref cs, .int (w.2.1), .int (w.2.2.1), .int (w.2.2.2.1)])), (cs, .inl (G.2.1 3, 6, .inr (.inr (.inr (.inr (f))))))] := hD
  have hw : fn_X9_houseNow a1 w = _ := fn_X9_houseNow.eq_1 a1 w
  have hk : fk_X9_houseNow_L14 a1 w (7) ((0 : Int32)) ((0 : Int32)) := hk.1
  refine lv_iconst (v := 0) hx hb dc_X9_houseNow_0 (by decide) ?_
  refine lv_istore_n (lv' := [(2, .int ((0 : Int32))), (0, .ref mo), (1, .int (a1))]) hx hb dc_X9_houseNow_1 rfl hl (by decide) rfl (fun ls hl => ?_)
  refine lv_aload_n hx hb dc_X9_houseNow_2 rfl (lv_at hl 1 rfl) ?_
  refine va_get (D := G.1) (ci := 5) (v := .ref cs) (C := RX9) (T := TX9) (N := 5) hx hb hts ki_X9 hown hE.1 hP 0 rfl rfl 1 (by decide) (hts _ kw_6_20) (fun _ h9 => h9) rfl dc_X9_houseNow_3 ?_
  refine lv_astore_n (lv' := [(3, .ref cs), (2, .int ((0 : Int32))), (0, .ref mo), (1, .int (a1))]) hx hb dc_X9_houseNow_6 rfl hl (by decide) rfl (fun ls hl => ?_)
  refine lv_aload_n hx hb dc_X9_houseNow_7 rfl (lv_at hl 0 rfl) ?_
  refine va_alen hx hb hE.1 hP 1 3 rfl rfl (v := (6 : Int32)) rfl dc_X9_houseNow_8 ?_
  refine lv_istore (lv' := [(4, .int ((6 : Int32))), (3, .ref cs), (2, .int ((0 : Int32))), (0, .ref mo), (1, .int (a1))]) hx hb dc_X9_houseNow_9 hl (by decide) rfl (fun ls hl => ?_)
  refine lv_iconst (v := 0) hx hb dc_X9_houseNow_11 (by decide) ?_
  refine lv_istore (lv' := [(5, .int ((0 : Int32))), (4, .int ((6 : Int32))), (3, .ref cs), (2, .int ((0 : Int32))), (0, .ref mo), (1, .int (a1))]) hx hb dc_X9_houseNow_12 hl (by decide) rfl (fun ls hl => ?_)
  rw [hw]
  exact ml_X9_houseNow_L14 F hE hAe hA hfr hP hD hS hIT0 a1 h1 (7) ((0 : Int32)) ((0 : Int32)) hk _ (lv_sub hl [4, 5, 2, 1, 3, 0] rfl)
end
section
def fn_X9_house (a1 : Int32)  (w : ky_MV) : Int32 × ky_MV :=
  if (fn_X9_isOf (a1) ((0 : Int32)) ((3 : Int32))) = (0 : Int32) then (if (jrr (jrt ((1 : Int32)) ((1 : Int32)) (jst ((0 : Int32))))) = (0 : Int32) then (((fn_X9_houseNow (a1) (jrt ((1 : Int32)) ((1 : Int32)) (jst ((0 : Int32))), w.2.1, w.2.2.1, w.2.2.2.1, w.2.2.2.2)).1, ((fn_X9_houseNow (a1) (jrt ((1 : Int32)) ((1 : Int32)) (jst ((0 : Int32))), w.2.1, w.2.2.1, w.2.2.2.1, w.2.2.2.2)).2))) else (((0 : Int32), (jrt ((1 : Int32)) ((1 : Int32)) (jst ((0 : Int32))), w.2.1, w.2.2.1, w.2.2.2.1, w.2.2.2.2)))) else (if (jrr (jrt ((0 : Int32)) ((1 : Int32)) (jst ((0 : Int32))))) = (0 : Int32) then (((fn_X9_houseNow (a1) (jrt ((0 : Int32)) ((1 : Int32)) (jst ((0 : Int32))), w.2.1, w.2.2.1, w.2.2.2.1, w.2.2.2.2)).1, ((fn_X9_houseNow (a1) (jrt ((0 : Int32)) ((1 : Int32)) (jst ((0 : Int32))), w.2.1, w.2.2.1, w.2.2.2.1, w.2.2.2.2)).2))) else (((0 : Int32), (jrt ((0 : Int32)) ((1 : Int32)) (jst ((0 : Int32))), w.2.1, w.2.2.1, w.2.2.2.1, w.2.2.2.2))))
def fk_X9_house (a1 : Int32)  (w : ky_MV) : Prop :=
  ((((fn_X9_isOf (a1) ((0 : Int32)) ((3 : Int32))) = (0 : Int32)) → ((((jrr (jrt ((1 : Int32)) ((1 : Int32)) (jst ((0 : Int32))))) = (0 : Int32)) → ((vp_in (a1) 4) ∧ ((fk_X9_houseNow (a1) (jrt ((1 : Int32)) ((1 : Int32)) (jst ((0 : Int32))), w.2.1, w.2.2.1, w.2.2.2.1, w.2.2.2.2)) ∧ (True)))) ∧ (¬ ((jrr (jrt ((1 : Int32)) ((1 : Int32)) (jst ((0 : Int32))))) = (0 : Int32)) → (True)))) ∧ (¬ ((fn_X9_isOf (a1) ((0 : Int32)) ((3 : Int32))) = (0 : Int32)) → ((((jrr (jrt ((0 : Int32)) ((1 : Int32)) (jst ((0 : Int32))))) = (0 : Int32)) → ((vp_in (a1) 4) ∧ ((fk_X9_houseNow (a1) (jrt ((0 : Int32)) ((1 : Int32)) (jst ((0 : Int32))), w.2.1, w.2.2.1, w.2.2.2.1, w.2.2.2.2)) ∧ (True)))) ∧ (¬ ((jrr (jrt ((0 : Int32)) ((1 : Int32)) (jst ((0 : Int32))))) = (0 : Int32)) → (True))))) ∧ True
set_option linter.constructorNameAsVariable false in
set_option maxHeartbeats 4000000 in
set_option maxRecDepth 100000 in
theorem mt_X9_house (l : Launch) (G : ky_G) (mo cs : Nat) (N : Nat → Prop) (w : ky_MV) (f : Nat → Option Nat)    (a1 : Int32) (sz : Nat) (hk : fk_X9_house a1 w) : Met l my_X9_house (.code my_X9_house prog_10_method_76_code 2 (some .int) :: ky_B) { frames := 7, cells := 1, slots := 4, locals := 151 } (ky_P G [.ref mo, .int (a1)] (ky_WM G mo cs w f) sz (fun H => ky_IT G mo cs N f w.2.2.2.2 H)) (ky_Q (S := ky_MV × (Nat → Option Nat)) G (va_A (ky_WM G mo cs w f) sz) (fun v u => v = some (.int (fn_X9_house a1 w).1) ∧ u.1 = (fn_X9_house a1 w).2) (fun u => ky_WM G mo cs u.1 u.2) (fun u H => ky_IT G mo cs N u.2 u.1.2.2.2.2 H)) 1 4 (va_A (ky_WM G mo cs w f) sz) := by
  refine ky_start (by decide) (Nat.le_of_ble_eq_true rfl) (fun p e s m below meth c F hE A hAe hsz hA hfr hP hD hS hX ls hl => ?_)
  obtain ⟨hx, hb, hml, hown, hr, hlocks, hts⟩ := id F
  have hIT0 := hX
  have hIT := hIT0
  have hl : lv_has ls 2 [(0, .ref mo), (1, .int (a1))] := hl
  have hP : va_P G.1 kcl [(mo, .inr (5, [.int (w.1), .ref cs, .int (w.2.1), .int (w.2.2.1), .int (w.2.2.2.1)])), (cs, .inl (G.2.1 3, 6, .inr (.inr (.inr (.inr (f))))))] s.heap := hP
  have hD : va_D A [(mo, .inr (5, [.int (w.1), .ref cs, .int (w.2.1), .int (w.2.2.1), .int (w.2.2.2.1)])), (cs, .inl (G.2.1 3, 6, .inr (.inr (.inr (.inr (f))))))] := hD
  have hw : fn_X9_house a1 w = _ := fn_X9_house.eq_1 a1 w
  have hk : (((fn_X9_isOf (a1) ((0 : Int32)) ((3 : Int32))) = (0 : Int32)) → ((((jrr (jrt ((1 : Int32)) ((1 : Int32)) (jst ((0 : Int32))))) = (0 : Int32)) → ((vp_in (a1) 4) ∧ ((fk_X9_houseNow (a1) (jrt ((1 : Int32)) ((1 : Int32)) (jst ((0 : Int32))), w.2.1, w.2.2.1, w.2.2.2.1, w.2.2.2.2)) ∧ (True)))) ∧ (¬ ((jrr (jrt ((1 : Int32)) ((1 : Int32)) (jst ((0 : Int32))))) = (0 : Int32)) → (True)))) ∧ (¬ ((fn_X9_isOf (a1) ((0 : Int32)) ((3 : Int32))) = (0 : Int32)) → ((((jrr (jrt ((0 : Int32)) ((1 : Int32)) (jst ((0 : Int32))))) = (0 : Int32)) → ((vp_in (a1) 4) ∧ ((fk_X9_houseNow (a1) (jrt ((0 : Int32)) ((1 : Int32)) (jst ((0 : Int32))), w.2.1, w.2.2.1, w.2.2.2.1, w.2.2.2.2)) ∧ (True)))) ∧ (¬ ((jrr (jrt ((0 : Int32)) ((1 : Int32)) (jst ((0 : Int32))))) = (0 : Int32)) → (True)))) := hk.1
  refine lv_aload_n hx hb dc_X9_house_0 rfl (lv_at hl 0 rfl) ?_
  refine lv_iconst (v := 0) hx hb dc_X9_house_1 (by decide) ?_
  refine ky_cVh (As := [.int ((0 : Int32))]) (wr := []) F (hE.at hfr hS) hfr (mt_X9_startJ l G (mo) (cs) ((w.1, w.2.1, w.2.2.1, w.2.2.2.1)) (f) ((0 : Int32)) s.heap.size ) kv_X9_55 ⟨⟨rfl, rfl⟩, by decide, by decide⟩ rfl hl.1 rfl (Nat.le_of_ble_eq_true rfl) ⟨Nat.le_of_ble_eq_true rfl, Nat.le_of_ble_eq_true rfl⟩ (va_recv hE.1 hP (ci := 5) (q0 := 0) rfl rfl) trivial hP hD hS hA [0, 1] [] rfl rfl (by decide) (by decide) (by decide) dc_X9_house_2 ?_
  rintro v9 u9 H locs ⟨rfl, rfl⟩ hP hD hS - hz hk9
  have hP : va_P G.1 kcl [(mo, .inr (5, [.int (jst ((0 : Int32))), .ref cs, .int (w.2.1), .int (w.2.2.1), .int (w.2.2.2.1)])), (cs, .inl (G.2.1 3, 6, .inr (.inr (.inr (.inr (f))))))] H := hP
  have hD : va_D A [(mo, .inr (5, [.int (jst ((0 : Int32))), .ref cs, .int (w.2.1), .int (w.2.2.1), .int (w.2.2.2.1)])), (cs, .inl (G.2.1 3, 6, .inr (.inr (.inr (.inr (f))))))] := hD
  have hIT := hIT0.ro hAe hS
  refine W.widen (k := 0) (n := 0) (Nat.le_refl _) (Nat.le_refl _) ?_
  refine lv_if_ne (tgt := 30) hx hb dc_X9_house_5 (by decide) (fun c_1 => absurd c_1 (by decide)) (fun _ => ?_)
  refine lv_aload_n hx hb dc_X9_house_8 rfl (lv_at hl 0 rfl) ?_
  refine lv_iload_n hx hb dc_X9_house_9 rfl (lv_at hl 1 rfl) ?_
  refine lv_iconst (v := 0) hx hb dc_X9_house_10 (by decide) ?_
  refine lv_iconst (v := 3) hx hb dc_X9_house_11 (by decide) ?_
  refine ky_cS0 (As := [.int (a1), .int ((0 : Int32)), .int ((3 : Int32))]) F (mt_X9_isOf l (a1) ((0 : Int32)) ((3 : Int32))) ks_X9_40 ⟨⟨rfl, rfl⟩, by decide, by decide⟩ rfl hl.1 rfl (Nat.le_of_ble_eq_true rfl) ⟨Nat.le_of_ble_eq_true rfl, Nat.le_of_ble_eq_true rfl⟩ dc_X9_house_12 ?_
  refine lv_if_ne (tgt := 22) hx hb dc_X9_house_15 (by decide) (fun c_2 => ?_) (fun c_2 => ?_)
  · have hw := hw.trans (if_neg c_2)
    have hk := hk.2 c_2
    refine lv_iconst (v := 0) hx hb dc_X9_house_22 (by decide) ?_
    refine lv_iconst (v := 1) hx hb dc_X9_house_23 (by decide) ?_
    refine ky_cVh (As := [.int ((0 : Int32)), .int ((1 : Int32))]) (wr := []) F (hE.at hfr hS) hfr (mt_X9_refuseJ l G (mo) (cs) ((jst ((0 : Int32)), w.2.1, w.2.2.1, w.2.2.2.1)) (f) ((0 : Int32)) ((1 : Int32)) H.size ) kv_X9_36 ⟨⟨rfl, rfl⟩, by decide, by decide⟩ rfl hl.1 rfl (Nat.le_of_ble_eq_true rfl) ⟨Nat.le_of_ble_eq_true rfl, Nat.le_of_ble_eq_true rfl⟩ (va_recv hE.1 hP (ci := 5) (q0 := 0) rfl rfl) trivial hP hD hS hA [0, 1] [] rfl rfl (by decide) (by decide) (by decide) dc_X9_house_24 ?_
    rintro v9 u9 H locs ⟨rfl, rfl⟩ hP hD hS - hz hk9
    have hP : va_P G.1 kcl [(mo, .inr (5, [.int (jrt ((0 : Int32)) ((1 : Int32)) (jst ((0 : Int32)))), .ref cs, .int (w.2.1), .int (w.2.2.1), .int (w.2.2.2.1)])), (cs, .inl (G.2.1 3, 6, .inr (.inr (.inr (.inr (f))))))] H := hP
    have hD : va_D A [(mo, .inr (5, [.int (jrt ((0 : Int32)) ((1 : Int32)) (jst ((0 : Int32)))), .ref cs, .int (w.2.1), .int (w.2.2.1), .int (w.2.2.2.1)])), (cs, .inl (G.2.1 3, 6, .inr (.inr (.inr (.inr (f))))))] := hD
    have hIT := hIT0.ro hAe hS
    refine W.widen (k := 0) (n := 0) (Nat.le_refl _) (Nat.le_refl _) ?_
    refine lv_if_eq (tgt := 34) hx hb dc_X9_house_27 (by decide) (fun c_4 => ?_) (fun c_4 => ?_)
    · have hw := hw.trans (if_pos c_4)
      have hk := hk.1 c_4
      refine lv_aload_n hx hb dc_X9_house_34 rfl (lv_at hl 0 rfl) ?_
      refine lv_iload_n hx hb dc_X9_house_35 rfl (lv_at hl 1 rfl) ?_
      obtain ⟨hq_5, hk⟩ := hk
      obtain ⟨hq_6, hk⟩ := hk
      refine ky_cVh (As := [.int (a1)]) (wr := []) F (hE.at hfr hS) hfr (mt_X9_houseNow l G mo cs N (jrt ((0 : Int32)) ((1 : Int32)) (jst ((0 : Int32))), w.2.1, w.2.2.1, w.2.2.2.1, w.2.2.2.2) (f)    (a1) H.size hq_5 hq_6) kv_X9_258 ⟨⟨rfl, rfl⟩, by decide, by decide⟩ rfl hl.1 rfl (Nat.le_of_ble_eq_true rfl) ⟨Nat.le_of_ble_eq_true rfl, Nat.le_of_ble_eq_true rfl⟩ (va_recv hE.1 hP (ci := 5) (q0 := 0) rfl rfl) hIT hP hD hS hA [0, 1] [] rfl rfl (by decide) (by decide) (by decide) dc_X9_house_36 ?_
      rintro v9 ⟨w_7, f_7⟩ H locs ⟨rfl, hw_7⟩ hP hD hS hIT9 hz hk9
      have hw_7 : w_7 = (fn_X9_houseNow (a1) (jrt ((0 : Int32)) ((1 : Int32)) (jst ((0 : Int32))), w.2.1, w.2.2.1, w.2.2.2.1, w.2.2.2.2)).2 := hw_7
      try rw [← hw_7] at hw
      try rw [← hw_7] at hk
      have hP : va_P G.1 kcl [(mo, .inr (5, [.int ((w_7).1), .ref cs, .int ((w_7).2.1), .int ((w_7).2.2.1), .int ((w_7).2.2.2.1)])), (cs, .inl (G.2.1 3, 6, .inr (.inr (.inr (.inr (f_7))))))] H := hP
      have hD : va_D A [(mo, .inr (5, [.int ((w_7).1), .ref cs, .int ((w_7).2.1), .int ((w_7).2.2.1), .int ((w_7).2.2.2.1)])), (cs, .inl (G.2.1 3, 6, .inr (.inr (.inr (.inr (f_7))))))] := hD
      have hIT : ky_IT G mo cs N f_7 ((w_7).2.2.2.2) H := hIT9
      refine W.widen (k := 1) (n := 4) (Nat.le_refl _) (Nat.le_refl _) ?_
      have hP9 : va_P G.1 kcl (ky_WM G mo cs ((w_7)) (f_7)) H := hP.sub [0, 1] rfl
      have hD9 : va_D A (ky_WM G mo cs ((w_7)) (f_7)) := hD.sub [0, 1] (by decide) rfl
      refine W.widen (k := 1) (n := 4) (Nat.le_of_ble_eq_true rfl) (Nat.le_of_ble_eq_true rfl) ?_
      exact W.iret (v := (fn_X9_houseNow (a1) (jrt ((0 : Int32)) ((1 : Int32)) (jst ((0 : Int32))), w.2.1, w.2.2.1, w.2.2.2.1, w.2.2.2.2)).1) hx hb hr (fun t ht hW => ⟨by rw [ht]; exact ky_endM (fun z => some (.int z)) ((fn_X9_houseNow (a1) (jrt ((0 : Int32)) ((1 : Int32)) (jst ((0 : Int32))), w.2.1, w.2.2.1, w.2.2.2.1, w.2.2.2.2)).1) hw hP9 hD9 (hIT), hS.F ht⟩) hS.2.2 dc_X9_house_39
    · have hw := hw.trans (if_neg c_4)
      have hk := hk.2 c_4
      refine lv_iconst (v := 0) hx hb dc_X9_house_30 (by decide) ?_
      refine lv_goto (tgt := 39) hx hb dc_X9_house_31 (by decide) ?_
      have hP9 : va_P G.1 kcl (ky_WM G mo cs ((jrt ((0 : Int32)) ((1 : Int32)) (jst ((0 : Int32))), w.2.1, w.2.2.1, w.2.2.2.1, w.2.2.2.2)) (f)) H := hP.sub [0, 1] rfl
      have hD9 : va_D A (ky_WM G mo cs ((jrt ((0 : Int32)) ((1 : Int32)) (jst ((0 : Int32))), w.2.1, w.2.2.1, w.2.2.2.1, w.2.2.2.2)) (f)) := hD.sub [0, 1] (by decide) rfl
      refine W.widen (k := 1) (n := 4) (Nat.le_of_ble_eq_true rfl) (Nat.le_of_ble_eq_true rfl) ?_
      exact W.iret (v := (0 : Int32)) hx hb hr (fun t ht hW => ⟨by rw [ht]; exact ky_endM (fun z => some (.int z)) ((0 : Int32)) hw hP9 hD9 (hIT), hS.F ht⟩) hS.2.2 dc_X9_house_39
  · have hw := hw.trans (if_pos c_2)
    have hk := hk.1 c_2
    refine lv_iconst (v := 1) hx hb dc_X9_house_18 (by decide) ?_
    refine lv_goto (tgt := 23) hx hb dc_X9_house_19 (by decide) ?_
    refine lv_iconst (v := 1) hx hb dc_X9_house_23 (by decide) ?_
    refine ky_cVh (As := [.int ((1 : Int32)), .int ((1 : Int32))]) (wr := []) F (hE.at hfr hS) hfr (mt_X9_refuseJ l G (mo) (cs) ((jst ((0 : Int32)), w.2.1, w.2.2.1, w.2.2.2.1)) (f) ((1 : Int32)) ((1 : Int32)) H.size ) kv_X9_36 ⟨⟨rfl, rfl⟩, by decide, by decide⟩ rfl hl.1 rfl (Nat.le_of_ble_eq_true rfl) ⟨Nat.le_of_ble_eq_true rfl, Nat.le_of_ble_eq_true rfl⟩ (va_recv hE.1 hP (ci := 5) (q0 := 0) rfl rfl) trivial hP hD hS hA [0, 1] [] rfl rfl (by decide) (by decide) (by decide) dc_X9_house_24 ?_
    rintro v9 u9 H locs ⟨rfl, rfl⟩ hP hD hS - hz hk9
    have hP : va_P G.1 kcl [(mo, .inr (5, [.int (jrt ((1 : Int32)) ((1 : Int32)) (jst ((0 : Int32)))), .ref cs, .int (w.2.1), .int (w.2.2.1), .int (w.2.2.2.1)])), (cs, .inl (G.2.1 3, 6, .inr (.inr (.inr (.inr (f))))))] H := hP
    have hD : va_D A [(mo, .inr (5, [.int (jrt ((1 : Int32)) ((1 : Int32)) (jst ((0 : Int32)))), .ref cs, .int (w.2.1), .int (w.2.2.1), .int (w.2.2.2.1)])), (cs, .inl (G.2.1 3, 6, .inr (.inr (.inr (.inr (f))))))] := hD
    have hIT := hIT0.ro hAe hS
    refine W.widen (k := 0) (n := 0) (Nat.le_refl _) (Nat.le_refl _) ?_
    refine lv_if_eq (tgt := 34) hx hb dc_X9_house_27 (by decide) (fun c_4 => ?_) (fun c_4 => ?_)
    · have hw := hw.trans (if_pos c_4)
      have hk := hk.1 c_4
      refine lv_aload_n hx hb dc_X9_house_34 rfl (lv_at hl 0 rfl) ?_
      refine lv_iload_n hx hb dc_X9_house_35 rfl (lv_at hl 1 rfl) ?_
      obtain ⟨hq_5, hk⟩ := hk
      obtain ⟨hq_6, hk⟩ := hk
      refine ky_cVh (As := [.int (a1)]) (wr := []) F (hE.at hfr hS) hfr (mt_X9_houseNow l G mo cs N (jrt ((1 : Int32)) ((1 : Int32)) (jst ((0 : Int32))), w.2.1, w.2.2.1, w.2.2.2.1, w.2.2.2.2) (f)    (a1) H.size hq_5 hq_6) kv_X9_258 ⟨⟨rfl, rfl⟩, by decide, by decide⟩ rfl hl.1 rfl (Nat.le_of_ble_eq_true rfl) ⟨Nat.le_of_ble_eq_true rfl, Nat.le_of_ble_eq_true rfl⟩ (va_recv hE.1 hP (ci := 5) (q0 := 0) rfl rfl) hIT hP hD hS hA [0, 1] [] rfl rfl (by decide) (by decide) (by decide) dc_X9_house_36 ?_
      rintro v9 ⟨w_7, f_7⟩ H locs ⟨rfl, hw_7⟩ hP hD hS hIT9 hz hk9
      have hw_7 : w_7 = (fn_X9_houseNow (a1) (jrt ((1 : Int32)) ((1 : Int32)) (jst ((0 : Int32))), w.2.1, w.2.2.1, w.2.2.2.1, w.2.2.2.2)).2 := hw_7
      try rw [← hw_7] at hw
      try rw [← hw_7] at hk
      have hP : va_P G.1 kcl [(mo, .inr (5, [.int ((w_7).1), .ref cs, .int ((w_7).2.1), .int ((w_7).2.2.1), .int ((w_7).2.2.2.1)])), (cs, .inl (G.2.1 3, 6, .inr (.inr (.inr (.inr (f_7))))))] H := hP
      have hD : va_D A [(mo, .inr (5, [.int ((w_7).1), .ref cs, .int ((w_7).2.1), .int ((w_7).2.2.1), .int ((w_7).2.2.2.1)])), (cs, .inl (G.2.1 3, 6, .inr (.inr (.inr (.inr (f_7))))))] := hD
      have hIT : ky_IT G mo cs N f_7 ((w_7).2.2.2.2) H := hIT9
      refine W.widen (k := 1) (n := 4) (Nat.le_refl _) (Nat.le_refl _) ?_
      have hP9 : va_P G.1 kcl (ky_WM G mo cs ((w_7)) (f_7)) H := hP.sub [0, 1] rfl
      have hD9 : va_D A (ky_WM G mo cs ((w_7)) (f_7)) := hD.sub [0, 1] (by decide) rfl
      refine W.widen (k := 1) (n := 4) (Nat.le_of_ble_eq_true rfl) (Nat.le_of_ble_eq_true rfl) ?_
      exact W.iret (v := (fn_X9_houseNow (a1) (jrt ((1 : Int32)) ((1 : Int32)) (jst ((0 : Int32))), w.2.1, w.2.2.1, w.2.2.2.1, w.2.2.2.2)).1) hx hb hr (fun t ht hW => ⟨by rw [ht]; exact ky_endM (fun z => some (.int z)) ((fn_X9_houseNow (a1) (jrt ((1 : Int32)) ((1 : Int32)) (jst ((0 : Int32))), w.2.1, w.2.2.1, w.2.2.2.1, w.2.2.2.2)).1) hw hP9 hD9 (hIT), hS.F ht⟩) hS.2.2 dc_X9_house_39
    · have hw := hw.trans (if_neg c_4)
      have hk := hk.2 c_4
      refine lv_iconst (v := 0) hx hb dc_X9_house_30 (by decide) ?_
      refine lv_goto (tgt := 39) hx hb dc_X9_house_31 (by decide) ?_
      have hP9 : va_P G.1 kcl (ky_WM G mo cs ((jrt ((1 : Int32)) ((1 : Int32)) (jst ((0 : Int32))), w.2.1, w.2.2.1, w.2.2.2.1, w.2.2.2.2)) (f)) H := hP.sub [0, 1] rfl
      have hD9 : va_D A (ky_WM G mo cs ((jrt ((1 : Int32)) ((1 : Int32)) (jst ((0 : Int32))), w.2.1, w.2.2.1, w.2.2.2.1, w.2.2.2.2)) (f)) := hD.sub [0, 1] (by decide) rfl
      refine W.widen (k := 1) (n := 4) (Nat.le_of_ble_eq_true rfl) (Nat.le_of_ble_eq_true rfl) ?_
      exact W.iret (v := (0 : Int32)) hx hb hr (fun t ht hW => ⟨by rw [ht]; exact ky_endM (fun z => some (.int z)) ((0 : Int32)) hw hP9 hD9 (hIT), hS.F ht⟩) hS.2.2 dc_X9_house_39
end
section
def fn_X6_countWholeOnes_L4 : Nat → ky_BS → Int32 → Int32 → Int32 × ky_BS
  | 0, u, v1, v2 => (0, u)
  | n + 1, u, v1, v2 => if ((6 : Int32)) ≤ (v2) then ((v1, u)) else (if (fn_X0_isWholeOne ((u.1) (v2).toNatClampNeg)) = (0 : Int32) then (fn_X6_countWholeOnes_L4 n u (v1) ((v2) + 1)) else (fn_X6_countWholeOnes_L4 n u ((v1) + 1) ((v2) + 1)))
def fk_X6_countWholeOnes_L4 : Nat → ky_BS → Int32 → Int32 → Prop
  | 0, _, _, _ => False
  | n + 1, u, v1, v2 => ((((6 : Int32)) ≤ (v2)) → (True)) ∧ (¬ (((6 : Int32)) ≤ (v2)) → ((vp_in (v2) 6) ∧ ((((fn_X0_isWholeOne ((u.1) (v2).toNatClampNeg)) = (0 : Int32)) → (fk_X6_countWholeOnes_L4 n u (v1) ((v2) + 1))) ∧ (¬ ((fn_X0_isWholeOne ((u.1) (v2).toNatClampNeg)) = (0 : Int32)) → (fk_X6_countWholeOnes_L4 n u ((v1) + 1) ((v2) + 1))))))
set_option linter.constructorNameAsVariable false in
set_option maxHeartbeats 4000000 in
set_option maxRecDepth 100000 in
theorem ml_X6_countWholeOnes_L4 {p : Program} {l : Launch} {e : Env} {s : State} {m : MethodId} {args : Array Value} {below : List Frame} {meth : Method} {c : Code} {G : ky_G} {A : Nat → Prop} {x : Nat} {cs : Nat} {sc : Nat} {pf : Nat} {u : ky_BS} (F : ky_F p s m meth c my_X6_countWholeOnes.cls prog_1_method_63_code 3 (some .int) args) (hE : ky_E G s) (hA : ∀ q, s.heap.size ≤ q → A q) (hfr : ∀ q, A q → ky_fr G q) : ∀ (n : Nat) (v1 : Int32) (v2 : Int32), fk_X6_countWholeOnes_L4 n u v1 v2 → ∀ (H : Heap) (locs : List Loc), va_P G.1 kcl [(x, .inr (0, [.ref cs, .ref sc, .ref pf, .int (u.2.1), .int (u.2.2.1), .int (u.2.2.2)])), (cs, .inl (G.2.1 2, 6, .inr (.inl (u.1))))] H → va_D A [(x, .inr (0, [.ref cs, .ref sc, .ref pf, .int (u.2.1), .int (u.2.2.1), .int (u.2.2.2)])), (cs, .inl (G.2.1 2, 6, .inr (.inl (u.1))))] → va_S A s.heap H locs → ∀ ls : Array Slot, lv_has ls 3 [(0, .ref x), (1, .int (v1)), (2, .int (v2))] → W p l e { frames := 4, cells := 0, slots := 0, locals := 84 } s m args below meth c H locs 0 0 (MQ below (ky_Q (S := ky_BS) G A (fun v u9 => v = some (.int (fn_X6_countWholeOnes_L4 n u v1 v2).1) ∧ u9 = (fn_X6_countWholeOnes_L4 n u v1 v2).2) (fun u9 => ky_WB G x cs sc pf u9) (fun _ _ => True)) args s 0 0 A) (F0 m 4 ls []) := by
  obtain ⟨hx, hb, hml, hown, hr, hlocks, hts⟩ := id F
  intro n
  induction n with
  | zero => intro v1 v2 hk; exact False.elim hk
  | succ n ih =>
      intro v1 v2 hk H locs hP hD hS ls hl
      have hw : fn_X6_countWholeOnes_L4 (n + 1) u v1 v2 = (if ((6 : Int32)) ≤ (v2) then ((v1, u)) else (if (fn_X0_isWholeOne ((u.1) (v2).toNatClampNeg)) = (0 : Int32) then (fn_X6_countWholeOnes_L4 n u (v1) ((v2) + 1)) else (fn_X6_countWholeOnes_L4 n u ((v1) + 1) ((v2) + 1)))) := rfl
      have hk : ((((6 : Int32)) ≤ (v2)) → (True)) ∧ (¬ (((6 : Int32)) ≤ (v2)) → ((vp_in (v2) 6) ∧ ((((fn_X0_isWholeOne ((u.1) (v2).toNatClampNeg)) = (0 : Int32)) → (fk_X6_countWholeOnes_L4 n u (v1) ((v2) + 1))) ∧ (¬ ((fn_X0_isWholeOne ((u.1) (v2).toNatClampNeg)) = (0 : Int32)) → (fk_X6_countWholeOnes_L4 n u ((v1) + 1) ((v2) + 1)))))) := hk
      refine lv_iload_n hx hb dc_X6_countWholeOnes_4 rfl (lv_at hl 2 rfl) ?_
      refine lv_bipush (v := 6) hx hb dc_X6_countWholeOnes_5 (by decide) ?_
      refine lv_icmp_ge (tgt := 31) hx hb dc_X6_countWholeOnes_7 (by decide) (fun c_0 => ?_) (fun c_0 => ?_)
      · have hw := hw.trans (if_pos c_0)
        have hk := hk.1 c_0
        refine lv_iload_n hx hb dc_X6_countWholeOnes_31 rfl (lv_at hl 1 rfl) ?_
        have hP9 := hP.sub (ws' := [(x, .inr (0, [.ref cs, .ref sc, .ref pf, .int (u.2.1), .int (u.2.2.1), .int (u.2.2.2)])), (cs, .inl (G.2.1 2, 6, .inr (.inl (u.1))))]) [0, 1] rfl
        have hD9 := hD.sub (ws' := [(x, .inr (0, [.ref cs, .ref sc, .ref pf, .int (u.2.1), .int (u.2.2.1), .int (u.2.2.2)])), (cs, .inl (G.2.1 2, 6, .inr (.inl (u.1))))]) [0, 1] (by decide) rfl
        refine W.widen (k := 0) (n := 0) (Nat.le_of_ble_eq_true rfl) (Nat.le_of_ble_eq_true rfl) ?_
        exact W.iret (v := v1) hx hb hr (fun t ht hW => ⟨⟨_, u, rfl, ky_pi hw, by rw [ht]; exact hP9, hD9, trivial⟩, hS.F ht⟩) hS.2.2 dc_X6_countWholeOnes_32
      · have hw := hw.trans (if_neg c_0)
        have hk := hk.2 c_0
        refine lv_aload_n hx hb dc_X6_countWholeOnes_10 rfl (lv_at hl 0 rfl) ?_
        refine va_get (D := G.1) (ci := 0) (v := .ref cs) (C := RX6) (T := TX6) (N := 6) hx hb hts ki_X6 hown hE.1 hP 0 rfl rfl 0 (by decide) (hts _ kw_1_98) (fun _ h9 => h9) rfl dc_X6_countWholeOnes_11 ?_
        refine lv_iload_n hx hb dc_X6_countWholeOnes_14 rfl (lv_at hl 2 rfl) ?_
        obtain ⟨hq_1, hk⟩ := hk
        refine va_lald hx hb hE.1 hP 1 2 rfl rfl hq_1 dc_X6_countWholeOnes_15 ?_
        refine ky_cS0 (As := [.long ((u.1) (v2).toNatClampNeg)]) F (mt_X0_isWholeOne l ((u.1) (v2).toNatClampNeg)) ks_X6_163 ⟨⟨rfl, rfl⟩, by decide, by decide⟩ rfl hl.1 rfl (Nat.le_of_ble_eq_true rfl) ⟨Nat.le_of_ble_eq_true rfl, Nat.le_of_ble_eq_true rfl⟩ dc_X6_countWholeOnes_16 ?_
        refine lv_if_eq (tgt := 25) hx hb dc_X6_countWholeOnes_19 (by decide) (fun c_2 => ?_) (fun c_2 => ?_)
        · have hw := hw.trans (if_pos c_2)
          have hk := hk.1 c_2
          refine lv_iinc (v := (v2) + 1) (lv' := [(2, .int ((v2) + 1)), (0, .ref x), (1, .int (v1))]) hx hb dc_X6_countWholeOnes_25 hl (k := 2) rfl rfl (by decide) rfl (fun ls hl => ?_)
          refine lv_goto (tgt := 4) hx hb dc_X6_countWholeOnes_28 (by decide) ?_
          rw [hw]
          exact ih (v1) ((v2) + 1) hk _ _ (hP.sub (ws' := [(x, .inr (0, [.ref cs, .ref sc, .ref pf, .int (u.2.1), .int (u.2.2.1), .int (u.2.2.2)])), (cs, .inl (G.2.1 2, 6, .inr (.inl (u.1))))]) [0, 1] rfl) (hD.sub (ws' := [(x, .inr (0, [.ref cs, .ref sc, .ref pf, .int (u.2.1), .int (u.2.2.1), .int (u.2.2.2)])), (cs, .inl (G.2.1 2, 6, .inr (.inl (u.1))))]) [0, 1] (by decide) rfl) hS _ (lv_sub hl [1, 2, 0] rfl)
        · have hw := hw.trans (if_neg c_2)
          have hk := hk.2 c_2
          refine lv_iinc (v := (v1) + 1) (lv' := [(1, .int ((v1) + 1)), (0, .ref x), (2, .int (v2))]) hx hb dc_X6_countWholeOnes_22 hl (k := 1) rfl rfl (by decide) rfl (fun ls hl => ?_)
          refine lv_iinc (v := (v2) + 1) (lv' := [(2, .int ((v2) + 1)), (1, .int ((v1) + 1)), (0, .ref x)]) hx hb dc_X6_countWholeOnes_25 hl (k := 2) rfl rfl (by decide) rfl (fun ls hl => ?_)
          refine lv_goto (tgt := 4) hx hb dc_X6_countWholeOnes_28 (by decide) ?_
          rw [hw]
          exact ih ((v1) + 1) ((v2) + 1) hk _ _ (hP.sub (ws' := [(x, .inr (0, [.ref cs, .ref sc, .ref pf, .int (u.2.1), .int (u.2.2.1), .int (u.2.2.2)])), (cs, .inl (G.2.1 2, 6, .inr (.inl (u.1))))]) [0, 1] rfl) (hD.sub (ws' := [(x, .inr (0, [.ref cs, .ref sc, .ref pf, .int (u.2.1), .int (u.2.2.1), .int (u.2.2.2)])), (cs, .inl (G.2.1 2, 6, .inr (.inl (u.1))))]) [0, 1] (by decide) rfl) hS _ (lv_sub hl [2, 1, 0] rfl)
def fn_X6_countWholeOnes (u : ky_BS) : Int32 × ky_BS :=
  fn_X6_countWholeOnes_L4 (7) u ((0 : Int32)) ((0 : Int32))
def fk_X6_countWholeOnes (u : ky_BS) : Prop :=
  (fk_X6_countWholeOnes_L4 (7) u ((0 : Int32)) ((0 : Int32))) ∧ True
set_option linter.constructorNameAsVariable false in
set_option maxHeartbeats 4000000 in
set_option maxRecDepth 100000 in
theorem mt_X6_countWholeOnes (l : Launch) (G : ky_G) (x : Nat) (cs : Nat) (sc : Nat) (pf : Nat) (u : ky_BS)  (sz : Nat)  (hk : fk_X6_countWholeOnes u) : Met l my_X6_countWholeOnes (.code my_X6_countWholeOnes prog_1_method_63_code 3 (some .int) :: ky_B) { frames := 4, cells := 0, slots := 0, locals := 84 } (ky_P G [.ref x] (ky_WB G x cs sc pf u) sz (fun _ => True)) (ky_Q (S := ky_BS) G (va_A (ky_WB G x cs sc pf u) sz) (fun v u9 => v = some (.int (fn_X6_countWholeOnes u).1) ∧ u9 = (fn_X6_countWholeOnes u).2) (fun u9 => ky_WB G x cs sc pf u9) (fun _ _ => True)) 0 0 (va_A (ky_WB G x cs sc pf u) sz) := by
  refine ky_start (by decide) (Nat.le_of_ble_eq_true rfl) (fun p e s m below meth c F hE A hAe hsz hA hfr hP hD hS hX ls hl => ?_)
  obtain ⟨hx, hb, hml, hown, hr, hlocks, hts⟩ := id F
  have hl : lv_has ls 3 [(0, .ref x)] := hl
  have hP : va_P G.1 kcl [(x, .inr (0, [.ref cs, .ref sc, .ref pf, .int (u.2.1), .int (u.2.2.1), .int (u.2.2.2)])), (cs, .inl (G.2.1 2, 6, .inr (.inl (u.1))))] s.heap := hP
  have hD : va_D A [(x, .inr (0, [.ref cs, .ref sc, .ref pf, .int (u.2.1), .int (u.2.2.1), .int (u.2.2.2)])), (cs, .inl (G.2.1 2, 6, .inr (.inl (u.1))))] := hD
  have hw : fn_X6_countWholeOnes u = _ := fn_X6_countWholeOnes.eq_1 u
  have hk : fk_X6_countWholeOnes_L4 (7) u ((0 : Int32)) ((0 : Int32)) := hk.1
  refine lv_iconst (v := 0) hx hb dc_X6_countWholeOnes_0 (by decide) ?_
  refine lv_istore_n (lv' := [(1, .int ((0 : Int32))), (0, .ref x)]) hx hb dc_X6_countWholeOnes_1 rfl hl (by decide) rfl (fun ls hl => ?_)
  refine lv_iconst (v := 0) hx hb dc_X6_countWholeOnes_2 (by decide) ?_
  refine lv_istore_n (lv' := [(2, .int ((0 : Int32))), (1, .int ((0 : Int32))), (0, .ref x)]) hx hb dc_X6_countWholeOnes_3 rfl hl (by decide) rfl (fun ls hl => ?_)
  rw [hw]
  exact ml_X6_countWholeOnes_L4 F hE hA hfr (7) ((0 : Int32)) ((0 : Int32)) hk _ _ (hP.sub (ws' := [(x, .inr (0, [.ref cs, .ref sc, .ref pf, .int (u.2.1), .int (u.2.2.1), .int (u.2.2.2)])), (cs, .inl (G.2.1 2, 6, .inr (.inl (u.1))))]) [0, 1] rfl) (hD.sub (ws' := [(x, .inr (0, [.ref cs, .ref sc, .ref pf, .int (u.2.1), .int (u.2.2.1), .int (u.2.2.2)])), (cs, .inl (G.2.1 2, 6, .inr (.inl (u.1))))]) [0, 1] (by decide) rfl) hS _ (lv_sub hl [2, 1, 0] rfl)
end
section
def fn_X6_firstOfAll_L9 : Nat → ky_BS → Int64 → Int32 → Int64 × ky_BS
  | 0, u, v1, v3 => (0, u)
  | n + 1, u, v1, v3 => if ((6 : Int32)) ≤ (v3) then ((v1, u)) else (fn_X6_firstOfAll_L9 n u (fn_X0_firstOf (v1) ((u.1) (v3).toNatClampNeg)) ((v3) + 1))
def fk_X6_firstOfAll_L9 : Nat → ky_BS → Int64 → Int32 → Prop
  | 0, _, _, _ => False
  | n + 1, u, v1, v3 => ((((6 : Int32)) ≤ (v3)) → (True)) ∧ (¬ (((6 : Int32)) ≤ (v3)) → ((vp_in (v3) 6) ∧ (fk_X6_firstOfAll_L9 n u (fn_X0_firstOf (v1) ((u.1) (v3).toNatClampNeg)) ((v3) + 1))))
set_option linter.constructorNameAsVariable false in
set_option maxHeartbeats 4000000 in
set_option maxRecDepth 100000 in
theorem ml_X6_firstOfAll_L9 {p : Program} {l : Launch} {e : Env} {s : State} {m : MethodId} {args : Array Value} {below : List Frame} {meth : Method} {c : Code} {G : ky_G} {A : Nat → Prop} {x : Nat} {cs : Nat} {sc : Nat} {pf : Nat} {u : ky_BS} (F : ky_F p s m meth c my_X6_firstOfAll.cls prog_1_method_70_code 4 (some .long) args) (hE : ky_E G s) (hA : ∀ q, s.heap.size ≤ q → A q) (hfr : ∀ q, A q → ky_fr G q) : ∀ (n : Nat) (v1 : Int64) (v3 : Int32), fk_X6_firstOfAll_L9 n u v1 v3 → ∀ (H : Heap) (locs : List Loc), va_P G.1 kcl [(x, .inr (0, [.ref cs, .ref sc, .ref pf, .int (u.2.1), .int (u.2.2.1), .int (u.2.2.2)])), (cs, .inl (G.2.1 2, 6, .inr (.inl (u.1))))] H → va_D A [(x, .inr (0, [.ref cs, .ref sc, .ref pf, .int (u.2.1), .int (u.2.2.1), .int (u.2.2.2)])), (cs, .inl (G.2.1 2, 6, .inr (.inl (u.1))))] → va_S A s.heap H locs → ∀ ls : Array Slot, lv_has ls 4 [(0, .ref x), (1, .long (v1)), (3, .int (v3))] → W p l e { frames := 3, cells := 0, slots := 0, locals := 65 } s m args below meth c H locs 0 0 (MQ below (ky_Q (S := ky_BS) G A (fun v u9 => v = some (.long (fn_X6_firstOfAll_L9 n u v1 v3).1) ∧ u9 = (fn_X6_firstOfAll_L9 n u v1 v3).2) (fun u9 => ky_WB G x cs sc pf u9) (fun _ _ => True)) args s 0 0 A) (F0 m 9 ls []) := by
  obtain ⟨hx, hb, hml, hown, hr, hlocks, hts⟩ := id F
  intro n
  induction n with
  | zero => intro v1 v3 hk; exact False.elim hk
  | succ n ih =>
      intro v1 v3 hk H locs hP hD hS ls hl
      have hw : fn_X6_firstOfAll_L9 (n + 1) u v1 v3 = (if ((6 : Int32)) ≤ (v3) then ((v1, u)) else (fn_X6_firstOfAll_L9 n u (fn_X0_firstOf (v1) ((u.1) (v3).toNatClampNeg)) ((v3) + 1))) := rfl
      have hk : ((((6 : Int32)) ≤ (v3)) → (True)) ∧ (¬ (((6 : Int32)) ≤ (v3)) → ((vp_in (v3) 6) ∧ (fk_X6_firstOfAll_L9 n u (fn_X0_firstOf (v1) ((u.1) (v3).toNatClampNeg)) ((v3) + 1)))) := hk
      refine lv_iload_n hx hb dc_X6_firstOfAll_9 rfl (lv_at hl 2 rfl) ?_
      refine lv_bipush (v := 6) hx hb dc_X6_firstOfAll_10 (by decide) ?_
      refine lv_icmp_ge (tgt := 32) hx hb dc_X6_firstOfAll_12 (by decide) (fun c_0 => ?_) (fun c_0 => ?_)
      · have hw := hw.trans (if_pos c_0)
        have hk := hk.1 c_0
        refine lv_lload_n hx hb dc_X6_firstOfAll_32 rfl (lv_at hl 1 rfl) ?_
        have hP9 := hP.sub (ws' := [(x, .inr (0, [.ref cs, .ref sc, .ref pf, .int (u.2.1), .int (u.2.2.1), .int (u.2.2.2)])), (cs, .inl (G.2.1 2, 6, .inr (.inl (u.1))))]) [0, 1] rfl
        have hD9 := hD.sub (ws' := [(x, .inr (0, [.ref cs, .ref sc, .ref pf, .int (u.2.1), .int (u.2.2.1), .int (u.2.2.2)])), (cs, .inl (G.2.1 2, 6, .inr (.inl (u.1))))]) [0, 1] (by decide) rfl
        refine W.widen (k := 0) (n := 0) (Nat.le_of_ble_eq_true rfl) (Nat.le_of_ble_eq_true rfl) ?_
        exact W.lret (v := v1) hx hb hr (fun t ht hW => ⟨⟨_, u, rfl, ky_pl hw, by rw [ht]; exact hP9, hD9, trivial⟩, hS.F ht⟩) hS.2.2 dc_X6_firstOfAll_33
      · have hw := hw.trans (if_neg c_0)
        have hk := hk.2 c_0
        refine lv_lload_n hx hb dc_X6_firstOfAll_15 rfl (lv_at hl 1 rfl) ?_
        refine lv_aload_n hx hb dc_X6_firstOfAll_16 rfl (lv_at hl 0 rfl) ?_
        refine va_get (D := G.1) (ci := 0) (v := .ref cs) (C := RX6) (T := TX6) (N := 6) hx hb hts ki_X6 hown hE.1 hP 0 rfl rfl 0 (by decide) (hts _ kw_1_98) (fun _ h9 => h9) rfl dc_X6_firstOfAll_17 ?_
        refine lv_iload_n hx hb dc_X6_firstOfAll_20 rfl (lv_at hl 2 rfl) ?_
        obtain ⟨hq_1, hk⟩ := hk
        refine va_lald hx hb hE.1 hP 1 2 rfl rfl hq_1 dc_X6_firstOfAll_21 ?_
        refine ky_cS0 (As := [.long (v1), .long ((u.1) (v3).toNatClampNeg)]) F (mt_X0_firstOf l (v1) ((u.1) (v3).toNatClampNeg)) ks_X6_125 ⟨⟨rfl, rfl⟩, by decide, by decide⟩ rfl hl.1 rfl (Nat.le_of_ble_eq_true rfl) ⟨Nat.le_of_ble_eq_true rfl, Nat.le_of_ble_eq_true rfl⟩ dc_X6_firstOfAll_22 ?_
        refine lv_lstore_n (lv' := [(1, .long (fn_X0_firstOf (v1) ((u.1) (v3).toNatClampNeg))), (0, .ref x), (3, .int (v3))]) hx hb dc_X6_firstOfAll_25 rfl hl (by decide) rfl (fun ls hl => ?_)
        refine lv_iinc (v := (v3) + 1) (lv' := [(3, .int ((v3) + 1)), (1, .long (fn_X0_firstOf (v1) ((u.1) (v3).toNatClampNeg))), (0, .ref x)]) hx hb dc_X6_firstOfAll_26 hl (k := 2) rfl rfl (by decide) rfl (fun ls hl => ?_)
        refine lv_goto (tgt := 9) hx hb dc_X6_firstOfAll_29 (by decide) ?_
        rw [hw]
        exact ih (fn_X0_firstOf (v1) ((u.1) (v3).toNatClampNeg)) ((v3) + 1) hk _ _ (hP.sub (ws' := [(x, .inr (0, [.ref cs, .ref sc, .ref pf, .int (u.2.1), .int (u.2.2.1), .int (u.2.2.2)])), (cs, .inl (G.2.1 2, 6, .inr (.inl (u.1))))]) [0, 1] rfl) (hD.sub (ws' := [(x, .inr (0, [.ref cs, .ref sc, .ref pf, .int (u.2.1), .int (u.2.2.1), .int (u.2.2.2)])), (cs, .inl (G.2.1 2, 6, .inr (.inl (u.1))))]) [0, 1] (by decide) rfl) hS _ (lv_sub hl [2, 1, 0] rfl)
def fn_X6_firstOfAll (u : ky_BS) : Int64 × ky_BS :=
  fn_X6_firstOfAll_L9 (7) u ((u.1) ((0 : Int32)).toNatClampNeg) ((1 : Int32))
def fk_X6_firstOfAll (u : ky_BS) : Prop :=
  (fk_X6_firstOfAll_L9 (7) u ((u.1) ((0 : Int32)).toNatClampNeg) ((1 : Int32))) ∧ True
set_option linter.constructorNameAsVariable false in
set_option maxHeartbeats 4000000 in
set_option maxRecDepth 100000 in
theorem mt_X6_firstOfAll (l : Launch) (G : ky_G) (x : Nat) (cs : Nat) (sc : Nat) (pf : Nat) (u : ky_BS)  (sz : Nat)  (hk : fk_X6_firstOfAll u) : Met l my_X6_firstOfAll (.code my_X6_firstOfAll prog_1_method_70_code 4 (some .long) :: ky_B) { frames := 3, cells := 0, slots := 0, locals := 65 } (ky_P G [.ref x] (ky_WB G x cs sc pf u) sz (fun _ => True)) (ky_Q (S := ky_BS) G (va_A (ky_WB G x cs sc pf u) sz) (fun v u9 => v = some (.long (fn_X6_firstOfAll u).1) ∧ u9 = (fn_X6_firstOfAll u).2) (fun u9 => ky_WB G x cs sc pf u9) (fun _ _ => True)) 0 0 (va_A (ky_WB G x cs sc pf u) sz) := by
  refine ky_start (by decide) (Nat.le_of_ble_eq_true rfl) (fun p e s m below meth c F hE A hAe hsz hA hfr hP hD hS hX ls hl => ?_)
  obtain ⟨hx, hb, hml, hown, hr, hlocks, hts⟩ := id F
  have hl : lv_has ls 4 [(0, .ref x)] := hl
  have hP : va_P G.1 kcl [(x, .inr (0, [.ref cs, .ref sc, .ref pf, .int (u.2.1), .int (u.2.2.1), .int (u.2.2.2)])), (cs, .inl (G.2.1 2, 6, .inr (.inl (u.1))))] s.heap := hP
  have hD : va_D A [(x, .inr (0, [.ref cs, .ref sc, .ref pf, .int (u.2.1), .int (u.2.2.1), .int (u.2.2.2)])), (cs, .inl (G.2.1 2, 6, .inr (.inl (u.1))))] := hD
  have hw : fn_X6_firstOfAll u = _ := fn_X6_firstOfAll.eq_1 u
  have hk : fk_X6_firstOfAll_L9 (7) u ((u.1) ((0 : Int32)).toNatClampNeg) ((1 : Int32)) := hk.1
  refine lv_aload_n hx hb dc_X6_firstOfAll_0 rfl (lv_at hl 0 rfl) ?_
  refine va_get (D := G.1) (ci := 0) (v := .ref cs) (C := RX6) (T := TX6) (N := 6) hx hb hts ki_X6 hown hE.1 hP 0 rfl rfl 0 (by decide) (hts _ kw_1_98) (fun _ h9 => h9) rfl dc_X6_firstOfAll_1 ?_
  refine lv_iconst (v := 0) hx hb dc_X6_firstOfAll_4 (by decide) ?_
  refine va_lald hx hb hE.1 hP 1 2 rfl rfl (vp_in_iff.mpr (by decide)) dc_X6_firstOfAll_5 ?_
  refine lv_lstore_n (lv' := [(1, .long ((u.1) ((0 : Int32)).toNatClampNeg)), (0, .ref x)]) hx hb dc_X6_firstOfAll_6 rfl hl (by decide) rfl (fun ls hl => ?_)
  refine lv_iconst (v := 1) hx hb dc_X6_firstOfAll_7 (by decide) ?_
  refine lv_istore_n (lv' := [(3, .int ((1 : Int32))), (1, .long ((u.1) ((0 : Int32)).toNatClampNeg)), (0, .ref x)]) hx hb dc_X6_firstOfAll_8 rfl hl (by decide) rfl (fun ls hl => ?_)
  rw [hw]
  exact ml_X6_firstOfAll_L9 F hE hA hfr (7) ((u.1) ((0 : Int32)).toNatClampNeg) ((1 : Int32)) hk _ _ (hP.sub (ws' := [(x, .inr (0, [.ref cs, .ref sc, .ref pf, .int (u.2.1), .int (u.2.2.1), .int (u.2.2.2)])), (cs, .inl (G.2.1 2, 6, .inr (.inl (u.1))))]) [0, 1] rfl) (hD.sub (ws' := [(x, .inr (0, [.ref cs, .ref sc, .ref pf, .int (u.2.1), .int (u.2.2.1), .int (u.2.2.2)])), (cs, .inl (G.2.1 2, 6, .inr (.inl (u.1))))]) [0, 1] (by decide) rfl) hS _ (lv_sub hl [2, 1, 0] rfl)
end
section
def fn_X6_lastOfAll_L9 : Nat → ky_BS → Int64 → Int32 → Int64 × ky_BS
  | 0, u, v1, v3 => (0, u)
  | n + 1, u, v1, v3 => if ((6 : Int32)) ≤ (v3) then ((v1, u)) else (fn_X6_lastOfAll_L9 n u (fn_X0_lastOf (v1) ((u.1) (v3).toNatClampNeg)) ((v3) + 1))
def fk_X6_lastOfAll_L9 : Nat → ky_BS → Int64 → Int32 → Prop
  | 0, _, _, _ => False
  | n + 1, u, v1, v3 => ((((6 : Int32)) ≤ (v3)) → (True)) ∧ (¬ (((6 : Int32)) ≤ (v3)) → ((vp_in (v3) 6) ∧ (fk_X6_lastOfAll_L9 n u (fn_X0_lastOf (v1) ((u.1) (v3).toNatClampNeg)) ((v3) + 1))))
set_option linter.constructorNameAsVariable false in
set_option maxHeartbeats 4000000 in
set_option maxRecDepth 100000 in
theorem ml_X6_lastOfAll_L9 {p : Program} {l : Launch} {e : Env} {s : State} {m : MethodId} {args : Array Value} {below : List Frame} {meth : Method} {c : Code} {G : ky_G} {A : Nat → Prop} {x : Nat} {cs : Nat} {sc : Nat} {pf : Nat} {u : ky_BS} (F : ky_F p s m meth c my_X6_lastOfAll.cls prog_1_method_69_code 4 (some .long) args) (hE : ky_E G s) (hA : ∀ q, s.heap.size ≤ q → A q) (hfr : ∀ q, A q → ky_fr G q) : ∀ (n : Nat) (v1 : Int64) (v3 : Int32), fk_X6_lastOfAll_L9 n u v1 v3 → ∀ (H : Heap) (locs : List Loc), va_P G.1 kcl [(x, .inr (0, [.ref cs, .ref sc, .ref pf, .int (u.2.1), .int (u.2.2.1), .int (u.2.2.2)])), (cs, .inl (G.2.1 2, 6, .inr (.inl (u.1))))] H → va_D A [(x, .inr (0, [.ref cs, .ref sc, .ref pf, .int (u.2.1), .int (u.2.2.1), .int (u.2.2.2)])), (cs, .inl (G.2.1 2, 6, .inr (.inl (u.1))))] → va_S A s.heap H locs → ∀ ls : Array Slot, lv_has ls 4 [(0, .ref x), (1, .long (v1)), (3, .int (v3))] → W p l e { frames := 3, cells := 0, slots := 0, locals := 65 } s m args below meth c H locs 0 0 (MQ below (ky_Q (S := ky_BS) G A (fun v u9 => v = some (.long (fn_X6_lastOfAll_L9 n u v1 v3).1) ∧ u9 = (fn_X6_lastOfAll_L9 n u v1 v3).2) (fun u9 => ky_WB G x cs sc pf u9) (fun _ _ => True)) args s 0 0 A) (F0 m 9 ls []) := by
  obtain ⟨hx, hb, hml, hown, hr, hlocks, hts⟩ := id F
  intro n
  induction n with
  | zero => intro v1 v3 hk; exact False.elim hk
  | succ n ih =>
      intro v1 v3 hk H locs hP hD hS ls hl
      have hw : fn_X6_lastOfAll_L9 (n + 1) u v1 v3 = (if ((6 : Int32)) ≤ (v3) then ((v1, u)) else (fn_X6_lastOfAll_L9 n u (fn_X0_lastOf (v1) ((u.1) (v3).toNatClampNeg)) ((v3) + 1))) := rfl
      have hk : ((((6 : Int32)) ≤ (v3)) → (True)) ∧ (¬ (((6 : Int32)) ≤ (v3)) → ((vp_in (v3) 6) ∧ (fk_X6_lastOfAll_L9 n u (fn_X0_lastOf (v1) ((u.1) (v3).toNatClampNeg)) ((v3) + 1)))) := hk
      refine lv_iload_n hx hb dc_X6_lastOfAll_9 rfl (lv_at hl 2 rfl) ?_
      refine lv_bipush (v := 6) hx hb dc_X6_lastOfAll_10 (by decide) ?_
      refine lv_icmp_ge (tgt := 32) hx hb dc_X6_lastOfAll_12 (by decide) (fun c_0 => ?_) (fun c_0 => ?_)
      · have hw := hw.trans (if_pos c_0)
        have hk := hk.1 c_0
        refine lv_lload_n hx hb dc_X6_lastOfAll_32 rfl (lv_at hl 1 rfl) ?_
        have hP9 := hP.sub (ws' := [(x, .inr (0, [.ref cs, .ref sc, .ref pf, .int (u.2.1), .int (u.2.2.1), .int (u.2.2.2)])), (cs, .inl (G.2.1 2, 6, .inr (.inl (u.1))))]) [0, 1] rfl
        have hD9 := hD.sub (ws' := [(x, .inr (0, [.ref cs, .ref sc, .ref pf, .int (u.2.1), .int (u.2.2.1), .int (u.2.2.2)])), (cs, .inl (G.2.1 2, 6, .inr (.inl (u.1))))]) [0, 1] (by decide) rfl
        refine W.widen (k := 0) (n := 0) (Nat.le_of_ble_eq_true rfl) (Nat.le_of_ble_eq_true rfl) ?_
        exact W.lret (v := v1) hx hb hr (fun t ht hW => ⟨⟨_, u, rfl, ky_pl hw, by rw [ht]; exact hP9, hD9, trivial⟩, hS.F ht⟩) hS.2.2 dc_X6_lastOfAll_33
      · have hw := hw.trans (if_neg c_0)
        have hk := hk.2 c_0
        refine lv_lload_n hx hb dc_X6_lastOfAll_15 rfl (lv_at hl 1 rfl) ?_
        refine lv_aload_n hx hb dc_X6_lastOfAll_16 rfl (lv_at hl 0 rfl) ?_
        refine va_get (D := G.1) (ci := 0) (v := .ref cs) (C := RX6) (T := TX6) (N := 6) hx hb hts ki_X6 hown hE.1 hP 0 rfl rfl 0 (by decide) (hts _ kw_1_98) (fun _ h9 => h9) rfl dc_X6_lastOfAll_17 ?_
        refine lv_iload_n hx hb dc_X6_lastOfAll_20 rfl (lv_at hl 2 rfl) ?_
        obtain ⟨hq_1, hk⟩ := hk
        refine va_lald hx hb hE.1 hP 1 2 rfl rfl hq_1 dc_X6_lastOfAll_21 ?_
        refine ky_cS0 (As := [.long (v1), .long ((u.1) (v3).toNatClampNeg)]) F (mt_X0_lastOf l (v1) ((u.1) (v3).toNatClampNeg)) ks_X6_122 ⟨⟨rfl, rfl⟩, by decide, by decide⟩ rfl hl.1 rfl (Nat.le_of_ble_eq_true rfl) ⟨Nat.le_of_ble_eq_true rfl, Nat.le_of_ble_eq_true rfl⟩ dc_X6_lastOfAll_22 ?_
        refine lv_lstore_n (lv' := [(1, .long (fn_X0_lastOf (v1) ((u.1) (v3).toNatClampNeg))), (0, .ref x), (3, .int (v3))]) hx hb dc_X6_lastOfAll_25 rfl hl (by decide) rfl (fun ls hl => ?_)
        refine lv_iinc (v := (v3) + 1) (lv' := [(3, .int ((v3) + 1)), (1, .long (fn_X0_lastOf (v1) ((u.1) (v3).toNatClampNeg))), (0, .ref x)]) hx hb dc_X6_lastOfAll_26 hl (k := 2) rfl rfl (by decide) rfl (fun ls hl => ?_)
        refine lv_goto (tgt := 9) hx hb dc_X6_lastOfAll_29 (by decide) ?_
        rw [hw]
        exact ih (fn_X0_lastOf (v1) ((u.1) (v3).toNatClampNeg)) ((v3) + 1) hk _ _ (hP.sub (ws' := [(x, .inr (0, [.ref cs, .ref sc, .ref pf, .int (u.2.1), .int (u.2.2.1), .int (u.2.2.2)])), (cs, .inl (G.2.1 2, 6, .inr (.inl (u.1))))]) [0, 1] rfl) (hD.sub (ws' := [(x, .inr (0, [.ref cs, .ref sc, .ref pf, .int (u.2.1), .int (u.2.2.1), .int (u.2.2.2)])), (cs, .inl (G.2.1 2, 6, .inr (.inl (u.1))))]) [0, 1] (by decide) rfl) hS _ (lv_sub hl [2, 1, 0] rfl)
def fn_X6_lastOfAll (u : ky_BS) : Int64 × ky_BS :=
  fn_X6_lastOfAll_L9 (7) u ((u.1) ((0 : Int32)).toNatClampNeg) ((1 : Int32))
def fk_X6_lastOfAll (u : ky_BS) : Prop :=
  (fk_X6_lastOfAll_L9 (7) u ((u.1) ((0 : Int32)).toNatClampNeg) ((1 : Int32))) ∧ True
set_option linter.constructorNameAsVariable false in
set_option maxHeartbeats 4000000 in
set_option maxRecDepth 100000 in
theorem mt_X6_lastOfAll (l : Launch) (G : ky_G) (x : Nat) (cs : Nat) (sc : Nat) (pf : Nat) (u : ky_BS)  (sz : Nat)  (hk : fk_X6_lastOfAll u) : Met l my_X6_lastOfAll (.code my_X6_lastOfAll prog_1_method_69_code 4 (some .long) :: ky_B) { frames := 3, cells := 0, slots := 0, locals := 65 } (ky_P G [.ref x] (ky_WB G x cs sc pf u) sz (fun _ => True)) (ky_Q (S := ky_BS) G (va_A (ky_WB G x cs sc pf u) sz) (fun v u9 => v = some (.long (fn_X6_lastOfAll u).1) ∧ u9 = (fn_X6_lastOfAll u).2) (fun u9 => ky_WB G x cs sc pf u9) (fun _ _ => True)) 0 0 (va_A (ky_WB G x cs sc pf u) sz) := by
  refine ky_start (by decide) (Nat.le_of_ble_eq_true rfl) (fun p e s m below meth c F hE A hAe hsz hA hfr hP hD hS hX ls hl => ?_)
  obtain ⟨hx, hb, hml, hown, hr, hlocks, hts⟩ := id F
  have hl : lv_has ls 4 [(0, .ref x)] := hl
  have hP : va_P G.1 kcl [(x, .inr (0, [.ref cs, .ref sc, .ref pf, .int (u.2.1), .int (u.2.2.1), .int (u.2.2.2)])), (cs, .inl (G.2.1 2, 6, .inr (.inl (u.1))))] s.heap := hP
  have hD : va_D A [(x, .inr (0, [.ref cs, .ref sc, .ref pf, .int (u.2.1), .int (u.2.2.1), .int (u.2.2.2)])), (cs, .inl (G.2.1 2, 6, .inr (.inl (u.1))))] := hD
  have hw : fn_X6_lastOfAll u = _ := fn_X6_lastOfAll.eq_1 u
  have hk : fk_X6_lastOfAll_L9 (7) u ((u.1) ((0 : Int32)).toNatClampNeg) ((1 : Int32)) := hk.1
  refine lv_aload_n hx hb dc_X6_lastOfAll_0 rfl (lv_at hl 0 rfl) ?_
  refine va_get (D := G.1) (ci := 0) (v := .ref cs) (C := RX6) (T := TX6) (N := 6) hx hb hts ki_X6 hown hE.1 hP 0 rfl rfl 0 (by decide) (hts _ kw_1_98) (fun _ h9 => h9) rfl dc_X6_lastOfAll_1 ?_
  refine lv_iconst (v := 0) hx hb dc_X6_lastOfAll_4 (by decide) ?_
  refine va_lald hx hb hE.1 hP 1 2 rfl rfl (vp_in_iff.mpr (by decide)) dc_X6_lastOfAll_5 ?_
  refine lv_lstore_n (lv' := [(1, .long ((u.1) ((0 : Int32)).toNatClampNeg)), (0, .ref x)]) hx hb dc_X6_lastOfAll_6 rfl hl (by decide) rfl (fun ls hl => ?_)
  refine lv_iconst (v := 1) hx hb dc_X6_lastOfAll_7 (by decide) ?_
  refine lv_istore_n (lv' := [(3, .int ((1 : Int32))), (1, .long ((u.1) ((0 : Int32)).toNatClampNeg)), (0, .ref x)]) hx hb dc_X6_lastOfAll_8 rfl hl (by decide) rfl (fun ls hl => ?_)
  rw [hw]
  exact ml_X6_lastOfAll_L9 F hE hA hfr (7) ((u.1) ((0 : Int32)).toNatClampNeg) ((1 : Int32)) hk _ _ (hP.sub (ws' := [(x, .inr (0, [.ref cs, .ref sc, .ref pf, .int (u.2.1), .int (u.2.2.1), .int (u.2.2.2)])), (cs, .inl (G.2.1 2, 6, .inr (.inl (u.1))))]) [0, 1] rfl) (hD.sub (ws' := [(x, .inr (0, [.ref cs, .ref sc, .ref pf, .int (u.2.1), .int (u.2.2.1), .int (u.2.2.2)])), (cs, .inl (G.2.1 2, 6, .inr (.inl (u.1))))]) [0, 1] (by decide) rfl) hS _ (lv_sub hl [2, 1, 0] rfl)
end
section
def fn_X6_placeOf_L5 : Nat → ky_BS → Int64 → Int32 → Int32 → Int32 × ky_BS
  | 0, u, u1, v3, v4 => (0, u)
  | n + 1, u, u1, v3, v4 => if ((6 : Int32)) ≤ (v4) then ((v3, u)) else (if (0 : Int32) ≤ (lg_cmp (fn_X0_rankIn ((u.1) (v4).toNatClampNeg)) (fn_X0_rankIn (u1))) then (fn_X6_placeOf_L5 n u (u1) (v3) ((v4) + 1)) else (fn_X6_placeOf_L5 n u (u1) ((v3) + 1) ((v4) + 1)))
def fk_X6_placeOf_L5 : Nat → ky_BS → Int64 → Int32 → Int32 → Prop
  | 0, _, _, _, _ => False
  | n + 1, u, u1, v3, v4 => ((((6 : Int32)) ≤ (v4)) → (True)) ∧ (¬ (((6 : Int32)) ≤ (v4)) → ((vp_in (v4) 6) ∧ ((((0 : Int32) ≤ (lg_cmp (fn_X0_rankIn ((u.1) (v4).toNatClampNeg)) (fn_X0_rankIn (u1)))) → (fk_X6_placeOf_L5 n u (u1) (v3) ((v4) + 1))) ∧ (¬ ((0 : Int32) ≤ (lg_cmp (fn_X0_rankIn ((u.1) (v4).toNatClampNeg)) (fn_X0_rankIn (u1)))) → (fk_X6_placeOf_L5 n u (u1) ((v3) + 1) ((v4) + 1))))))
set_option linter.constructorNameAsVariable false in
set_option maxHeartbeats 4000000 in
set_option maxRecDepth 100000 in
theorem ml_X6_placeOf_L5 {p : Program} {l : Launch} {e : Env} {s : State} {m : MethodId} {args : Array Value} {below : List Frame} {meth : Method} {c : Code} {G : ky_G} {A : Nat → Prop} {x : Nat} {cs : Nat} {sc : Nat} {pf : Nat} {u : ky_BS} (F : ky_F p s m meth c my_X6_placeOf.cls prog_1_method_68_code 5 (some .int) args) (hE : ky_E G s) (hA : ∀ q, s.heap.size ≤ q → A q) (hfr : ∀ q, A q → ky_fr G q) : ∀ (n : Nat) (u1 : Int64) (v3 : Int32) (v4 : Int32), fk_X6_placeOf_L5 n u u1 v3 v4 → ∀ (H : Heap) (locs : List Loc), va_P G.1 kcl [(x, .inr (0, [.ref cs, .ref sc, .ref pf, .int (u.2.1), .int (u.2.2.1), .int (u.2.2.2)])), (cs, .inl (G.2.1 2, 6, .inr (.inl (u.1))))] H → va_D A [(x, .inr (0, [.ref cs, .ref sc, .ref pf, .int (u.2.1), .int (u.2.2.1), .int (u.2.2.2)])), (cs, .inl (G.2.1 2, 6, .inr (.inl (u.1))))] → va_S A s.heap H locs → ∀ ls : Array Slot, lv_has ls 5 [(0, .ref x), (1, .long (u1)), (3, .int (v3)), (4, .int (v4))] → W p l e { frames := 2, cells := 0, slots := 0, locals := 42 } s m args below meth c H locs 0 0 (MQ below (ky_Q (S := ky_BS) G A (fun v u9 => v = some (.int (fn_X6_placeOf_L5 n u u1 v3 v4).1) ∧ u9 = (fn_X6_placeOf_L5 n u u1 v3 v4).2) (fun u9 => ky_WB G x cs sc pf u9) (fun _ _ => True)) args s 0 0 A) (F0 m 5 ls []) := by
  obtain ⟨hx, hb, hml, hown, hr, hlocks, hts⟩ := id F
  intro n
  induction n with
  | zero => intro u1 v3 v4 hk; exact False.elim hk
  | succ n ih =>
      intro u1 v3 v4 hk H locs hP hD hS ls hl
      have hw : fn_X6_placeOf_L5 (n + 1) u u1 v3 v4 = (if ((6 : Int32)) ≤ (v4) then ((v3, u)) else (if (0 : Int32) ≤ (lg_cmp (fn_X0_rankIn ((u.1) (v4).toNatClampNeg)) (fn_X0_rankIn (u1))) then (fn_X6_placeOf_L5 n u (u1) (v3) ((v4) + 1)) else (fn_X6_placeOf_L5 n u (u1) ((v3) + 1) ((v4) + 1)))) := rfl
      have hk : ((((6 : Int32)) ≤ (v4)) → (True)) ∧ (¬ (((6 : Int32)) ≤ (v4)) → ((vp_in (v4) 6) ∧ ((((0 : Int32) ≤ (lg_cmp (fn_X0_rankIn ((u.1) (v4).toNatClampNeg)) (fn_X0_rankIn (u1)))) → (fk_X6_placeOf_L5 n u (u1) (v3) ((v4) + 1))) ∧ (¬ ((0 : Int32) ≤ (lg_cmp (fn_X0_rankIn ((u.1) (v4).toNatClampNeg)) (fn_X0_rankIn (u1)))) → (fk_X6_placeOf_L5 n u (u1) ((v3) + 1) ((v4) + 1)))))) := hk
      refine lv_iload hx hb dc_X6_placeOf_5 (lv_at hl 3 rfl) ?_
      refine lv_bipush (v := 6) hx hb dc_X6_placeOf_7 (by decide) ?_
      refine lv_icmp_ge (tgt := 39) hx hb dc_X6_placeOf_9 (by decide) (fun c_0 => ?_) (fun c_0 => ?_)
      · have hw := hw.trans (if_pos c_0)
        have hk := hk.1 c_0
        refine lv_iload_n hx hb dc_X6_placeOf_39 rfl (lv_at hl 2 rfl) ?_
        have hP9 := hP.sub (ws' := [(x, .inr (0, [.ref cs, .ref sc, .ref pf, .int (u.2.1), .int (u.2.2.1), .int (u.2.2.2)])), (cs, .inl (G.2.1 2, 6, .inr (.inl (u.1))))]) [0, 1] rfl
        have hD9 := hD.sub (ws' := [(x, .inr (0, [.ref cs, .ref sc, .ref pf, .int (u.2.1), .int (u.2.2.1), .int (u.2.2.2)])), (cs, .inl (G.2.1 2, 6, .inr (.inl (u.1))))]) [0, 1] (by decide) rfl
        refine W.widen (k := 0) (n := 0) (Nat.le_of_ble_eq_true rfl) (Nat.le_of_ble_eq_true rfl) ?_
        exact W.iret (v := v3) hx hb hr (fun t ht hW => ⟨⟨_, u, rfl, ky_pi hw, by rw [ht]; exact hP9, hD9, trivial⟩, hS.F ht⟩) hS.2.2 dc_X6_placeOf_40
      · have hw := hw.trans (if_neg c_0)
        have hk := hk.2 c_0
        refine lv_aload_n hx hb dc_X6_placeOf_12 rfl (lv_at hl 0 rfl) ?_
        refine va_get (D := G.1) (ci := 0) (v := .ref cs) (C := RX6) (T := TX6) (N := 6) hx hb hts ki_X6 hown hE.1 hP 0 rfl rfl 0 (by decide) (hts _ kw_1_98) (fun _ h9 => h9) rfl dc_X6_placeOf_13 ?_
        refine lv_iload hx hb dc_X6_placeOf_16 (lv_at hl 3 rfl) ?_
        obtain ⟨hq_1, hk⟩ := hk
        refine va_lald hx hb hE.1 hP 1 2 rfl rfl hq_1 dc_X6_placeOf_18 ?_
        refine ky_cS0 (As := [.long ((u.1) (v4).toNatClampNeg)]) F (mt_X0_rankIn l ((u.1) (v4).toNatClampNeg)) ks_X6_240 ⟨⟨rfl, rfl⟩, by decide, by decide⟩ rfl hl.1 rfl (Nat.le_of_ble_eq_true rfl) ⟨Nat.le_of_ble_eq_true rfl, Nat.le_of_ble_eq_true rfl⟩ dc_X6_placeOf_19 ?_
        refine lv_lload_n hx hb dc_X6_placeOf_22 rfl (lv_at hl 1 rfl) ?_
        refine ky_cS0 (As := [.long (u1)]) F (mt_X0_rankIn l (u1)) ks_X6_240 ⟨⟨rfl, rfl⟩, by decide, by decide⟩ rfl hl.1 rfl (Nat.le_of_ble_eq_true rfl) ⟨Nat.le_of_ble_eq_true rfl, Nat.le_of_ble_eq_true rfl⟩ dc_X6_placeOf_23 ?_
        refine W.lcmp hx hb dc_X6_placeOf_26 ?_
        refine lv_if_ge (tgt := 33) hx hb dc_X6_placeOf_27 (by decide) (fun c_2 => ?_) (fun c_2 => ?_)
        · have hw := hw.trans (if_pos c_2)
          have hk := hk.1 c_2
          refine lv_iinc (v := (v4) + 1) (lv' := [(4, .int ((v4) + 1)), (0, .ref x), (1, .long (u1)), (3, .int (v3))]) hx hb dc_X6_placeOf_33 hl (k := 3) rfl rfl (by decide) rfl (fun ls hl => ?_)
          refine lv_goto (tgt := 5) hx hb dc_X6_placeOf_36 (by decide) ?_
          rw [hw]
          exact ih (u1) (v3) ((v4) + 1) hk _ _ (hP.sub (ws' := [(x, .inr (0, [.ref cs, .ref sc, .ref pf, .int (u.2.1), .int (u.2.2.1), .int (u.2.2.2)])), (cs, .inl (G.2.1 2, 6, .inr (.inl (u.1))))]) [0, 1] rfl) (hD.sub (ws' := [(x, .inr (0, [.ref cs, .ref sc, .ref pf, .int (u.2.1), .int (u.2.2.1), .int (u.2.2.2)])), (cs, .inl (G.2.1 2, 6, .inr (.inl (u.1))))]) [0, 1] (by decide) rfl) hS _ (lv_sub hl [1, 2, 3, 0] rfl)
        · have hw := hw.trans (if_neg c_2)
          have hk := hk.2 c_2
          refine lv_iinc (v := (v3) + 1) (lv' := [(3, .int ((v3) + 1)), (0, .ref x), (1, .long (u1)), (4, .int (v4))]) hx hb dc_X6_placeOf_30 hl (k := 2) rfl rfl (by decide) rfl (fun ls hl => ?_)
          refine lv_iinc (v := (v4) + 1) (lv' := [(4, .int ((v4) + 1)), (3, .int ((v3) + 1)), (0, .ref x), (1, .long (u1))]) hx hb dc_X6_placeOf_33 hl (k := 3) rfl rfl (by decide) rfl (fun ls hl => ?_)
          refine lv_goto (tgt := 5) hx hb dc_X6_placeOf_36 (by decide) ?_
          rw [hw]
          exact ih (u1) ((v3) + 1) ((v4) + 1) hk _ _ (hP.sub (ws' := [(x, .inr (0, [.ref cs, .ref sc, .ref pf, .int (u.2.1), .int (u.2.2.1), .int (u.2.2.2)])), (cs, .inl (G.2.1 2, 6, .inr (.inl (u.1))))]) [0, 1] rfl) (hD.sub (ws' := [(x, .inr (0, [.ref cs, .ref sc, .ref pf, .int (u.2.1), .int (u.2.2.1), .int (u.2.2.2)])), (cs, .inl (G.2.1 2, 6, .inr (.inl (u.1))))]) [0, 1] (by decide) rfl) hS _ (lv_sub hl [2, 3, 1, 0] rfl)
def fn_X6_placeOf (a1 : Int64) (u : ky_BS) : Int32 × ky_BS :=
  fn_X6_placeOf_L5 (7) u (a1) ((0 : Int32)) ((0 : Int32))
def fk_X6_placeOf (a1 : Int64) (u : ky_BS) : Prop :=
  (fk_X6_placeOf_L5 (7) u (a1) ((0 : Int32)) ((0 : Int32))) ∧ True
set_option linter.constructorNameAsVariable false in
set_option maxHeartbeats 4000000 in
set_option maxRecDepth 100000 in
theorem mt_X6_placeOf (l : Launch) (G : ky_G) (x : Nat) (cs : Nat) (sc : Nat) (pf : Nat) (u : ky_BS) (a1 : Int64) (sz : Nat)  (hk : fk_X6_placeOf a1 u) : Met l my_X6_placeOf (.code my_X6_placeOf prog_1_method_68_code 5 (some .int) :: ky_B) { frames := 2, cells := 0, slots := 0, locals := 42 } (ky_P G [.ref x, .long (a1)] (ky_WB G x cs sc pf u) sz (fun _ => True)) (ky_Q (S := ky_BS) G (va_A (ky_WB G x cs sc pf u) sz) (fun v u9 => v = some (.int (fn_X6_placeOf a1 u).1) ∧ u9 = (fn_X6_placeOf a1 u).2) (fun u9 => ky_WB G x cs sc pf u9) (fun _ _ => True)) 0 0 (va_A (ky_WB G x cs sc pf u) sz) := by
  refine ky_start (by decide) (Nat.le_of_ble_eq_true rfl) (fun p e s m below meth c F hE A hAe hsz hA hfr hP hD hS hX ls hl => ?_)
  obtain ⟨hx, hb, hml, hown, hr, hlocks, hts⟩ := id F
  have hl : lv_has ls 5 [(0, .ref x), (1, .long (a1))] := hl
  have hP : va_P G.1 kcl [(x, .inr (0, [.ref cs, .ref sc, .ref pf, .int (u.2.1), .int (u.2.2.1), .int (u.2.2.2)])), (cs, .inl (G.2.1 2, 6, .inr (.inl (u.1))))] s.heap := hP
  have hD : va_D A [(x, .inr (0, [.ref cs, .ref sc, .ref pf, .int (u.2.1), .int (u.2.2.1), .int (u.2.2.2)])), (cs, .inl (G.2.1 2, 6, .inr (.inl (u.1))))] := hD
  have hw : fn_X6_placeOf a1 u = _ := fn_X6_placeOf.eq_1 a1 u
  have hk : fk_X6_placeOf_L5 (7) u (a1) ((0 : Int32)) ((0 : Int32)) := hk.1
  refine lv_iconst (v := 0) hx hb dc_X6_placeOf_0 (by decide) ?_
  refine lv_istore_n (lv' := [(3, .int ((0 : Int32))), (0, .ref x), (1, .long (a1))]) hx hb dc_X6_placeOf_1 rfl hl (by decide) rfl (fun ls hl => ?_)
  refine lv_iconst (v := 0) hx hb dc_X6_placeOf_2 (by decide) ?_
  refine lv_istore (lv' := [(4, .int ((0 : Int32))), (3, .int ((0 : Int32))), (0, .ref x), (1, .long (a1))]) hx hb dc_X6_placeOf_3 hl (by decide) rfl (fun ls hl => ?_)
  rw [hw]
  exact ml_X6_placeOf_L5 F hE hA hfr (7) (a1) ((0 : Int32)) ((0 : Int32)) hk _ _ (hP.sub (ws' := [(x, .inr (0, [.ref cs, .ref sc, .ref pf, .int (u.2.1), .int (u.2.2.1), .int (u.2.2.2)])), (cs, .inl (G.2.1 2, 6, .inr (.inl (u.1))))]) [0, 1] rfl) (hD.sub (ws' := [(x, .inr (0, [.ref cs, .ref sc, .ref pf, .int (u.2.1), .int (u.2.2.1), .int (u.2.2.2)])), (cs, .inl (G.2.1 2, 6, .inr (.inl (u.1))))]) [0, 1] (by decide) rfl) hS _ (lv_sub hl [2, 3, 1, 0] rfl)
end
section
def fn_X6_countOf (a1 : Int32) (u : ky_BS) : Int32 × ky_BS :=
  if (a1) = 0 then ((u.2.1, u)) else (if (a1) = 1 then ((u.2.2.1, u)) else (if (a1) = 2 then ((u.2.2.2, u)) else (((fn_X6_countWholeOnes (u)).1, (fn_X6_countWholeOnes (u)).2))))
def fk_X6_countOf (a1 : Int32) (u : ky_BS) : Prop :=
  ((((a1) = 0) → (True)) ∧ (¬ ((a1) = 0) → ((((a1) = 1) → (True)) ∧ (¬ ((a1) = 1) → ((((a1) = 2) → (True)) ∧ (¬ ((a1) = 2) → ((fk_X6_countWholeOnes (u)) ∧ (True)))))))) ∧ True
set_option linter.constructorNameAsVariable false in
set_option maxHeartbeats 4000000 in
set_option maxRecDepth 100000 in
theorem mt_X6_countOf (l : Launch) (G : ky_G) (x : Nat) (cs : Nat) (sc : Nat) (pf : Nat) (u : ky_BS) (a1 : Int32) (sz : Nat)  (hk : fk_X6_countOf a1 u) : Met l my_X6_countOf (.code my_X6_countOf prog_1_method_62_code 2 (some .int) :: ky_B) { frames := 5, cells := 0, slots := 0, locals := 106 } (ky_P G [.ref x, .int (a1)] (ky_WB G x cs sc pf u) sz (fun _ => True)) (ky_Q (S := ky_BS) G (va_A (ky_WB G x cs sc pf u) sz) (fun v u9 => v = some (.int (fn_X6_countOf a1 u).1) ∧ u9 = (fn_X6_countOf a1 u).2) (fun u9 => ky_WB G x cs sc pf u9) (fun _ _ => True)) 0 0 (va_A (ky_WB G x cs sc pf u) sz) := by
  refine ky_start (by decide) (Nat.le_of_ble_eq_true rfl) (fun p e s m below meth c F hE A hAe hsz hA hfr hP hD hS hX ls hl => ?_)
  obtain ⟨hx, hb, hml, hown, hr, hlocks, hts⟩ := id F
  have hl : lv_has ls 2 [(0, .ref x), (1, .int (a1))] := hl
  have hP : va_P G.1 kcl [(x, .inr (0, [.ref cs, .ref sc, .ref pf, .int (u.2.1), .int (u.2.2.1), .int (u.2.2.2)])), (cs, .inl (G.2.1 2, 6, .inr (.inl (u.1))))] s.heap := hP
  have hD : va_D A [(x, .inr (0, [.ref cs, .ref sc, .ref pf, .int (u.2.1), .int (u.2.2.1), .int (u.2.2.2)])), (cs, .inl (G.2.1 2, 6, .inr (.inl (u.1))))] := hD
  have hw : fn_X6_countOf a1 u = _ := fn_X6_countOf.eq_1 a1 u
  have hk : (((a1) = 0) → (True)) ∧ (¬ ((a1) = 0) → ((((a1) = 1) → (True)) ∧ (¬ ((a1) = 1) → ((((a1) = 2) → (True)) ∧ (¬ ((a1) = 2) → ((fk_X6_countWholeOnes (u)) ∧ (True))))))) := hk.1
  refine lv_iload_n hx hb dc_X6_countOf_0 rfl (lv_at hl 1 rfl) ?_
  by_cases c_0 : (a1) = 0
  · have hw := hw.trans (if_pos c_0)
    refine lv_tableIn (off := 27) (tgt := 28) hx hb dc_X6_countOf_1 (by rw [c_0]; decide) (by rw [c_0]; decide) (by rw [c_0]; rfl) (by decide) ?_
    have hk := hk.1 c_0
    refine lv_aload_n hx hb dc_X6_countOf_28 rfl (lv_at hl 0 rfl) ?_
    refine va_get (D := G.1) (ci := 0) (v := .int (u.2.1)) (C := RX6) (T := TX6) (N := 6) hx hb hts ki_X6 hown hE.1 hP 0 rfl rfl 3 (by decide) (hts _ kw_1_101) (fun _ h9 => h9) rfl dc_X6_countOf_29 ?_
    have hP9 := hP.sub (ws' := [(x, .inr (0, [.ref cs, .ref sc, .ref pf, .int (u.2.1), .int (u.2.2.1), .int (u.2.2.2)])), (cs, .inl (G.2.1 2, 6, .inr (.inl (u.1))))]) [0, 1] rfl
    have hD9 := hD.sub (ws' := [(x, .inr (0, [.ref cs, .ref sc, .ref pf, .int (u.2.1), .int (u.2.2.1), .int (u.2.2.2)])), (cs, .inl (G.2.1 2, 6, .inr (.inl (u.1))))]) [0, 1] (by decide) rfl
    refine W.widen (k := 0) (n := 0) (Nat.le_of_ble_eq_true rfl) (Nat.le_of_ble_eq_true rfl) ?_
    exact W.iret (v := u.2.1) hx hb hr (fun t ht hW => ⟨⟨_, u, rfl, ky_pi hw, by rw [ht]; exact hP9, hD9, trivial⟩, hS.F ht⟩) hS.2.2 dc_X6_countOf_32
  have hw := hw.trans (if_neg c_0)
  have hk := hk.2 c_0
  by_cases c_1 : (a1) = 1
  · have hw := hw.trans (if_pos c_1)
    refine lv_tableIn (off := 32) (tgt := 33) hx hb dc_X6_countOf_1 (by rw [c_1]; decide) (by rw [c_1]; decide) (by rw [c_1]; rfl) (by decide) ?_
    have hk := hk.1 c_1
    refine lv_aload_n hx hb dc_X6_countOf_33 rfl (lv_at hl 0 rfl) ?_
    refine va_get (D := G.1) (ci := 0) (v := .int (u.2.2.1)) (C := RX6) (T := TX6) (N := 6) hx hb hts ki_X6 hown hE.1 hP 0 rfl rfl 4 (by decide) (hts _ kw_1_102) (fun _ h9 => h9) rfl dc_X6_countOf_34 ?_
    have hP9 := hP.sub (ws' := [(x, .inr (0, [.ref cs, .ref sc, .ref pf, .int (u.2.1), .int (u.2.2.1), .int (u.2.2.2)])), (cs, .inl (G.2.1 2, 6, .inr (.inl (u.1))))]) [0, 1] rfl
    have hD9 := hD.sub (ws' := [(x, .inr (0, [.ref cs, .ref sc, .ref pf, .int (u.2.1), .int (u.2.2.1), .int (u.2.2.2)])), (cs, .inl (G.2.1 2, 6, .inr (.inl (u.1))))]) [0, 1] (by decide) rfl
    refine W.widen (k := 0) (n := 0) (Nat.le_of_ble_eq_true rfl) (Nat.le_of_ble_eq_true rfl) ?_
    exact W.iret (v := u.2.2.1) hx hb hr (fun t ht hW => ⟨⟨_, u, rfl, ky_pi hw, by rw [ht]; exact hP9, hD9, trivial⟩, hS.F ht⟩) hS.2.2 dc_X6_countOf_37
  have hw := hw.trans (if_neg c_1)
  have hk := hk.2 c_1
  by_cases c_2 : (a1) = 2
  · have hw := hw.trans (if_pos c_2)
    refine lv_tableIn (off := 37) (tgt := 38) hx hb dc_X6_countOf_1 (by rw [c_2]; decide) (by rw [c_2]; decide) (by rw [c_2]; rfl) (by decide) ?_
    have hk := hk.1 c_2
    refine lv_aload_n hx hb dc_X6_countOf_38 rfl (lv_at hl 0 rfl) ?_
    refine va_get (D := G.1) (ci := 0) (v := .int (u.2.2.2)) (C := RX6) (T := TX6) (N := 6) hx hb hts ki_X6 hown hE.1 hP 0 rfl rfl 5 (by decide) (hts _ kw_1_103) (fun _ h9 => h9) rfl dc_X6_countOf_39 ?_
    have hP9 := hP.sub (ws' := [(x, .inr (0, [.ref cs, .ref sc, .ref pf, .int (u.2.1), .int (u.2.2.1), .int (u.2.2.2)])), (cs, .inl (G.2.1 2, 6, .inr (.inl (u.1))))]) [0, 1] rfl
    have hD9 := hD.sub (ws' := [(x, .inr (0, [.ref cs, .ref sc, .ref pf, .int (u.2.1), .int (u.2.2.1), .int (u.2.2.2)])), (cs, .inl (G.2.1 2, 6, .inr (.inl (u.1))))]) [0, 1] (by decide) rfl
    refine W.widen (k := 0) (n := 0) (Nat.le_of_ble_eq_true rfl) (Nat.le_of_ble_eq_true rfl) ?_
    exact W.iret (v := u.2.2.2) hx hb hr (fun t ht hW => ⟨⟨_, u, rfl, ky_pi hw, by rw [ht]; exact hP9, hD9, trivial⟩, hS.F ht⟩) hS.2.2 dc_X6_countOf_42
  have hw := hw.trans (if_neg c_2)
  have hk := hk.2 c_2
  refine lv_tableOut (tgt := 43) hx hb dc_X6_countOf_1 (ky_out3 c_0 c_1 c_2) (by decide) ?_
  refine lv_aload_n hx hb dc_X6_countOf_43 rfl (lv_at hl 0 rfl) ?_
  obtain ⟨hq_3, hk⟩ := hk
  refine ky_cVh (As := []) (wr := []) F (hE.at hfr hS) hfr (mt_X6_countWholeOnes l G (x) (cs) (sc) (pf) (u)  s.heap.size hq_3) kv_X6_231 ⟨⟨rfl, rfl⟩, by decide, by decide⟩ rfl hl.1 rfl (Nat.le_of_ble_eq_true rfl) ⟨Nat.le_of_ble_eq_true rfl, Nat.le_of_ble_eq_true rfl⟩ (va_recv hE.1 hP (ci := 0) (q0 := 0) rfl rfl) trivial hP hD hS hA [0, 1] [] rfl rfl (by decide) (by decide) (by decide) dc_X6_countOf_44 ?_
  rintro v9 u9 H locs ⟨rfl, rfl⟩ hP hD hS - hz hk9
  have hP : va_P G.1 kcl [(x, .inr (0, [.ref cs, .ref sc, .ref pf, .int ((fn_X6_countWholeOnes (u)).2.2.1), .int ((fn_X6_countWholeOnes (u)).2.2.2.1), .int ((fn_X6_countWholeOnes (u)).2.2.2.2)])), (cs, .inl (G.2.1 2, 6, .inr (.inl ((fn_X6_countWholeOnes (u)).2.1))))] H := hP
  have hD : va_D A [(x, .inr (0, [.ref cs, .ref sc, .ref pf, .int ((fn_X6_countWholeOnes (u)).2.2.1), .int ((fn_X6_countWholeOnes (u)).2.2.2.1), .int ((fn_X6_countWholeOnes (u)).2.2.2.2)])), (cs, .inl (G.2.1 2, 6, .inr (.inl ((fn_X6_countWholeOnes (u)).2.1))))] := hD
  refine W.widen (k := 0) (n := 0) (Nat.le_refl _) (Nat.le_refl _) ?_
  have hP9 := hP.sub (ws' := [(x, .inr (0, [.ref cs, .ref sc, .ref pf, .int ((fn_X6_countWholeOnes (u)).2.2.1), .int ((fn_X6_countWholeOnes (u)).2.2.2.1), .int ((fn_X6_countWholeOnes (u)).2.2.2.2)])), (cs, .inl (G.2.1 2, 6, .inr (.inl ((fn_X6_countWholeOnes (u)).2.1))))]) [0, 1] rfl
  have hD9 := hD.sub (ws' := [(x, .inr (0, [.ref cs, .ref sc, .ref pf, .int ((fn_X6_countWholeOnes (u)).2.2.1), .int ((fn_X6_countWholeOnes (u)).2.2.2.1), .int ((fn_X6_countWholeOnes (u)).2.2.2.2)])), (cs, .inl (G.2.1 2, 6, .inr (.inl ((fn_X6_countWholeOnes (u)).2.1))))]) [0, 1] (by decide) rfl
  refine W.widen (k := 0) (n := 0) (Nat.le_of_ble_eq_true rfl) (Nat.le_of_ble_eq_true rfl) ?_
  exact W.iret (v := (fn_X6_countWholeOnes (u)).1) hx hb hr (fun t ht hW => ⟨⟨_, (fn_X6_countWholeOnes (u)).2, rfl, ky_pi hw, by rw [ht]; exact hP9, hD9, trivial⟩, hS.F ht⟩) hS.2.2 dc_X6_countOf_47
end
section
def fn_X6_house (a1 : Int32) (u : ky_BS) : Sum String (Int32 × ky_BS) :=
  ky_b (fn_X6_requireWithin (a1) ((0 : Int32)) ((3 : Int32))) (fun r_0 w_0 => .inr ((fn_X6_countOf (a1) (u)).1, (fn_X6_countOf (a1) (u)).2))
def fk_X6_house (a1 : Int32) (u : ky_BS) : Prop :=
  ((fk_X6_countOf (a1) (u)) ∧ (True)) ∧ True
set_option linter.constructorNameAsVariable false in
set_option maxHeartbeats 4000000 in
set_option maxRecDepth 100000 in
theorem mt_X6_house (l : Launch) (hl9 : l.stackTraces = false) (G : ky_G) (x : Nat) (cs : Nat) (sc : Nat) (pf : Nat) (u : ky_BS) (a1 : Int32) (sz : Nat)  (hk : fk_X6_house a1 u) : vx_Met l my_X6_house (.code my_X6_house prog_1_method_52_code 2 (some .int) :: ky_B) { frames := 7, cells := 1, slots := 6, locals := 127 } (ky_P G [.ref x, .int (a1)] (ky_WB G x cs sc pf u) sz (fun _ => True)) (ky_Q (S := ky_BS) G (va_A (ky_WB G x cs sc pf u) sz) (fun v u9 => ∃ (r9 : Int32) (w9 : ky_BS), fn_X6_house a1 u = .inr (r9, w9) ∧ v = some (.int r9) ∧ u9 = w9) (fun u9 => ky_WB G x cs sc pf u9) (fun _ _ => True)) (ky_X G (va_A (ky_WB G x cs sc pf u) sz) (fun E => fn_X6_house a1 u = .inl E) (ky_WB G x cs sc pf u)) 1 6 (va_A (ky_WB G x cs sc pf u) sz) := by
  refine ky_startX (by decide) (Nat.le_of_ble_eq_true rfl) (fun p e s m below meth c F hno hE A hAe hsz hA hfr hP hD hS hX ls hl => ?_)
  obtain ⟨hx, hb, hml, hown, hr, hlocks, hts⟩ := id F
  have hl : lv_has ls 2 [(0, .ref x), (1, .int (a1))] := hl
  have hP : va_P G.1 kcl [(x, .inr (0, [.ref cs, .ref sc, .ref pf, .int (u.2.1), .int (u.2.2.1), .int (u.2.2.2)])), (cs, .inl (G.2.1 2, 6, .inr (.inl (u.1))))] s.heap := hP
  have hD : va_D A [(x, .inr (0, [.ref cs, .ref sc, .ref pf, .int (u.2.1), .int (u.2.2.1), .int (u.2.2.2)])), (cs, .inl (G.2.1 2, 6, .inr (.inl (u.1))))] := hD
  have hw : fn_X6_house a1 u = _ := fn_X6_house.eq_1 a1 u
  have hk : (fk_X6_countOf (a1) (u)) ∧ (True) := hk.1
  refine lv_iload_n hx hb dc_X6_house_0 rfl (lv_at hl 1 rfl) ?_
  refine lv_iconst (v := 0) hx hb dc_X6_house_1 (by decide) ?_
  refine lv_iconst (v := 3) hx hb dc_X6_house_2 (by decide) ?_
  refine ky_cSx (As := [.int (a1), .int ((0 : Int32)), .int ((3 : Int32))]) (wr := [(x, .inr (0, [.ref cs, .ref sc, .ref pf, .int (u.2.1), .int (u.2.2.1), .int (u.2.2.2)])), (cs, .inl (G.2.1 2, 6, .inr (.inl (u.1))))]) F (hE.at hfr hS) hfr (mt_X6_requireWithin l hl9 G  (a1) ((0 : Int32)) ((3 : Int32)) s.heap.size ) ks_X6_55 ⟨⟨rfl, rfl⟩, by decide, by decide⟩ rfl hl.1 rfl (Nat.le_of_ble_eq_true rfl) ⟨Nat.le_of_ble_eq_true rfl, Nat.le_of_ble_eq_true rfl⟩ trivial hP hD hS hA [] [0, 1] rfl rfl (by decide) (by decide) (by decide) dc_X6_house_3 ?_ ?_
  · intro E ce q9 H locs hp hP hD hS hz hk9 hc1 hc2 hc3
    have hP9 := hP.sub (ws' := [(x, .inr (0, [.ref cs, .ref sc, .ref pf, .int (u.2.1), .int (u.2.2.1), .int (u.2.2.2)])), (cs, .inl (G.2.1 2, 6, .inr (.inl (u.1))))]) [0, 1] rfl
    have hD9 := hD.sub (ws' := [(x, .inr (0, [.ref cs, .ref sc, .ref pf, .int (u.2.1), .int (u.2.2.1), .int (u.2.2.2)])), (cs, .inl (G.2.1 2, 6, .inr (.inl (u.1))))]) [0, 1] (by decide) rfl
    exact vx_out (fun x h => (hno x h).elim) hlocks hc1 hc2 hc3 (fun t ht hW => ⟨hw.trans (ky_bl hp), by rw [ht]; exact hP9, hD9, hS.F ht⟩) hS.2.2 (Nat.le_of_ble_eq_true rfl) (Nat.le_of_ble_eq_true rfl)
  · rintro v9 u9 H locs ⟨r_0, w_0, hf_0, rfl, rfl⟩ hP hD hS - hz hk9
    have hw := hw.trans (ky_br hf_0)
    have hP : va_P G.1 kcl [(x, .inr (0, [.ref cs, .ref sc, .ref pf, .int (u.2.1), .int (u.2.2.1), .int (u.2.2.2)])), (cs, .inl (G.2.1 2, 6, .inr (.inl (u.1))))] H := hP
    have hD : va_D A [(x, .inr (0, [.ref cs, .ref sc, .ref pf, .int (u.2.1), .int (u.2.2.1), .int (u.2.2.2)])), (cs, .inl (G.2.1 2, 6, .inr (.inl (u.1))))] := hD
    refine W.widen (k := 1) (n := 6) (Nat.le_refl _) (Nat.le_refl _) ?_
    refine lv_aload_n hx hb dc_X6_house_6 rfl (lv_at hl 0 rfl) ?_
    refine lv_iload_n hx hb dc_X6_house_7 rfl (lv_at hl 1 rfl) ?_
    obtain ⟨hq_1, hk⟩ := hk
    refine ky_cVh (As := [.int (a1)]) (wr := []) F (hE.at hfr hS) hfr (mt_X6_countOf l G (x) (cs) (sc) (pf) (u) (a1) H.size hq_1) kv_X6_189 ⟨⟨rfl, rfl⟩, by decide, by decide⟩ rfl hl.1 rfl (Nat.le_of_ble_eq_true rfl) ⟨Nat.le_of_ble_eq_true rfl, Nat.le_of_ble_eq_true rfl⟩ (va_recv hE.1 hP (ci := 0) (q0 := 0) rfl rfl) trivial hP hD hS hA [0, 1] [] rfl rfl (by decide) (by decide) (by decide) dc_X6_house_8 ?_
    rintro v9 u9 H locs ⟨rfl, rfl⟩ hP hD hS - hz hk9
    have hP : va_P G.1 kcl [(x, .inr (0, [.ref cs, .ref sc, .ref pf, .int ((fn_X6_countOf (a1) (u)).2.2.1), .int ((fn_X6_countOf (a1) (u)).2.2.2.1), .int ((fn_X6_countOf (a1) (u)).2.2.2.2)])), (cs, .inl (G.2.1 2, 6, .inr (.inl ((fn_X6_countOf (a1) (u)).2.1))))] H := hP
    have hD : va_D A [(x, .inr (0, [.ref cs, .ref sc, .ref pf, .int ((fn_X6_countOf (a1) (u)).2.2.1), .int ((fn_X6_countOf (a1) (u)).2.2.2.1), .int ((fn_X6_countOf (a1) (u)).2.2.2.2)])), (cs, .inl (G.2.1 2, 6, .inr (.inl ((fn_X6_countOf (a1) (u)).2.1))))] := hD
    refine W.widen (k := 1) (n := 6) (Nat.le_refl _) (Nat.le_refl _) ?_
    have hP9 := hP.sub (ws' := [(x, .inr (0, [.ref cs, .ref sc, .ref pf, .int ((fn_X6_countOf (a1) (u)).2.2.1), .int ((fn_X6_countOf (a1) (u)).2.2.2.1), .int ((fn_X6_countOf (a1) (u)).2.2.2.2)])), (cs, .inl (G.2.1 2, 6, .inr (.inl ((fn_X6_countOf (a1) (u)).2.1))))]) [0, 1] rfl
    have hD9 := hD.sub (ws' := [(x, .inr (0, [.ref cs, .ref sc, .ref pf, .int ((fn_X6_countOf (a1) (u)).2.2.1), .int ((fn_X6_countOf (a1) (u)).2.2.2.1), .int ((fn_X6_countOf (a1) (u)).2.2.2.2)])), (cs, .inl (G.2.1 2, 6, .inr (.inl ((fn_X6_countOf (a1) (u)).2.1))))]) [0, 1] (by decide) rfl
    refine W.widen (k := 1) (n := 6) (Nat.le_of_ble_eq_true rfl) (Nat.le_of_ble_eq_true rfl) ?_
    refine vx_ret ?_
    exact W.iret (v := (fn_X6_countOf (a1) (u)).1) hx hb hr (fun t ht hW => ⟨⟨_, (fn_X6_countOf (a1) (u)).2, rfl, ⟨(fn_X6_countOf (a1) (u)).1, (fn_X6_countOf (a1) (u)).2, hw, rfl, rfl⟩, by rw [ht]; exact hP9, hD9, trivial⟩, hS.F ht⟩) hS.2.2 dc_X6_house_11
end
section
def fn_X6_place (a1 : Int32) (u : ky_BS) : Sum String (Int32 × ky_BS) :=
  ky_b (fn_X6_requireCell (a1)) (fun r_0 w_0 => .inr ((fn_X6_placeOf ((u.1) (a1).toNatClampNeg) (u)).1, (fn_X6_placeOf ((u.1) (a1).toNatClampNeg) (u)).2))
def fk_X6_place (a1 : Int32) (u : ky_BS) : Prop :=
  ((fk_X6_placeOf ((u.1) (a1).toNatClampNeg) (u)) ∧ (True)) ∧ True
set_option linter.constructorNameAsVariable false in
set_option maxHeartbeats 4000000 in
set_option maxRecDepth 100000 in
theorem mt_X6_place (l : Launch) (hl9 : l.stackTraces = false) (G : ky_G) (x : Nat) (cs : Nat) (sc : Nat) (pf : Nat) (u : ky_BS) (a1 : Int32) (sz : Nat)  (hk : fk_X6_place a1 u) : vx_Met l my_X6_place (.code my_X6_place prog_1_method_41_code 2 (some .int) :: ky_B) { frames := 7, cells := 1, slots := 6, locals := 102 } (ky_P G [.ref x, .int (a1)] (ky_WB G x cs sc pf u) sz (fun _ => True)) (ky_Q (S := ky_BS) G (va_A (ky_WB G x cs sc pf u) sz) (fun v u9 => ∃ (r9 : Int32) (w9 : ky_BS), fn_X6_place a1 u = .inr (r9, w9) ∧ v = some (.int r9) ∧ u9 = w9) (fun u9 => ky_WB G x cs sc pf u9) (fun _ _ => True)) (ky_X G (va_A (ky_WB G x cs sc pf u) sz) (fun E => fn_X6_place a1 u = .inl E) (ky_WB G x cs sc pf u)) 1 6 (va_A (ky_WB G x cs sc pf u) sz) := by
  refine ky_startX (by decide) (Nat.le_of_ble_eq_true rfl) (fun p e s m below meth c F hno hE A hAe hsz hA hfr hP hD hS hX ls hl => ?_)
  obtain ⟨hx, hb, hml, hown, hr, hlocks, hts⟩ := id F
  have hl : lv_has ls 2 [(0, .ref x), (1, .int (a1))] := hl
  have hP : va_P G.1 kcl [(x, .inr (0, [.ref cs, .ref sc, .ref pf, .int (u.2.1), .int (u.2.2.1), .int (u.2.2.2)])), (cs, .inl (G.2.1 2, 6, .inr (.inl (u.1))))] s.heap := hP
  have hD : va_D A [(x, .inr (0, [.ref cs, .ref sc, .ref pf, .int (u.2.1), .int (u.2.2.1), .int (u.2.2.2)])), (cs, .inl (G.2.1 2, 6, .inr (.inl (u.1))))] := hD
  have hw : fn_X6_place a1 u = _ := fn_X6_place.eq_1 a1 u
  have hk : (fk_X6_placeOf ((u.1) (a1).toNatClampNeg) (u)) ∧ (True) := hk.1
  refine lv_iload_n hx hb dc_X6_place_0 rfl (lv_at hl 1 rfl) ?_
  refine ky_cSx (As := [.int (a1)]) (wr := [(x, .inr (0, [.ref cs, .ref sc, .ref pf, .int (u.2.1), .int (u.2.2.1), .int (u.2.2.2)])), (cs, .inl (G.2.1 2, 6, .inr (.inl (u.1))))]) F (hE.at hfr hS) hfr (mt_X6_requireCell l hl9 G  (a1) s.heap.size ) ks_X6_27 ⟨⟨rfl, rfl⟩, by decide, by decide⟩ rfl hl.1 rfl (Nat.le_of_ble_eq_true rfl) ⟨Nat.le_of_ble_eq_true rfl, Nat.le_of_ble_eq_true rfl⟩ trivial hP hD hS hA [] [0, 1] rfl rfl (by decide) (by decide) (by decide) dc_X6_place_1 ?_ ?_
  · intro E ce q9 H locs hp hP hD hS hz hk9 hc1 hc2 hc3
    have hP9 := hP.sub (ws' := [(x, .inr (0, [.ref cs, .ref sc, .ref pf, .int (u.2.1), .int (u.2.2.1), .int (u.2.2.2)])), (cs, .inl (G.2.1 2, 6, .inr (.inl (u.1))))]) [0, 1] rfl
    have hD9 := hD.sub (ws' := [(x, .inr (0, [.ref cs, .ref sc, .ref pf, .int (u.2.1), .int (u.2.2.1), .int (u.2.2.2)])), (cs, .inl (G.2.1 2, 6, .inr (.inl (u.1))))]) [0, 1] (by decide) rfl
    exact vx_out (fun x h => (hno x h).elim) hlocks hc1 hc2 hc3 (fun t ht hW => ⟨hw.trans (ky_bl hp), by rw [ht]; exact hP9, hD9, hS.F ht⟩) hS.2.2 (Nat.le_of_ble_eq_true rfl) (Nat.le_of_ble_eq_true rfl)
  · rintro v9 u9 H locs ⟨r_0, w_0, hf_0, rfl, rfl⟩ hP hD hS - hz hk9
    have hw := hw.trans (ky_br hf_0)
    have hP : va_P G.1 kcl [(x, .inr (0, [.ref cs, .ref sc, .ref pf, .int (u.2.1), .int (u.2.2.1), .int (u.2.2.2)])), (cs, .inl (G.2.1 2, 6, .inr (.inl (u.1))))] H := hP
    have hD : va_D A [(x, .inr (0, [.ref cs, .ref sc, .ref pf, .int (u.2.1), .int (u.2.2.1), .int (u.2.2.2)])), (cs, .inl (G.2.1 2, 6, .inr (.inl (u.1))))] := hD
    refine W.widen (k := 1) (n := 6) (Nat.le_refl _) (Nat.le_refl _) ?_
    refine lv_aload_n hx hb dc_X6_place_4 rfl (lv_at hl 0 rfl) ?_
    refine lv_aload_n hx hb dc_X6_place_5 rfl (lv_at hl 0 rfl) ?_
    refine va_get (D := G.1) (ci := 0) (v := .ref cs) (C := RX6) (T := TX6) (N := 6) hx hb hts ki_X6 hown hE.1 hP 0 rfl rfl 0 (by decide) (hts _ kw_1_98) (fun _ h9 => h9) rfl dc_X6_place_6 ?_
    refine lv_iload_n hx hb dc_X6_place_9 rfl (lv_at hl 1 rfl) ?_
    refine va_lald hx hb hE.1 hP 1 2 rfl rfl (rq_cell hf_0) dc_X6_place_10 ?_
    obtain ⟨hq_1, hk⟩ := hk
    refine ky_cVh (As := [.long ((u.1) (a1).toNatClampNeg)]) (wr := []) F (hE.at hfr hS) hfr (mt_X6_placeOf l G (x) (cs) (sc) (pf) (u) ((u.1) (a1).toNatClampNeg) H.size hq_1) kv_X6_176 ⟨⟨rfl, rfl⟩, by decide, by decide⟩ rfl hl.1 rfl (Nat.le_of_ble_eq_true rfl) ⟨Nat.le_of_ble_eq_true rfl, Nat.le_of_ble_eq_true rfl⟩ (va_recv hE.1 hP (ci := 0) (q0 := 0) rfl rfl) trivial hP hD hS hA [0, 1] [] rfl rfl (by decide) (by decide) (by decide) dc_X6_place_11 ?_
    rintro v9 u9 H locs ⟨rfl, rfl⟩ hP hD hS - hz hk9
    have hP : va_P G.1 kcl [(x, .inr (0, [.ref cs, .ref sc, .ref pf, .int ((fn_X6_placeOf ((u.1) (a1).toNatClampNeg) (u)).2.2.1), .int ((fn_X6_placeOf ((u.1) (a1).toNatClampNeg) (u)).2.2.2.1), .int ((fn_X6_placeOf ((u.1) (a1).toNatClampNeg) (u)).2.2.2.2)])), (cs, .inl (G.2.1 2, 6, .inr (.inl ((fn_X6_placeOf ((u.1) (a1).toNatClampNeg) (u)).2.1))))] H := hP
    have hD : va_D A [(x, .inr (0, [.ref cs, .ref sc, .ref pf, .int ((fn_X6_placeOf ((u.1) (a1).toNatClampNeg) (u)).2.2.1), .int ((fn_X6_placeOf ((u.1) (a1).toNatClampNeg) (u)).2.2.2.1), .int ((fn_X6_placeOf ((u.1) (a1).toNatClampNeg) (u)).2.2.2.2)])), (cs, .inl (G.2.1 2, 6, .inr (.inl ((fn_X6_placeOf ((u.1) (a1).toNatClampNeg) (u)).2.1))))] := hD
    refine W.widen (k := 1) (n := 6) (Nat.le_refl _) (Nat.le_refl _) ?_
    have hP9 := hP.sub (ws' := [(x, .inr (0, [.ref cs, .ref sc, .ref pf, .int ((fn_X6_placeOf ((u.1) (a1).toNatClampNeg) (u)).2.2.1), .int ((fn_X6_placeOf ((u.1) (a1).toNatClampNeg) (u)).2.2.2.1), .int ((fn_X6_placeOf ((u.1) (a1).toNatClampNeg) (u)).2.2.2.2)])), (cs, .inl (G.2.1 2, 6, .inr (.inl ((fn_X6_placeOf ((u.1) (a1).toNatClampNeg) (u)).2.1))))]) [0, 1] rfl
    have hD9 := hD.sub (ws' := [(x, .inr (0, [.ref cs, .ref sc, .ref pf, .int ((fn_X6_placeOf ((u.1) (a1).toNatClampNeg) (u)).2.2.1), .int ((fn_X6_placeOf ((u.1) (a1).toNatClampNeg) (u)).2.2.2.1), .int ((fn_X6_placeOf ((u.1) (a1).toNatClampNeg) (u)).2.2.2.2)])), (cs, .inl (G.2.1 2, 6, .inr (.inl ((fn_X6_placeOf ((u.1) (a1).toNatClampNeg) (u)).2.1))))]) [0, 1] (by decide) rfl
    refine W.widen (k := 1) (n := 6) (Nat.le_of_ble_eq_true rfl) (Nat.le_of_ble_eq_true rfl) ?_
    refine vx_ret ?_
    exact W.iret (v := (fn_X6_placeOf ((u.1) (a1).toNatClampNeg) (u)).1) hx hb hr (fun t ht hW => ⟨⟨_, (fn_X6_placeOf ((u.1) (a1).toNatClampNeg) (u)).2, rfl, ⟨(fn_X6_placeOf ((u.1) (a1).toNatClampNeg) (u)).1, (fn_X6_placeOf ((u.1) (a1).toNatClampNeg) (u)).2, hw, rfl, rfl⟩, by rw [ht]; exact hP9, hD9, trivial⟩, hS.F ht⟩) hS.2.2 dc_X6_place_14
end
