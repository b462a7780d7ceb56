def fn_X9_quarters (a1 : Int32) (a2 : Int32)  (w : ky_MV) : Int32 × ky_MV :=
  if (jst (fn_X9_isNo (a1))) = (0 : Int32) then (if (0 : Int32) ≤ (a2) then (if (0 : Int32) ≤ (a2) then (((fn_X9_give (a1) (fn_X9_one ((0 : Int32)), fn_X9_nearest ((a2).toInt64) ((-2 : Int64))) (jst (fn_X9_isNo (a1)), w.2.1, w.2.2.1, w.2.2.2.1, w.2.2.2.2)).1, ((fn_X9_give (a1) (fn_X9_one ((0 : Int32)), fn_X9_nearest ((a2).toInt64) ((-2 : Int64))) (jst (fn_X9_isNo (a1)), w.2.1, w.2.2.1, w.2.2.2.1, w.2.2.2.2)).2))) else (((fn_X9_give (a1) (fn_X9_one ((0 : Int32)), fn_X9_nearest (-((a2).toInt64)) ((-2 : Int64))) (jst (fn_X9_isNo (a1)), w.2.1, w.2.2.1, w.2.2.2.1, w.2.2.2.2)).1, ((fn_X9_give (a1) (fn_X9_one ((0 : Int32)), fn_X9_nearest (-((a2).toInt64)) ((-2 : Int64))) (jst (fn_X9_isNo (a1)), w.2.1, w.2.2.1, w.2.2.2.1, w.2.2.2.2)).2)))) else (if (0 : Int32) ≤ (a2) then (((fn_X9_give (a1) (fn_X9_one ((1 : Int32)), fn_X9_nearest ((a2).toInt64) ((-2 : Int64))) (jst (fn_X9_isNo (a1)), w.2.1, w.2.2.1, w.2.2.2.1, w.2.2.2.2)).1, ((fn_X9_give (a1) (fn_X9_one ((1 : Int32)), fn_X9_nearest ((a2).toInt64) ((-2 : Int64))) (jst (fn_X9_isNo (a1)), w.2.1, w.2.2.1, w.2.2.2.1, w.2.2.2.2)).2))) else (((fn_X9_give (a1) (fn_X9_one ((1 : Int32)), fn_X9_nearest (-((a2).toInt64)) ((-2 : Int64))) (jst (fn_X9_isNo (a1)), w.2.1, w.2.2.1, w.2.2.2.1, w.2.2.2.2)).1, ((fn_X9_give (a1) (fn_X9_one ((1 : Int32)), fn_X9_nearest (-((a2).toInt64)) ((-2 : Int64))) (jst (fn_X9_isNo (a1)), w.2.1, w.2.2.1, w.2.2.2.1, w.2.2.2.2)).2))))) else (((0 : Int32), (jst (fn_X9_isNo (a1)), w.2.1, w.2.2.1, w.2.2.2.1, w.2.2.2.2)))
def fk_X9_quarters (a1 : Int32) (a2 : Int32)  (w : ky_MV) : Prop :=
  ((((jst (fn_X9_isNo (a1))) = (0 : Int32)) → ((((0 : Int32) ≤ (a2)) → ((((0 : Int32) ≤ (a2)) → ((fk_X9_nearest ((a2).toInt64) ((-2 : Int64))) ∧ (True))) ∧ (¬ ((0 : Int32) ≤ (a2)) → ((fk_X9_nearest (-((a2).toInt64)) ((-2 : Int64))) ∧ (True))))) ∧ (¬ ((0 : Int32) ≤ (a2)) → ((((0 : Int32) ≤ (a2)) → ((fk_X9_nearest ((a2).toInt64) ((-2 : Int64))) ∧ (True))) ∧ (¬ ((0 : Int32) ≤ (a2)) → ((fk_X9_nearest (-((a2).toInt64)) ((-2 : Int64))) ∧ (True))))))) ∧ (¬ ((jst (fn_X9_isNo (a1))) = (0 : Int32)) → (True))) ∧ True
set_option linter.constructorNameAsVariable false in
set_option maxHeartbeats 4000000 in
set_option maxRecDepth 100000 in
theorem mt_X9_quarters (l : Launch) (G : ky_G) (mo cs : Nat) (N : Nat → Prop) (w : ky_MV) (f : Nat → Option Nat)    (a1 : Int32) (a2 : Int32) (sz : Nat) (hk : fk_X9_quarters a1 a2 w) : Met l my_X9_quarters (.code my_X9_quarters prog_10_method_14_code 3 (some .int) :: ky_B) { frames := 6, cells := 1, slots := 2, locals := 127 } (ky_P G [.ref mo, .int (a1), .int (a2)] (ky_WM G mo cs w f) sz (fun H => ky_IT G mo cs N f w.2.2.2.2 H)) (ky_Q (S := ky_MV × (Nat → Option Nat)) G (va_A (ky_WM G mo cs w f) sz) (fun v u => v = some (.int (fn_X9_quarters a1 a2 w).1) ∧ u.1 = (fn_X9_quarters a1 a2 w).2) (fun u => ky_WM G mo cs u.1 u.2) (fun u H => ky_IT G mo cs N u.2 u.1.2.2.2.2 H)) 1 2 (va_A (ky_WM G mo cs w f) sz) := by
  refine ky_start (by decide) (Nat.le_of_ble_eq_true rfl) (fun p e s m below meth c F hE A hAe hsz hA hfr hP hD hS hX ls hl => ?_)
  obtain ⟨hx, hb, hml, hown, hr, hlocks, hts⟩ := id F
  have hIT0 := hX
  have hIT := hIT0
  have hl : lv_has ls 3 [(0, .ref mo), (1, .int (a1)), (2, .int (a2))] := hl
  have hP : va_P G.1 kcl [(mo, .inr (5, [.int (w.1), .ref cs, .int (w.2.1), .int (w.2.2.1), .int (w.2.2.2.1)])), (cs, .inl (G.2.1 3, 6, .inr (.inr (.inr (.inr (f))))))] s.heap := hP
  have hD : va_D A [(mo, .inr (5, [.int (w.1), .ref cs, .int (w.2.1), .int (w.2.2.1), .int (w.2.2.2.1)])), (cs, .inl (G.2.1 3, 6, .inr (.inr (.inr (.inr (f))))))] := hD
  have hw : fn_X9_quarters a1 a2 w = _ := fn_X9_quarters.eq_1 a1 a2 w
  have hk : (((jst (fn_X9_isNo (a1))) = (0 : Int32)) → ((((0 : Int32) ≤ (a2)) → ((((0 : Int32) ≤ (a2)) → ((fk_X9_nearest ((a2).toInt64) ((-2 : Int64))) ∧ (True))) ∧ (¬ ((0 : Int32) ≤ (a2)) → ((fk_X9_nearest (-((a2).toInt64)) ((-2 : Int64))) ∧ (True))))) ∧ (¬ ((0 : Int32) ≤ (a2)) → ((((0 : Int32) ≤ (a2)) → ((fk_X9_nearest ((a2).toInt64) ((-2 : Int64))) ∧ (True))) ∧ (¬ ((0 : Int32) ≤ (a2)) → ((fk_X9_nearest (-((a2).toInt64)) ((-2 : Int64))) ∧ (True))))))) ∧ (¬ ((jst (fn_X9_isNo (a1))) = (0 : Int32)) → (True)) := hk.1
  refine lv_aload_n hx hb dc_X9_quarters_0 rfl (lv_at hl 0 rfl) ?_
  refine lv_iload_n hx hb dc_X9_quarters_1 rfl (lv_at hl 1 rfl) ?_
  refine ky_cS0 (As := [.int (a1)]) F (mt_X9_isNo l (a1)) ks_X9_51 ⟨⟨rfl, rfl⟩, by decide, by decide⟩ rfl hl.1 rfl (Nat.le_of_ble_eq_true rfl) ⟨Nat.le_of_ble_eq_true rfl, Nat.le_of_ble_eq_true rfl⟩ dc_X9_quarters_2 ?_
  refine ky_cVh (As := [.int (fn_X9_isNo (a1))]) (wr := []) F (hE.at hfr hS) hfr (mt_X9_startJ l G (mo) (cs) ((w.1, w.2.1, w.2.2.1, w.2.2.2.1)) (f) (fn_X9_isNo (a1)) s.heap.size ) kv_X9_55 ⟨⟨rfl, rfl⟩, by decide, by decide⟩ rfl hl.1 rfl (Nat.le_of_ble_eq_true rfl) ⟨Nat.le_of_ble_eq_true rfl, Nat.le_of_ble_eq_true rfl⟩ (va_recv hE.1 hP (ci := 5) (q0 := 0) rfl rfl) trivial hP hD hS hA [0, 1] [] rfl rfl (by decide) (by decide) (by decide) dc_X9_quarters_5 ?_
  rintro v9 u9 H locs ⟨rfl, rfl⟩ hP hD hS - hz hk9
  obtain ⟨j_1, hj_1⟩ : ∃ j9, j9 = jst (fn_X9_isNo (a1)) := ⟨_, rfl⟩
  rw [← hj_1] at hP hD ⊢
  try rw [← hj_1] at hw
  try rw [← hj_1] at hk
  have hP : va_P G.1 kcl [(mo, .inr (5, [.int (j_1), .ref cs, .int (w.2.1), .int (w.2.2.1), .int (w.2.2.2.1)])), (cs, .inl (G.2.1 3, 6, .inr (.inr (.inr (.inr (f))))))] H := hP
  have hD : va_D A [(mo, .inr (5, [.int (j_1), .ref cs, .int (w.2.1), .int (w.2.2.1), .int (w.2.2.2.1)])), (cs, .inl (G.2.1 3, 6, .inr (.inr (.inr (.inr (f))))))] := hD
  have hIT := hIT0.ro hAe hS
  refine W.widen (k := 0) (n := 0) (Nat.le_refl _) (Nat.le_refl _) ?_
  refine lv_if_eq (tgt := 15) hx hb dc_X9_quarters_8 (by decide) (fun c_2 => ?_) (fun c_2 => ?_)
  · have hw := hw.trans (if_pos c_2)
    have hk := hk.1 c_2
    refine lv_aload_n hx hb dc_X9_quarters_15 rfl (lv_at hl 0 rfl) ?_
    refine lv_iload_n hx hb dc_X9_quarters_16 rfl (lv_at hl 1 rfl) ?_
    refine va_new (ci := 4) (fs := [.int (0), .long (0)]) (C := RX8) (T := TX8) (N := 2) hx hb hts ki_X8 tyX8 tyX8_ok hown (hts _ kw_6_3) (hts _ kw_6_5) (hts _ kw_1_9) hE.1 hP hD hS hA rfl (fun j hj => by rcases (show j = 0 ∨ j = 1 by omega) with rfl | rfl <;> rfl) (Nat.le_of_ble_eq_true rfl) (Nat.le_of_ble_eq_true rfl) dc_X9_quarters_17 (fun q_3 H hP hD hS => ?_)
    have hP : va_P G.1 kcl [(mo, .inr (5, [.int (j_1), .ref cs, .int (w.2.1), .int (w.2.2.1), .int (w.2.2.2.1)])), (cs, .inl (G.2.1 3, 6, .inr (.inr (.inr (.inr (f)))))), (q_3, .inr (4, [.int (0), .long (0)]))] H := hP
    have hD : va_D A [(mo, .inr (5, [.int (j_1), .ref cs, .int (w.2.1), .int (w.2.2.1), .int (w.2.2.2.1)])), (cs, .inl (G.2.1 3, 6, .inr (.inr (.inr (.inr (f)))))), (q_3, .inr (4, [.int (0), .long (0)]))] := hD
    have hIT := hIT0.ro hAe hS
    refine W.widen (k := 1) (n := 2) (Nat.le_refl _) (Nat.le_refl _) ?_
    refine lv_dup hx hb dc_X9_quarters_20 rfl ?_
    refine lv_iload_n hx hb dc_X9_quarters_21 rfl (lv_at hl 2 rfl) ?_
    refine lv_if_ge (tgt := 29) hx hb dc_X9_quarters_22 (by decide) (fun c_4 => ?_) (fun c_4 => ?_)
    · have hw := hw.trans (if_pos c_4)
      have hk := hk.1 c_4
      refine lv_iconst (v := 0) hx hb dc_X9_quarters_29 (by decide) ?_
      refine ky_cS0 (As := [.int ((0 : Int32))]) F (mt_X9_one l ((0 : Int32))) ks_X9_59 ⟨⟨rfl, rfl⟩, by decide, by decide⟩ rfl hl.1 rfl (Nat.le_of_ble_eq_true rfl) ⟨Nat.le_of_ble_eq_true rfl, Nat.le_of_ble_eq_true rfl⟩ dc_X9_quarters_30 ?_
      refine lv_iload_n hx hb dc_X9_quarters_33 rfl (lv_at hl 2 rfl) ?_
      refine lv_if_ge (tgt := 43) hx hb dc_X9_quarters_34 (by decide) (fun c_5 => ?_) (fun c_5 => ?_)
      · have hw := hw.trans (if_pos c_5)
        have hk := hk.1 c_5
        refine lv_iload_n hx hb dc_X9_quarters_43 rfl (lv_at hl 2 rfl) ?_
        refine lv_i2l (v := (a2).toInt64) hx hb dc_X9_quarters_44 rfl ?_
        refine lv_ldc2 (v := (-2)) hx hb hown (hts _ kw_6_104) dc_X9_quarters_45 ?_
        obtain ⟨hq_6, hk⟩ := hk
        refine ky_cS0 (As := [.long ((a2).toInt64), .long ((-2 : Int64))]) F (mt_X9_nearest l ((a2).toInt64) ((-2 : Int64)) hq_6) ks_X9_69 ⟨⟨rfl, rfl⟩, by decide, by decide⟩ rfl hl.1 rfl (Nat.le_of_ble_eq_true rfl) ⟨Nat.le_of_ble_eq_true rfl, Nat.le_of_ble_eq_true rfl⟩ dc_X9_quarters_48 ?_
        refine ky_cIh (As := [.int (fn_X9_one ((0 : Int32))), .long (fn_X9_nearest ((a2).toInt64) ((-2 : Int64)))]) (wr := [(mo, .inr (5, [.int (j_1), .ref cs, .int (w.2.1), .int (w.2.2.1), .int (w.2.2.2.1)])), (cs, .inl (G.2.1 3, 6, .inr (.inr (.inr (.inr (f))))))]) F (hE.at hfr hS) hfr (mt_X8_init l G (q_3) (fn_X9_one ((0 : Int32))) (fn_X9_nearest ((a2).toInt64) ((-2 : Int64))) H.size ) kI_X9_29 ⟨⟨rfl, rfl⟩, by decide, by decide⟩ rfl hl.1 rfl (Nat.le_of_ble_eq_true rfl) ⟨Nat.le_of_ble_eq_true rfl, Nat.le_of_ble_eq_true rfl⟩ trivial hP hD hS hA [2] [0, 1] rfl rfl (by decide) (by decide) (by decide) dc_X9_quarters_51 ?_
        rintro v9 u9 H locs ⟨rfl, rfl⟩ hP hD hS - hz hk9
        have hP : va_P G.1 kcl [(mo, .inr (5, [.int (j_1), .ref cs, .int (w.2.1), .int (w.2.2.1), .int (w.2.2.2.1)])), (cs, .inl (G.2.1 3, 6, .inr (.inr (.inr (.inr (f)))))), (q_3, .inr (4, [.int (fn_X9_one ((0 : Int32))), .long (fn_X9_nearest ((a2).toInt64) ((-2 : Int64)))]))] H := hP
        have hD : va_D A [(mo, .inr (5, [.int (j_1), .ref cs, .int (w.2.1), .int (w.2.2.1), .int (w.2.2.2.1)])), (cs, .inl (G.2.1 3, 6, .inr (.inr (.inr (.inr (f)))))), (q_3, .inr (4, [.int (fn_X9_one ((0 : Int32))), .long (fn_X9_nearest ((a2).toInt64) ((-2 : Int64)))]))] := hD
        have hIT := hIT0.ro hAe hS
        refine W.widen (k := 1) (n := 2) (Nat.le_refl _) (Nat.le_refl _) ?_
        have hJ_8 : ky_It G q_3 ((fn_X9_one ((0 : Int32)), fn_X9_nearest ((a2).toInt64) ((-2 : Int64)))) H := ky_itp (hP.sub (ws' := [(q_3, .inr (4, [.int (fn_X9_one ((0 : Int32))), .long (fn_X9_nearest ((a2).toInt64) ((-2 : Int64)))]))]) [2] rfl)
        have hk_8 : ky_ok mo cs N q_3 := ky_ok.own hAe hIT0.1 hD 0 1 2 rfl rfl rfl (by decide) (by decide)
        refine ky_cVh (As := [.int (a1), .ref q_3]) (wr := [(q_3, .inr (4, [.int (fn_X9_one ((0 : Int32))), .long (fn_X9_nearest ((a2).toInt64) ((-2 : Int64)))]))]) F (hE.at hfr hS) hfr (mt_X9_give l G mo cs N (j_1, w.2.1, w.2.2.1, w.2.2.2.1, w.2.2.2.2) (f) (q_3) (fn_X9_one ((0 : Int32)), fn_X9_nearest ((a2).toInt64) ((-2 : Int64))) hk_8 (a1) H.size (lr_start (hj_1.symm.trans c_2))) kv_X9_63 ⟨⟨rfl, rfl⟩, by decide, by decide⟩ rfl hl.1 rfl (Nat.le_of_ble_eq_true rfl) ⟨Nat.le_of_ble_eq_true rfl, Nat.le_of_ble_eq_true rfl⟩ (va_recv hE.1 hP (ci := 5) (q0 := 0) rfl rfl) ⟨hIT, hJ_8⟩ hP hD hS hA [0, 1] [2] rfl rfl (by decide) (by decide) (by decide) dc_X9_quarters_54 ?_
        rintro v9 ⟨w_9, f_9⟩ H locs ⟨rfl, hw_9⟩ hP hD hS hIT9 hz hk9
        have hw_9 : w_9 = (fn_X9_give (a1) (fn_X9_one ((0 : Int32)), fn_X9_nearest ((a2).toInt64) ((-2 : Int64))) (j_1, w.2.1, w.2.2.1, w.2.2.2.1, w.2.2.2.2)).2 := hw_9
        try rw [← hw_9] at hw
        try rw [← hw_9] at hk
        have hP : va_P G.1 kcl [(q_3, .inr (4, [.int (fn_X9_one ((0 : Int32))), .long (fn_X9_nearest ((a2).toInt64) ((-2 : Int64)))])), (mo, .inr (5, [.int ((w_9).1), .ref cs, .int ((w_9).2.1), .int ((w_9).2.2.1), .int ((w_9).2.2.2.1)])), (cs, .inl (G.2.1 3, 6, .inr (.inr (.inr (.inr (f_9))))))] H := hP
        have hD : va_D A [(q_3, .inr (4, [.int (fn_X9_one ((0 : Int32))), .long (fn_X9_nearest ((a2).toInt64) ((-2 : Int64)))])), (mo, .inr (5, [.int ((w_9).1), .ref cs, .int ((w_9).2.1), .int ((w_9).2.2.1), .int ((w_9).2.2.2.1)])), (cs, .inl (G.2.1 3, 6, .inr (.inr (.inr (.inr (f_9))))))] := hD
        have hIT : ky_IT G mo cs N f_9 ((w_9).2.2.2.2) H := hIT9
        refine W.widen (k := 1) (n := 2) (Nat.le_refl _) (Nat.le_refl _) ?_
        have hP9 : va_P G.1 kcl (ky_WM G mo cs ((w_9)) (f_9)) H := hP.sub [1, 2] rfl
        have hD9 : va_D A (ky_WM G mo cs ((w_9)) (f_9)) := hD.sub [1, 2] (by decide) rfl
        refine W.widen (k := 1) (n := 2) (Nat.le_of_ble_eq_true rfl) (Nat.le_of_ble_eq_true rfl) ?_
        exact W.iret (v := (fn_X9_give (a1) (fn_X9_one ((0 : Int32)), fn_X9_nearest ((a2).toInt64) ((-2 : Int64))) (j_1, w.2.1, w.2.2.1, w.2.2.2.1, w.2.2.2.2)).1) hx hb hr (fun t ht hW => ⟨by rw [ht]; exact ky_endM (fun z => some (.int z)) ((fn_X9_give (a1) (fn_X9_one ((0 : Int32)), fn_X9_nearest ((a2).toInt64) ((-2 : Int64))) (j_1, w.2.1, w.2.2.1, w.2.2.2.1, w.2.2.2.2)).1) hw hP9 hD9 (hIT), hS.F ht⟩) hS.2.2 dc_X9_quarters_57
      · have hw := hw.trans (if_neg c_5)
        have hk := hk.2 c_5
        refine lv_iload_n hx hb dc_X9_quarters_37 rfl (lv_at hl 2 rfl) ?_
        refine lv_i2l (v := (a2).toInt64) hx hb dc_X9_quarters_38 rfl ?_
        refine lv_lneg hx hb dc_X9_quarters_39 ?_
        refine lv_goto (tgt := 45) hx hb dc_X9_quarters_40 (by decide) ?_
        refine lv_ldc2 (v := (-2)) hx hb hown (hts _ kw_6_104) dc_X9_quarters_45 ?_
        obtain ⟨hq_6, hk⟩ := hk
        refine ky_cS0 (As := [.long (-((a2).toInt64)), .long ((-2 : Int64))]) F (mt_X9_nearest l (-((a2).toInt64)) ((-2 : Int64)) hq_6) ks_X9_69 ⟨⟨rfl, rfl⟩, by decide, by decide⟩ rfl hl.1 rfl (Nat.le_of_ble_eq_true rfl) ⟨Nat.le_of_ble_eq_true rfl, Nat.le_of_ble_eq_true rfl⟩ dc_X9_quarters_48 ?_
        refine ky_cIh (As := [.int (fn_X9_one ((0 : Int32))), .long (fn_X9_nearest (-((a2).toInt64)) ((-2 : Int64)))]) (wr := [(mo, .inr (5, [.int (j_1), .ref cs, .int (w.2.1), .int (w.2.2.1), .int (w.2.2.2.1)])), (cs, .inl (G.2.1 3, 6, .inr (.inr (.inr (.inr (f))))))]) F (hE.at hfr hS) hfr (mt_X8_init l G (q_3) (fn_X9_one ((0 : Int32))) (fn_X9_nearest (-((a2).toInt64)) ((-2 : Int64))) H.size ) kI_X9_29 ⟨⟨rfl, rfl⟩, by decide, by decide⟩ rfl hl.1 rfl (Nat.le_of_ble_eq_true rfl) ⟨Nat.le_of_ble_eq_true rfl, Nat.le_of_ble_eq_true rfl⟩ trivial hP hD hS hA [2] [0, 1] rfl rfl (by decide) (by decide) (by decide) dc_X9_quarters_51 ?_
        rintro v9 u9 H locs ⟨rfl, rfl⟩ hP hD hS - hz hk9
        have hP : va_P G.1 kcl [(mo, .inr (5, [.int (j_1), .ref cs, .int (w.2.1), .int (w.2.2.1), .int (w.2.2.2.1)])), (cs, .inl (G.2.1 3, 6, .inr (.inr (.inr (.inr (f)))))), (q_3, .inr (4, [.int (fn_X9_one ((0 : Int32))), .long (fn_X9_nearest (-((a2).toInt64)) ((-2 : Int64)))]))] H := hP
        have hD : va_D A [(mo, .inr (5, [.int (j_1), .ref cs, .int (w.2.1), .int (w.2.2.1), .int (w.2.2.2.1)])), (cs, .inl (G.2.1 3, 6, .inr (.inr (.inr (.inr (f)))))), (q_3, .inr (4, [.int (fn_X9_one ((0 : Int32))), .long (fn_X9_nearest (-((a2).toInt64)) ((-2 : Int64)))]))] := hD
        have hIT := hIT0.ro hAe hS
        refine W.widen (k := 1) (n := 2) (Nat.le_refl _) (Nat.le_refl _) ?_
        have hJ_8 : ky_It G q_3 ((fn_X9_one ((0 : Int32)), fn_X9_nearest (-((a2).toInt64)) ((-2 : Int64)))) H := ky_itp (hP.sub (ws' := [(q_3, .inr (4, [.int (fn_X9_one ((0 : Int32))), .long (fn_X9_nearest (-((a2).toInt64)) ((-2 : Int64)))]))]) [2] rfl)
        have hk_8 : ky_ok mo cs N q_3 := ky_ok.own hAe hIT0.1 hD 0 1 2 rfl rfl rfl (by decide) (by decide)
        refine ky_cVh (As := [.int (a1), .ref q_3]) (wr := [(q_3, .inr (4, [.int (fn_X9_one ((0 : Int32))), .long (fn_X9_nearest (-((a2).toInt64)) ((-2 : Int64)))]))]) F (hE.at hfr hS) hfr (mt_X9_give l G mo cs N (j_1, w.2.1, w.2.2.1, w.2.2.2.1, w.2.2.2.2) (f) (q_3) (fn_X9_one ((0 : Int32)), fn_X9_nearest (-((a2).toInt64)) ((-2 : Int64))) hk_8 (a1) H.size (lr_start (hj_1.symm.trans c_2))) kv_X9_63 ⟨⟨rfl, rfl⟩, by decide, by decide⟩ rfl hl.1 rfl (Nat.le_of_ble_eq_true rfl) ⟨Nat.le_of_ble_eq_true rfl, Nat.le_of_ble_eq_true rfl⟩ (va_recv hE.1 hP (ci := 5) (q0 := 0) rfl rfl) ⟨hIT, hJ_8⟩ hP hD hS hA [0, 1] [2] rfl rfl (by decide) (by decide) (by decide) dc_X9_quarters_54 ?_
        rintro v9 ⟨w_9, f_9⟩ H locs ⟨rfl, hw_9⟩ hP hD hS hIT9 hz hk9
        have hw_9 : w_9 = (fn_X9_give (a1) (fn_X9_one ((0 : Int32)), fn_X9_nearest (-((a2).toInt64)) ((-2 : Int64))) (j_1, w.2.1, w.2.2.1, w.2.2.2.1, w.2.2.2.2)).2 := hw_9
        try rw [← hw_9] at hw
        try rw [← hw_9] at hk
        have hP : va_P G.1 kcl [(q_3, .inr (4, [.int (fn_X9_one ((0 : Int32))), .long (fn_X9_nearest (-((a2).toInt64)) ((-2 : Int64)))])), (mo, .inr (5, [.int ((w_9).1), .ref cs, .int ((w_9).2.1), .int ((w_9).2.2.1), .int ((w_9).2.2.2.1)])), (cs, .inl (G.2.1 3, 6, .inr (.inr (.inr (.inr (f_9))))))] H := hP
        have hD : va_D A [(q_3, .inr (4, [.int (fn_X9_one ((0 : Int32))), .long (fn_X9_nearest (-((a2).toInt64)) ((-2 : Int64)))])), (mo, .inr (5, [.int ((w_9).1), .ref cs, .int ((w_9).2.1), .int ((w_9).2.2.1), .int ((w_9).2.2.2.1)])), (cs, .inl (G.2.1 3, 6, .inr (.inr (.inr (.inr (f_9))))))] := hD
        have hIT : ky_IT G mo cs N f_9 ((w_9).2.2.2.2) H := hIT9
        refine W.widen (k := 1) (n := 2) (Nat.le_refl _) (Nat.le_refl _) ?_
        have hP9 : va_P G.1 kcl (ky_WM G mo cs ((w_9)) (f_9)) H := hP.sub [1, 2] rfl
        have hD9 : va_D A (ky_WM G mo cs ((w_9)) (f_9)) := hD.sub [1, 2] (by decide) rfl
        refine W.widen (k := 1) (n := 2) (Nat.le_of_ble_eq_true rfl) (Nat.le_of_ble_eq_true rfl) ?_
        exact W.iret (v := (fn_X9_give (a1) (fn_X9_one ((0 : Int32)), fn_X9_nearest (-((a2).toInt64)) ((-2 : Int64))) (j_1, w.2.1, w.2.2.1, w.2.2.2.1, w.2.2.2.2)).1) hx hb hr (fun t ht hW => ⟨by rw [ht]; exact ky_endM (fun z => some (.int z)) ((fn_X9_give (a1) (fn_X9_one ((0 : Int32)), fn_X9_nearest (-((a2).toInt64)) ((-2 : Int64))) (j_1, w.2.1, w.2.2.1, w.2.2.2.1, w.2.2.2.2)).1) hw hP9 hD9 (hIT), hS.F ht⟩) hS.2.2 dc_X9_quarters_57
    · have hw := hw.trans (if_neg c_4)
      have hk := hk.2 c_4
      refine lv_iconst (v := 1) hx hb dc_X9_quarters_25 (by decide) ?_
      refine lv_goto (tgt := 30) hx hb dc_X9_quarters_26 (by decide) ?_
      refine ky_cS0 (As := [.int ((1 : Int32))]) F (mt_X9_one l ((1 : Int32))) ks_X9_59 ⟨⟨rfl, rfl⟩, by decide, by decide⟩ rfl hl.1 rfl (Nat.le_of_ble_eq_true rfl) ⟨Nat.le_of_ble_eq_true rfl, Nat.le_of_ble_eq_true rfl⟩ dc_X9_quarters_30 ?_
      refine lv_iload_n hx hb dc_X9_quarters_33 rfl (lv_at hl 2 rfl) ?_
      refine lv_if_ge (tgt := 43) hx hb dc_X9_quarters_34 (by decide) (fun c_5 => ?_) (fun c_5 => ?_)
      · have hw := hw.trans (if_pos c_5)
        have hk := hk.1 c_5
        refine lv_iload_n hx hb dc_X9_quarters_43 rfl (lv_at hl 2 rfl) ?_
        refine lv_i2l (v := (a2).toInt64) hx hb dc_X9_quarters_44 rfl ?_
        refine lv_ldc2 (v := (-2)) hx hb hown (hts _ kw_6_104) dc_X9_quarters_45 ?_
        obtain ⟨hq_6, hk⟩ := hk
        refine ky_cS0 (As := [.long ((a2).toInt64), .long ((-2 : Int64))]) F (mt_X9_nearest l ((a2).toInt64) ((-2 : Int64)) hq_6) ks_X9_69 ⟨⟨rfl, rfl⟩, by decide, by decide⟩ rfl hl.1 rfl (Nat.le_of_ble_eq_true rfl) ⟨Nat.le_of_ble_eq_true rfl, Nat.le_of_ble_eq_true rfl⟩ dc_X9_quarters_48 ?_
        refine ky_cIh (As := [.int (fn_X9_one ((1 : Int32))), .long (fn_X9_nearest ((a2).toInt64) ((-2 : Int64)))]) (wr := [(mo, .inr (5, [.int (j_1), .ref cs, .int (w.2.1), .int (w.2.2.1), .int (w.2.2.2.1)])), (cs, .inl (G.2.1 3, 6, .inr (.inr (.inr (.inr (f))))))]) F (hE.at hfr hS) hfr (mt_X8_init l G (q_3) (fn_X9_one ((1 : Int32))) (fn_X9_nearest ((a2).toInt64) ((-2 : Int64))) H.size ) kI_X9_29 ⟨⟨rfl, rfl⟩, by decide, by decide⟩ rfl hl.1 rfl (Nat.le_of_ble_eq_true rfl) ⟨Nat.le_of_ble_eq_true rfl, Nat.le_of_ble_eq_true rfl⟩ trivial hP hD hS hA [2] [0, 1] rfl rfl (by decide) (by decide) (by decide) dc_X9_quarters_51 ?_
        rintro v9 u9 H locs ⟨rfl, rfl⟩ hP hD hS - hz hk9
        have hP : va_P G.1 kcl [(mo, .inr (5, [.int (j_1), .ref cs, .int (w.2.1), .int (w.2.2.1), .int (w.2.2.2.1)])), (cs, .inl (G.2.1 3, 6, .inr (.inr (.inr (.inr (f)))))), (q_3, .inr (4, [.int (fn_X9_one ((1 : Int32))), .long (fn_X9_nearest ((a2).toInt64) ((-2 : Int64)))]))] H := hP
        have hD : va_D A [(mo, .inr (5, [.int (j_1), .ref cs, .int (w.2.1), .int (w.2.2.1), .int (w.2.2.2.1)])), (cs, .inl (G.2.1 3, 6, .inr (.inr (.inr (.inr (f)))))), (q_3, .inr (4, [.int (fn_X9_one ((1 : Int32))), .long (fn_X9_nearest ((a2).toInt64) ((-2 : Int64)))]))] := hD
        have hIT := hIT0.ro hAe hS
        refine W.widen (k := 1) (n := 2) (Nat.le_refl _) (Nat.le_refl _) ?_
        have hJ_8 : ky_It G q_3 ((fn_X9_one ((1 : Int32)), fn_X9_nearest ((a2).toInt64) ((-2 : Int64)))) H := ky_itp (hP.sub (ws' := [(q_3, .inr (4, [.int (fn_X9_one ((1 : Int32))), .long (fn_X9_nearest ((a2).toInt64) ((-2 : Int64)))]))]) [2] rfl)
        have hk_8 : ky_ok mo cs N q_3 := ky_ok.own hAe hIT0.1 hD 0 1 2 rfl rfl rfl (by decide) (by decide)
        refine ky_cVh (As := [.int (a1), .ref q_3]) (wr := [(q_3, .inr (4, [.int (fn_X9_one ((1 : Int32))), .long (fn_X9_nearest ((a2).toInt64) ((-2 : Int64)))]))]) F (hE.at hfr hS) hfr (mt_X9_give l G mo cs N (j_1, w.2.1, w.2.2.1, w.2.2.2.1, w.2.2.2.2) (f) (q_3) (fn_X9_one ((1 : Int32)), fn_X9_nearest ((a2).toInt64) ((-2 : Int64))) hk_8 (a1) H.size (lr_start (hj_1.symm.trans c_2))) kv_X9_63 ⟨⟨rfl, rfl⟩, by decide, by decide⟩ rfl hl.1 rfl (Nat.le_of_ble_eq_true rfl) ⟨Nat.le_of_ble_eq_true rfl, Nat.le_of_ble_eq_true rfl⟩ (va_recv hE.1 hP (ci := 5) (q0 := 0) rfl rfl) ⟨hIT, hJ_8⟩ hP hD hS hA [0, 1] [2] rfl rfl (by decide) (by decide) (by decide) dc_X9_quarters_54 ?_
        rintro v9 ⟨w_9, f_9⟩ H locs ⟨rfl, hw_9⟩ hP hD hS hIT9 hz hk9
        have hw_9 : w_9 = (fn_X9_give (a1) (fn_X9_one ((1 : Int32)), fn_X9_nearest ((a2).toInt64) ((-2 : Int64))) (j_1, w.2.1, w.2.2.1, w.2.2.2.1, w.2.2.2.2)).2 := hw_9
        try rw [← hw_9] at hw
        try rw [← hw_9] at hk
        have hP : va_P G.1 kcl [(q_3, .inr (4, [.int (fn_X9_one ((1 : Int32))), .long (fn_X9_nearest ((a2).toInt64) ((-2 : Int64)))])), (mo, .inr (5, [.int ((w_9).1), .ref cs, .int ((w_9).2.1), .int ((w_9).2.2.1), .int ((w_9).2.2.2.1)])), (cs, .inl (G.2.1 3, 6, .inr (.inr (.inr (.inr (f_9))))))] H := hP
        have hD : va_D A [(q_3, .inr (4, [.int (fn_X9_one ((1 : Int32))), .long (fn_X9_nearest ((a2).toInt64) ((-2 : Int64)))])), (mo, .inr (5, [.int ((w_9).1), .ref cs, .int ((w_9).2.1), .int ((w_9).2.2.1), .int ((w_9).2.2.2.1)])), (cs, .inl (G.2.1 3, 6, .inr (.inr (.inr (.inr (f_9))))))] := hD
        have hIT : ky_IT G mo cs N f_9 ((w_9).2.2.2.2) H := hIT9
        refine W.widen (k := 1) (n := 2) (Nat.le_refl _) (Nat.le_refl _) ?_
        have hP9 : va_P G.1 kcl (ky_WM G mo cs ((w_9)) (f_9)) H := hP.sub [1, 2] rfl
        have hD9 : va_D A (ky_WM G mo cs ((w_9)) (f_9)) := hD.sub [1, 2] (by decide) rfl
        refine W.widen (k := 1) (n := 2) (Nat.le_of_ble_eq_true rfl) (Nat.le_of_ble_eq_true rfl) ?_
        exact W.iret (v := (fn_X9_give (a1) (fn_X9_one ((1 : Int32)), fn_X9_nearest ((a2).toInt64) ((-2 : Int64))) (j_1, w.2.1, w.2.2.1, w.2.2.2.1, w.2.2.2.2)).1) hx hb hr (fun t ht hW => ⟨by rw [ht]; exact ky_endM (fun z => some (.int z)) ((fn_X9_give (a1) (fn_X9_one ((1 : Int32)), fn_X9_nearest ((a2).toInt64) ((-2 : Int64))) (j_1, w.2.1, w.2.2.1, w.2.2.2.1, w.2.2.2.2)).1) hw hP9 hD9 (hIT), hS.F ht⟩) hS.2.2 dc_X9_quarters_57
      · have hw := hw.trans (if_neg c_5)
        have hk := hk.2 c_5
        refine lv_iload_n hx hb dc_X9_quarters_37 rfl (lv_at hl 2 rfl) ?_
        refine lv_i2l (v := (a2).toInt64) hx hb dc_X9_quarters_38 rfl ?_
        refine lv_lneg hx hb dc_X9_quarters_39 ?_
        refine lv_goto (tgt := 45) hx hb dc_X9_quarters_40 (by decide) ?_
        refine lv_ldc2 (v := (-2)) hx hb hown (hts _ kw_6_104) dc_X9_quarters_45 ?_
        obtain ⟨hq_6, hk⟩ := hk
        refine ky_cS0 (As := [.long (-((a2).toInt64)), .long ((-2 : Int64))]) F (mt_X9_nearest l (-((a2).toInt64)) ((-2 : Int64)) hq_6) ks_X9_69 ⟨⟨rfl, rfl⟩, by decide, by decide⟩ rfl hl.1 rfl (Nat.le_of_ble_eq_true rfl) ⟨Nat.le_of_ble_eq_true rfl, Nat.le_of_ble_eq_true rfl⟩ dc_X9_quarters_48 ?_
        refine ky_cIh (As := [.int (fn_X9_one ((1 : Int32))), .long (fn_X9_nearest (-((a2).toInt64)) ((-2 : Int64)))]) (wr := [(mo, .inr (5, [.int (j_1), .ref cs, .int (w.2.1), .int (w.2.2.1), .int (w.2.2.2.1)])), (cs, .inl (G.2.1 3, 6, .inr (.inr (.inr (.inr (f))))))]) F (hE.at hfr hS) hfr (mt_X8_init l G (q_3) (fn_X9_one ((1 : Int32))) (fn_X9_nearest (-((a2).toInt64)) ((-2 : Int64))) H.size ) kI_X9_29 ⟨⟨rfl, rfl⟩, by decide, by decide⟩ rfl hl.1 rfl (Nat.le_of_ble_eq_true rfl) ⟨Nat.le_of_ble_eq_true rfl, Nat.le_of_ble_eq_true rfl⟩ trivial hP hD hS hA [2] [0, 1] rfl rfl (by decide) (by decide) (by decide) dc_X9_quarters_51 ?_
        rintro v9 u9 H locs ⟨rfl, rfl⟩ hP hD hS - hz hk9
        have hP : va_P G.1 kcl [(mo, .inr (5, [.int (j_1), .ref cs, .int (w.2.1), .int (w.2.2.1), .int (w.2.2.2.1)])), (cs, .inl (G.2.1 3, 6, .inr (.inr (.inr (.inr (f)))))), (q_3, .inr (4, [.int (fn_X9_one ((1 : Int32))), .long (fn_X9_nearest (-((a2).toInt64)) ((-2 : Int64)))]))] H := hP
        have hD : va_D A [(mo, .inr (5, [.int (j_1), .ref cs, .int (w.2.1), .int (w.2.2.1), .int (w.2.2.2.1)])), (cs, .inl (G.2.1 3, 6, .inr (.inr (.inr (.inr (f)))))), (q_3, .inr (4, [.int (fn_X9_one ((1 : Int32))), .long (fn_X9_nearest (-((a2).toInt64)) ((-2 : Int64)))]))] := hD
        have hIT := hIT0.ro hAe hS
        refine W.widen (k := 1) (n := 2) (Nat.le_refl _) (Nat.le_refl _) ?_
        have hJ_8 : ky_It G q_3 ((fn_X9_one ((1 : Int32)), fn_X9_nearest (-((a2).toInt64)) ((-2 : Int64)))) H := ky_itp (hP.sub (ws' := [(q_3, .inr (4, [.int (fn_X9_one ((1 : Int32))), .long (fn_X9_nearest (-((a2).toInt64)) ((-2 : Int64)))]))]) [2] rfl)
        have hk_8 : ky_ok mo cs N q_3 := ky_ok.own hAe hIT0.1 hD 0 1 2 rfl rfl rfl (by decide) (by decide)
        refine ky_cVh (As := [.int (a1), .ref q_3]) (wr := [(q_3, .inr (4, [.int (fn_X9_one ((1 : Int32))), .long (fn_X9_nearest (-((a2).toInt64)) ((-2 : Int64)))]))]) F (hE.at hfr hS) hfr (mt_X9_give l G mo cs N (j_1, w.2.1, w.2.2.1, w.2.2.2.1, w.2.2.2.2) (f) (q_3) (fn_X9_one ((1 : Int32)), fn_X9_nearest (-((a2).toInt64)) ((-2 : Int64))) hk_8 (a1) H.size (lr_start (hj_1.symm.trans c_2))) kv_X9_63 ⟨⟨rfl, rfl⟩, by decide, by decide⟩ rfl hl.1 rfl (Nat.le_of_ble_eq_true rfl) ⟨Nat.le_of_ble_eq_true rfl, Nat.le_of_ble_eq_true rfl⟩ (va_recv hE.1 hP (ci := 5) (q0 := 0) rfl rfl) ⟨hIT, hJ_8⟩ hP hD hS hA [0, 1] [2] rfl rfl (by decide) (by decide) (by decide) dc_X9_quarters_54 ?_
        rintro v9 ⟨w_9, f_9⟩ H locs ⟨rfl, hw_9⟩ hP hD hS hIT9 hz hk9
        have hw_9 : w_9 = (fn_X9_give (a1) (fn_X9_one ((1 : Int32)), fn_X9_nearest (-((a2).toInt64)) ((-2 : Int64))) (j_1, w.2.1, w.2.2.1, w.2.2.2.1, w.2.2.2.2)).2 := hw_9
        try rw [← hw_9] at hw
        try rw [← hw_9] at hk
        have hP : va_P G.1 kcl [(q_3, .inr (4, [.int (fn_X9_one ((1 : Int32))), .long (fn_X9_nearest (-((a2).toInt64)) ((-2 : Int64)))])), (mo, .inr (5, [.int ((w_9).1), .ref cs, .int ((w_9).2.1), .int ((w_9).2.2.1), .int ((w_9).2.2.2.1)])), (cs, .inl (G.2.1 3, 6, .inr (.inr (.inr (.inr (f_9))))))] H := hP
        have hD : va_D A [(q_3, .inr (4, [.int (fn_X9_one ((1 : Int32))), .long (fn_X9_nearest (-((a2).toInt64)) ((-2 : Int64)))])), (mo, .inr (5, [.int ((w_9).1), .ref cs, .int ((w_9).2.1), .int ((w_9).2.2.1), .int ((w_9).2.2.2.1)])), (cs, .inl (G.2.1 3, 6, .inr (.inr (.inr (.inr (f_9))))))] := hD
        have hIT : ky_IT G mo cs N f_9 ((w_9).2.2.2.2) H := hIT9
        refine W.widen (k := 1) (n := 2) (Nat.le_refl _) (Nat.le_refl _) ?_
        have hP9 : va_P G.1 kcl (ky_WM G mo cs ((w_9)) (f_9)) H := hP.sub [1, 2] rfl
        have hD9 : va_D A (ky_WM G mo cs ((w_9)) (f_9)) := hD.sub [1, 2] (by decide) rfl
        refine W.widen (k := 1) (n := 2) (Nat.le_of_ble_eq_true rfl) (Nat.le_of_ble_eq_true rfl) ?_
        exact W.iret (v := (fn_X9_give (a1) (fn_X9_one ((1 : Int32)), fn_X9_nearest (-((a2).toInt64)) ((-2 : Int64))) (j_1, w.2.1, w.2.2.1, w.2.2.2.1, w.2.2.2.2)).1) hx hb hr (fun t ht hW => ⟨by rw [ht]; exact ky_endM (fun z => some (.int z)) ((fn_X9_give (a1) (fn_X9_one ((1 : Int32)), fn_X9_nearest (-((a2).toInt64)) ((-2 : Int64))) (j_1, w.2.1, w.2.2.1, w.2.2.2.1, w.2.2.2.2)).1) hw hP9 hD9 (hIT), hS.F ht⟩) hS.2.2 dc_X9_quarters_57
  · have hw := hw.trans (if_neg c_2)
    have hk := hk.2 c_2
    refine lv_iconst (v := 0) hx hb dc_X9_quarters_11 (by decide) ?_
    refine lv_goto (tgt := 57) hx hb dc_X9_quarters_12 (by decide) ?_
    have hP9 : va_P G.1 kcl (ky_WM G mo cs ((j_1, w.2.1, w.2.2.1, w.2.2.2.1, w.2.2.2.2)) (f)) H := hP.sub [0, 1] rfl
    have hD9 : va_D A (ky_WM G mo cs ((j_1, w.2.1, w.2.2.1, w.2.2.2.1, w.2.2.2.2)) (f)) := hD.sub [0, 1] (by decide) rfl
    refine W.widen (k := 1) (n := 2) (Nat.le_of_ble_eq_true rfl) (Nat.le_of_ble_eq_true rfl) ?_
    exact W.iret (v := (0 : Int32)) hx hb hr (fun t ht hW => ⟨by rw [ht]; exact ky_endM (fun z => some (.int z)) ((0 : Int32)) hw hP9 hD9 (hIT), hS.F ht⟩) hS.2.2 dc_X9_quarters_57
